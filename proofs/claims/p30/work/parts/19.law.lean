/-! the law's roads: its two calls are left to a premise -/
theorem z_ixk {i k : Int32} {kk : Int} {L : Nat} (hk : k.toInt = kk) (k0 : 0 ≤ kk) (k1 : kk < 6) (hi0 : 0 ≤ i.toInt) (hi1 : i.toInt + 6 ≤ L) (hL : L ≤ 3072) : ¬ (i + k < 0 ∨ L ≤ (i + k).toNatClampNeg) := by
  have h1 : (i + k).toInt = kk + i.toInt := z_addx hk (by omega) (by omega)
  exact z_inr (by omega) (by omega)
theorem z_D0 {M : zH} {xs : Nat → Int32} {L : Nat} {i : Int32} {fs : List Value} {K : Option Value → zH → Prop} (hi0 : 0 ≤ i.toInt) (hi1 : i.toInt + 6 ≤ L) (hL : L ≤ 3072) (h0 : M[0]? = some (.inl (0, L, .inl xs))) (h4 : M[4]? = some (.inr (0, fs)))
    (H : z_ev 2046 3 0 (z_ent [.ref 4, .int (xs (i + 1).toNatClampNeg), .int (xs (i + 2).toNatClampNeg)] (z_ml 3)) [] M fun v M1 => (∃ x1, v = some (.int x1)) ∧ M1[0]? = some (.inl (0, L, .inl xs)) ∧ (∃ fs1, M1[19]? = some (.inr (12, fs1))) ∧
      z_ev 2046 188 0 (z_ent [.ref 19, .int (xs (i + 1).toNatClampNeg), .int (xs (i + 2).toNatClampNeg)] (z_ml 188)) [] M1 fun v2 M2 => (∃ x2, v2 = some (.int x2)) ∧ True ∧ z_ev 2047 0 1774 [some (.ref 0), some (.ref 4), some (.ref 19), some (.int i)] [] M2 K) : z_ev 2047 0 200 [some (.ref 0), some (.ref 4), some (.ref 19), some (.int i)] [] M K := by
  refine z_e1 (pc1 := 201) (L1 := [some (.ref 0), some (.ref 4), some (.ref 19), some (.int i)]) (S1 := [.ref 4]) zd0_200 rfl rfl rfl ?_
  refine z_e1 (pc1 := 202) (L1 := [some (.ref 0), some (.ref 4), some (.ref 19), some (.int i)]) (S1 := [.ref 0, .ref 4]) zd0_201 rfl rfl rfl ?_
  refine z_e1 (pc1 := 203) (L1 := [some (.ref 0), some (.ref 4), some (.ref 19), some (.int i)]) (S1 := [.int i, .ref 0, .ref 4]) zd0_202 rfl rfl rfl ?_
  refine z_e1 (pc1 := 204) (L1 := [some (.ref 0), some (.ref 4), some (.ref 19), some (.int i)]) (S1 := [.int 1, .int i, .ref 0, .ref 4]) zd0_203 rfl rfl rfl ?_
  refine z_e1 (pc1 := 205) (L1 := [some (.ref 0), some (.ref 4), some (.ref 19), some (.int i)]) (S1 := [.int (i + 1), .ref 0, .ref 4]) zd0_204 rfl rfl rfl ?_
  refine z_eial (y := xs (i + 1).toNatClampNeg) zd0_205 h0 (z_ixk (k := 1) (kk := 1) (by decide) (by decide) (by decide) hi0 hi1 hL) rfl ?_
  refine z_e1 (pc1 := 207) (L1 := [some (.ref 0), some (.ref 4), some (.ref 19), some (.int i)]) (S1 := [.ref 0, .int (xs (i + 1).toNatClampNeg), .ref 4]) zd0_206 rfl rfl rfl ?_
  refine z_e1 (pc1 := 208) (L1 := [some (.ref 0), some (.ref 4), some (.ref 19), some (.int i)]) (S1 := [.int i, .ref 0, .int (xs (i + 1).toNatClampNeg), .ref 4]) zd0_207 rfl rfl rfl ?_
  refine z_e1 (pc1 := 209) (L1 := [some (.ref 0), some (.ref 4), some (.ref 19), some (.int i)]) (S1 := [.int 2, .int i, .ref 0, .int (xs (i + 1).toNatClampNeg), .ref 4]) zd0_208 rfl rfl rfl ?_
  refine z_e1 (pc1 := 210) (L1 := [some (.ref 0), some (.ref 4), some (.ref 19), some (.int i)]) (S1 := [.int (i + 2), .ref 0, .int (xs (i + 1).toNatClampNeg), .ref 4]) zd0_209 rfl rfl rfl ?_
  refine z_eial (y := xs (i + 2).toNatClampNeg) zd0_210 h0 (z_ixk (k := 2) (kk := 2) (by decide) (by decide) (by decide) hi0 hi1 hL) rfl ?_
  refine z_ecV (vs := [.ref 4, .int (xs (i + 1).toNatClampNeg), .int (xs (i + 2).toNatClampNeg)]) (r := []) (L2 := z_ent [.ref 4, .int (xs (i + 1).toNatClampNeg), .int (xs (i + 2).toNatClampNeg)] (z_ml 3)) zd0_211 zcV0_13 (Or.inl rfl) rfl h4 (by decide) rfl rfl rfl (Nat.le_of_ble_eq_true rfl) rfl (Nat.le_of_ble_eq_true rfl) rfl ?_
  refine H.mono (fun v M1 hv => ?_)
  obtain ⟨⟨x1, rfl⟩, h1, ⟨fs1, h19⟩, H1⟩ := hv
  show z_ev _ 0 214 [some (.ref 0), some (.ref 4), some (.ref 19), some (.int i)] [.int x1] _ _
  refine z_e1 (pc1 := 215) (L1 := [some (.ref 0), some (.ref 4), some (.ref 19), some (.int i)]) (S1 := []) zd0_214 rfl rfl rfl ?_
  refine z_e1 (pc1 := 216) (L1 := [some (.ref 0), some (.ref 4), some (.ref 19), some (.int i)]) (S1 := [.ref 19]) zd0_215 rfl rfl rfl ?_
  refine z_e1 (pc1 := 217) (L1 := [some (.ref 0), some (.ref 4), some (.ref 19), some (.int i)]) (S1 := [.ref 0, .ref 19]) zd0_216 rfl rfl rfl ?_
  refine z_e1 (pc1 := 218) (L1 := [some (.ref 0), some (.ref 4), some (.ref 19), some (.int i)]) (S1 := [.int i, .ref 0, .ref 19]) zd0_217 rfl rfl rfl ?_
  refine z_e1 (pc1 := 219) (L1 := [some (.ref 0), some (.ref 4), some (.ref 19), some (.int i)]) (S1 := [.int 1, .int i, .ref 0, .ref 19]) zd0_218 rfl rfl rfl ?_
  refine z_e1 (pc1 := 220) (L1 := [some (.ref 0), some (.ref 4), some (.ref 19), some (.int i)]) (S1 := [.int (i + 1), .ref 0, .ref 19]) zd0_219 rfl rfl rfl ?_
  refine z_eial (y := xs (i + 1).toNatClampNeg) zd0_220 h1 (z_ixk (k := 1) (kk := 1) (by decide) (by decide) (by decide) hi0 hi1 hL) rfl ?_
  refine z_e1 (pc1 := 222) (L1 := [some (.ref 0), some (.ref 4), some (.ref 19), some (.int i)]) (S1 := [.ref 0, .int (xs (i + 1).toNatClampNeg), .ref 19]) zd0_221 rfl rfl rfl ?_
  refine z_e1 (pc1 := 223) (L1 := [some (.ref 0), some (.ref 4), some (.ref 19), some (.int i)]) (S1 := [.int i, .ref 0, .int (xs (i + 1).toNatClampNeg), .ref 19]) zd0_222 rfl rfl rfl ?_
  refine z_e1 (pc1 := 224) (L1 := [some (.ref 0), some (.ref 4), some (.ref 19), some (.int i)]) (S1 := [.int 2, .int i, .ref 0, .int (xs (i + 1).toNatClampNeg), .ref 19]) zd0_223 rfl rfl rfl ?_
  refine z_e1 (pc1 := 225) (L1 := [some (.ref 0), some (.ref 4), some (.ref 19), some (.int i)]) (S1 := [.int (i + 2), .ref 0, .int (xs (i + 1).toNatClampNeg), .ref 19]) zd0_224 rfl rfl rfl ?_
  refine z_eial (y := xs (i + 2).toNatClampNeg) zd0_225 h1 (z_ixk (k := 2) (kk := 2) (by decide) (by decide) (by decide) hi0 hi1 hL) rfl ?_
  refine z_ecV (vs := [.ref 19, .int (xs (i + 1).toNatClampNeg), .int (xs (i + 2).toNatClampNeg)]) (r := []) (L2 := z_ent [.ref 19, .int (xs (i + 1).toNatClampNeg), .int (xs (i + 2).toNatClampNeg)] (z_ml 188)) zd0_226 zcV0_17 (Or.inl rfl) rfl h19 (by decide) rfl rfl rfl (Nat.le_of_ble_eq_true rfl) rfl (Nat.le_of_ble_eq_true rfl) rfl ?_
  refine H1.mono (fun v M2 hv => ?_)
  obtain ⟨⟨x2, rfl⟩, hx, H2⟩ := hv
  show z_ev _ 0 229 [some (.ref 0), some (.ref 4), some (.ref 19), some (.int i)] [.int x2] _ _
  refine z_e1 (pc1 := 230) (L1 := [some (.ref 0), some (.ref 4), some (.ref 19), some (.int i)]) (S1 := []) zd0_229 rfl rfl rfl ?_
  refine z_e1 (pc1 := 1774) (L1 := [some (.ref 0), some (.ref 4), some (.ref 19), some (.int i)]) (S1 := []) zd0_230 rfl rfl rfl ?_
  exact H2
theorem z_D1 {M : zH} {xs : Nat → Int32} {L : Nat} {i : Int32} {fs : List Value} {K : Option Value → zH → Prop} (hi0 : 0 ≤ i.toInt) (hi1 : i.toInt + 6 ≤ L) (hL : L ≤ 3072) (h0 : M[0]? = some (.inl (0, L, .inl xs))) (h4 : M[4]? = some (.inr (0, fs)))
    (H : z_ev 2046 5 0 (z_ent [.ref 4] (z_ml 5)) [] M fun v M1 => (∃ x1, v = some (.int x1)) ∧ M1[0]? = some (.inl (0, L, .inl xs)) ∧ (∃ fs1, M1[19]? = some (.inr (12, fs1))) ∧
      z_ev 2046 190 0 (z_ent [.ref 19] (z_ml 190)) [] M1 fun v2 M2 => (∃ x2, v2 = some (.int x2)) ∧ True ∧ z_ev 2047 0 1774 [some (.ref 0), some (.ref 4), some (.ref 19), some (.int i)] [] M2 K) : z_ev 2047 0 233 [some (.ref 0), some (.ref 4), some (.ref 19), some (.int i)] [] M K := by
  refine z_e1 (pc1 := 234) (L1 := [some (.ref 0), some (.ref 4), some (.ref 19), some (.int i)]) (S1 := [.ref 4]) zd0_233 rfl rfl rfl ?_
  refine z_ecV (vs := [.ref 4]) (r := []) (L2 := z_ent [.ref 4] (z_ml 5)) zd0_234 zcV0_18 (Or.inl rfl) rfl h4 (by decide) rfl rfl rfl (Nat.le_of_ble_eq_true rfl) rfl (Nat.le_of_ble_eq_true rfl) rfl ?_
  refine H.mono (fun v M1 hv => ?_)
  obtain ⟨⟨x1, rfl⟩, h1, ⟨fs1, h19⟩, H1⟩ := hv
  show z_ev _ 0 237 [some (.ref 0), some (.ref 4), some (.ref 19), some (.int i)] [.int x1] _ _
  refine z_e1 (pc1 := 238) (L1 := [some (.ref 0), some (.ref 4), some (.ref 19), some (.int i)]) (S1 := []) zd0_237 rfl rfl rfl ?_
  refine z_e1 (pc1 := 239) (L1 := [some (.ref 0), some (.ref 4), some (.ref 19), some (.int i)]) (S1 := [.ref 19]) zd0_238 rfl rfl rfl ?_
  refine z_ecV (vs := [.ref 19]) (r := []) (L2 := z_ent [.ref 19] (z_ml 190)) zd0_239 zcV0_22 (Or.inl rfl) rfl h19 (by decide) rfl rfl rfl (Nat.le_of_ble_eq_true rfl) rfl (Nat.le_of_ble_eq_true rfl) rfl ?_
  refine H1.mono (fun v M2 hv => ?_)
  obtain ⟨⟨x2, rfl⟩, hx, H2⟩ := hv
  show z_ev _ 0 242 [some (.ref 0), some (.ref 4), some (.ref 19), some (.int i)] [.int x2] _ _
  refine z_e1 (pc1 := 243) (L1 := [some (.ref 0), some (.ref 4), some (.ref 19), some (.int i)]) (S1 := []) zd0_242 rfl rfl rfl ?_
  refine z_e1 (pc1 := 1774) (L1 := [some (.ref 0), some (.ref 4), some (.ref 19), some (.int i)]) (S1 := []) zd0_243 rfl rfl rfl ?_
  exact H2
theorem z_D2 {M : zH} {xs : Nat → Int32} {L : Nat} {i : Int32} {fs : List Value} {K : Option Value → zH → Prop} (hi0 : 0 ≤ i.toInt) (hi1 : i.toInt + 6 ≤ L) (hL : L ≤ 3072) (h0 : M[0]? = some (.inl (0, L, .inl xs))) (h4 : M[4]? = some (.inr (0, fs)))
    (H : z_ev 2046 34 0 (z_ent [.ref 4, .int (xs (i + 1).toNatClampNeg), .int (xs (i + 2).toNatClampNeg)] (z_ml 34)) [] M fun v M1 => (∃ x1, v = some (.int x1)) ∧ M1[0]? = some (.inl (0, L, .inl xs)) ∧ (∃ fs1, M1[19]? = some (.inr (12, fs1))) ∧
      z_ev 2046 208 0 (z_ent [.ref 19, .int (xs (i + 1).toNatClampNeg), .int (xs (i + 2).toNatClampNeg)] (z_ml 208)) [] M1 fun v2 M2 => (∃ x2, v2 = some (.int x2)) ∧ True ∧ z_ev 2047 0 1774 [some (.ref 0), some (.ref 4), some (.ref 19), some (.int i)] [] M2 K) : z_ev 2047 0 246 [some (.ref 0), some (.ref 4), some (.ref 19), some (.int i)] [] M K := by
  refine z_e1 (pc1 := 247) (L1 := [some (.ref 0), some (.ref 4), some (.ref 19), some (.int i)]) (S1 := [.ref 4]) zd0_246 rfl rfl rfl ?_
  refine z_e1 (pc1 := 248) (L1 := [some (.ref 0), some (.ref 4), some (.ref 19), some (.int i)]) (S1 := [.ref 0, .ref 4]) zd0_247 rfl rfl rfl ?_
  refine z_e1 (pc1 := 249) (L1 := [some (.ref 0), some (.ref 4), some (.ref 19), some (.int i)]) (S1 := [.int i, .ref 0, .ref 4]) zd0_248 rfl rfl rfl ?_
  refine z_e1 (pc1 := 250) (L1 := [some (.ref 0), some (.ref 4), some (.ref 19), some (.int i)]) (S1 := [.int 1, .int i, .ref 0, .ref 4]) zd0_249 rfl rfl rfl ?_
  refine z_e1 (pc1 := 251) (L1 := [some (.ref 0), some (.ref 4), some (.ref 19), some (.int i)]) (S1 := [.int (i + 1), .ref 0, .ref 4]) zd0_250 rfl rfl rfl ?_
  refine z_eial (y := xs (i + 1).toNatClampNeg) zd0_251 h0 (z_ixk (k := 1) (kk := 1) (by decide) (by decide) (by decide) hi0 hi1 hL) rfl ?_
  refine z_e1 (pc1 := 253) (L1 := [some (.ref 0), some (.ref 4), some (.ref 19), some (.int i)]) (S1 := [.ref 0, .int (xs (i + 1).toNatClampNeg), .ref 4]) zd0_252 rfl rfl rfl ?_
  refine z_e1 (pc1 := 254) (L1 := [some (.ref 0), some (.ref 4), some (.ref 19), some (.int i)]) (S1 := [.int i, .ref 0, .int (xs (i + 1).toNatClampNeg), .ref 4]) zd0_253 rfl rfl rfl ?_
  refine z_e1 (pc1 := 255) (L1 := [some (.ref 0), some (.ref 4), some (.ref 19), some (.int i)]) (S1 := [.int 2, .int i, .ref 0, .int (xs (i + 1).toNatClampNeg), .ref 4]) zd0_254 rfl rfl rfl ?_
  refine z_e1 (pc1 := 256) (L1 := [some (.ref 0), some (.ref 4), some (.ref 19), some (.int i)]) (S1 := [.int (i + 2), .ref 0, .int (xs (i + 1).toNatClampNeg), .ref 4]) zd0_255 rfl rfl rfl ?_
  refine z_eial (y := xs (i + 2).toNatClampNeg) zd0_256 h0 (z_ixk (k := 2) (kk := 2) (by decide) (by decide) (by decide) hi0 hi1 hL) rfl ?_
  refine z_ecV (vs := [.ref 4, .int (xs (i + 1).toNatClampNeg), .int (xs (i + 2).toNatClampNeg)]) (r := []) (L2 := z_ent [.ref 4, .int (xs (i + 1).toNatClampNeg), .int (xs (i + 2).toNatClampNeg)] (z_ml 34)) zd0_257 zcV0_23 (Or.inl rfl) rfl h4 (by decide) rfl rfl rfl (Nat.le_of_ble_eq_true rfl) rfl (Nat.le_of_ble_eq_true rfl) rfl ?_
  refine H.mono (fun v M1 hv => ?_)
  obtain ⟨⟨x1, rfl⟩, h1, ⟨fs1, h19⟩, H1⟩ := hv
  show z_ev _ 0 260 [some (.ref 0), some (.ref 4), some (.ref 19), some (.int i)] [.int x1] _ _
  refine z_e1 (pc1 := 261) (L1 := [some (.ref 0), some (.ref 4), some (.ref 19), some (.int i)]) (S1 := []) zd0_260 rfl rfl rfl ?_
  refine z_e1 (pc1 := 262) (L1 := [some (.ref 0), some (.ref 4), some (.ref 19), some (.int i)]) (S1 := [.ref 19]) zd0_261 rfl rfl rfl ?_
  refine z_e1 (pc1 := 263) (L1 := [some (.ref 0), some (.ref 4), some (.ref 19), some (.int i)]) (S1 := [.ref 0, .ref 19]) zd0_262 rfl rfl rfl ?_
  refine z_e1 (pc1 := 264) (L1 := [some (.ref 0), some (.ref 4), some (.ref 19), some (.int i)]) (S1 := [.int i, .ref 0, .ref 19]) zd0_263 rfl rfl rfl ?_
  refine z_e1 (pc1 := 265) (L1 := [some (.ref 0), some (.ref 4), some (.ref 19), some (.int i)]) (S1 := [.int 1, .int i, .ref 0, .ref 19]) zd0_264 rfl rfl rfl ?_
  refine z_e1 (pc1 := 266) (L1 := [some (.ref 0), some (.ref 4), some (.ref 19), some (.int i)]) (S1 := [.int (i + 1), .ref 0, .ref 19]) zd0_265 rfl rfl rfl ?_
  refine z_eial (y := xs (i + 1).toNatClampNeg) zd0_266 h1 (z_ixk (k := 1) (kk := 1) (by decide) (by decide) (by decide) hi0 hi1 hL) rfl ?_
  refine z_e1 (pc1 := 268) (L1 := [some (.ref 0), some (.ref 4), some (.ref 19), some (.int i)]) (S1 := [.ref 0, .int (xs (i + 1).toNatClampNeg), .ref 19]) zd0_267 rfl rfl rfl ?_
  refine z_e1 (pc1 := 269) (L1 := [some (.ref 0), some (.ref 4), some (.ref 19), some (.int i)]) (S1 := [.int i, .ref 0, .int (xs (i + 1).toNatClampNeg), .ref 19]) zd0_268 rfl rfl rfl ?_
  refine z_e1 (pc1 := 270) (L1 := [some (.ref 0), some (.ref 4), some (.ref 19), some (.int i)]) (S1 := [.int 2, .int i, .ref 0, .int (xs (i + 1).toNatClampNeg), .ref 19]) zd0_269 rfl rfl rfl ?_
  refine z_e1 (pc1 := 271) (L1 := [some (.ref 0), some (.ref 4), some (.ref 19), some (.int i)]) (S1 := [.int (i + 2), .ref 0, .int (xs (i + 1).toNatClampNeg), .ref 19]) zd0_270 rfl rfl rfl ?_
  refine z_eial (y := xs (i + 2).toNatClampNeg) zd0_271 h1 (z_ixk (k := 2) (kk := 2) (by decide) (by decide) (by decide) hi0 hi1 hL) rfl ?_
  refine z_ecV (vs := [.ref 19, .int (xs (i + 1).toNatClampNeg), .int (xs (i + 2).toNatClampNeg)]) (r := []) (L2 := z_ent [.ref 19, .int (xs (i + 1).toNatClampNeg), .int (xs (i + 2).toNatClampNeg)] (z_ml 208)) zd0_272 zcV0_26 (Or.inl rfl) rfl h19 (by decide) rfl rfl rfl (Nat.le_of_ble_eq_true rfl) rfl (Nat.le_of_ble_eq_true rfl) rfl ?_
  refine H1.mono (fun v M2 hv => ?_)
  obtain ⟨⟨x2, rfl⟩, hx, H2⟩ := hv
  show z_ev _ 0 275 [some (.ref 0), some (.ref 4), some (.ref 19), some (.int i)] [.int x2] _ _
  refine z_e1 (pc1 := 276) (L1 := [some (.ref 0), some (.ref 4), some (.ref 19), some (.int i)]) (S1 := []) zd0_275 rfl rfl rfl ?_
  refine z_e1 (pc1 := 1774) (L1 := [some (.ref 0), some (.ref 4), some (.ref 19), some (.int i)]) (S1 := []) zd0_276 rfl rfl rfl ?_
  exact H2
theorem z_D3 {M : zH} {xs : Nat → Int32} {L : Nat} {i : Int32} {fs : List Value} {K : Option Value → zH → Prop} (hi0 : 0 ≤ i.toInt) (hi1 : i.toInt + 6 ≤ L) (hL : L ≤ 3072) (h0 : M[0]? = some (.inl (0, L, .inl xs))) (h4 : M[4]? = some (.inr (0, fs)))
    (H : z_ev 2046 36 0 (z_ent [.ref 4, .int (xs (i + 1).toNatClampNeg), .int (xs (i + 2).toNatClampNeg)] (z_ml 36)) [] M fun v M1 => (∃ x1, v = some (.int x1)) ∧ M1[0]? = some (.inl (0, L, .inl xs)) ∧ (∃ fs1, M1[19]? = some (.inr (12, fs1))) ∧
      z_ev 2046 210 0 (z_ent [.ref 19, .int (xs (i + 1).toNatClampNeg), .int (xs (i + 2).toNatClampNeg)] (z_ml 210)) [] M1 fun v2 M2 => (∃ x2, v2 = some (.int x2)) ∧ True ∧ z_ev 2047 0 1774 [some (.ref 0), some (.ref 4), some (.ref 19), some (.int i)] [] M2 K) : z_ev 2047 0 279 [some (.ref 0), some (.ref 4), some (.ref 19), some (.int i)] [] M K := by
  refine z_e1 (pc1 := 280) (L1 := [some (.ref 0), some (.ref 4), some (.ref 19), some (.int i)]) (S1 := [.ref 4]) zd0_279 rfl rfl rfl ?_
  refine z_e1 (pc1 := 281) (L1 := [some (.ref 0), some (.ref 4), some (.ref 19), some (.int i)]) (S1 := [.ref 0, .ref 4]) zd0_280 rfl rfl rfl ?_
  refine z_e1 (pc1 := 282) (L1 := [some (.ref 0), some (.ref 4), some (.ref 19), some (.int i)]) (S1 := [.int i, .ref 0, .ref 4]) zd0_281 rfl rfl rfl ?_
  refine z_e1 (pc1 := 283) (L1 := [some (.ref 0), some (.ref 4), some (.ref 19), some (.int i)]) (S1 := [.int 1, .int i, .ref 0, .ref 4]) zd0_282 rfl rfl rfl ?_
  refine z_e1 (pc1 := 284) (L1 := [some (.ref 0), some (.ref 4), some (.ref 19), some (.int i)]) (S1 := [.int (i + 1), .ref 0, .ref 4]) zd0_283 rfl rfl rfl ?_
  refine z_eial (y := xs (i + 1).toNatClampNeg) zd0_284 h0 (z_ixk (k := 1) (kk := 1) (by decide) (by decide) (by decide) hi0 hi1 hL) rfl ?_
  refine z_e1 (pc1 := 286) (L1 := [some (.ref 0), some (.ref 4), some (.ref 19), some (.int i)]) (S1 := [.ref 0, .int (xs (i + 1).toNatClampNeg), .ref 4]) zd0_285 rfl rfl rfl ?_
  refine z_e1 (pc1 := 287) (L1 := [some (.ref 0), some (.ref 4), some (.ref 19), some (.int i)]) (S1 := [.int i, .ref 0, .int (xs (i + 1).toNatClampNeg), .ref 4]) zd0_286 rfl rfl rfl ?_
  refine z_e1 (pc1 := 288) (L1 := [some (.ref 0), some (.ref 4), some (.ref 19), some (.int i)]) (S1 := [.int 2, .int i, .ref 0, .int (xs (i + 1).toNatClampNeg), .ref 4]) zd0_287 rfl rfl rfl ?_
  refine z_e1 (pc1 := 289) (L1 := [some (.ref 0), some (.ref 4), some (.ref 19), some (.int i)]) (S1 := [.int (i + 2), .ref 0, .int (xs (i + 1).toNatClampNeg), .ref 4]) zd0_288 rfl rfl rfl ?_
  refine z_eial (y := xs (i + 2).toNatClampNeg) zd0_289 h0 (z_ixk (k := 2) (kk := 2) (by decide) (by decide) (by decide) hi0 hi1 hL) rfl ?_
  refine z_ecV (vs := [.ref 4, .int (xs (i + 1).toNatClampNeg), .int (xs (i + 2).toNatClampNeg)]) (r := []) (L2 := z_ent [.ref 4, .int (xs (i + 1).toNatClampNeg), .int (xs (i + 2).toNatClampNeg)] (z_ml 36)) zd0_290 zcV0_27 (Or.inl rfl) rfl h4 (by decide) rfl rfl rfl (Nat.le_of_ble_eq_true rfl) rfl (Nat.le_of_ble_eq_true rfl) rfl ?_
  refine H.mono (fun v M1 hv => ?_)
  obtain ⟨⟨x1, rfl⟩, h1, ⟨fs1, h19⟩, H1⟩ := hv
  show z_ev _ 0 293 [some (.ref 0), some (.ref 4), some (.ref 19), some (.int i)] [.int x1] _ _
  refine z_e1 (pc1 := 294) (L1 := [some (.ref 0), some (.ref 4), some (.ref 19), some (.int i)]) (S1 := []) zd0_293 rfl rfl rfl ?_
  refine z_e1 (pc1 := 295) (L1 := [some (.ref 0), some (.ref 4), some (.ref 19), some (.int i)]) (S1 := [.ref 19]) zd0_294 rfl rfl rfl ?_
  refine z_e1 (pc1 := 296) (L1 := [some (.ref 0), some (.ref 4), some (.ref 19), some (.int i)]) (S1 := [.ref 0, .ref 19]) zd0_295 rfl rfl rfl ?_
  refine z_e1 (pc1 := 297) (L1 := [some (.ref 0), some (.ref 4), some (.ref 19), some (.int i)]) (S1 := [.int i, .ref 0, .ref 19]) zd0_296 rfl rfl rfl ?_
  refine z_e1 (pc1 := 298) (L1 := [some (.ref 0), some (.ref 4), some (.ref 19), some (.int i)]) (S1 := [.int 1, .int i, .ref 0, .ref 19]) zd0_297 rfl rfl rfl ?_
  refine z_e1 (pc1 := 299) (L1 := [some (.ref 0), some (.ref 4), some (.ref 19), some (.int i)]) (S1 := [.int (i + 1), .ref 0, .ref 19]) zd0_298 rfl rfl rfl ?_
  refine z_eial (y := xs (i + 1).toNatClampNeg) zd0_299 h1 (z_ixk (k := 1) (kk := 1) (by decide) (by decide) (by decide) hi0 hi1 hL) rfl ?_
  refine z_e1 (pc1 := 301) (L1 := [some (.ref 0), some (.ref 4), some (.ref 19), some (.int i)]) (S1 := [.ref 0, .int (xs (i + 1).toNatClampNeg), .ref 19]) zd0_300 rfl rfl rfl ?_
  refine z_e1 (pc1 := 302) (L1 := [some (.ref 0), some (.ref 4), some (.ref 19), some (.int i)]) (S1 := [.int i, .ref 0, .int (xs (i + 1).toNatClampNeg), .ref 19]) zd0_301 rfl rfl rfl ?_
  refine z_e1 (pc1 := 303) (L1 := [some (.ref 0), some (.ref 4), some (.ref 19), some (.int i)]) (S1 := [.int 2, .int i, .ref 0, .int (xs (i + 1).toNatClampNeg), .ref 19]) zd0_302 rfl rfl rfl ?_
  refine z_e1 (pc1 := 304) (L1 := [some (.ref 0), some (.ref 4), some (.ref 19), some (.int i)]) (S1 := [.int (i + 2), .ref 0, .int (xs (i + 1).toNatClampNeg), .ref 19]) zd0_303 rfl rfl rfl ?_
  refine z_eial (y := xs (i + 2).toNatClampNeg) zd0_304 h1 (z_ixk (k := 2) (kk := 2) (by decide) (by decide) (by decide) hi0 hi1 hL) rfl ?_
  refine z_ecV (vs := [.ref 19, .int (xs (i + 1).toNatClampNeg), .int (xs (i + 2).toNatClampNeg)]) (r := []) (L2 := z_ent [.ref 19, .int (xs (i + 1).toNatClampNeg), .int (xs (i + 2).toNatClampNeg)] (z_ml 210)) zd0_305 zcV0_30 (Or.inl rfl) rfl h19 (by decide) rfl rfl rfl (Nat.le_of_ble_eq_true rfl) rfl (Nat.le_of_ble_eq_true rfl) rfl ?_
  refine H1.mono (fun v M2 hv => ?_)
  obtain ⟨⟨x2, rfl⟩, hx, H2⟩ := hv
  show z_ev _ 0 308 [some (.ref 0), some (.ref 4), some (.ref 19), some (.int i)] [.int x2] _ _
  refine z_e1 (pc1 := 309) (L1 := [some (.ref 0), some (.ref 4), some (.ref 19), some (.int i)]) (S1 := []) zd0_308 rfl rfl rfl ?_
  refine z_e1 (pc1 := 1774) (L1 := [some (.ref 0), some (.ref 4), some (.ref 19), some (.int i)]) (S1 := []) zd0_309 rfl rfl rfl ?_
  exact H2
theorem z_D4 {M : zH} {xs : Nat → Int32} {L : Nat} {i : Int32} {fs : List Value} {K : Option Value → zH → Prop} (hi0 : 0 ≤ i.toInt) (hi1 : i.toInt + 6 ≤ L) (hL : L ≤ 3072) (h0 : M[0]? = some (.inl (0, L, .inl xs))) (h4 : M[4]? = some (.inr (0, fs)))
    (H : z_ev 2046 38 0 (z_ent [.ref 4, .int (xs (i + 1).toNatClampNeg), .int (xs (i + 2).toNatClampNeg)] (z_ml 38)) [] M fun v M1 => (∃ x1, v = some (.int x1)) ∧ M1[0]? = some (.inl (0, L, .inl xs)) ∧ (∃ fs1, M1[19]? = some (.inr (12, fs1))) ∧
      z_ev 2046 211 0 (z_ent [.ref 19, .int (xs (i + 1).toNatClampNeg), .int (xs (i + 2).toNatClampNeg)] (z_ml 211)) [] M1 fun v2 M2 => (∃ x2, v2 = some (.int x2)) ∧ True ∧ z_ev 2047 0 1774 [some (.ref 0), some (.ref 4), some (.ref 19), some (.int i)] [] M2 K) : z_ev 2047 0 312 [some (.ref 0), some (.ref 4), some (.ref 19), some (.int i)] [] M K := by
  refine z_e1 (pc1 := 313) (L1 := [some (.ref 0), some (.ref 4), some (.ref 19), some (.int i)]) (S1 := [.ref 4]) zd0_312 rfl rfl rfl ?_
  refine z_e1 (pc1 := 314) (L1 := [some (.ref 0), some (.ref 4), some (.ref 19), some (.int i)]) (S1 := [.ref 0, .ref 4]) zd0_313 rfl rfl rfl ?_
  refine z_e1 (pc1 := 315) (L1 := [some (.ref 0), some (.ref 4), some (.ref 19), some (.int i)]) (S1 := [.int i, .ref 0, .ref 4]) zd0_314 rfl rfl rfl ?_
  refine z_e1 (pc1 := 316) (L1 := [some (.ref 0), some (.ref 4), some (.ref 19), some (.int i)]) (S1 := [.int 1, .int i, .ref 0, .ref 4]) zd0_315 rfl rfl rfl ?_
  refine z_e1 (pc1 := 317) (L1 := [some (.ref 0), some (.ref 4), some (.ref 19), some (.int i)]) (S1 := [.int (i + 1), .ref 0, .ref 4]) zd0_316 rfl rfl rfl ?_
  refine z_eial (y := xs (i + 1).toNatClampNeg) zd0_317 h0 (z_ixk (k := 1) (kk := 1) (by decide) (by decide) (by decide) hi0 hi1 hL) rfl ?_
  refine z_e1 (pc1 := 319) (L1 := [some (.ref 0), some (.ref 4), some (.ref 19), some (.int i)]) (S1 := [.ref 0, .int (xs (i + 1).toNatClampNeg), .ref 4]) zd0_318 rfl rfl rfl ?_
  refine z_e1 (pc1 := 320) (L1 := [some (.ref 0), some (.ref 4), some (.ref 19), some (.int i)]) (S1 := [.int i, .ref 0, .int (xs (i + 1).toNatClampNeg), .ref 4]) zd0_319 rfl rfl rfl ?_
  refine z_e1 (pc1 := 321) (L1 := [some (.ref 0), some (.ref 4), some (.ref 19), some (.int i)]) (S1 := [.int 2, .int i, .ref 0, .int (xs (i + 1).toNatClampNeg), .ref 4]) zd0_320 rfl rfl rfl ?_
  refine z_e1 (pc1 := 322) (L1 := [some (.ref 0), some (.ref 4), some (.ref 19), some (.int i)]) (S1 := [.int (i + 2), .ref 0, .int (xs (i + 1).toNatClampNeg), .ref 4]) zd0_321 rfl rfl rfl ?_
  refine z_eial (y := xs (i + 2).toNatClampNeg) zd0_322 h0 (z_ixk (k := 2) (kk := 2) (by decide) (by decide) (by decide) hi0 hi1 hL) rfl ?_
  refine z_ecV (vs := [.ref 4, .int (xs (i + 1).toNatClampNeg), .int (xs (i + 2).toNatClampNeg)]) (r := []) (L2 := z_ent [.ref 4, .int (xs (i + 1).toNatClampNeg), .int (xs (i + 2).toNatClampNeg)] (z_ml 38)) zd0_323 zcV0_31 (Or.inl rfl) rfl h4 (by decide) rfl rfl rfl (Nat.le_of_ble_eq_true rfl) rfl (Nat.le_of_ble_eq_true rfl) rfl ?_
  refine H.mono (fun v M1 hv => ?_)
  obtain ⟨⟨x1, rfl⟩, h1, ⟨fs1, h19⟩, H1⟩ := hv
  show z_ev _ 0 326 [some (.ref 0), some (.ref 4), some (.ref 19), some (.int i)] [.int x1] _ _
  refine z_e1 (pc1 := 327) (L1 := [some (.ref 0), some (.ref 4), some (.ref 19), some (.int i)]) (S1 := []) zd0_326 rfl rfl rfl ?_
  refine z_e1 (pc1 := 328) (L1 := [some (.ref 0), some (.ref 4), some (.ref 19), some (.int i)]) (S1 := [.ref 19]) zd0_327 rfl rfl rfl ?_
  refine z_e1 (pc1 := 329) (L1 := [some (.ref 0), some (.ref 4), some (.ref 19), some (.int i)]) (S1 := [.ref 0, .ref 19]) zd0_328 rfl rfl rfl ?_
  refine z_e1 (pc1 := 330) (L1 := [some (.ref 0), some (.ref 4), some (.ref 19), some (.int i)]) (S1 := [.int i, .ref 0, .ref 19]) zd0_329 rfl rfl rfl ?_
  refine z_e1 (pc1 := 331) (L1 := [some (.ref 0), some (.ref 4), some (.ref 19), some (.int i)]) (S1 := [.int 1, .int i, .ref 0, .ref 19]) zd0_330 rfl rfl rfl ?_
  refine z_e1 (pc1 := 332) (L1 := [some (.ref 0), some (.ref 4), some (.ref 19), some (.int i)]) (S1 := [.int (i + 1), .ref 0, .ref 19]) zd0_331 rfl rfl rfl ?_
  refine z_eial (y := xs (i + 1).toNatClampNeg) zd0_332 h1 (z_ixk (k := 1) (kk := 1) (by decide) (by decide) (by decide) hi0 hi1 hL) rfl ?_
  refine z_e1 (pc1 := 334) (L1 := [some (.ref 0), some (.ref 4), some (.ref 19), some (.int i)]) (S1 := [.ref 0, .int (xs (i + 1).toNatClampNeg), .ref 19]) zd0_333 rfl rfl rfl ?_
  refine z_e1 (pc1 := 335) (L1 := [some (.ref 0), some (.ref 4), some (.ref 19), some (.int i)]) (S1 := [.int i, .ref 0, .int (xs (i + 1).toNatClampNeg), .ref 19]) zd0_334 rfl rfl rfl ?_
  refine z_e1 (pc1 := 336) (L1 := [some (.ref 0), some (.ref 4), some (.ref 19), some (.int i)]) (S1 := [.int 2, .int i, .ref 0, .int (xs (i + 1).toNatClampNeg), .ref 19]) zd0_335 rfl rfl rfl ?_
  refine z_e1 (pc1 := 337) (L1 := [some (.ref 0), some (.ref 4), some (.ref 19), some (.int i)]) (S1 := [.int (i + 2), .ref 0, .int (xs (i + 1).toNatClampNeg), .ref 19]) zd0_336 rfl rfl rfl ?_
  refine z_eial (y := xs (i + 2).toNatClampNeg) zd0_337 h1 (z_ixk (k := 2) (kk := 2) (by decide) (by decide) (by decide) hi0 hi1 hL) rfl ?_
  refine z_ecV (vs := [.ref 19, .int (xs (i + 1).toNatClampNeg), .int (xs (i + 2).toNatClampNeg)]) (r := []) (L2 := z_ent [.ref 19, .int (xs (i + 1).toNatClampNeg), .int (xs (i + 2).toNatClampNeg)] (z_ml 211)) zd0_338 zcV0_34 (Or.inl rfl) rfl h19 (by decide) rfl rfl rfl (Nat.le_of_ble_eq_true rfl) rfl (Nat.le_of_ble_eq_true rfl) rfl ?_
  refine H1.mono (fun v M2 hv => ?_)
  obtain ⟨⟨x2, rfl⟩, hx, H2⟩ := hv
  show z_ev _ 0 341 [some (.ref 0), some (.ref 4), some (.ref 19), some (.int i)] [.int x2] _ _
  refine z_e1 (pc1 := 342) (L1 := [some (.ref 0), some (.ref 4), some (.ref 19), some (.int i)]) (S1 := []) zd0_341 rfl rfl rfl ?_
  refine z_e1 (pc1 := 1774) (L1 := [some (.ref 0), some (.ref 4), some (.ref 19), some (.int i)]) (S1 := []) zd0_342 rfl rfl rfl ?_
  exact H2
theorem z_D5 {M : zH} {xs : Nat → Int32} {L : Nat} {i : Int32} {fs : List Value} {K : Option Value → zH → Prop} (hi0 : 0 ≤ i.toInt) (hi1 : i.toInt + 6 ≤ L) (hL : L ≤ 3072) (h0 : M[0]? = some (.inl (0, L, .inl xs))) (h4 : M[4]? = some (.inr (0, fs)))
    (H : z_ev 2046 42 0 (z_ent [.ref 4, .int (xs (i + 1).toNatClampNeg), .int (xs (i + 2).toNatClampNeg), .int (xs (i + 3).toNatClampNeg)] (z_ml 42)) [] M fun v M1 => (∃ x1, v = some (.int x1)) ∧ M1[0]? = some (.inl (0, L, .inl xs)) ∧ (∃ fs1, M1[19]? = some (.inr (12, fs1))) ∧
      z_ev 2046 213 0 (z_ent [.ref 19, .int (xs (i + 1).toNatClampNeg), .int (xs (i + 2).toNatClampNeg), .int (xs (i + 3).toNatClampNeg)] (z_ml 213)) [] M1 fun v2 M2 => (∃ x2, v2 = some (.int x2)) ∧ True ∧ z_ev 2047 0 1774 [some (.ref 0), some (.ref 4), some (.ref 19), some (.int i)] [] M2 K) : z_ev 2047 0 345 [some (.ref 0), some (.ref 4), some (.ref 19), some (.int i)] [] M K := by
  refine z_e1 (pc1 := 346) (L1 := [some (.ref 0), some (.ref 4), some (.ref 19), some (.int i)]) (S1 := [.ref 4]) zd0_345 rfl rfl rfl ?_
  refine z_e1 (pc1 := 347) (L1 := [some (.ref 0), some (.ref 4), some (.ref 19), some (.int i)]) (S1 := [.ref 0, .ref 4]) zd0_346 rfl rfl rfl ?_
  refine z_e1 (pc1 := 348) (L1 := [some (.ref 0), some (.ref 4), some (.ref 19), some (.int i)]) (S1 := [.int i, .ref 0, .ref 4]) zd0_347 rfl rfl rfl ?_
  refine z_e1 (pc1 := 349) (L1 := [some (.ref 0), some (.ref 4), some (.ref 19), some (.int i)]) (S1 := [.int 1, .int i, .ref 0, .ref 4]) zd0_348 rfl rfl rfl ?_
  refine z_e1 (pc1 := 350) (L1 := [some (.ref 0), some (.ref 4), some (.ref 19), some (.int i)]) (S1 := [.int (i + 1), .ref 0, .ref 4]) zd0_349 rfl rfl rfl ?_
  refine z_eial (y := xs (i + 1).toNatClampNeg) zd0_350 h0 (z_ixk (k := 1) (kk := 1) (by decide) (by decide) (by decide) hi0 hi1 hL) rfl ?_
  refine z_e1 (pc1 := 352) (L1 := [some (.ref 0), some (.ref 4), some (.ref 19), some (.int i)]) (S1 := [.ref 0, .int (xs (i + 1).toNatClampNeg), .ref 4]) zd0_351 rfl rfl rfl ?_
  refine z_e1 (pc1 := 353) (L1 := [some (.ref 0), some (.ref 4), some (.ref 19), some (.int i)]) (S1 := [.int i, .ref 0, .int (xs (i + 1).toNatClampNeg), .ref 4]) zd0_352 rfl rfl rfl ?_
  refine z_e1 (pc1 := 354) (L1 := [some (.ref 0), some (.ref 4), some (.ref 19), some (.int i)]) (S1 := [.int 2, .int i, .ref 0, .int (xs (i + 1).toNatClampNeg), .ref 4]) zd0_353 rfl rfl rfl ?_
  refine z_e1 (pc1 := 355) (L1 := [some (.ref 0), some (.ref 4), some (.ref 19), some (.int i)]) (S1 := [.int (i + 2), .ref 0, .int (xs (i + 1).toNatClampNeg), .ref 4]) zd0_354 rfl rfl rfl ?_
  refine z_eial (y := xs (i + 2).toNatClampNeg) zd0_355 h0 (z_ixk (k := 2) (kk := 2) (by decide) (by decide) (by decide) hi0 hi1 hL) rfl ?_
  refine z_e1 (pc1 := 357) (L1 := [some (.ref 0), some (.ref 4), some (.ref 19), some (.int i)]) (S1 := [.ref 0, .int (xs (i + 2).toNatClampNeg), .int (xs (i + 1).toNatClampNeg), .ref 4]) zd0_356 rfl rfl rfl ?_
  refine z_e1 (pc1 := 358) (L1 := [some (.ref 0), some (.ref 4), some (.ref 19), some (.int i)]) (S1 := [.int i, .ref 0, .int (xs (i + 2).toNatClampNeg), .int (xs (i + 1).toNatClampNeg), .ref 4]) zd0_357 rfl rfl rfl ?_
  refine z_e1 (pc1 := 359) (L1 := [some (.ref 0), some (.ref 4), some (.ref 19), some (.int i)]) (S1 := [.int 3, .int i, .ref 0, .int (xs (i + 2).toNatClampNeg), .int (xs (i + 1).toNatClampNeg), .ref 4]) zd0_358 rfl rfl rfl ?_
  refine z_e1 (pc1 := 360) (L1 := [some (.ref 0), some (.ref 4), some (.ref 19), some (.int i)]) (S1 := [.int (i + 3), .ref 0, .int (xs (i + 2).toNatClampNeg), .int (xs (i + 1).toNatClampNeg), .ref 4]) zd0_359 rfl rfl rfl ?_
  refine z_eial (y := xs (i + 3).toNatClampNeg) zd0_360 h0 (z_ixk (k := 3) (kk := 3) (by decide) (by decide) (by decide) hi0 hi1 hL) rfl ?_
  refine z_ecV (vs := [.ref 4, .int (xs (i + 1).toNatClampNeg), .int (xs (i + 2).toNatClampNeg), .int (xs (i + 3).toNatClampNeg)]) (r := []) (L2 := z_ent [.ref 4, .int (xs (i + 1).toNatClampNeg), .int (xs (i + 2).toNatClampNeg), .int (xs (i + 3).toNatClampNeg)] (z_ml 42)) zd0_361 zcV0_35 (Or.inl rfl) rfl h4 (by decide) rfl rfl rfl (Nat.le_of_ble_eq_true rfl) rfl (Nat.le_of_ble_eq_true rfl) rfl ?_
  refine H.mono (fun v M1 hv => ?_)
  obtain ⟨⟨x1, rfl⟩, h1, ⟨fs1, h19⟩, H1⟩ := hv
  show z_ev _ 0 364 [some (.ref 0), some (.ref 4), some (.ref 19), some (.int i)] [.int x1] _ _
  refine z_e1 (pc1 := 365) (L1 := [some (.ref 0), some (.ref 4), some (.ref 19), some (.int i)]) (S1 := []) zd0_364 rfl rfl rfl ?_
  refine z_e1 (pc1 := 366) (L1 := [some (.ref 0), some (.ref 4), some (.ref 19), some (.int i)]) (S1 := [.ref 19]) zd0_365 rfl rfl rfl ?_
  refine z_e1 (pc1 := 367) (L1 := [some (.ref 0), some (.ref 4), some (.ref 19), some (.int i)]) (S1 := [.ref 0, .ref 19]) zd0_366 rfl rfl rfl ?_
  refine z_e1 (pc1 := 368) (L1 := [some (.ref 0), some (.ref 4), some (.ref 19), some (.int i)]) (S1 := [.int i, .ref 0, .ref 19]) zd0_367 rfl rfl rfl ?_
  refine z_e1 (pc1 := 369) (L1 := [some (.ref 0), some (.ref 4), some (.ref 19), some (.int i)]) (S1 := [.int 1, .int i, .ref 0, .ref 19]) zd0_368 rfl rfl rfl ?_
  refine z_e1 (pc1 := 370) (L1 := [some (.ref 0), some (.ref 4), some (.ref 19), some (.int i)]) (S1 := [.int (i + 1), .ref 0, .ref 19]) zd0_369 rfl rfl rfl ?_
  refine z_eial (y := xs (i + 1).toNatClampNeg) zd0_370 h1 (z_ixk (k := 1) (kk := 1) (by decide) (by decide) (by decide) hi0 hi1 hL) rfl ?_
  refine z_e1 (pc1 := 372) (L1 := [some (.ref 0), some (.ref 4), some (.ref 19), some (.int i)]) (S1 := [.ref 0, .int (xs (i + 1).toNatClampNeg), .ref 19]) zd0_371 rfl rfl rfl ?_
  refine z_e1 (pc1 := 373) (L1 := [some (.ref 0), some (.ref 4), some (.ref 19), some (.int i)]) (S1 := [.int i, .ref 0, .int (xs (i + 1).toNatClampNeg), .ref 19]) zd0_372 rfl rfl rfl ?_
  refine z_e1 (pc1 := 374) (L1 := [some (.ref 0), some (.ref 4), some (.ref 19), some (.int i)]) (S1 := [.int 2, .int i, .ref 0, .int (xs (i + 1).toNatClampNeg), .ref 19]) zd0_373 rfl rfl rfl ?_
  refine z_e1 (pc1 := 375) (L1 := [some (.ref 0), some (.ref 4), some (.ref 19), some (.int i)]) (S1 := [.int (i + 2), .ref 0, .int (xs (i + 1).toNatClampNeg), .ref 19]) zd0_374 rfl rfl rfl ?_
  refine z_eial (y := xs (i + 2).toNatClampNeg) zd0_375 h1 (z_ixk (k := 2) (kk := 2) (by decide) (by decide) (by decide) hi0 hi1 hL) rfl ?_
  refine z_e1 (pc1 := 377) (L1 := [some (.ref 0), some (.ref 4), some (.ref 19), some (.int i)]) (S1 := [.ref 0, .int (xs (i + 2).toNatClampNeg), .int (xs (i + 1).toNatClampNeg), .ref 19]) zd0_376 rfl rfl rfl ?_
  refine z_e1 (pc1 := 378) (L1 := [some (.ref 0), some (.ref 4), some (.ref 19), some (.int i)]) (S1 := [.int i, .ref 0, .int (xs (i + 2).toNatClampNeg), .int (xs (i + 1).toNatClampNeg), .ref 19]) zd0_377 rfl rfl rfl ?_
  refine z_e1 (pc1 := 379) (L1 := [some (.ref 0), some (.ref 4), some (.ref 19), some (.int i)]) (S1 := [.int 3, .int i, .ref 0, .int (xs (i + 2).toNatClampNeg), .int (xs (i + 1).toNatClampNeg), .ref 19]) zd0_378 rfl rfl rfl ?_
  refine z_e1 (pc1 := 380) (L1 := [some (.ref 0), some (.ref 4), some (.ref 19), some (.int i)]) (S1 := [.int (i + 3), .ref 0, .int (xs (i + 2).toNatClampNeg), .int (xs (i + 1).toNatClampNeg), .ref 19]) zd0_379 rfl rfl rfl ?_
  refine z_eial (y := xs (i + 3).toNatClampNeg) zd0_380 h1 (z_ixk (k := 3) (kk := 3) (by decide) (by decide) (by decide) hi0 hi1 hL) rfl ?_
  refine z_ecV (vs := [.ref 19, .int (xs (i + 1).toNatClampNeg), .int (xs (i + 2).toNatClampNeg), .int (xs (i + 3).toNatClampNeg)]) (r := []) (L2 := z_ent [.ref 19, .int (xs (i + 1).toNatClampNeg), .int (xs (i + 2).toNatClampNeg), .int (xs (i + 3).toNatClampNeg)] (z_ml 213)) zd0_381 zcV0_39 (Or.inl rfl) rfl h19 (by decide) rfl rfl rfl (Nat.le_of_ble_eq_true rfl) rfl (Nat.le_of_ble_eq_true rfl) rfl ?_
  refine H1.mono (fun v M2 hv => ?_)
  obtain ⟨⟨x2, rfl⟩, hx, H2⟩ := hv
  show z_ev _ 0 384 [some (.ref 0), some (.ref 4), some (.ref 19), some (.int i)] [.int x2] _ _
  refine z_e1 (pc1 := 385) (L1 := [some (.ref 0), some (.ref 4), some (.ref 19), some (.int i)]) (S1 := []) zd0_384 rfl rfl rfl ?_
  refine z_e1 (pc1 := 1774) (L1 := [some (.ref 0), some (.ref 4), some (.ref 19), some (.int i)]) (S1 := []) zd0_385 rfl rfl rfl ?_
  exact H2
theorem z_D6 {M : zH} {xs : Nat → Int32} {L : Nat} {i : Int32} {fs : List Value} {K : Option Value → zH → Prop} (hi0 : 0 ≤ i.toInt) (hi1 : i.toInt + 6 ≤ L) (hL : L ≤ 3072) (h0 : M[0]? = some (.inl (0, L, .inl xs))) (h4 : M[4]? = some (.inr (0, fs)))
    (H : z_ev 2046 47 0 (z_ent [.ref 4, .int (xs (i + 1).toNatClampNeg), .int (xs (i + 2).toNatClampNeg), .int (xs (i + 3).toNatClampNeg), .int (xs (i + 4).toNatClampNeg)] (z_ml 47)) [] M fun v M1 => (∃ x1, v = some (.int x1)) ∧ M1[0]? = some (.inl (0, L, .inl xs)) ∧ (∃ fs1, M1[19]? = some (.inr (12, fs1))) ∧
      z_ev 2046 217 0 (z_ent [.ref 19, .int (xs (i + 1).toNatClampNeg), .int (xs (i + 2).toNatClampNeg), .int (xs (i + 3).toNatClampNeg), .int (xs (i + 4).toNatClampNeg)] (z_ml 217)) [] M1 fun v2 M2 => (∃ x2, v2 = some (.int x2)) ∧ True ∧ z_ev 2047 0 1774 [some (.ref 0), some (.ref 4), some (.ref 19), some (.int i)] [] M2 K) : z_ev 2047 0 388 [some (.ref 0), some (.ref 4), some (.ref 19), some (.int i)] [] M K := by
  refine z_e1 (pc1 := 389) (L1 := [some (.ref 0), some (.ref 4), some (.ref 19), some (.int i)]) (S1 := [.ref 4]) zd0_388 rfl rfl rfl ?_
  refine z_e1 (pc1 := 390) (L1 := [some (.ref 0), some (.ref 4), some (.ref 19), some (.int i)]) (S1 := [.ref 0, .ref 4]) zd0_389 rfl rfl rfl ?_
  refine z_e1 (pc1 := 391) (L1 := [some (.ref 0), some (.ref 4), some (.ref 19), some (.int i)]) (S1 := [.int i, .ref 0, .ref 4]) zd0_390 rfl rfl rfl ?_
  refine z_e1 (pc1 := 392) (L1 := [some (.ref 0), some (.ref 4), some (.ref 19), some (.int i)]) (S1 := [.int 1, .int i, .ref 0, .ref 4]) zd0_391 rfl rfl rfl ?_
  refine z_e1 (pc1 := 393) (L1 := [some (.ref 0), some (.ref 4), some (.ref 19), some (.int i)]) (S1 := [.int (i + 1), .ref 0, .ref 4]) zd0_392 rfl rfl rfl ?_
  refine z_eial (y := xs (i + 1).toNatClampNeg) zd0_393 h0 (z_ixk (k := 1) (kk := 1) (by decide) (by decide) (by decide) hi0 hi1 hL) rfl ?_
  refine z_e1 (pc1 := 395) (L1 := [some (.ref 0), some (.ref 4), some (.ref 19), some (.int i)]) (S1 := [.ref 0, .int (xs (i + 1).toNatClampNeg), .ref 4]) zd0_394 rfl rfl rfl ?_
  refine z_e1 (pc1 := 396) (L1 := [some (.ref 0), some (.ref 4), some (.ref 19), some (.int i)]) (S1 := [.int i, .ref 0, .int (xs (i + 1).toNatClampNeg), .ref 4]) zd0_395 rfl rfl rfl ?_
  refine z_e1 (pc1 := 397) (L1 := [some (.ref 0), some (.ref 4), some (.ref 19), some (.int i)]) (S1 := [.int 2, .int i, .ref 0, .int (xs (i + 1).toNatClampNeg), .ref 4]) zd0_396 rfl rfl rfl ?_
  refine z_e1 (pc1 := 398) (L1 := [some (.ref 0), some (.ref 4), some (.ref 19), some (.int i)]) (S1 := [.int (i + 2), .ref 0, .int (xs (i + 1).toNatClampNeg), .ref 4]) zd0_397 rfl rfl rfl ?_
  refine z_eial (y := xs (i + 2).toNatClampNeg) zd0_398 h0 (z_ixk (k := 2) (kk := 2) (by decide) (by decide) (by decide) hi0 hi1 hL) rfl ?_
  refine z_e1 (pc1 := 400) (L1 := [some (.ref 0), some (.ref 4), some (.ref 19), some (.int i)]) (S1 := [.ref 0, .int (xs (i + 2).toNatClampNeg), .int (xs (i + 1).toNatClampNeg), .ref 4]) zd0_399 rfl rfl rfl ?_
  refine z_e1 (pc1 := 401) (L1 := [some (.ref 0), some (.ref 4), some (.ref 19), some (.int i)]) (S1 := [.int i, .ref 0, .int (xs (i + 2).toNatClampNeg), .int (xs (i + 1).toNatClampNeg), .ref 4]) zd0_400 rfl rfl rfl ?_
  refine z_e1 (pc1 := 402) (L1 := [some (.ref 0), some (.ref 4), some (.ref 19), some (.int i)]) (S1 := [.int 3, .int i, .ref 0, .int (xs (i + 2).toNatClampNeg), .int (xs (i + 1).toNatClampNeg), .ref 4]) zd0_401 rfl rfl rfl ?_
  refine z_e1 (pc1 := 403) (L1 := [some (.ref 0), some (.ref 4), some (.ref 19), some (.int i)]) (S1 := [.int (i + 3), .ref 0, .int (xs (i + 2).toNatClampNeg), .int (xs (i + 1).toNatClampNeg), .ref 4]) zd0_402 rfl rfl rfl ?_
  refine z_eial (y := xs (i + 3).toNatClampNeg) zd0_403 h0 (z_ixk (k := 3) (kk := 3) (by decide) (by decide) (by decide) hi0 hi1 hL) rfl ?_
  refine z_e1 (pc1 := 405) (L1 := [some (.ref 0), some (.ref 4), some (.ref 19), some (.int i)]) (S1 := [.ref 0, .int (xs (i + 3).toNatClampNeg), .int (xs (i + 2).toNatClampNeg), .int (xs (i + 1).toNatClampNeg), .ref 4]) zd0_404 rfl rfl rfl ?_
  refine z_e1 (pc1 := 406) (L1 := [some (.ref 0), some (.ref 4), some (.ref 19), some (.int i)]) (S1 := [.int i, .ref 0, .int (xs (i + 3).toNatClampNeg), .int (xs (i + 2).toNatClampNeg), .int (xs (i + 1).toNatClampNeg), .ref 4]) zd0_405 rfl rfl rfl ?_
  refine z_e1 (pc1 := 407) (L1 := [some (.ref 0), some (.ref 4), some (.ref 19), some (.int i)]) (S1 := [.int 4, .int i, .ref 0, .int (xs (i + 3).toNatClampNeg), .int (xs (i + 2).toNatClampNeg), .int (xs (i + 1).toNatClampNeg), .ref 4]) zd0_406 rfl rfl rfl ?_
  refine z_e1 (pc1 := 408) (L1 := [some (.ref 0), some (.ref 4), some (.ref 19), some (.int i)]) (S1 := [.int (i + 4), .ref 0, .int (xs (i + 3).toNatClampNeg), .int (xs (i + 2).toNatClampNeg), .int (xs (i + 1).toNatClampNeg), .ref 4]) zd0_407 rfl rfl rfl ?_
  refine z_eial (y := xs (i + 4).toNatClampNeg) zd0_408 h0 (z_ixk (k := 4) (kk := 4) (by decide) (by decide) (by decide) hi0 hi1 hL) rfl ?_
  refine z_ecV (vs := [.ref 4, .int (xs (i + 1).toNatClampNeg), .int (xs (i + 2).toNatClampNeg), .int (xs (i + 3).toNatClampNeg), .int (xs (i + 4).toNatClampNeg)]) (r := []) (L2 := z_ent [.ref 4, .int (xs (i + 1).toNatClampNeg), .int (xs (i + 2).toNatClampNeg), .int (xs (i + 3).toNatClampNeg), .int (xs (i + 4).toNatClampNeg)] (z_ml 47)) zd0_409 zcV0_40 (Or.inl rfl) rfl h4 (by decide) rfl rfl rfl (Nat.le_of_ble_eq_true rfl) rfl (Nat.le_of_ble_eq_true rfl) rfl ?_
  refine H.mono (fun v M1 hv => ?_)
  obtain ⟨⟨x1, rfl⟩, h1, ⟨fs1, h19⟩, H1⟩ := hv
  show z_ev _ 0 412 [some (.ref 0), some (.ref 4), some (.ref 19), some (.int i)] [.int x1] _ _
  refine z_e1 (pc1 := 413) (L1 := [some (.ref 0), some (.ref 4), some (.ref 19), some (.int i)]) (S1 := []) zd0_412 rfl rfl rfl ?_
  refine z_e1 (pc1 := 414) (L1 := [some (.ref 0), some (.ref 4), some (.ref 19), some (.int i)]) (S1 := [.ref 19]) zd0_413 rfl rfl rfl ?_
  refine z_e1 (pc1 := 415) (L1 := [some (.ref 0), some (.ref 4), some (.ref 19), some (.int i)]) (S1 := [.ref 0, .ref 19]) zd0_414 rfl rfl rfl ?_
  refine z_e1 (pc1 := 416) (L1 := [some (.ref 0), some (.ref 4), some (.ref 19), some (.int i)]) (S1 := [.int i, .ref 0, .ref 19]) zd0_415 rfl rfl rfl ?_
  refine z_e1 (pc1 := 417) (L1 := [some (.ref 0), some (.ref 4), some (.ref 19), some (.int i)]) (S1 := [.int 1, .int i, .ref 0, .ref 19]) zd0_416 rfl rfl rfl ?_
  refine z_e1 (pc1 := 418) (L1 := [some (.ref 0), some (.ref 4), some (.ref 19), some (.int i)]) (S1 := [.int (i + 1), .ref 0, .ref 19]) zd0_417 rfl rfl rfl ?_
  refine z_eial (y := xs (i + 1).toNatClampNeg) zd0_418 h1 (z_ixk (k := 1) (kk := 1) (by decide) (by decide) (by decide) hi0 hi1 hL) rfl ?_
  refine z_e1 (pc1 := 420) (L1 := [some (.ref 0), some (.ref 4), some (.ref 19), some (.int i)]) (S1 := [.ref 0, .int (xs (i + 1).toNatClampNeg), .ref 19]) zd0_419 rfl rfl rfl ?_
  refine z_e1 (pc1 := 421) (L1 := [some (.ref 0), some (.ref 4), some (.ref 19), some (.int i)]) (S1 := [.int i, .ref 0, .int (xs (i + 1).toNatClampNeg), .ref 19]) zd0_420 rfl rfl rfl ?_
  refine z_e1 (pc1 := 422) (L1 := [some (.ref 0), some (.ref 4), some (.ref 19), some (.int i)]) (S1 := [.int 2, .int i, .ref 0, .int (xs (i + 1).toNatClampNeg), .ref 19]) zd0_421 rfl rfl rfl ?_
  refine z_e1 (pc1 := 423) (L1 := [some (.ref 0), some (.ref 4), some (.ref 19), some (.int i)]) (S1 := [.int (i + 2), .ref 0, .int (xs (i + 1).toNatClampNeg), .ref 19]) zd0_422 rfl rfl rfl ?_
  refine z_eial (y := xs (i + 2).toNatClampNeg) zd0_423 h1 (z_ixk (k := 2) (kk := 2) (by decide) (by decide) (by decide) hi0 hi1 hL) rfl ?_
  refine z_e1 (pc1 := 425) (L1 := [some (.ref 0), some (.ref 4), some (.ref 19), some (.int i)]) (S1 := [.ref 0, .int (xs (i + 2).toNatClampNeg), .int (xs (i + 1).toNatClampNeg), .ref 19]) zd0_424 rfl rfl rfl ?_
  refine z_e1 (pc1 := 426) (L1 := [some (.ref 0), some (.ref 4), some (.ref 19), some (.int i)]) (S1 := [.int i, .ref 0, .int (xs (i + 2).toNatClampNeg), .int (xs (i + 1).toNatClampNeg), .ref 19]) zd0_425 rfl rfl rfl ?_
  refine z_e1 (pc1 := 427) (L1 := [some (.ref 0), some (.ref 4), some (.ref 19), some (.int i)]) (S1 := [.int 3, .int i, .ref 0, .int (xs (i + 2).toNatClampNeg), .int (xs (i + 1).toNatClampNeg), .ref 19]) zd0_426 rfl rfl rfl ?_
  refine z_e1 (pc1 := 428) (L1 := [some (.ref 0), some (.ref 4), some (.ref 19), some (.int i)]) (S1 := [.int (i + 3), .ref 0, .int (xs (i + 2).toNatClampNeg), .int (xs (i + 1).toNatClampNeg), .ref 19]) zd0_427 rfl rfl rfl ?_
  refine z_eial (y := xs (i + 3).toNatClampNeg) zd0_428 h1 (z_ixk (k := 3) (kk := 3) (by decide) (by decide) (by decide) hi0 hi1 hL) rfl ?_
  refine z_e1 (pc1 := 430) (L1 := [some (.ref 0), some (.ref 4), some (.ref 19), some (.int i)]) (S1 := [.ref 0, .int (xs (i + 3).toNatClampNeg), .int (xs (i + 2).toNatClampNeg), .int (xs (i + 1).toNatClampNeg), .ref 19]) zd0_429 rfl rfl rfl ?_
  refine z_e1 (pc1 := 431) (L1 := [some (.ref 0), some (.ref 4), some (.ref 19), some (.int i)]) (S1 := [.int i, .ref 0, .int (xs (i + 3).toNatClampNeg), .int (xs (i + 2).toNatClampNeg), .int (xs (i + 1).toNatClampNeg), .ref 19]) zd0_430 rfl rfl rfl ?_
  refine z_e1 (pc1 := 432) (L1 := [some (.ref 0), some (.ref 4), some (.ref 19), some (.int i)]) (S1 := [.int 4, .int i, .ref 0, .int (xs (i + 3).toNatClampNeg), .int (xs (i + 2).toNatClampNeg), .int (xs (i + 1).toNatClampNeg), .ref 19]) zd0_431 rfl rfl rfl ?_
  refine z_e1 (pc1 := 433) (L1 := [some (.ref 0), some (.ref 4), some (.ref 19), some (.int i)]) (S1 := [.int (i + 4), .ref 0, .int (xs (i + 3).toNatClampNeg), .int (xs (i + 2).toNatClampNeg), .int (xs (i + 1).toNatClampNeg), .ref 19]) zd0_432 rfl rfl rfl ?_
  refine z_eial (y := xs (i + 4).toNatClampNeg) zd0_433 h1 (z_ixk (k := 4) (kk := 4) (by decide) (by decide) (by decide) hi0 hi1 hL) rfl ?_
  refine z_ecV (vs := [.ref 19, .int (xs (i + 1).toNatClampNeg), .int (xs (i + 2).toNatClampNeg), .int (xs (i + 3).toNatClampNeg), .int (xs (i + 4).toNatClampNeg)]) (r := []) (L2 := z_ent [.ref 19, .int (xs (i + 1).toNatClampNeg), .int (xs (i + 2).toNatClampNeg), .int (xs (i + 3).toNatClampNeg), .int (xs (i + 4).toNatClampNeg)] (z_ml 217)) zd0_434 zcV0_44 (Or.inl rfl) rfl h19 (by decide) rfl rfl rfl (Nat.le_of_ble_eq_true rfl) rfl (Nat.le_of_ble_eq_true rfl) rfl ?_
  refine H1.mono (fun v M2 hv => ?_)
  obtain ⟨⟨x2, rfl⟩, hx, H2⟩ := hv
  show z_ev _ 0 437 [some (.ref 0), some (.ref 4), some (.ref 19), some (.int i)] [.int x2] _ _
  refine z_e1 (pc1 := 438) (L1 := [some (.ref 0), some (.ref 4), some (.ref 19), some (.int i)]) (S1 := []) zd0_437 rfl rfl rfl ?_
  refine z_e1 (pc1 := 1774) (L1 := [some (.ref 0), some (.ref 4), some (.ref 19), some (.int i)]) (S1 := []) zd0_438 rfl rfl rfl ?_
  exact H2
theorem z_D7 {M : zH} {xs : Nat → Int32} {L : Nat} {i : Int32} {fs : List Value} {K : Option Value → zH → Prop} (hi0 : 0 ≤ i.toInt) (hi1 : i.toInt + 6 ≤ L) (hL : L ≤ 3072) (h0 : M[0]? = some (.inl (0, L, .inl xs))) (h4 : M[4]? = some (.inr (0, fs)))
    (H : z_ev 2046 50 0 (z_ent [.ref 4, .int (xs (i + 1).toNatClampNeg), .int (xs (i + 2).toNatClampNeg), .int (xs (i + 3).toNatClampNeg)] (z_ml 50)) [] M fun v M1 => (∃ x1, v = some (.int x1)) ∧ M1[0]? = some (.inl (0, L, .inl xs)) ∧ (∃ fs1, M1[19]? = some (.inr (12, fs1))) ∧
      z_ev 2046 220 0 (z_ent [.ref 19, .int (xs (i + 1).toNatClampNeg), .int (xs (i + 2).toNatClampNeg), .int (xs (i + 3).toNatClampNeg)] (z_ml 220)) [] M1 fun v2 M2 => (∃ x2, v2 = some (.int x2)) ∧ True ∧ z_ev 2047 0 1774 [some (.ref 0), some (.ref 4), some (.ref 19), some (.int i)] [] M2 K) : z_ev 2047 0 441 [some (.ref 0), some (.ref 4), some (.ref 19), some (.int i)] [] M K := by
  refine z_e1 (pc1 := 442) (L1 := [some (.ref 0), some (.ref 4), some (.ref 19), some (.int i)]) (S1 := [.ref 4]) zd0_441 rfl rfl rfl ?_
  refine z_e1 (pc1 := 443) (L1 := [some (.ref 0), some (.ref 4), some (.ref 19), some (.int i)]) (S1 := [.ref 0, .ref 4]) zd0_442 rfl rfl rfl ?_
  refine z_e1 (pc1 := 444) (L1 := [some (.ref 0), some (.ref 4), some (.ref 19), some (.int i)]) (S1 := [.int i, .ref 0, .ref 4]) zd0_443 rfl rfl rfl ?_
  refine z_e1 (pc1 := 445) (L1 := [some (.ref 0), some (.ref 4), some (.ref 19), some (.int i)]) (S1 := [.int 1, .int i, .ref 0, .ref 4]) zd0_444 rfl rfl rfl ?_
  refine z_e1 (pc1 := 446) (L1 := [some (.ref 0), some (.ref 4), some (.ref 19), some (.int i)]) (S1 := [.int (i + 1), .ref 0, .ref 4]) zd0_445 rfl rfl rfl ?_
  refine z_eial (y := xs (i + 1).toNatClampNeg) zd0_446 h0 (z_ixk (k := 1) (kk := 1) (by decide) (by decide) (by decide) hi0 hi1 hL) rfl ?_
  refine z_e1 (pc1 := 448) (L1 := [some (.ref 0), some (.ref 4), some (.ref 19), some (.int i)]) (S1 := [.ref 0, .int (xs (i + 1).toNatClampNeg), .ref 4]) zd0_447 rfl rfl rfl ?_
  refine z_e1 (pc1 := 449) (L1 := [some (.ref 0), some (.ref 4), some (.ref 19), some (.int i)]) (S1 := [.int i, .ref 0, .int (xs (i + 1).toNatClampNeg), .ref 4]) zd0_448 rfl rfl rfl ?_
  refine z_e1 (pc1 := 450) (L1 := [some (.ref 0), some (.ref 4), some (.ref 19), some (.int i)]) (S1 := [.int 2, .int i, .ref 0, .int (xs (i + 1).toNatClampNeg), .ref 4]) zd0_449 rfl rfl rfl ?_
  refine z_e1 (pc1 := 451) (L1 := [some (.ref 0), some (.ref 4), some (.ref 19), some (.int i)]) (S1 := [.int (i + 2), .ref 0, .int (xs (i + 1).toNatClampNeg), .ref 4]) zd0_450 rfl rfl rfl ?_
  refine z_eial (y := xs (i + 2).toNatClampNeg) zd0_451 h0 (z_ixk (k := 2) (kk := 2) (by decide) (by decide) (by decide) hi0 hi1 hL) rfl ?_
  refine z_e1 (pc1 := 453) (L1 := [some (.ref 0), some (.ref 4), some (.ref 19), some (.int i)]) (S1 := [.ref 0, .int (xs (i + 2).toNatClampNeg), .int (xs (i + 1).toNatClampNeg), .ref 4]) zd0_452 rfl rfl rfl ?_
  refine z_e1 (pc1 := 454) (L1 := [some (.ref 0), some (.ref 4), some (.ref 19), some (.int i)]) (S1 := [.int i, .ref 0, .int (xs (i + 2).toNatClampNeg), .int (xs (i + 1).toNatClampNeg), .ref 4]) zd0_453 rfl rfl rfl ?_
  refine z_e1 (pc1 := 455) (L1 := [some (.ref 0), some (.ref 4), some (.ref 19), some (.int i)]) (S1 := [.int 3, .int i, .ref 0, .int (xs (i + 2).toNatClampNeg), .int (xs (i + 1).toNatClampNeg), .ref 4]) zd0_454 rfl rfl rfl ?_
  refine z_e1 (pc1 := 456) (L1 := [some (.ref 0), some (.ref 4), some (.ref 19), some (.int i)]) (S1 := [.int (i + 3), .ref 0, .int (xs (i + 2).toNatClampNeg), .int (xs (i + 1).toNatClampNeg), .ref 4]) zd0_455 rfl rfl rfl ?_
  refine z_eial (y := xs (i + 3).toNatClampNeg) zd0_456 h0 (z_ixk (k := 3) (kk := 3) (by decide) (by decide) (by decide) hi0 hi1 hL) rfl ?_
  refine z_ecV (vs := [.ref 4, .int (xs (i + 1).toNatClampNeg), .int (xs (i + 2).toNatClampNeg), .int (xs (i + 3).toNatClampNeg)]) (r := []) (L2 := z_ent [.ref 4, .int (xs (i + 1).toNatClampNeg), .int (xs (i + 2).toNatClampNeg), .int (xs (i + 3).toNatClampNeg)] (z_ml 50)) zd0_457 zcV0_45 (Or.inl rfl) rfl h4 (by decide) rfl rfl rfl (Nat.le_of_ble_eq_true rfl) rfl (Nat.le_of_ble_eq_true rfl) rfl ?_
  refine H.mono (fun v M1 hv => ?_)
  obtain ⟨⟨x1, rfl⟩, h1, ⟨fs1, h19⟩, H1⟩ := hv
  show z_ev _ 0 460 [some (.ref 0), some (.ref 4), some (.ref 19), some (.int i)] [.int x1] _ _
  refine z_e1 (pc1 := 461) (L1 := [some (.ref 0), some (.ref 4), some (.ref 19), some (.int i)]) (S1 := []) zd0_460 rfl rfl rfl ?_
  refine z_e1 (pc1 := 462) (L1 := [some (.ref 0), some (.ref 4), some (.ref 19), some (.int i)]) (S1 := [.ref 19]) zd0_461 rfl rfl rfl ?_
  refine z_e1 (pc1 := 463) (L1 := [some (.ref 0), some (.ref 4), some (.ref 19), some (.int i)]) (S1 := [.ref 0, .ref 19]) zd0_462 rfl rfl rfl ?_
  refine z_e1 (pc1 := 464) (L1 := [some (.ref 0), some (.ref 4), some (.ref 19), some (.int i)]) (S1 := [.int i, .ref 0, .ref 19]) zd0_463 rfl rfl rfl ?_
  refine z_e1 (pc1 := 465) (L1 := [some (.ref 0), some (.ref 4), some (.ref 19), some (.int i)]) (S1 := [.int 1, .int i, .ref 0, .ref 19]) zd0_464 rfl rfl rfl ?_
  refine z_e1 (pc1 := 466) (L1 := [some (.ref 0), some (.ref 4), some (.ref 19), some (.int i)]) (S1 := [.int (i + 1), .ref 0, .ref 19]) zd0_465 rfl rfl rfl ?_
  refine z_eial (y := xs (i + 1).toNatClampNeg) zd0_466 h1 (z_ixk (k := 1) (kk := 1) (by decide) (by decide) (by decide) hi0 hi1 hL) rfl ?_
  refine z_e1 (pc1 := 468) (L1 := [some (.ref 0), some (.ref 4), some (.ref 19), some (.int i)]) (S1 := [.ref 0, .int (xs (i + 1).toNatClampNeg), .ref 19]) zd0_467 rfl rfl rfl ?_
  refine z_e1 (pc1 := 469) (L1 := [some (.ref 0), some (.ref 4), some (.ref 19), some (.int i)]) (S1 := [.int i, .ref 0, .int (xs (i + 1).toNatClampNeg), .ref 19]) zd0_468 rfl rfl rfl ?_
  refine z_e1 (pc1 := 470) (L1 := [some (.ref 0), some (.ref 4), some (.ref 19), some (.int i)]) (S1 := [.int 2, .int i, .ref 0, .int (xs (i + 1).toNatClampNeg), .ref 19]) zd0_469 rfl rfl rfl ?_
  refine z_e1 (pc1 := 471) (L1 := [some (.ref 0), some (.ref 4), some (.ref 19), some (.int i)]) (S1 := [.int (i + 2), .ref 0, .int (xs (i + 1).toNatClampNeg), .ref 19]) zd0_470 rfl rfl rfl ?_
  refine z_eial (y := xs (i + 2).toNatClampNeg) zd0_471 h1 (z_ixk (k := 2) (kk := 2) (by decide) (by decide) (by decide) hi0 hi1 hL) rfl ?_
  refine z_e1 (pc1 := 473) (L1 := [some (.ref 0), some (.ref 4), some (.ref 19), some (.int i)]) (S1 := [.ref 0, .int (xs (i + 2).toNatClampNeg), .int (xs (i + 1).toNatClampNeg), .ref 19]) zd0_472 rfl rfl rfl ?_
  refine z_e1 (pc1 := 474) (L1 := [some (.ref 0), some (.ref 4), some (.ref 19), some (.int i)]) (S1 := [.int i, .ref 0, .int (xs (i + 2).toNatClampNeg), .int (xs (i + 1).toNatClampNeg), .ref 19]) zd0_473 rfl rfl rfl ?_
  refine z_e1 (pc1 := 475) (L1 := [some (.ref 0), some (.ref 4), some (.ref 19), some (.int i)]) (S1 := [.int 3, .int i, .ref 0, .int (xs (i + 2).toNatClampNeg), .int (xs (i + 1).toNatClampNeg), .ref 19]) zd0_474 rfl rfl rfl ?_
  refine z_e1 (pc1 := 476) (L1 := [some (.ref 0), some (.ref 4), some (.ref 19), some (.int i)]) (S1 := [.int (i + 3), .ref 0, .int (xs (i + 2).toNatClampNeg), .int (xs (i + 1).toNatClampNeg), .ref 19]) zd0_475 rfl rfl rfl ?_
  refine z_eial (y := xs (i + 3).toNatClampNeg) zd0_476 h1 (z_ixk (k := 3) (kk := 3) (by decide) (by decide) (by decide) hi0 hi1 hL) rfl ?_
  refine z_ecV (vs := [.ref 19, .int (xs (i + 1).toNatClampNeg), .int (xs (i + 2).toNatClampNeg), .int (xs (i + 3).toNatClampNeg)]) (r := []) (L2 := z_ent [.ref 19, .int (xs (i + 1).toNatClampNeg), .int (xs (i + 2).toNatClampNeg), .int (xs (i + 3).toNatClampNeg)] (z_ml 220)) zd0_477 zcV0_48 (Or.inl rfl) rfl h19 (by decide) rfl rfl rfl (Nat.le_of_ble_eq_true rfl) rfl (Nat.le_of_ble_eq_true rfl) rfl ?_
  refine H1.mono (fun v M2 hv => ?_)
  obtain ⟨⟨x2, rfl⟩, hx, H2⟩ := hv
  show z_ev _ 0 480 [some (.ref 0), some (.ref 4), some (.ref 19), some (.int i)] [.int x2] _ _
  refine z_e1 (pc1 := 481) (L1 := [some (.ref 0), some (.ref 4), some (.ref 19), some (.int i)]) (S1 := []) zd0_480 rfl rfl rfl ?_
  refine z_e1 (pc1 := 1774) (L1 := [some (.ref 0), some (.ref 4), some (.ref 19), some (.int i)]) (S1 := []) zd0_481 rfl rfl rfl ?_
  exact H2
theorem z_D8 {M : zH} {xs : Nat → Int32} {L : Nat} {i : Int32} {fs : List Value} {K : Option Value → zH → Prop} (hi0 : 0 ≤ i.toInt) (hi1 : i.toInt + 6 ≤ L) (hL : L ≤ 3072) (h0 : M[0]? = some (.inl (0, L, .inl xs))) (h4 : M[4]? = some (.inr (0, fs)))
    (H : z_ev 2046 52 0 (z_ent [.ref 4, .int (xs (i + 1).toNatClampNeg), .int (xs (i + 2).toNatClampNeg), .int (xs (i + 3).toNatClampNeg), .int (xs (i + 4).toNatClampNeg)] (z_ml 52)) [] M fun v M1 => (∃ x1, v = some (.int x1)) ∧ M1[0]? = some (.inl (0, L, .inl xs)) ∧ (∃ fs1, M1[19]? = some (.inr (12, fs1))) ∧
      z_ev 2046 221 0 (z_ent [.ref 19, .int (xs (i + 1).toNatClampNeg), .int (xs (i + 2).toNatClampNeg), .int (xs (i + 3).toNatClampNeg), .int (xs (i + 4).toNatClampNeg)] (z_ml 221)) [] M1 fun v2 M2 => (∃ x2, v2 = some (.int x2)) ∧ True ∧ z_ev 2047 0 1774 [some (.ref 0), some (.ref 4), some (.ref 19), some (.int i)] [] M2 K) : z_ev 2047 0 484 [some (.ref 0), some (.ref 4), some (.ref 19), some (.int i)] [] M K := by
  refine z_e1 (pc1 := 485) (L1 := [some (.ref 0), some (.ref 4), some (.ref 19), some (.int i)]) (S1 := [.ref 4]) zd0_484 rfl rfl rfl ?_
  refine z_e1 (pc1 := 486) (L1 := [some (.ref 0), some (.ref 4), some (.ref 19), some (.int i)]) (S1 := [.ref 0, .ref 4]) zd0_485 rfl rfl rfl ?_
  refine z_e1 (pc1 := 487) (L1 := [some (.ref 0), some (.ref 4), some (.ref 19), some (.int i)]) (S1 := [.int i, .ref 0, .ref 4]) zd0_486 rfl rfl rfl ?_
  refine z_e1 (pc1 := 488) (L1 := [some (.ref 0), some (.ref 4), some (.ref 19), some (.int i)]) (S1 := [.int 1, .int i, .ref 0, .ref 4]) zd0_487 rfl rfl rfl ?_
  refine z_e1 (pc1 := 489) (L1 := [some (.ref 0), some (.ref 4), some (.ref 19), some (.int i)]) (S1 := [.int (i + 1), .ref 0, .ref 4]) zd0_488 rfl rfl rfl ?_
  refine z_eial (y := xs (i + 1).toNatClampNeg) zd0_489 h0 (z_ixk (k := 1) (kk := 1) (by decide) (by decide) (by decide) hi0 hi1 hL) rfl ?_
  refine z_e1 (pc1 := 491) (L1 := [some (.ref 0), some (.ref 4), some (.ref 19), some (.int i)]) (S1 := [.ref 0, .int (xs (i + 1).toNatClampNeg), .ref 4]) zd0_490 rfl rfl rfl ?_
  refine z_e1 (pc1 := 492) (L1 := [some (.ref 0), some (.ref 4), some (.ref 19), some (.int i)]) (S1 := [.int i, .ref 0, .int (xs (i + 1).toNatClampNeg), .ref 4]) zd0_491 rfl rfl rfl ?_
  refine z_e1 (pc1 := 493) (L1 := [some (.ref 0), some (.ref 4), some (.ref 19), some (.int i)]) (S1 := [.int 2, .int i, .ref 0, .int (xs (i + 1).toNatClampNeg), .ref 4]) zd0_492 rfl rfl rfl ?_
  refine z_e1 (pc1 := 494) (L1 := [some (.ref 0), some (.ref 4), some (.ref 19), some (.int i)]) (S1 := [.int (i + 2), .ref 0, .int (xs (i + 1).toNatClampNeg), .ref 4]) zd0_493 rfl rfl rfl ?_
  refine z_eial (y := xs (i + 2).toNatClampNeg) zd0_494 h0 (z_ixk (k := 2) (kk := 2) (by decide) (by decide) (by decide) hi0 hi1 hL) rfl ?_
  refine z_e1 (pc1 := 496) (L1 := [some (.ref 0), some (.ref 4), some (.ref 19), some (.int i)]) (S1 := [.ref 0, .int (xs (i + 2).toNatClampNeg), .int (xs (i + 1).toNatClampNeg), .ref 4]) zd0_495 rfl rfl rfl ?_
  refine z_e1 (pc1 := 497) (L1 := [some (.ref 0), some (.ref 4), some (.ref 19), some (.int i)]) (S1 := [.int i, .ref 0, .int (xs (i + 2).toNatClampNeg), .int (xs (i + 1).toNatClampNeg), .ref 4]) zd0_496 rfl rfl rfl ?_
  refine z_e1 (pc1 := 498) (L1 := [some (.ref 0), some (.ref 4), some (.ref 19), some (.int i)]) (S1 := [.int 3, .int i, .ref 0, .int (xs (i + 2).toNatClampNeg), .int (xs (i + 1).toNatClampNeg), .ref 4]) zd0_497 rfl rfl rfl ?_
  refine z_e1 (pc1 := 499) (L1 := [some (.ref 0), some (.ref 4), some (.ref 19), some (.int i)]) (S1 := [.int (i + 3), .ref 0, .int (xs (i + 2).toNatClampNeg), .int (xs (i + 1).toNatClampNeg), .ref 4]) zd0_498 rfl rfl rfl ?_
  refine z_eial (y := xs (i + 3).toNatClampNeg) zd0_499 h0 (z_ixk (k := 3) (kk := 3) (by decide) (by decide) (by decide) hi0 hi1 hL) rfl ?_
  refine z_e1 (pc1 := 501) (L1 := [some (.ref 0), some (.ref 4), some (.ref 19), some (.int i)]) (S1 := [.ref 0, .int (xs (i + 3).toNatClampNeg), .int (xs (i + 2).toNatClampNeg), .int (xs (i + 1).toNatClampNeg), .ref 4]) zd0_500 rfl rfl rfl ?_
  refine z_e1 (pc1 := 502) (L1 := [some (.ref 0), some (.ref 4), some (.ref 19), some (.int i)]) (S1 := [.int i, .ref 0, .int (xs (i + 3).toNatClampNeg), .int (xs (i + 2).toNatClampNeg), .int (xs (i + 1).toNatClampNeg), .ref 4]) zd0_501 rfl rfl rfl ?_
  refine z_e1 (pc1 := 503) (L1 := [some (.ref 0), some (.ref 4), some (.ref 19), some (.int i)]) (S1 := [.int 4, .int i, .ref 0, .int (xs (i + 3).toNatClampNeg), .int (xs (i + 2).toNatClampNeg), .int (xs (i + 1).toNatClampNeg), .ref 4]) zd0_502 rfl rfl rfl ?_
  refine z_e1 (pc1 := 504) (L1 := [some (.ref 0), some (.ref 4), some (.ref 19), some (.int i)]) (S1 := [.int (i + 4), .ref 0, .int (xs (i + 3).toNatClampNeg), .int (xs (i + 2).toNatClampNeg), .int (xs (i + 1).toNatClampNeg), .ref 4]) zd0_503 rfl rfl rfl ?_
  refine z_eial (y := xs (i + 4).toNatClampNeg) zd0_504 h0 (z_ixk (k := 4) (kk := 4) (by decide) (by decide) (by decide) hi0 hi1 hL) rfl ?_
  refine z_ecV (vs := [.ref 4, .int (xs (i + 1).toNatClampNeg), .int (xs (i + 2).toNatClampNeg), .int (xs (i + 3).toNatClampNeg), .int (xs (i + 4).toNatClampNeg)]) (r := []) (L2 := z_ent [.ref 4, .int (xs (i + 1).toNatClampNeg), .int (xs (i + 2).toNatClampNeg), .int (xs (i + 3).toNatClampNeg), .int (xs (i + 4).toNatClampNeg)] (z_ml 52)) zd0_505 zcV0_49 (Or.inl rfl) rfl h4 (by decide) rfl rfl rfl (Nat.le_of_ble_eq_true rfl) rfl (Nat.le_of_ble_eq_true rfl) rfl ?_
  refine H.mono (fun v M1 hv => ?_)
  obtain ⟨⟨x1, rfl⟩, h1, ⟨fs1, h19⟩, H1⟩ := hv
  show z_ev _ 0 508 [some (.ref 0), some (.ref 4), some (.ref 19), some (.int i)] [.int x1] _ _
  refine z_e1 (pc1 := 509) (L1 := [some (.ref 0), some (.ref 4), some (.ref 19), some (.int i)]) (S1 := []) zd0_508 rfl rfl rfl ?_
  refine z_e1 (pc1 := 510) (L1 := [some (.ref 0), some (.ref 4), some (.ref 19), some (.int i)]) (S1 := [.ref 19]) zd0_509 rfl rfl rfl ?_
  refine z_e1 (pc1 := 511) (L1 := [some (.ref 0), some (.ref 4), some (.ref 19), some (.int i)]) (S1 := [.ref 0, .ref 19]) zd0_510 rfl rfl rfl ?_
  refine z_e1 (pc1 := 512) (L1 := [some (.ref 0), some (.ref 4), some (.ref 19), some (.int i)]) (S1 := [.int i, .ref 0, .ref 19]) zd0_511 rfl rfl rfl ?_
  refine z_e1 (pc1 := 513) (L1 := [some (.ref 0), some (.ref 4), some (.ref 19), some (.int i)]) (S1 := [.int 1, .int i, .ref 0, .ref 19]) zd0_512 rfl rfl rfl ?_
  refine z_e1 (pc1 := 514) (L1 := [some (.ref 0), some (.ref 4), some (.ref 19), some (.int i)]) (S1 := [.int (i + 1), .ref 0, .ref 19]) zd0_513 rfl rfl rfl ?_
  refine z_eial (y := xs (i + 1).toNatClampNeg) zd0_514 h1 (z_ixk (k := 1) (kk := 1) (by decide) (by decide) (by decide) hi0 hi1 hL) rfl ?_
  refine z_e1 (pc1 := 516) (L1 := [some (.ref 0), some (.ref 4), some (.ref 19), some (.int i)]) (S1 := [.ref 0, .int (xs (i + 1).toNatClampNeg), .ref 19]) zd0_515 rfl rfl rfl ?_
  refine z_e1 (pc1 := 517) (L1 := [some (.ref 0), some (.ref 4), some (.ref 19), some (.int i)]) (S1 := [.int i, .ref 0, .int (xs (i + 1).toNatClampNeg), .ref 19]) zd0_516 rfl rfl rfl ?_
  refine z_e1 (pc1 := 518) (L1 := [some (.ref 0), some (.ref 4), some (.ref 19), some (.int i)]) (S1 := [.int 2, .int i, .ref 0, .int (xs (i + 1).toNatClampNeg), .ref 19]) zd0_517 rfl rfl rfl ?_
  refine z_e1 (pc1 := 519) (L1 := [some (.ref 0), some (.ref 4), some (.ref 19), some (.int i)]) (S1 := [.int (i + 2), .ref 0, .int (xs (i + 1).toNatClampNeg), .ref 19]) zd0_518 rfl rfl rfl ?_
  refine z_eial (y := xs (i + 2).toNatClampNeg) zd0_519 h1 (z_ixk (k := 2) (kk := 2) (by decide) (by decide) (by decide) hi0 hi1 hL) rfl ?_
  refine z_e1 (pc1 := 521) (L1 := [some (.ref 0), some (.ref 4), some (.ref 19), some (.int i)]) (S1 := [.ref 0, .int (xs (i + 2).toNatClampNeg), .int (xs (i + 1).toNatClampNeg), .ref 19]) zd0_520 rfl rfl rfl ?_
  refine z_e1 (pc1 := 522) (L1 := [some (.ref 0), some (.ref 4), some (.ref 19), some (.int i)]) (S1 := [.int i, .ref 0, .int (xs (i + 2).toNatClampNeg), .int (xs (i + 1).toNatClampNeg), .ref 19]) zd0_521 rfl rfl rfl ?_
  refine z_e1 (pc1 := 523) (L1 := [some (.ref 0), some (.ref 4), some (.ref 19), some (.int i)]) (S1 := [.int 3, .int i, .ref 0, .int (xs (i + 2).toNatClampNeg), .int (xs (i + 1).toNatClampNeg), .ref 19]) zd0_522 rfl rfl rfl ?_
  refine z_e1 (pc1 := 524) (L1 := [some (.ref 0), some (.ref 4), some (.ref 19), some (.int i)]) (S1 := [.int (i + 3), .ref 0, .int (xs (i + 2).toNatClampNeg), .int (xs (i + 1).toNatClampNeg), .ref 19]) zd0_523 rfl rfl rfl ?_
  refine z_eial (y := xs (i + 3).toNatClampNeg) zd0_524 h1 (z_ixk (k := 3) (kk := 3) (by decide) (by decide) (by decide) hi0 hi1 hL) rfl ?_
  refine z_e1 (pc1 := 526) (L1 := [some (.ref 0), some (.ref 4), some (.ref 19), some (.int i)]) (S1 := [.ref 0, .int (xs (i + 3).toNatClampNeg), .int (xs (i + 2).toNatClampNeg), .int (xs (i + 1).toNatClampNeg), .ref 19]) zd0_525 rfl rfl rfl ?_
  refine z_e1 (pc1 := 527) (L1 := [some (.ref 0), some (.ref 4), some (.ref 19), some (.int i)]) (S1 := [.int i, .ref 0, .int (xs (i + 3).toNatClampNeg), .int (xs (i + 2).toNatClampNeg), .int (xs (i + 1).toNatClampNeg), .ref 19]) zd0_526 rfl rfl rfl ?_
  refine z_e1 (pc1 := 528) (L1 := [some (.ref 0), some (.ref 4), some (.ref 19), some (.int i)]) (S1 := [.int 4, .int i, .ref 0, .int (xs (i + 3).toNatClampNeg), .int (xs (i + 2).toNatClampNeg), .int (xs (i + 1).toNatClampNeg), .ref 19]) zd0_527 rfl rfl rfl ?_
  refine z_e1 (pc1 := 529) (L1 := [some (.ref 0), some (.ref 4), some (.ref 19), some (.int i)]) (S1 := [.int (i + 4), .ref 0, .int (xs (i + 3).toNatClampNeg), .int (xs (i + 2).toNatClampNeg), .int (xs (i + 1).toNatClampNeg), .ref 19]) zd0_528 rfl rfl rfl ?_
  refine z_eial (y := xs (i + 4).toNatClampNeg) zd0_529 h1 (z_ixk (k := 4) (kk := 4) (by decide) (by decide) (by decide) hi0 hi1 hL) rfl ?_
  refine z_ecV (vs := [.ref 19, .int (xs (i + 1).toNatClampNeg), .int (xs (i + 2).toNatClampNeg), .int (xs (i + 3).toNatClampNeg), .int (xs (i + 4).toNatClampNeg)]) (r := []) (L2 := z_ent [.ref 19, .int (xs (i + 1).toNatClampNeg), .int (xs (i + 2).toNatClampNeg), .int (xs (i + 3).toNatClampNeg), .int (xs (i + 4).toNatClampNeg)] (z_ml 221)) zd0_530 zcV0_52 (Or.inl rfl) rfl h19 (by decide) rfl rfl rfl (Nat.le_of_ble_eq_true rfl) rfl (Nat.le_of_ble_eq_true rfl) rfl ?_
  refine H1.mono (fun v M2 hv => ?_)
  obtain ⟨⟨x2, rfl⟩, hx, H2⟩ := hv
  show z_ev _ 0 533 [some (.ref 0), some (.ref 4), some (.ref 19), some (.int i)] [.int x2] _ _
  refine z_e1 (pc1 := 534) (L1 := [some (.ref 0), some (.ref 4), some (.ref 19), some (.int i)]) (S1 := []) zd0_533 rfl rfl rfl ?_
  refine z_e1 (pc1 := 1774) (L1 := [some (.ref 0), some (.ref 4), some (.ref 19), some (.int i)]) (S1 := []) zd0_534 rfl rfl rfl ?_
  exact H2
theorem z_D9 {M : zH} {xs : Nat → Int32} {L : Nat} {i : Int32} {fs : List Value} {K : Option Value → zH → Prop} (hi0 : 0 ≤ i.toInt) (hi1 : i.toInt + 6 ≤ L) (hL : L ≤ 3072) (h0 : M[0]? = some (.inl (0, L, .inl xs))) (h4 : M[4]? = some (.inr (0, fs)))
    (H : z_ev 2046 55 0 (z_ent [.ref 4, .int (xs (i + 1).toNatClampNeg), .int (xs (i + 2).toNatClampNeg), .int (xs (i + 3).toNatClampNeg), .int (xs (i + 4).toNatClampNeg)] (z_ml 55)) [] M fun v M1 => (∃ x1, v = some (.int x1)) ∧ M1[0]? = some (.inl (0, L, .inl xs)) ∧ (∃ fs1, M1[19]? = some (.inr (12, fs1))) ∧
      z_ev 2046 222 0 (z_ent [.ref 19, .int (xs (i + 1).toNatClampNeg), .int (xs (i + 2).toNatClampNeg), .int (xs (i + 3).toNatClampNeg), .int (xs (i + 4).toNatClampNeg)] (z_ml 222)) [] M1 fun v2 M2 => (∃ x2, v2 = some (.int x2)) ∧ True ∧ z_ev 2047 0 1774 [some (.ref 0), some (.ref 4), some (.ref 19), some (.int i)] [] M2 K) : z_ev 2047 0 537 [some (.ref 0), some (.ref 4), some (.ref 19), some (.int i)] [] M K := by
  refine z_e1 (pc1 := 538) (L1 := [some (.ref 0), some (.ref 4), some (.ref 19), some (.int i)]) (S1 := [.ref 4]) zd0_537 rfl rfl rfl ?_
  refine z_e1 (pc1 := 539) (L1 := [some (.ref 0), some (.ref 4), some (.ref 19), some (.int i)]) (S1 := [.ref 0, .ref 4]) zd0_538 rfl rfl rfl ?_
  refine z_e1 (pc1 := 540) (L1 := [some (.ref 0), some (.ref 4), some (.ref 19), some (.int i)]) (S1 := [.int i, .ref 0, .ref 4]) zd0_539 rfl rfl rfl ?_
  refine z_e1 (pc1 := 541) (L1 := [some (.ref 0), some (.ref 4), some (.ref 19), some (.int i)]) (S1 := [.int 1, .int i, .ref 0, .ref 4]) zd0_540 rfl rfl rfl ?_
  refine z_e1 (pc1 := 542) (L1 := [some (.ref 0), some (.ref 4), some (.ref 19), some (.int i)]) (S1 := [.int (i + 1), .ref 0, .ref 4]) zd0_541 rfl rfl rfl ?_
  refine z_eial (y := xs (i + 1).toNatClampNeg) zd0_542 h0 (z_ixk (k := 1) (kk := 1) (by decide) (by decide) (by decide) hi0 hi1 hL) rfl ?_
  refine z_e1 (pc1 := 544) (L1 := [some (.ref 0), some (.ref 4), some (.ref 19), some (.int i)]) (S1 := [.ref 0, .int (xs (i + 1).toNatClampNeg), .ref 4]) zd0_543 rfl rfl rfl ?_
  refine z_e1 (pc1 := 545) (L1 := [some (.ref 0), some (.ref 4), some (.ref 19), some (.int i)]) (S1 := [.int i, .ref 0, .int (xs (i + 1).toNatClampNeg), .ref 4]) zd0_544 rfl rfl rfl ?_
  refine z_e1 (pc1 := 546) (L1 := [some (.ref 0), some (.ref 4), some (.ref 19), some (.int i)]) (S1 := [.int 2, .int i, .ref 0, .int (xs (i + 1).toNatClampNeg), .ref 4]) zd0_545 rfl rfl rfl ?_
  refine z_e1 (pc1 := 547) (L1 := [some (.ref 0), some (.ref 4), some (.ref 19), some (.int i)]) (S1 := [.int (i + 2), .ref 0, .int (xs (i + 1).toNatClampNeg), .ref 4]) zd0_546 rfl rfl rfl ?_
  refine z_eial (y := xs (i + 2).toNatClampNeg) zd0_547 h0 (z_ixk (k := 2) (kk := 2) (by decide) (by decide) (by decide) hi0 hi1 hL) rfl ?_
  refine z_e1 (pc1 := 549) (L1 := [some (.ref 0), some (.ref 4), some (.ref 19), some (.int i)]) (S1 := [.ref 0, .int (xs (i + 2).toNatClampNeg), .int (xs (i + 1).toNatClampNeg), .ref 4]) zd0_548 rfl rfl rfl ?_
  refine z_e1 (pc1 := 550) (L1 := [some (.ref 0), some (.ref 4), some (.ref 19), some (.int i)]) (S1 := [.int i, .ref 0, .int (xs (i + 2).toNatClampNeg), .int (xs (i + 1).toNatClampNeg), .ref 4]) zd0_549 rfl rfl rfl ?_
  refine z_e1 (pc1 := 551) (L1 := [some (.ref 0), some (.ref 4), some (.ref 19), some (.int i)]) (S1 := [.int 3, .int i, .ref 0, .int (xs (i + 2).toNatClampNeg), .int (xs (i + 1).toNatClampNeg), .ref 4]) zd0_550 rfl rfl rfl ?_
  refine z_e1 (pc1 := 552) (L1 := [some (.ref 0), some (.ref 4), some (.ref 19), some (.int i)]) (S1 := [.int (i + 3), .ref 0, .int (xs (i + 2).toNatClampNeg), .int (xs (i + 1).toNatClampNeg), .ref 4]) zd0_551 rfl rfl rfl ?_
  refine z_eial (y := xs (i + 3).toNatClampNeg) zd0_552 h0 (z_ixk (k := 3) (kk := 3) (by decide) (by decide) (by decide) hi0 hi1 hL) rfl ?_
  refine z_e1 (pc1 := 554) (L1 := [some (.ref 0), some (.ref 4), some (.ref 19), some (.int i)]) (S1 := [.ref 0, .int (xs (i + 3).toNatClampNeg), .int (xs (i + 2).toNatClampNeg), .int (xs (i + 1).toNatClampNeg), .ref 4]) zd0_553 rfl rfl rfl ?_
  refine z_e1 (pc1 := 555) (L1 := [some (.ref 0), some (.ref 4), some (.ref 19), some (.int i)]) (S1 := [.int i, .ref 0, .int (xs (i + 3).toNatClampNeg), .int (xs (i + 2).toNatClampNeg), .int (xs (i + 1).toNatClampNeg), .ref 4]) zd0_554 rfl rfl rfl ?_
  refine z_e1 (pc1 := 556) (L1 := [some (.ref 0), some (.ref 4), some (.ref 19), some (.int i)]) (S1 := [.int 4, .int i, .ref 0, .int (xs (i + 3).toNatClampNeg), .int (xs (i + 2).toNatClampNeg), .int (xs (i + 1).toNatClampNeg), .ref 4]) zd0_555 rfl rfl rfl ?_
  refine z_e1 (pc1 := 557) (L1 := [some (.ref 0), some (.ref 4), some (.ref 19), some (.int i)]) (S1 := [.int (i + 4), .ref 0, .int (xs (i + 3).toNatClampNeg), .int (xs (i + 2).toNatClampNeg), .int (xs (i + 1).toNatClampNeg), .ref 4]) zd0_556 rfl rfl rfl ?_
  refine z_eial (y := xs (i + 4).toNatClampNeg) zd0_557 h0 (z_ixk (k := 4) (kk := 4) (by decide) (by decide) (by decide) hi0 hi1 hL) rfl ?_
  refine z_ecV (vs := [.ref 4, .int (xs (i + 1).toNatClampNeg), .int (xs (i + 2).toNatClampNeg), .int (xs (i + 3).toNatClampNeg), .int (xs (i + 4).toNatClampNeg)]) (r := []) (L2 := z_ent [.ref 4, .int (xs (i + 1).toNatClampNeg), .int (xs (i + 2).toNatClampNeg), .int (xs (i + 3).toNatClampNeg), .int (xs (i + 4).toNatClampNeg)] (z_ml 55)) zd0_558 zcV0_53 (Or.inl rfl) rfl h4 (by decide) rfl rfl rfl (Nat.le_of_ble_eq_true rfl) rfl (Nat.le_of_ble_eq_true rfl) rfl ?_
  refine H.mono (fun v M1 hv => ?_)
  obtain ⟨⟨x1, rfl⟩, h1, ⟨fs1, h19⟩, H1⟩ := hv
  show z_ev _ 0 561 [some (.ref 0), some (.ref 4), some (.ref 19), some (.int i)] [.int x1] _ _
  refine z_e1 (pc1 := 562) (L1 := [some (.ref 0), some (.ref 4), some (.ref 19), some (.int i)]) (S1 := []) zd0_561 rfl rfl rfl ?_
  refine z_e1 (pc1 := 563) (L1 := [some (.ref 0), some (.ref 4), some (.ref 19), some (.int i)]) (S1 := [.ref 19]) zd0_562 rfl rfl rfl ?_
  refine z_e1 (pc1 := 564) (L1 := [some (.ref 0), some (.ref 4), some (.ref 19), some (.int i)]) (S1 := [.ref 0, .ref 19]) zd0_563 rfl rfl rfl ?_
  refine z_e1 (pc1 := 565) (L1 := [some (.ref 0), some (.ref 4), some (.ref 19), some (.int i)]) (S1 := [.int i, .ref 0, .ref 19]) zd0_564 rfl rfl rfl ?_
  refine z_e1 (pc1 := 566) (L1 := [some (.ref 0), some (.ref 4), some (.ref 19), some (.int i)]) (S1 := [.int 1, .int i, .ref 0, .ref 19]) zd0_565 rfl rfl rfl ?_
  refine z_e1 (pc1 := 567) (L1 := [some (.ref 0), some (.ref 4), some (.ref 19), some (.int i)]) (S1 := [.int (i + 1), .ref 0, .ref 19]) zd0_566 rfl rfl rfl ?_
  refine z_eial (y := xs (i + 1).toNatClampNeg) zd0_567 h1 (z_ixk (k := 1) (kk := 1) (by decide) (by decide) (by decide) hi0 hi1 hL) rfl ?_
  refine z_e1 (pc1 := 569) (L1 := [some (.ref 0), some (.ref 4), some (.ref 19), some (.int i)]) (S1 := [.ref 0, .int (xs (i + 1).toNatClampNeg), .ref 19]) zd0_568 rfl rfl rfl ?_
  refine z_e1 (pc1 := 570) (L1 := [some (.ref 0), some (.ref 4), some (.ref 19), some (.int i)]) (S1 := [.int i, .ref 0, .int (xs (i + 1).toNatClampNeg), .ref 19]) zd0_569 rfl rfl rfl ?_
  refine z_e1 (pc1 := 571) (L1 := [some (.ref 0), some (.ref 4), some (.ref 19), some (.int i)]) (S1 := [.int 2, .int i, .ref 0, .int (xs (i + 1).toNatClampNeg), .ref 19]) zd0_570 rfl rfl rfl ?_
  refine z_e1 (pc1 := 572) (L1 := [some (.ref 0), some (.ref 4), some (.ref 19), some (.int i)]) (S1 := [.int (i + 2), .ref 0, .int (xs (i + 1).toNatClampNeg), .ref 19]) zd0_571 rfl rfl rfl ?_
  refine z_eial (y := xs (i + 2).toNatClampNeg) zd0_572 h1 (z_ixk (k := 2) (kk := 2) (by decide) (by decide) (by decide) hi0 hi1 hL) rfl ?_
  refine z_e1 (pc1 := 574) (L1 := [some (.ref 0), some (.ref 4), some (.ref 19), some (.int i)]) (S1 := [.ref 0, .int (xs (i + 2).toNatClampNeg), .int (xs (i + 1).toNatClampNeg), .ref 19]) zd0_573 rfl rfl rfl ?_
  refine z_e1 (pc1 := 575) (L1 := [some (.ref 0), some (.ref 4), some (.ref 19), some (.int i)]) (S1 := [.int i, .ref 0, .int (xs (i + 2).toNatClampNeg), .int (xs (i + 1).toNatClampNeg), .ref 19]) zd0_574 rfl rfl rfl ?_
  refine z_e1 (pc1 := 576) (L1 := [some (.ref 0), some (.ref 4), some (.ref 19), some (.int i)]) (S1 := [.int 3, .int i, .ref 0, .int (xs (i + 2).toNatClampNeg), .int (xs (i + 1).toNatClampNeg), .ref 19]) zd0_575 rfl rfl rfl ?_
  refine z_e1 (pc1 := 577) (L1 := [some (.ref 0), some (.ref 4), some (.ref 19), some (.int i)]) (S1 := [.int (i + 3), .ref 0, .int (xs (i + 2).toNatClampNeg), .int (xs (i + 1).toNatClampNeg), .ref 19]) zd0_576 rfl rfl rfl ?_
  refine z_eial (y := xs (i + 3).toNatClampNeg) zd0_577 h1 (z_ixk (k := 3) (kk := 3) (by decide) (by decide) (by decide) hi0 hi1 hL) rfl ?_
  refine z_e1 (pc1 := 579) (L1 := [some (.ref 0), some (.ref 4), some (.ref 19), some (.int i)]) (S1 := [.ref 0, .int (xs (i + 3).toNatClampNeg), .int (xs (i + 2).toNatClampNeg), .int (xs (i + 1).toNatClampNeg), .ref 19]) zd0_578 rfl rfl rfl ?_
  refine z_e1 (pc1 := 580) (L1 := [some (.ref 0), some (.ref 4), some (.ref 19), some (.int i)]) (S1 := [.int i, .ref 0, .int (xs (i + 3).toNatClampNeg), .int (xs (i + 2).toNatClampNeg), .int (xs (i + 1).toNatClampNeg), .ref 19]) zd0_579 rfl rfl rfl ?_
  refine z_e1 (pc1 := 581) (L1 := [some (.ref 0), some (.ref 4), some (.ref 19), some (.int i)]) (S1 := [.int 4, .int i, .ref 0, .int (xs (i + 3).toNatClampNeg), .int (xs (i + 2).toNatClampNeg), .int (xs (i + 1).toNatClampNeg), .ref 19]) zd0_580 rfl rfl rfl ?_
  refine z_e1 (pc1 := 582) (L1 := [some (.ref 0), some (.ref 4), some (.ref 19), some (.int i)]) (S1 := [.int (i + 4), .ref 0, .int (xs (i + 3).toNatClampNeg), .int (xs (i + 2).toNatClampNeg), .int (xs (i + 1).toNatClampNeg), .ref 19]) zd0_581 rfl rfl rfl ?_
  refine z_eial (y := xs (i + 4).toNatClampNeg) zd0_582 h1 (z_ixk (k := 4) (kk := 4) (by decide) (by decide) (by decide) hi0 hi1 hL) rfl ?_
  refine z_ecV (vs := [.ref 19, .int (xs (i + 1).toNatClampNeg), .int (xs (i + 2).toNatClampNeg), .int (xs (i + 3).toNatClampNeg), .int (xs (i + 4).toNatClampNeg)]) (r := []) (L2 := z_ent [.ref 19, .int (xs (i + 1).toNatClampNeg), .int (xs (i + 2).toNatClampNeg), .int (xs (i + 3).toNatClampNeg), .int (xs (i + 4).toNatClampNeg)] (z_ml 222)) zd0_583 zcV0_56 (Or.inl rfl) rfl h19 (by decide) rfl rfl rfl (Nat.le_of_ble_eq_true rfl) rfl (Nat.le_of_ble_eq_true rfl) rfl ?_
  refine H1.mono (fun v M2 hv => ?_)
  obtain ⟨⟨x2, rfl⟩, hx, H2⟩ := hv
  show z_ev _ 0 586 [some (.ref 0), some (.ref 4), some (.ref 19), some (.int i)] [.int x2] _ _
  refine z_e1 (pc1 := 587) (L1 := [some (.ref 0), some (.ref 4), some (.ref 19), some (.int i)]) (S1 := []) zd0_586 rfl rfl rfl ?_
  refine z_e1 (pc1 := 1774) (L1 := [some (.ref 0), some (.ref 4), some (.ref 19), some (.int i)]) (S1 := []) zd0_587 rfl rfl rfl ?_
  exact H2
theorem z_D10 {M : zH} {xs : Nat → Int32} {L : Nat} {i : Int32} {fs : List Value} {K : Option Value → zH → Prop} (hi0 : 0 ≤ i.toInt) (hi1 : i.toInt + 6 ≤ L) (hL : L ≤ 3072) (h0 : M[0]? = some (.inl (0, L, .inl xs))) (h4 : M[4]? = some (.inr (0, fs)))
    (H : z_ev 2046 57 0 (z_ent [.ref 4, .int (xs (i + 1).toNatClampNeg), .int (xs (i + 2).toNatClampNeg), .int (xs (i + 3).toNatClampNeg), .int (xs (i + 4).toNatClampNeg)] (z_ml 57)) [] M fun v M1 => (∃ x1, v = some (.int x1)) ∧ M1[0]? = some (.inl (0, L, .inl xs)) ∧ (∃ fs1, M1[19]? = some (.inr (12, fs1))) ∧
      z_ev 2046 224 0 (z_ent [.ref 19, .int (xs (i + 1).toNatClampNeg), .int (xs (i + 2).toNatClampNeg), .int (xs (i + 3).toNatClampNeg), .int (xs (i + 4).toNatClampNeg)] (z_ml 224)) [] M1 fun v2 M2 => (∃ x2, v2 = some (.int x2)) ∧ True ∧ z_ev 2047 0 1774 [some (.ref 0), some (.ref 4), some (.ref 19), some (.int i)] [] M2 K) : z_ev 2047 0 590 [some (.ref 0), some (.ref 4), some (.ref 19), some (.int i)] [] M K := by
  refine z_e1 (pc1 := 591) (L1 := [some (.ref 0), some (.ref 4), some (.ref 19), some (.int i)]) (S1 := [.ref 4]) zd0_590 rfl rfl rfl ?_
  refine z_e1 (pc1 := 592) (L1 := [some (.ref 0), some (.ref 4), some (.ref 19), some (.int i)]) (S1 := [.ref 0, .ref 4]) zd0_591 rfl rfl rfl ?_
  refine z_e1 (pc1 := 593) (L1 := [some (.ref 0), some (.ref 4), some (.ref 19), some (.int i)]) (S1 := [.int i, .ref 0, .ref 4]) zd0_592 rfl rfl rfl ?_
  refine z_e1 (pc1 := 594) (L1 := [some (.ref 0), some (.ref 4), some (.ref 19), some (.int i)]) (S1 := [.int 1, .int i, .ref 0, .ref 4]) zd0_593 rfl rfl rfl ?_
  refine z_e1 (pc1 := 595) (L1 := [some (.ref 0), some (.ref 4), some (.ref 19), some (.int i)]) (S1 := [.int (i + 1), .ref 0, .ref 4]) zd0_594 rfl rfl rfl ?_
  refine z_eial (y := xs (i + 1).toNatClampNeg) zd0_595 h0 (z_ixk (k := 1) (kk := 1) (by decide) (by decide) (by decide) hi0 hi1 hL) rfl ?_
  refine z_e1 (pc1 := 597) (L1 := [some (.ref 0), some (.ref 4), some (.ref 19), some (.int i)]) (S1 := [.ref 0, .int (xs (i + 1).toNatClampNeg), .ref 4]) zd0_596 rfl rfl rfl ?_
  refine z_e1 (pc1 := 598) (L1 := [some (.ref 0), some (.ref 4), some (.ref 19), some (.int i)]) (S1 := [.int i, .ref 0, .int (xs (i + 1).toNatClampNeg), .ref 4]) zd0_597 rfl rfl rfl ?_
  refine z_e1 (pc1 := 599) (L1 := [some (.ref 0), some (.ref 4), some (.ref 19), some (.int i)]) (S1 := [.int 2, .int i, .ref 0, .int (xs (i + 1).toNatClampNeg), .ref 4]) zd0_598 rfl rfl rfl ?_
  refine z_e1 (pc1 := 600) (L1 := [some (.ref 0), some (.ref 4), some (.ref 19), some (.int i)]) (S1 := [.int (i + 2), .ref 0, .int (xs (i + 1).toNatClampNeg), .ref 4]) zd0_599 rfl rfl rfl ?_
  refine z_eial (y := xs (i + 2).toNatClampNeg) zd0_600 h0 (z_ixk (k := 2) (kk := 2) (by decide) (by decide) (by decide) hi0 hi1 hL) rfl ?_
  refine z_e1 (pc1 := 602) (L1 := [some (.ref 0), some (.ref 4), some (.ref 19), some (.int i)]) (S1 := [.ref 0, .int (xs (i + 2).toNatClampNeg), .int (xs (i + 1).toNatClampNeg), .ref 4]) zd0_601 rfl rfl rfl ?_
  refine z_e1 (pc1 := 603) (L1 := [some (.ref 0), some (.ref 4), some (.ref 19), some (.int i)]) (S1 := [.int i, .ref 0, .int (xs (i + 2).toNatClampNeg), .int (xs (i + 1).toNatClampNeg), .ref 4]) zd0_602 rfl rfl rfl ?_
  refine z_e1 (pc1 := 604) (L1 := [some (.ref 0), some (.ref 4), some (.ref 19), some (.int i)]) (S1 := [.int 3, .int i, .ref 0, .int (xs (i + 2).toNatClampNeg), .int (xs (i + 1).toNatClampNeg), .ref 4]) zd0_603 rfl rfl rfl ?_
  refine z_e1 (pc1 := 605) (L1 := [some (.ref 0), some (.ref 4), some (.ref 19), some (.int i)]) (S1 := [.int (i + 3), .ref 0, .int (xs (i + 2).toNatClampNeg), .int (xs (i + 1).toNatClampNeg), .ref 4]) zd0_604 rfl rfl rfl ?_
  refine z_eial (y := xs (i + 3).toNatClampNeg) zd0_605 h0 (z_ixk (k := 3) (kk := 3) (by decide) (by decide) (by decide) hi0 hi1 hL) rfl ?_
  refine z_e1 (pc1 := 607) (L1 := [some (.ref 0), some (.ref 4), some (.ref 19), some (.int i)]) (S1 := [.ref 0, .int (xs (i + 3).toNatClampNeg), .int (xs (i + 2).toNatClampNeg), .int (xs (i + 1).toNatClampNeg), .ref 4]) zd0_606 rfl rfl rfl ?_
  refine z_e1 (pc1 := 608) (L1 := [some (.ref 0), some (.ref 4), some (.ref 19), some (.int i)]) (S1 := [.int i, .ref 0, .int (xs (i + 3).toNatClampNeg), .int (xs (i + 2).toNatClampNeg), .int (xs (i + 1).toNatClampNeg), .ref 4]) zd0_607 rfl rfl rfl ?_
  refine z_e1 (pc1 := 609) (L1 := [some (.ref 0), some (.ref 4), some (.ref 19), some (.int i)]) (S1 := [.int 4, .int i, .ref 0, .int (xs (i + 3).toNatClampNeg), .int (xs (i + 2).toNatClampNeg), .int (xs (i + 1).toNatClampNeg), .ref 4]) zd0_608 rfl rfl rfl ?_
  refine z_e1 (pc1 := 610) (L1 := [some (.ref 0), some (.ref 4), some (.ref 19), some (.int i)]) (S1 := [.int (i + 4), .ref 0, .int (xs (i + 3).toNatClampNeg), .int (xs (i + 2).toNatClampNeg), .int (xs (i + 1).toNatClampNeg), .ref 4]) zd0_609 rfl rfl rfl ?_
  refine z_eial (y := xs (i + 4).toNatClampNeg) zd0_610 h0 (z_ixk (k := 4) (kk := 4) (by decide) (by decide) (by decide) hi0 hi1 hL) rfl ?_
  refine z_ecV (vs := [.ref 4, .int (xs (i + 1).toNatClampNeg), .int (xs (i + 2).toNatClampNeg), .int (xs (i + 3).toNatClampNeg), .int (xs (i + 4).toNatClampNeg)]) (r := []) (L2 := z_ent [.ref 4, .int (xs (i + 1).toNatClampNeg), .int (xs (i + 2).toNatClampNeg), .int (xs (i + 3).toNatClampNeg), .int (xs (i + 4).toNatClampNeg)] (z_ml 57)) zd0_611 zcV0_57 (Or.inl rfl) rfl h4 (by decide) rfl rfl rfl (Nat.le_of_ble_eq_true rfl) rfl (Nat.le_of_ble_eq_true rfl) rfl ?_
  refine H.mono (fun v M1 hv => ?_)
  obtain ⟨⟨x1, rfl⟩, h1, ⟨fs1, h19⟩, H1⟩ := hv
  show z_ev _ 0 614 [some (.ref 0), some (.ref 4), some (.ref 19), some (.int i)] [.int x1] _ _
  refine z_e1 (pc1 := 615) (L1 := [some (.ref 0), some (.ref 4), some (.ref 19), some (.int i)]) (S1 := []) zd0_614 rfl rfl rfl ?_
  refine z_e1 (pc1 := 616) (L1 := [some (.ref 0), some (.ref 4), some (.ref 19), some (.int i)]) (S1 := [.ref 19]) zd0_615 rfl rfl rfl ?_
  refine z_e1 (pc1 := 617) (L1 := [some (.ref 0), some (.ref 4), some (.ref 19), some (.int i)]) (S1 := [.ref 0, .ref 19]) zd0_616 rfl rfl rfl ?_
  refine z_e1 (pc1 := 618) (L1 := [some (.ref 0), some (.ref 4), some (.ref 19), some (.int i)]) (S1 := [.int i, .ref 0, .ref 19]) zd0_617 rfl rfl rfl ?_
  refine z_e1 (pc1 := 619) (L1 := [some (.ref 0), some (.ref 4), some (.ref 19), some (.int i)]) (S1 := [.int 1, .int i, .ref 0, .ref 19]) zd0_618 rfl rfl rfl ?_
  refine z_e1 (pc1 := 620) (L1 := [some (.ref 0), some (.ref 4), some (.ref 19), some (.int i)]) (S1 := [.int (i + 1), .ref 0, .ref 19]) zd0_619 rfl rfl rfl ?_
  refine z_eial (y := xs (i + 1).toNatClampNeg) zd0_620 h1 (z_ixk (k := 1) (kk := 1) (by decide) (by decide) (by decide) hi0 hi1 hL) rfl ?_
  refine z_e1 (pc1 := 622) (L1 := [some (.ref 0), some (.ref 4), some (.ref 19), some (.int i)]) (S1 := [.ref 0, .int (xs (i + 1).toNatClampNeg), .ref 19]) zd0_621 rfl rfl rfl ?_
  refine z_e1 (pc1 := 623) (L1 := [some (.ref 0), some (.ref 4), some (.ref 19), some (.int i)]) (S1 := [.int i, .ref 0, .int (xs (i + 1).toNatClampNeg), .ref 19]) zd0_622 rfl rfl rfl ?_
  refine z_e1 (pc1 := 624) (L1 := [some (.ref 0), some (.ref 4), some (.ref 19), some (.int i)]) (S1 := [.int 2, .int i, .ref 0, .int (xs (i + 1).toNatClampNeg), .ref 19]) zd0_623 rfl rfl rfl ?_
  refine z_e1 (pc1 := 625) (L1 := [some (.ref 0), some (.ref 4), some (.ref 19), some (.int i)]) (S1 := [.int (i + 2), .ref 0, .int (xs (i + 1).toNatClampNeg), .ref 19]) zd0_624 rfl rfl rfl ?_
  refine z_eial (y := xs (i + 2).toNatClampNeg) zd0_625 h1 (z_ixk (k := 2) (kk := 2) (by decide) (by decide) (by decide) hi0 hi1 hL) rfl ?_
  refine z_e1 (pc1 := 627) (L1 := [some (.ref 0), some (.ref 4), some (.ref 19), some (.int i)]) (S1 := [.ref 0, .int (xs (i + 2).toNatClampNeg), .int (xs (i + 1).toNatClampNeg), .ref 19]) zd0_626 rfl rfl rfl ?_
  refine z_e1 (pc1 := 628) (L1 := [some (.ref 0), some (.ref 4), some (.ref 19), some (.int i)]) (S1 := [.int i, .ref 0, .int (xs (i + 2).toNatClampNeg), .int (xs (i + 1).toNatClampNeg), .ref 19]) zd0_627 rfl rfl rfl ?_
  refine z_e1 (pc1 := 629) (L1 := [some (.ref 0), some (.ref 4), some (.ref 19), some (.int i)]) (S1 := [.int 3, .int i, .ref 0, .int (xs (i + 2).toNatClampNeg), .int (xs (i + 1).toNatClampNeg), .ref 19]) zd0_628 rfl rfl rfl ?_
  refine z_e1 (pc1 := 630) (L1 := [some (.ref 0), some (.ref 4), some (.ref 19), some (.int i)]) (S1 := [.int (i + 3), .ref 0, .int (xs (i + 2).toNatClampNeg), .int (xs (i + 1).toNatClampNeg), .ref 19]) zd0_629 rfl rfl rfl ?_
  refine z_eial (y := xs (i + 3).toNatClampNeg) zd0_630 h1 (z_ixk (k := 3) (kk := 3) (by decide) (by decide) (by decide) hi0 hi1 hL) rfl ?_
  refine z_e1 (pc1 := 632) (L1 := [some (.ref 0), some (.ref 4), some (.ref 19), some (.int i)]) (S1 := [.ref 0, .int (xs (i + 3).toNatClampNeg), .int (xs (i + 2).toNatClampNeg), .int (xs (i + 1).toNatClampNeg), .ref 19]) zd0_631 rfl rfl rfl ?_
  refine z_e1 (pc1 := 633) (L1 := [some (.ref 0), some (.ref 4), some (.ref 19), some (.int i)]) (S1 := [.int i, .ref 0, .int (xs (i + 3).toNatClampNeg), .int (xs (i + 2).toNatClampNeg), .int (xs (i + 1).toNatClampNeg), .ref 19]) zd0_632 rfl rfl rfl ?_
  refine z_e1 (pc1 := 634) (L1 := [some (.ref 0), some (.ref 4), some (.ref 19), some (.int i)]) (S1 := [.int 4, .int i, .ref 0, .int (xs (i + 3).toNatClampNeg), .int (xs (i + 2).toNatClampNeg), .int (xs (i + 1).toNatClampNeg), .ref 19]) zd0_633 rfl rfl rfl ?_
  refine z_e1 (pc1 := 635) (L1 := [some (.ref 0), some (.ref 4), some (.ref 19), some (.int i)]) (S1 := [.int (i + 4), .ref 0, .int (xs (i + 3).toNatClampNeg), .int (xs (i + 2).toNatClampNeg), .int (xs (i + 1).toNatClampNeg), .ref 19]) zd0_634 rfl rfl rfl ?_
  refine z_eial (y := xs (i + 4).toNatClampNeg) zd0_635 h1 (z_ixk (k := 4) (kk := 4) (by decide) (by decide) (by decide) hi0 hi1 hL) rfl ?_
  refine z_ecV (vs := [.ref 19, .int (xs (i + 1).toNatClampNeg), .int (xs (i + 2).toNatClampNeg), .int (xs (i + 3).toNatClampNeg), .int (xs (i + 4).toNatClampNeg)]) (r := []) (L2 := z_ent [.ref 19, .int (xs (i + 1).toNatClampNeg), .int (xs (i + 2).toNatClampNeg), .int (xs (i + 3).toNatClampNeg), .int (xs (i + 4).toNatClampNeg)] (z_ml 224)) zd0_636 zcV0_60 (Or.inl rfl) rfl h19 (by decide) rfl rfl rfl (Nat.le_of_ble_eq_true rfl) rfl (Nat.le_of_ble_eq_true rfl) rfl ?_
  refine H1.mono (fun v M2 hv => ?_)
  obtain ⟨⟨x2, rfl⟩, hx, H2⟩ := hv
  show z_ev _ 0 639 [some (.ref 0), some (.ref 4), some (.ref 19), some (.int i)] [.int x2] _ _
  refine z_e1 (pc1 := 640) (L1 := [some (.ref 0), some (.ref 4), some (.ref 19), some (.int i)]) (S1 := []) zd0_639 rfl rfl rfl ?_
  refine z_e1 (pc1 := 1774) (L1 := [some (.ref 0), some (.ref 4), some (.ref 19), some (.int i)]) (S1 := []) zd0_640 rfl rfl rfl ?_
  exact H2
theorem z_D11 {M : zH} {xs : Nat → Int32} {L : Nat} {i : Int32} {fs : List Value} {K : Option Value → zH → Prop} (hi0 : 0 ≤ i.toInt) (hi1 : i.toInt + 6 ≤ L) (hL : L ≤ 3072) (h0 : M[0]? = some (.inl (0, L, .inl xs))) (h4 : M[4]? = some (.inr (0, fs)))
    (H : z_ev 2046 60 0 (z_ent [.ref 4, .int (xs (i + 1).toNatClampNeg)] (z_ml 60)) [] M fun v M1 => (∃ x1, v = some (.int x1)) ∧ M1[0]? = some (.inl (0, L, .inl xs)) ∧ (∃ fs1, M1[19]? = some (.inr (12, fs1))) ∧
      z_ev 2046 226 0 (z_ent [.ref 19, .int (xs (i + 1).toNatClampNeg)] (z_ml 226)) [] M1 fun v2 M2 => (∃ x2, v2 = some (.int x2)) ∧ True ∧ z_ev 2047 0 1774 [some (.ref 0), some (.ref 4), some (.ref 19), some (.int i)] [] M2 K) : z_ev 2047 0 643 [some (.ref 0), some (.ref 4), some (.ref 19), some (.int i)] [] M K := by
  refine z_e1 (pc1 := 644) (L1 := [some (.ref 0), some (.ref 4), some (.ref 19), some (.int i)]) (S1 := [.ref 4]) zd0_643 rfl rfl rfl ?_
  refine z_e1 (pc1 := 645) (L1 := [some (.ref 0), some (.ref 4), some (.ref 19), some (.int i)]) (S1 := [.ref 0, .ref 4]) zd0_644 rfl rfl rfl ?_
  refine z_e1 (pc1 := 646) (L1 := [some (.ref 0), some (.ref 4), some (.ref 19), some (.int i)]) (S1 := [.int i, .ref 0, .ref 4]) zd0_645 rfl rfl rfl ?_
  refine z_e1 (pc1 := 647) (L1 := [some (.ref 0), some (.ref 4), some (.ref 19), some (.int i)]) (S1 := [.int 1, .int i, .ref 0, .ref 4]) zd0_646 rfl rfl rfl ?_
  refine z_e1 (pc1 := 648) (L1 := [some (.ref 0), some (.ref 4), some (.ref 19), some (.int i)]) (S1 := [.int (i + 1), .ref 0, .ref 4]) zd0_647 rfl rfl rfl ?_
  refine z_eial (y := xs (i + 1).toNatClampNeg) zd0_648 h0 (z_ixk (k := 1) (kk := 1) (by decide) (by decide) (by decide) hi0 hi1 hL) rfl ?_
  refine z_ecV (vs := [.ref 4, .int (xs (i + 1).toNatClampNeg)]) (r := []) (L2 := z_ent [.ref 4, .int (xs (i + 1).toNatClampNeg)] (z_ml 60)) zd0_649 zcV0_61 (Or.inl rfl) rfl h4 (by decide) rfl rfl rfl (Nat.le_of_ble_eq_true rfl) rfl (Nat.le_of_ble_eq_true rfl) rfl ?_
  refine H.mono (fun v M1 hv => ?_)
  obtain ⟨⟨x1, rfl⟩, h1, ⟨fs1, h19⟩, H1⟩ := hv
  show z_ev _ 0 652 [some (.ref 0), some (.ref 4), some (.ref 19), some (.int i)] [.int x1] _ _
  refine z_e1 (pc1 := 653) (L1 := [some (.ref 0), some (.ref 4), some (.ref 19), some (.int i)]) (S1 := []) zd0_652 rfl rfl rfl ?_
  refine z_e1 (pc1 := 654) (L1 := [some (.ref 0), some (.ref 4), some (.ref 19), some (.int i)]) (S1 := [.ref 19]) zd0_653 rfl rfl rfl ?_
  refine z_e1 (pc1 := 655) (L1 := [some (.ref 0), some (.ref 4), some (.ref 19), some (.int i)]) (S1 := [.ref 0, .ref 19]) zd0_654 rfl rfl rfl ?_
  refine z_e1 (pc1 := 656) (L1 := [some (.ref 0), some (.ref 4), some (.ref 19), some (.int i)]) (S1 := [.int i, .ref 0, .ref 19]) zd0_655 rfl rfl rfl ?_
  refine z_e1 (pc1 := 657) (L1 := [some (.ref 0), some (.ref 4), some (.ref 19), some (.int i)]) (S1 := [.int 1, .int i, .ref 0, .ref 19]) zd0_656 rfl rfl rfl ?_
  refine z_e1 (pc1 := 658) (L1 := [some (.ref 0), some (.ref 4), some (.ref 19), some (.int i)]) (S1 := [.int (i + 1), .ref 0, .ref 19]) zd0_657 rfl rfl rfl ?_
  refine z_eial (y := xs (i + 1).toNatClampNeg) zd0_658 h1 (z_ixk (k := 1) (kk := 1) (by decide) (by decide) (by decide) hi0 hi1 hL) rfl ?_
  refine z_ecV (vs := [.ref 19, .int (xs (i + 1).toNatClampNeg)]) (r := []) (L2 := z_ent [.ref 19, .int (xs (i + 1).toNatClampNeg)] (z_ml 226)) zd0_659 zcV0_65 (Or.inl rfl) rfl h19 (by decide) rfl rfl rfl (Nat.le_of_ble_eq_true rfl) rfl (Nat.le_of_ble_eq_true rfl) rfl ?_
  refine H1.mono (fun v M2 hv => ?_)
  obtain ⟨⟨x2, rfl⟩, hx, H2⟩ := hv
  show z_ev _ 0 662 [some (.ref 0), some (.ref 4), some (.ref 19), some (.int i)] [.int x2] _ _
  refine z_e1 (pc1 := 663) (L1 := [some (.ref 0), some (.ref 4), some (.ref 19), some (.int i)]) (S1 := []) zd0_662 rfl rfl rfl ?_
  refine z_e1 (pc1 := 1774) (L1 := [some (.ref 0), some (.ref 4), some (.ref 19), some (.int i)]) (S1 := []) zd0_663 rfl rfl rfl ?_
  exact H2
theorem z_D12 {M : zH} {xs : Nat → Int32} {L : Nat} {i : Int32} {fs : List Value} {K : Option Value → zH → Prop} (hi0 : 0 ≤ i.toInt) (hi1 : i.toInt + 6 ≤ L) (hL : L ≤ 3072) (h0 : M[0]? = some (.inl (0, L, .inl xs))) (h4 : M[4]? = some (.inr (0, fs)))
    (H : z_ev 2046 62 0 (z_ent [.ref 4, .int (xs (i + 1).toNatClampNeg), .int (xs (i + 2).toNatClampNeg), .int (xs (i + 3).toNatClampNeg)] (z_ml 62)) [] M fun v M1 => (∃ x1, v = some (.int x1)) ∧ M1[0]? = some (.inl (0, L, .inl xs)) ∧ (∃ fs1, M1[19]? = some (.inr (12, fs1))) ∧
      z_ev 2046 227 0 (z_ent [.ref 19, .int (xs (i + 1).toNatClampNeg), .int (xs (i + 2).toNatClampNeg), .int (xs (i + 3).toNatClampNeg)] (z_ml 227)) [] M1 fun v2 M2 => (∃ x2, v2 = some (.int x2)) ∧ True ∧ z_ev 2047 0 1774 [some (.ref 0), some (.ref 4), some (.ref 19), some (.int i)] [] M2 K) : z_ev 2047 0 666 [some (.ref 0), some (.ref 4), some (.ref 19), some (.int i)] [] M K := by
  refine z_e1 (pc1 := 667) (L1 := [some (.ref 0), some (.ref 4), some (.ref 19), some (.int i)]) (S1 := [.ref 4]) zd0_666 rfl rfl rfl ?_
  refine z_e1 (pc1 := 668) (L1 := [some (.ref 0), some (.ref 4), some (.ref 19), some (.int i)]) (S1 := [.ref 0, .ref 4]) zd0_667 rfl rfl rfl ?_
  refine z_e1 (pc1 := 669) (L1 := [some (.ref 0), some (.ref 4), some (.ref 19), some (.int i)]) (S1 := [.int i, .ref 0, .ref 4]) zd0_668 rfl rfl rfl ?_
  refine z_e1 (pc1 := 670) (L1 := [some (.ref 0), some (.ref 4), some (.ref 19), some (.int i)]) (S1 := [.int 1, .int i, .ref 0, .ref 4]) zd0_669 rfl rfl rfl ?_
  refine z_e1 (pc1 := 671) (L1 := [some (.ref 0), some (.ref 4), some (.ref 19), some (.int i)]) (S1 := [.int (i + 1), .ref 0, .ref 4]) zd0_670 rfl rfl rfl ?_
  refine z_eial (y := xs (i + 1).toNatClampNeg) zd0_671 h0 (z_ixk (k := 1) (kk := 1) (by decide) (by decide) (by decide) hi0 hi1 hL) rfl ?_
  refine z_e1 (pc1 := 673) (L1 := [some (.ref 0), some (.ref 4), some (.ref 19), some (.int i)]) (S1 := [.ref 0, .int (xs (i + 1).toNatClampNeg), .ref 4]) zd0_672 rfl rfl rfl ?_
  refine z_e1 (pc1 := 674) (L1 := [some (.ref 0), some (.ref 4), some (.ref 19), some (.int i)]) (S1 := [.int i, .ref 0, .int (xs (i + 1).toNatClampNeg), .ref 4]) zd0_673 rfl rfl rfl ?_
  refine z_e1 (pc1 := 675) (L1 := [some (.ref 0), some (.ref 4), some (.ref 19), some (.int i)]) (S1 := [.int 2, .int i, .ref 0, .int (xs (i + 1).toNatClampNeg), .ref 4]) zd0_674 rfl rfl rfl ?_
  refine z_e1 (pc1 := 676) (L1 := [some (.ref 0), some (.ref 4), some (.ref 19), some (.int i)]) (S1 := [.int (i + 2), .ref 0, .int (xs (i + 1).toNatClampNeg), .ref 4]) zd0_675 rfl rfl rfl ?_
  refine z_eial (y := xs (i + 2).toNatClampNeg) zd0_676 h0 (z_ixk (k := 2) (kk := 2) (by decide) (by decide) (by decide) hi0 hi1 hL) rfl ?_
  refine z_e1 (pc1 := 678) (L1 := [some (.ref 0), some (.ref 4), some (.ref 19), some (.int i)]) (S1 := [.ref 0, .int (xs (i + 2).toNatClampNeg), .int (xs (i + 1).toNatClampNeg), .ref 4]) zd0_677 rfl rfl rfl ?_
  refine z_e1 (pc1 := 679) (L1 := [some (.ref 0), some (.ref 4), some (.ref 19), some (.int i)]) (S1 := [.int i, .ref 0, .int (xs (i + 2).toNatClampNeg), .int (xs (i + 1).toNatClampNeg), .ref 4]) zd0_678 rfl rfl rfl ?_
  refine z_e1 (pc1 := 680) (L1 := [some (.ref 0), some (.ref 4), some (.ref 19), some (.int i)]) (S1 := [.int 3, .int i, .ref 0, .int (xs (i + 2).toNatClampNeg), .int (xs (i + 1).toNatClampNeg), .ref 4]) zd0_679 rfl rfl rfl ?_
  refine z_e1 (pc1 := 681) (L1 := [some (.ref 0), some (.ref 4), some (.ref 19), some (.int i)]) (S1 := [.int (i + 3), .ref 0, .int (xs (i + 2).toNatClampNeg), .int (xs (i + 1).toNatClampNeg), .ref 4]) zd0_680 rfl rfl rfl ?_
  refine z_eial (y := xs (i + 3).toNatClampNeg) zd0_681 h0 (z_ixk (k := 3) (kk := 3) (by decide) (by decide) (by decide) hi0 hi1 hL) rfl ?_
  refine z_ecV (vs := [.ref 4, .int (xs (i + 1).toNatClampNeg), .int (xs (i + 2).toNatClampNeg), .int (xs (i + 3).toNatClampNeg)]) (r := []) (L2 := z_ent [.ref 4, .int (xs (i + 1).toNatClampNeg), .int (xs (i + 2).toNatClampNeg), .int (xs (i + 3).toNatClampNeg)] (z_ml 62)) zd0_682 zcV0_66 (Or.inl rfl) rfl h4 (by decide) rfl rfl rfl (Nat.le_of_ble_eq_true rfl) rfl (Nat.le_of_ble_eq_true rfl) rfl ?_
  refine H.mono (fun v M1 hv => ?_)
  obtain ⟨⟨x1, rfl⟩, h1, ⟨fs1, h19⟩, H1⟩ := hv
  show z_ev _ 0 685 [some (.ref 0), some (.ref 4), some (.ref 19), some (.int i)] [.int x1] _ _
  refine z_e1 (pc1 := 686) (L1 := [some (.ref 0), some (.ref 4), some (.ref 19), some (.int i)]) (S1 := []) zd0_685 rfl rfl rfl ?_
  refine z_e1 (pc1 := 687) (L1 := [some (.ref 0), some (.ref 4), some (.ref 19), some (.int i)]) (S1 := [.ref 19]) zd0_686 rfl rfl rfl ?_
  refine z_e1 (pc1 := 688) (L1 := [some (.ref 0), some (.ref 4), some (.ref 19), some (.int i)]) (S1 := [.ref 0, .ref 19]) zd0_687 rfl rfl rfl ?_
  refine z_e1 (pc1 := 689) (L1 := [some (.ref 0), some (.ref 4), some (.ref 19), some (.int i)]) (S1 := [.int i, .ref 0, .ref 19]) zd0_688 rfl rfl rfl ?_
  refine z_e1 (pc1 := 690) (L1 := [some (.ref 0), some (.ref 4), some (.ref 19), some (.int i)]) (S1 := [.int 1, .int i, .ref 0, .ref 19]) zd0_689 rfl rfl rfl ?_
  refine z_e1 (pc1 := 691) (L1 := [some (.ref 0), some (.ref 4), some (.ref 19), some (.int i)]) (S1 := [.int (i + 1), .ref 0, .ref 19]) zd0_690 rfl rfl rfl ?_
  refine z_eial (y := xs (i + 1).toNatClampNeg) zd0_691 h1 (z_ixk (k := 1) (kk := 1) (by decide) (by decide) (by decide) hi0 hi1 hL) rfl ?_
  refine z_e1 (pc1 := 693) (L1 := [some (.ref 0), some (.ref 4), some (.ref 19), some (.int i)]) (S1 := [.ref 0, .int (xs (i + 1).toNatClampNeg), .ref 19]) zd0_692 rfl rfl rfl ?_
  refine z_e1 (pc1 := 694) (L1 := [some (.ref 0), some (.ref 4), some (.ref 19), some (.int i)]) (S1 := [.int i, .ref 0, .int (xs (i + 1).toNatClampNeg), .ref 19]) zd0_693 rfl rfl rfl ?_
  refine z_e1 (pc1 := 695) (L1 := [some (.ref 0), some (.ref 4), some (.ref 19), some (.int i)]) (S1 := [.int 2, .int i, .ref 0, .int (xs (i + 1).toNatClampNeg), .ref 19]) zd0_694 rfl rfl rfl ?_
  refine z_e1 (pc1 := 696) (L1 := [some (.ref 0), some (.ref 4), some (.ref 19), some (.int i)]) (S1 := [.int (i + 2), .ref 0, .int (xs (i + 1).toNatClampNeg), .ref 19]) zd0_695 rfl rfl rfl ?_
  refine z_eial (y := xs (i + 2).toNatClampNeg) zd0_696 h1 (z_ixk (k := 2) (kk := 2) (by decide) (by decide) (by decide) hi0 hi1 hL) rfl ?_
  refine z_e1 (pc1 := 698) (L1 := [some (.ref 0), some (.ref 4), some (.ref 19), some (.int i)]) (S1 := [.ref 0, .int (xs (i + 2).toNatClampNeg), .int (xs (i + 1).toNatClampNeg), .ref 19]) zd0_697 rfl rfl rfl ?_
  refine z_e1 (pc1 := 699) (L1 := [some (.ref 0), some (.ref 4), some (.ref 19), some (.int i)]) (S1 := [.int i, .ref 0, .int (xs (i + 2).toNatClampNeg), .int (xs (i + 1).toNatClampNeg), .ref 19]) zd0_698 rfl rfl rfl ?_
  refine z_e1 (pc1 := 700) (L1 := [some (.ref 0), some (.ref 4), some (.ref 19), some (.int i)]) (S1 := [.int 3, .int i, .ref 0, .int (xs (i + 2).toNatClampNeg), .int (xs (i + 1).toNatClampNeg), .ref 19]) zd0_699 rfl rfl rfl ?_
  refine z_e1 (pc1 := 701) (L1 := [some (.ref 0), some (.ref 4), some (.ref 19), some (.int i)]) (S1 := [.int (i + 3), .ref 0, .int (xs (i + 2).toNatClampNeg), .int (xs (i + 1).toNatClampNeg), .ref 19]) zd0_700 rfl rfl rfl ?_
  refine z_eial (y := xs (i + 3).toNatClampNeg) zd0_701 h1 (z_ixk (k := 3) (kk := 3) (by decide) (by decide) (by decide) hi0 hi1 hL) rfl ?_
  refine z_ecV (vs := [.ref 19, .int (xs (i + 1).toNatClampNeg), .int (xs (i + 2).toNatClampNeg), .int (xs (i + 3).toNatClampNeg)]) (r := []) (L2 := z_ent [.ref 19, .int (xs (i + 1).toNatClampNeg), .int (xs (i + 2).toNatClampNeg), .int (xs (i + 3).toNatClampNeg)] (z_ml 227)) zd0_702 zcV0_69 (Or.inl rfl) rfl h19 (by decide) rfl rfl rfl (Nat.le_of_ble_eq_true rfl) rfl (Nat.le_of_ble_eq_true rfl) rfl ?_
  refine H1.mono (fun v M2 hv => ?_)
  obtain ⟨⟨x2, rfl⟩, hx, H2⟩ := hv
  show z_ev _ 0 705 [some (.ref 0), some (.ref 4), some (.ref 19), some (.int i)] [.int x2] _ _
  refine z_e1 (pc1 := 706) (L1 := [some (.ref 0), some (.ref 4), some (.ref 19), some (.int i)]) (S1 := []) zd0_705 rfl rfl rfl ?_
  refine z_e1 (pc1 := 1774) (L1 := [some (.ref 0), some (.ref 4), some (.ref 19), some (.int i)]) (S1 := []) zd0_706 rfl rfl rfl ?_
  exact H2
theorem z_D13 {M : zH} {xs : Nat → Int32} {L : Nat} {i : Int32} {fs : List Value} {K : Option Value → zH → Prop} (hi0 : 0 ≤ i.toInt) (hi1 : i.toInt + 6 ≤ L) (hL : L ≤ 3072) (h0 : M[0]? = some (.inl (0, L, .inl xs))) (h4 : M[4]? = some (.inr (0, fs)))
    (H : z_ev 2046 63 0 (z_ent [.ref 4, .int (xs (i + 1).toNatClampNeg), .int (xs (i + 2).toNatClampNeg), .int (xs (i + 3).toNatClampNeg)] (z_ml 63)) [] M fun v M1 => (∃ x1, v = some (.int x1)) ∧ M1[0]? = some (.inl (0, L, .inl xs)) ∧ (∃ fs1, M1[19]? = some (.inr (12, fs1))) ∧
      z_ev 2046 228 0 (z_ent [.ref 19, .int (xs (i + 1).toNatClampNeg), .int (xs (i + 2).toNatClampNeg), .int (xs (i + 3).toNatClampNeg)] (z_ml 228)) [] M1 fun v2 M2 => (∃ x2, v2 = some (.int x2)) ∧ True ∧ z_ev 2047 0 1774 [some (.ref 0), some (.ref 4), some (.ref 19), some (.int i)] [] M2 K) : z_ev 2047 0 709 [some (.ref 0), some (.ref 4), some (.ref 19), some (.int i)] [] M K := by
  refine z_e1 (pc1 := 710) (L1 := [some (.ref 0), some (.ref 4), some (.ref 19), some (.int i)]) (S1 := [.ref 4]) zd0_709 rfl rfl rfl ?_
  refine z_e1 (pc1 := 711) (L1 := [some (.ref 0), some (.ref 4), some (.ref 19), some (.int i)]) (S1 := [.ref 0, .ref 4]) zd0_710 rfl rfl rfl ?_
  refine z_e1 (pc1 := 712) (L1 := [some (.ref 0), some (.ref 4), some (.ref 19), some (.int i)]) (S1 := [.int i, .ref 0, .ref 4]) zd0_711 rfl rfl rfl ?_
  refine z_e1 (pc1 := 713) (L1 := [some (.ref 0), some (.ref 4), some (.ref 19), some (.int i)]) (S1 := [.int 1, .int i, .ref 0, .ref 4]) zd0_712 rfl rfl rfl ?_
  refine z_e1 (pc1 := 714) (L1 := [some (.ref 0), some (.ref 4), some (.ref 19), some (.int i)]) (S1 := [.int (i + 1), .ref 0, .ref 4]) zd0_713 rfl rfl rfl ?_
  refine z_eial (y := xs (i + 1).toNatClampNeg) zd0_714 h0 (z_ixk (k := 1) (kk := 1) (by decide) (by decide) (by decide) hi0 hi1 hL) rfl ?_
  refine z_e1 (pc1 := 716) (L1 := [some (.ref 0), some (.ref 4), some (.ref 19), some (.int i)]) (S1 := [.ref 0, .int (xs (i + 1).toNatClampNeg), .ref 4]) zd0_715 rfl rfl rfl ?_
  refine z_e1 (pc1 := 717) (L1 := [some (.ref 0), some (.ref 4), some (.ref 19), some (.int i)]) (S1 := [.int i, .ref 0, .int (xs (i + 1).toNatClampNeg), .ref 4]) zd0_716 rfl rfl rfl ?_
  refine z_e1 (pc1 := 718) (L1 := [some (.ref 0), some (.ref 4), some (.ref 19), some (.int i)]) (S1 := [.int 2, .int i, .ref 0, .int (xs (i + 1).toNatClampNeg), .ref 4]) zd0_717 rfl rfl rfl ?_
  refine z_e1 (pc1 := 719) (L1 := [some (.ref 0), some (.ref 4), some (.ref 19), some (.int i)]) (S1 := [.int (i + 2), .ref 0, .int (xs (i + 1).toNatClampNeg), .ref 4]) zd0_718 rfl rfl rfl ?_
  refine z_eial (y := xs (i + 2).toNatClampNeg) zd0_719 h0 (z_ixk (k := 2) (kk := 2) (by decide) (by decide) (by decide) hi0 hi1 hL) rfl ?_
  refine z_e1 (pc1 := 721) (L1 := [some (.ref 0), some (.ref 4), some (.ref 19), some (.int i)]) (S1 := [.ref 0, .int (xs (i + 2).toNatClampNeg), .int (xs (i + 1).toNatClampNeg), .ref 4]) zd0_720 rfl rfl rfl ?_
  refine z_e1 (pc1 := 722) (L1 := [some (.ref 0), some (.ref 4), some (.ref 19), some (.int i)]) (S1 := [.int i, .ref 0, .int (xs (i + 2).toNatClampNeg), .int (xs (i + 1).toNatClampNeg), .ref 4]) zd0_721 rfl rfl rfl ?_
  refine z_e1 (pc1 := 723) (L1 := [some (.ref 0), some (.ref 4), some (.ref 19), some (.int i)]) (S1 := [.int 3, .int i, .ref 0, .int (xs (i + 2).toNatClampNeg), .int (xs (i + 1).toNatClampNeg), .ref 4]) zd0_722 rfl rfl rfl ?_
  refine z_e1 (pc1 := 724) (L1 := [some (.ref 0), some (.ref 4), some (.ref 19), some (.int i)]) (S1 := [.int (i + 3), .ref 0, .int (xs (i + 2).toNatClampNeg), .int (xs (i + 1).toNatClampNeg), .ref 4]) zd0_723 rfl rfl rfl ?_
  refine z_eial (y := xs (i + 3).toNatClampNeg) zd0_724 h0 (z_ixk (k := 3) (kk := 3) (by decide) (by decide) (by decide) hi0 hi1 hL) rfl ?_
  refine z_ecV (vs := [.ref 4, .int (xs (i + 1).toNatClampNeg), .int (xs (i + 2).toNatClampNeg), .int (xs (i + 3).toNatClampNeg)]) (r := []) (L2 := z_ent [.ref 4, .int (xs (i + 1).toNatClampNeg), .int (xs (i + 2).toNatClampNeg), .int (xs (i + 3).toNatClampNeg)] (z_ml 63)) zd0_725 zcV0_70 (Or.inl rfl) rfl h4 (by decide) rfl rfl rfl (Nat.le_of_ble_eq_true rfl) rfl (Nat.le_of_ble_eq_true rfl) rfl ?_
  refine H.mono (fun v M1 hv => ?_)
  obtain ⟨⟨x1, rfl⟩, h1, ⟨fs1, h19⟩, H1⟩ := hv
  show z_ev _ 0 728 [some (.ref 0), some (.ref 4), some (.ref 19), some (.int i)] [.int x1] _ _
  refine z_e1 (pc1 := 729) (L1 := [some (.ref 0), some (.ref 4), some (.ref 19), some (.int i)]) (S1 := []) zd0_728 rfl rfl rfl ?_
  refine z_e1 (pc1 := 730) (L1 := [some (.ref 0), some (.ref 4), some (.ref 19), some (.int i)]) (S1 := [.ref 19]) zd0_729 rfl rfl rfl ?_
  refine z_e1 (pc1 := 731) (L1 := [some (.ref 0), some (.ref 4), some (.ref 19), some (.int i)]) (S1 := [.ref 0, .ref 19]) zd0_730 rfl rfl rfl ?_
  refine z_e1 (pc1 := 732) (L1 := [some (.ref 0), some (.ref 4), some (.ref 19), some (.int i)]) (S1 := [.int i, .ref 0, .ref 19]) zd0_731 rfl rfl rfl ?_
  refine z_e1 (pc1 := 733) (L1 := [some (.ref 0), some (.ref 4), some (.ref 19), some (.int i)]) (S1 := [.int 1, .int i, .ref 0, .ref 19]) zd0_732 rfl rfl rfl ?_
  refine z_e1 (pc1 := 734) (L1 := [some (.ref 0), some (.ref 4), some (.ref 19), some (.int i)]) (S1 := [.int (i + 1), .ref 0, .ref 19]) zd0_733 rfl rfl rfl ?_
  refine z_eial (y := xs (i + 1).toNatClampNeg) zd0_734 h1 (z_ixk (k := 1) (kk := 1) (by decide) (by decide) (by decide) hi0 hi1 hL) rfl ?_
  refine z_e1 (pc1 := 736) (L1 := [some (.ref 0), some (.ref 4), some (.ref 19), some (.int i)]) (S1 := [.ref 0, .int (xs (i + 1).toNatClampNeg), .ref 19]) zd0_735 rfl rfl rfl ?_
  refine z_e1 (pc1 := 737) (L1 := [some (.ref 0), some (.ref 4), some (.ref 19), some (.int i)]) (S1 := [.int i, .ref 0, .int (xs (i + 1).toNatClampNeg), .ref 19]) zd0_736 rfl rfl rfl ?_
  refine z_e1 (pc1 := 738) (L1 := [some (.ref 0), some (.ref 4), some (.ref 19), some (.int i)]) (S1 := [.int 2, .int i, .ref 0, .int (xs (i + 1).toNatClampNeg), .ref 19]) zd0_737 rfl rfl rfl ?_
  refine z_e1 (pc1 := 739) (L1 := [some (.ref 0), some (.ref 4), some (.ref 19), some (.int i)]) (S1 := [.int (i + 2), .ref 0, .int (xs (i + 1).toNatClampNeg), .ref 19]) zd0_738 rfl rfl rfl ?_
  refine z_eial (y := xs (i + 2).toNatClampNeg) zd0_739 h1 (z_ixk (k := 2) (kk := 2) (by decide) (by decide) (by decide) hi0 hi1 hL) rfl ?_
  refine z_e1 (pc1 := 741) (L1 := [some (.ref 0), some (.ref 4), some (.ref 19), some (.int i)]) (S1 := [.ref 0, .int (xs (i + 2).toNatClampNeg), .int (xs (i + 1).toNatClampNeg), .ref 19]) zd0_740 rfl rfl rfl ?_
  refine z_e1 (pc1 := 742) (L1 := [some (.ref 0), some (.ref 4), some (.ref 19), some (.int i)]) (S1 := [.int i, .ref 0, .int (xs (i + 2).toNatClampNeg), .int (xs (i + 1).toNatClampNeg), .ref 19]) zd0_741 rfl rfl rfl ?_
  refine z_e1 (pc1 := 743) (L1 := [some (.ref 0), some (.ref 4), some (.ref 19), some (.int i)]) (S1 := [.int 3, .int i, .ref 0, .int (xs (i + 2).toNatClampNeg), .int (xs (i + 1).toNatClampNeg), .ref 19]) zd0_742 rfl rfl rfl ?_
  refine z_e1 (pc1 := 744) (L1 := [some (.ref 0), some (.ref 4), some (.ref 19), some (.int i)]) (S1 := [.int (i + 3), .ref 0, .int (xs (i + 2).toNatClampNeg), .int (xs (i + 1).toNatClampNeg), .ref 19]) zd0_743 rfl rfl rfl ?_
  refine z_eial (y := xs (i + 3).toNatClampNeg) zd0_744 h1 (z_ixk (k := 3) (kk := 3) (by decide) (by decide) (by decide) hi0 hi1 hL) rfl ?_
  refine z_ecV (vs := [.ref 19, .int (xs (i + 1).toNatClampNeg), .int (xs (i + 2).toNatClampNeg), .int (xs (i + 3).toNatClampNeg)]) (r := []) (L2 := z_ent [.ref 19, .int (xs (i + 1).toNatClampNeg), .int (xs (i + 2).toNatClampNeg), .int (xs (i + 3).toNatClampNeg)] (z_ml 228)) zd0_745 zcV0_73 (Or.inl rfl) rfl h19 (by decide) rfl rfl rfl (Nat.le_of_ble_eq_true rfl) rfl (Nat.le_of_ble_eq_true rfl) rfl ?_
  refine H1.mono (fun v M2 hv => ?_)
  obtain ⟨⟨x2, rfl⟩, hx, H2⟩ := hv
  show z_ev _ 0 748 [some (.ref 0), some (.ref 4), some (.ref 19), some (.int i)] [.int x2] _ _
  refine z_e1 (pc1 := 749) (L1 := [some (.ref 0), some (.ref 4), some (.ref 19), some (.int i)]) (S1 := []) zd0_748 rfl rfl rfl ?_
  refine z_e1 (pc1 := 1774) (L1 := [some (.ref 0), some (.ref 4), some (.ref 19), some (.int i)]) (S1 := []) zd0_749 rfl rfl rfl ?_
  exact H2
theorem z_D14 {M : zH} {xs : Nat → Int32} {L : Nat} {i : Int32} {fs : List Value} {K : Option Value → zH → Prop} (hi0 : 0 ≤ i.toInt) (hi1 : i.toInt + 6 ≤ L) (hL : L ≤ 3072) (h0 : M[0]? = some (.inl (0, L, .inl xs))) (h4 : M[4]? = some (.inr (0, fs)))
    (H : z_ev 2046 66 0 (z_ent [.ref 4, .int (xs (i + 1).toNatClampNeg), .int (xs (i + 2).toNatClampNeg)] (z_ml 66)) [] M fun v M1 => (∃ x1, v = some (.int x1)) ∧ M1[0]? = some (.inl (0, L, .inl xs)) ∧ (∃ fs1, M1[19]? = some (.inr (12, fs1))) ∧
      z_ev 2046 231 0 (z_ent [.ref 19, .int (xs (i + 1).toNatClampNeg), .int (xs (i + 2).toNatClampNeg)] (z_ml 231)) [] M1 fun v2 M2 => (∃ x2, v2 = some (.int x2)) ∧ True ∧ z_ev 2047 0 1774 [some (.ref 0), some (.ref 4), some (.ref 19), some (.int i)] [] M2 K) : z_ev 2047 0 752 [some (.ref 0), some (.ref 4), some (.ref 19), some (.int i)] [] M K := by
  refine z_e1 (pc1 := 753) (L1 := [some (.ref 0), some (.ref 4), some (.ref 19), some (.int i)]) (S1 := [.ref 4]) zd0_752 rfl rfl rfl ?_
  refine z_e1 (pc1 := 754) (L1 := [some (.ref 0), some (.ref 4), some (.ref 19), some (.int i)]) (S1 := [.ref 0, .ref 4]) zd0_753 rfl rfl rfl ?_
  refine z_e1 (pc1 := 755) (L1 := [some (.ref 0), some (.ref 4), some (.ref 19), some (.int i)]) (S1 := [.int i, .ref 0, .ref 4]) zd0_754 rfl rfl rfl ?_
  refine z_e1 (pc1 := 756) (L1 := [some (.ref 0), some (.ref 4), some (.ref 19), some (.int i)]) (S1 := [.int 1, .int i, .ref 0, .ref 4]) zd0_755 rfl rfl rfl ?_
  refine z_e1 (pc1 := 757) (L1 := [some (.ref 0), some (.ref 4), some (.ref 19), some (.int i)]) (S1 := [.int (i + 1), .ref 0, .ref 4]) zd0_756 rfl rfl rfl ?_
  refine z_eial (y := xs (i + 1).toNatClampNeg) zd0_757 h0 (z_ixk (k := 1) (kk := 1) (by decide) (by decide) (by decide) hi0 hi1 hL) rfl ?_
  refine z_e1 (pc1 := 759) (L1 := [some (.ref 0), some (.ref 4), some (.ref 19), some (.int i)]) (S1 := [.ref 0, .int (xs (i + 1).toNatClampNeg), .ref 4]) zd0_758 rfl rfl rfl ?_
  refine z_e1 (pc1 := 760) (L1 := [some (.ref 0), some (.ref 4), some (.ref 19), some (.int i)]) (S1 := [.int i, .ref 0, .int (xs (i + 1).toNatClampNeg), .ref 4]) zd0_759 rfl rfl rfl ?_
  refine z_e1 (pc1 := 761) (L1 := [some (.ref 0), some (.ref 4), some (.ref 19), some (.int i)]) (S1 := [.int 2, .int i, .ref 0, .int (xs (i + 1).toNatClampNeg), .ref 4]) zd0_760 rfl rfl rfl ?_
  refine z_e1 (pc1 := 762) (L1 := [some (.ref 0), some (.ref 4), some (.ref 19), some (.int i)]) (S1 := [.int (i + 2), .ref 0, .int (xs (i + 1).toNatClampNeg), .ref 4]) zd0_761 rfl rfl rfl ?_
  refine z_eial (y := xs (i + 2).toNatClampNeg) zd0_762 h0 (z_ixk (k := 2) (kk := 2) (by decide) (by decide) (by decide) hi0 hi1 hL) rfl ?_
  refine z_ecV (vs := [.ref 4, .int (xs (i + 1).toNatClampNeg), .int (xs (i + 2).toNatClampNeg)]) (r := []) (L2 := z_ent [.ref 4, .int (xs (i + 1).toNatClampNeg), .int (xs (i + 2).toNatClampNeg)] (z_ml 66)) zd0_763 zcV0_74 (Or.inl rfl) rfl h4 (by decide) rfl rfl rfl (Nat.le_of_ble_eq_true rfl) rfl (Nat.le_of_ble_eq_true rfl) rfl ?_
  refine H.mono (fun v M1 hv => ?_)
  obtain ⟨⟨x1, rfl⟩, h1, ⟨fs1, h19⟩, H1⟩ := hv
  show z_ev _ 0 766 [some (.ref 0), some (.ref 4), some (.ref 19), some (.int i)] [.int x1] _ _
  refine z_e1 (pc1 := 767) (L1 := [some (.ref 0), some (.ref 4), some (.ref 19), some (.int i)]) (S1 := []) zd0_766 rfl rfl rfl ?_
  refine z_e1 (pc1 := 768) (L1 := [some (.ref 0), some (.ref 4), some (.ref 19), some (.int i)]) (S1 := [.ref 19]) zd0_767 rfl rfl rfl ?_
  refine z_e1 (pc1 := 769) (L1 := [some (.ref 0), some (.ref 4), some (.ref 19), some (.int i)]) (S1 := [.ref 0, .ref 19]) zd0_768 rfl rfl rfl ?_
  refine z_e1 (pc1 := 770) (L1 := [some (.ref 0), some (.ref 4), some (.ref 19), some (.int i)]) (S1 := [.int i, .ref 0, .ref 19]) zd0_769 rfl rfl rfl ?_
  refine z_e1 (pc1 := 771) (L1 := [some (.ref 0), some (.ref 4), some (.ref 19), some (.int i)]) (S1 := [.int 1, .int i, .ref 0, .ref 19]) zd0_770 rfl rfl rfl ?_
  refine z_e1 (pc1 := 772) (L1 := [some (.ref 0), some (.ref 4), some (.ref 19), some (.int i)]) (S1 := [.int (i + 1), .ref 0, .ref 19]) zd0_771 rfl rfl rfl ?_
  refine z_eial (y := xs (i + 1).toNatClampNeg) zd0_772 h1 (z_ixk (k := 1) (kk := 1) (by decide) (by decide) (by decide) hi0 hi1 hL) rfl ?_
  refine z_e1 (pc1 := 774) (L1 := [some (.ref 0), some (.ref 4), some (.ref 19), some (.int i)]) (S1 := [.ref 0, .int (xs (i + 1).toNatClampNeg), .ref 19]) zd0_773 rfl rfl rfl ?_
  refine z_e1 (pc1 := 775) (L1 := [some (.ref 0), some (.ref 4), some (.ref 19), some (.int i)]) (S1 := [.int i, .ref 0, .int (xs (i + 1).toNatClampNeg), .ref 19]) zd0_774 rfl rfl rfl ?_
  refine z_e1 (pc1 := 776) (L1 := [some (.ref 0), some (.ref 4), some (.ref 19), some (.int i)]) (S1 := [.int 2, .int i, .ref 0, .int (xs (i + 1).toNatClampNeg), .ref 19]) zd0_775 rfl rfl rfl ?_
  refine z_e1 (pc1 := 777) (L1 := [some (.ref 0), some (.ref 4), some (.ref 19), some (.int i)]) (S1 := [.int (i + 2), .ref 0, .int (xs (i + 1).toNatClampNeg), .ref 19]) zd0_776 rfl rfl rfl ?_
  refine z_eial (y := xs (i + 2).toNatClampNeg) zd0_777 h1 (z_ixk (k := 2) (kk := 2) (by decide) (by decide) (by decide) hi0 hi1 hL) rfl ?_
  refine z_ecV (vs := [.ref 19, .int (xs (i + 1).toNatClampNeg), .int (xs (i + 2).toNatClampNeg)]) (r := []) (L2 := z_ent [.ref 19, .int (xs (i + 1).toNatClampNeg), .int (xs (i + 2).toNatClampNeg)] (z_ml 231)) zd0_778 zcV0_77 (Or.inl rfl) rfl h19 (by decide) rfl rfl rfl (Nat.le_of_ble_eq_true rfl) rfl (Nat.le_of_ble_eq_true rfl) rfl ?_
  refine H1.mono (fun v M2 hv => ?_)
  obtain ⟨⟨x2, rfl⟩, hx, H2⟩ := hv
  show z_ev _ 0 781 [some (.ref 0), some (.ref 4), some (.ref 19), some (.int i)] [.int x2] _ _
  refine z_e1 (pc1 := 782) (L1 := [some (.ref 0), some (.ref 4), some (.ref 19), some (.int i)]) (S1 := []) zd0_781 rfl rfl rfl ?_
  refine z_e1 (pc1 := 1774) (L1 := [some (.ref 0), some (.ref 4), some (.ref 19), some (.int i)]) (S1 := []) zd0_782 rfl rfl rfl ?_
  exact H2
theorem z_D15 {M : zH} {xs : Nat → Int32} {L : Nat} {i : Int32} {fs : List Value} {K : Option Value → zH → Prop} (hi0 : 0 ≤ i.toInt) (hi1 : i.toInt + 6 ≤ L) (hL : L ≤ 3072) (h0 : M[0]? = some (.inl (0, L, .inl xs))) (h4 : M[4]? = some (.inr (0, fs)))
    (H : z_ev 2046 68 0 (z_ent [.ref 4, .int (xs (i + 1).toNatClampNeg), .int (xs (i + 2).toNatClampNeg)] (z_ml 68)) [] M fun v M1 => (∃ x1, v = some (.int x1)) ∧ M1[0]? = some (.inl (0, L, .inl xs)) ∧ (∃ fs1, M1[19]? = some (.inr (12, fs1))) ∧
      z_ev 2046 233 0 (z_ent [.ref 19, .int (xs (i + 1).toNatClampNeg), .int (xs (i + 2).toNatClampNeg)] (z_ml 233)) [] M1 fun v2 M2 => (∃ x2, v2 = some (.int x2)) ∧ True ∧ z_ev 2047 0 1774 [some (.ref 0), some (.ref 4), some (.ref 19), some (.int i)] [] M2 K) : z_ev 2047 0 785 [some (.ref 0), some (.ref 4), some (.ref 19), some (.int i)] [] M K := by
  refine z_e1 (pc1 := 786) (L1 := [some (.ref 0), some (.ref 4), some (.ref 19), some (.int i)]) (S1 := [.ref 4]) zd0_785 rfl rfl rfl ?_
  refine z_e1 (pc1 := 787) (L1 := [some (.ref 0), some (.ref 4), some (.ref 19), some (.int i)]) (S1 := [.ref 0, .ref 4]) zd0_786 rfl rfl rfl ?_
  refine z_e1 (pc1 := 788) (L1 := [some (.ref 0), some (.ref 4), some (.ref 19), some (.int i)]) (S1 := [.int i, .ref 0, .ref 4]) zd0_787 rfl rfl rfl ?_
  refine z_e1 (pc1 := 789) (L1 := [some (.ref 0), some (.ref 4), some (.ref 19), some (.int i)]) (S1 := [.int 1, .int i, .ref 0, .ref 4]) zd0_788 rfl rfl rfl ?_
  refine z_e1 (pc1 := 790) (L1 := [some (.ref 0), some (.ref 4), some (.ref 19), some (.int i)]) (S1 := [.int (i + 1), .ref 0, .ref 4]) zd0_789 rfl rfl rfl ?_
  refine z_eial (y := xs (i + 1).toNatClampNeg) zd0_790 h0 (z_ixk (k := 1) (kk := 1) (by decide) (by decide) (by decide) hi0 hi1 hL) rfl ?_
  refine z_e1 (pc1 := 792) (L1 := [some (.ref 0), some (.ref 4), some (.ref 19), some (.int i)]) (S1 := [.ref 0, .int (xs (i + 1).toNatClampNeg), .ref 4]) zd0_791 rfl rfl rfl ?_
  refine z_e1 (pc1 := 793) (L1 := [some (.ref 0), some (.ref 4), some (.ref 19), some (.int i)]) (S1 := [.int i, .ref 0, .int (xs (i + 1).toNatClampNeg), .ref 4]) zd0_792 rfl rfl rfl ?_
  refine z_e1 (pc1 := 794) (L1 := [some (.ref 0), some (.ref 4), some (.ref 19), some (.int i)]) (S1 := [.int 2, .int i, .ref 0, .int (xs (i + 1).toNatClampNeg), .ref 4]) zd0_793 rfl rfl rfl ?_
  refine z_e1 (pc1 := 795) (L1 := [some (.ref 0), some (.ref 4), some (.ref 19), some (.int i)]) (S1 := [.int (i + 2), .ref 0, .int (xs (i + 1).toNatClampNeg), .ref 4]) zd0_794 rfl rfl rfl ?_
  refine z_eial (y := xs (i + 2).toNatClampNeg) zd0_795 h0 (z_ixk (k := 2) (kk := 2) (by decide) (by decide) (by decide) hi0 hi1 hL) rfl ?_
  refine z_ecV (vs := [.ref 4, .int (xs (i + 1).toNatClampNeg), .int (xs (i + 2).toNatClampNeg)]) (r := []) (L2 := z_ent [.ref 4, .int (xs (i + 1).toNatClampNeg), .int (xs (i + 2).toNatClampNeg)] (z_ml 68)) zd0_796 zcV0_78 (Or.inl rfl) rfl h4 (by decide) rfl rfl rfl (Nat.le_of_ble_eq_true rfl) rfl (Nat.le_of_ble_eq_true rfl) rfl ?_
  refine H.mono (fun v M1 hv => ?_)
  obtain ⟨⟨x1, rfl⟩, h1, ⟨fs1, h19⟩, H1⟩ := hv
  show z_ev _ 0 799 [some (.ref 0), some (.ref 4), some (.ref 19), some (.int i)] [.int x1] _ _
  refine z_e1 (pc1 := 800) (L1 := [some (.ref 0), some (.ref 4), some (.ref 19), some (.int i)]) (S1 := []) zd0_799 rfl rfl rfl ?_
  refine z_e1 (pc1 := 801) (L1 := [some (.ref 0), some (.ref 4), some (.ref 19), some (.int i)]) (S1 := [.ref 19]) zd0_800 rfl rfl rfl ?_
  refine z_e1 (pc1 := 802) (L1 := [some (.ref 0), some (.ref 4), some (.ref 19), some (.int i)]) (S1 := [.ref 0, .ref 19]) zd0_801 rfl rfl rfl ?_
  refine z_e1 (pc1 := 803) (L1 := [some (.ref 0), some (.ref 4), some (.ref 19), some (.int i)]) (S1 := [.int i, .ref 0, .ref 19]) zd0_802 rfl rfl rfl ?_
  refine z_e1 (pc1 := 804) (L1 := [some (.ref 0), some (.ref 4), some (.ref 19), some (.int i)]) (S1 := [.int 1, .int i, .ref 0, .ref 19]) zd0_803 rfl rfl rfl ?_
  refine z_e1 (pc1 := 805) (L1 := [some (.ref 0), some (.ref 4), some (.ref 19), some (.int i)]) (S1 := [.int (i + 1), .ref 0, .ref 19]) zd0_804 rfl rfl rfl ?_
  refine z_eial (y := xs (i + 1).toNatClampNeg) zd0_805 h1 (z_ixk (k := 1) (kk := 1) (by decide) (by decide) (by decide) hi0 hi1 hL) rfl ?_
  refine z_e1 (pc1 := 807) (L1 := [some (.ref 0), some (.ref 4), some (.ref 19), some (.int i)]) (S1 := [.ref 0, .int (xs (i + 1).toNatClampNeg), .ref 19]) zd0_806 rfl rfl rfl ?_
  refine z_e1 (pc1 := 808) (L1 := [some (.ref 0), some (.ref 4), some (.ref 19), some (.int i)]) (S1 := [.int i, .ref 0, .int (xs (i + 1).toNatClampNeg), .ref 19]) zd0_807 rfl rfl rfl ?_
  refine z_e1 (pc1 := 809) (L1 := [some (.ref 0), some (.ref 4), some (.ref 19), some (.int i)]) (S1 := [.int 2, .int i, .ref 0, .int (xs (i + 1).toNatClampNeg), .ref 19]) zd0_808 rfl rfl rfl ?_
  refine z_e1 (pc1 := 810) (L1 := [some (.ref 0), some (.ref 4), some (.ref 19), some (.int i)]) (S1 := [.int (i + 2), .ref 0, .int (xs (i + 1).toNatClampNeg), .ref 19]) zd0_809 rfl rfl rfl ?_
  refine z_eial (y := xs (i + 2).toNatClampNeg) zd0_810 h1 (z_ixk (k := 2) (kk := 2) (by decide) (by decide) (by decide) hi0 hi1 hL) rfl ?_
  refine z_ecV (vs := [.ref 19, .int (xs (i + 1).toNatClampNeg), .int (xs (i + 2).toNatClampNeg)]) (r := []) (L2 := z_ent [.ref 19, .int (xs (i + 1).toNatClampNeg), .int (xs (i + 2).toNatClampNeg)] (z_ml 233)) zd0_811 zcV0_81 (Or.inl rfl) rfl h19 (by decide) rfl rfl rfl (Nat.le_of_ble_eq_true rfl) rfl (Nat.le_of_ble_eq_true rfl) rfl ?_
  refine H1.mono (fun v M2 hv => ?_)
  obtain ⟨⟨x2, rfl⟩, hx, H2⟩ := hv
  show z_ev _ 0 814 [some (.ref 0), some (.ref 4), some (.ref 19), some (.int i)] [.int x2] _ _
  refine z_e1 (pc1 := 815) (L1 := [some (.ref 0), some (.ref 4), some (.ref 19), some (.int i)]) (S1 := []) zd0_814 rfl rfl rfl ?_
  refine z_e1 (pc1 := 1774) (L1 := [some (.ref 0), some (.ref 4), some (.ref 19), some (.int i)]) (S1 := []) zd0_815 rfl rfl rfl ?_
  exact H2
theorem z_D16 {M : zH} {xs : Nat → Int32} {L : Nat} {i : Int32} {fs : List Value} {K : Option Value → zH → Prop} (hi0 : 0 ≤ i.toInt) (hi1 : i.toInt + 6 ≤ L) (hL : L ≤ 3072) (h0 : M[0]? = some (.inl (0, L, .inl xs))) (h4 : M[4]? = some (.inr (0, fs)))
    (H : z_ev 2046 73 0 (z_ent [.ref 4, .int (xs (i + 1).toNatClampNeg), .int (xs (i + 2).toNatClampNeg), .int (xs (i + 3).toNatClampNeg)] (z_ml 73)) [] M fun v M1 => (∃ x1, v = some (.int x1)) ∧ M1[0]? = some (.inl (0, L, .inl xs)) ∧ (∃ fs1, M1[19]? = some (.inr (12, fs1))) ∧
      z_ev 2046 235 0 (z_ent [.ref 19, .int (xs (i + 1).toNatClampNeg), .int (xs (i + 2).toNatClampNeg), .int (xs (i + 3).toNatClampNeg)] (z_ml 235)) [] M1 fun v2 M2 => (∃ x2, v2 = some (.int x2)) ∧ True ∧ z_ev 2047 0 1774 [some (.ref 0), some (.ref 4), some (.ref 19), some (.int i)] [] M2 K) : z_ev 2047 0 818 [some (.ref 0), some (.ref 4), some (.ref 19), some (.int i)] [] M K := by
  refine z_e1 (pc1 := 819) (L1 := [some (.ref 0), some (.ref 4), some (.ref 19), some (.int i)]) (S1 := [.ref 4]) zd0_818 rfl rfl rfl ?_
  refine z_e1 (pc1 := 820) (L1 := [some (.ref 0), some (.ref 4), some (.ref 19), some (.int i)]) (S1 := [.ref 0, .ref 4]) zd0_819 rfl rfl rfl ?_
  refine z_e1 (pc1 := 821) (L1 := [some (.ref 0), some (.ref 4), some (.ref 19), some (.int i)]) (S1 := [.int i, .ref 0, .ref 4]) zd0_820 rfl rfl rfl ?_
  refine z_e1 (pc1 := 822) (L1 := [some (.ref 0), some (.ref 4), some (.ref 19), some (.int i)]) (S1 := [.int 1, .int i, .ref 0, .ref 4]) zd0_821 rfl rfl rfl ?_
  refine z_e1 (pc1 := 823) (L1 := [some (.ref 0), some (.ref 4), some (.ref 19), some (.int i)]) (S1 := [.int (i + 1), .ref 0, .ref 4]) zd0_822 rfl rfl rfl ?_
  refine z_eial (y := xs (i + 1).toNatClampNeg) zd0_823 h0 (z_ixk (k := 1) (kk := 1) (by decide) (by decide) (by decide) hi0 hi1 hL) rfl ?_
  refine z_e1 (pc1 := 825) (L1 := [some (.ref 0), some (.ref 4), some (.ref 19), some (.int i)]) (S1 := [.ref 0, .int (xs (i + 1).toNatClampNeg), .ref 4]) zd0_824 rfl rfl rfl ?_
  refine z_e1 (pc1 := 826) (L1 := [some (.ref 0), some (.ref 4), some (.ref 19), some (.int i)]) (S1 := [.int i, .ref 0, .int (xs (i + 1).toNatClampNeg), .ref 4]) zd0_825 rfl rfl rfl ?_
  refine z_e1 (pc1 := 827) (L1 := [some (.ref 0), some (.ref 4), some (.ref 19), some (.int i)]) (S1 := [.int 2, .int i, .ref 0, .int (xs (i + 1).toNatClampNeg), .ref 4]) zd0_826 rfl rfl rfl ?_
  refine z_e1 (pc1 := 828) (L1 := [some (.ref 0), some (.ref 4), some (.ref 19), some (.int i)]) (S1 := [.int (i + 2), .ref 0, .int (xs (i + 1).toNatClampNeg), .ref 4]) zd0_827 rfl rfl rfl ?_
  refine z_eial (y := xs (i + 2).toNatClampNeg) zd0_828 h0 (z_ixk (k := 2) (kk := 2) (by decide) (by decide) (by decide) hi0 hi1 hL) rfl ?_
  refine z_e1 (pc1 := 830) (L1 := [some (.ref 0), some (.ref 4), some (.ref 19), some (.int i)]) (S1 := [.ref 0, .int (xs (i + 2).toNatClampNeg), .int (xs (i + 1).toNatClampNeg), .ref 4]) zd0_829 rfl rfl rfl ?_
  refine z_e1 (pc1 := 831) (L1 := [some (.ref 0), some (.ref 4), some (.ref 19), some (.int i)]) (S1 := [.int i, .ref 0, .int (xs (i + 2).toNatClampNeg), .int (xs (i + 1).toNatClampNeg), .ref 4]) zd0_830 rfl rfl rfl ?_
  refine z_e1 (pc1 := 832) (L1 := [some (.ref 0), some (.ref 4), some (.ref 19), some (.int i)]) (S1 := [.int 3, .int i, .ref 0, .int (xs (i + 2).toNatClampNeg), .int (xs (i + 1).toNatClampNeg), .ref 4]) zd0_831 rfl rfl rfl ?_
  refine z_e1 (pc1 := 833) (L1 := [some (.ref 0), some (.ref 4), some (.ref 19), some (.int i)]) (S1 := [.int (i + 3), .ref 0, .int (xs (i + 2).toNatClampNeg), .int (xs (i + 1).toNatClampNeg), .ref 4]) zd0_832 rfl rfl rfl ?_
  refine z_eial (y := xs (i + 3).toNatClampNeg) zd0_833 h0 (z_ixk (k := 3) (kk := 3) (by decide) (by decide) (by decide) hi0 hi1 hL) rfl ?_
  refine z_ecV (vs := [.ref 4, .int (xs (i + 1).toNatClampNeg), .int (xs (i + 2).toNatClampNeg), .int (xs (i + 3).toNatClampNeg)]) (r := []) (L2 := z_ent [.ref 4, .int (xs (i + 1).toNatClampNeg), .int (xs (i + 2).toNatClampNeg), .int (xs (i + 3).toNatClampNeg)] (z_ml 73)) zd0_834 zcV0_82 (Or.inl rfl) rfl h4 (by decide) rfl rfl rfl (Nat.le_of_ble_eq_true rfl) rfl (Nat.le_of_ble_eq_true rfl) rfl ?_
  refine H.mono (fun v M1 hv => ?_)
  obtain ⟨⟨x1, rfl⟩, h1, ⟨fs1, h19⟩, H1⟩ := hv
  show z_ev _ 0 837 [some (.ref 0), some (.ref 4), some (.ref 19), some (.int i)] [.int x1] _ _
  refine z_e1 (pc1 := 838) (L1 := [some (.ref 0), some (.ref 4), some (.ref 19), some (.int i)]) (S1 := []) zd0_837 rfl rfl rfl ?_
  refine z_e1 (pc1 := 839) (L1 := [some (.ref 0), some (.ref 4), some (.ref 19), some (.int i)]) (S1 := [.ref 19]) zd0_838 rfl rfl rfl ?_
  refine z_e1 (pc1 := 840) (L1 := [some (.ref 0), some (.ref 4), some (.ref 19), some (.int i)]) (S1 := [.ref 0, .ref 19]) zd0_839 rfl rfl rfl ?_
  refine z_e1 (pc1 := 841) (L1 := [some (.ref 0), some (.ref 4), some (.ref 19), some (.int i)]) (S1 := [.int i, .ref 0, .ref 19]) zd0_840 rfl rfl rfl ?_
  refine z_e1 (pc1 := 842) (L1 := [some (.ref 0), some (.ref 4), some (.ref 19), some (.int i)]) (S1 := [.int 1, .int i, .ref 0, .ref 19]) zd0_841 rfl rfl rfl ?_
  refine z_e1 (pc1 := 843) (L1 := [some (.ref 0), some (.ref 4), some (.ref 19), some (.int i)]) (S1 := [.int (i + 1), .ref 0, .ref 19]) zd0_842 rfl rfl rfl ?_
  refine z_eial (y := xs (i + 1).toNatClampNeg) zd0_843 h1 (z_ixk (k := 1) (kk := 1) (by decide) (by decide) (by decide) hi0 hi1 hL) rfl ?_
  refine z_e1 (pc1 := 845) (L1 := [some (.ref 0), some (.ref 4), some (.ref 19), some (.int i)]) (S1 := [.ref 0, .int (xs (i + 1).toNatClampNeg), .ref 19]) zd0_844 rfl rfl rfl ?_
  refine z_e1 (pc1 := 846) (L1 := [some (.ref 0), some (.ref 4), some (.ref 19), some (.int i)]) (S1 := [.int i, .ref 0, .int (xs (i + 1).toNatClampNeg), .ref 19]) zd0_845 rfl rfl rfl ?_
  refine z_e1 (pc1 := 847) (L1 := [some (.ref 0), some (.ref 4), some (.ref 19), some (.int i)]) (S1 := [.int 2, .int i, .ref 0, .int (xs (i + 1).toNatClampNeg), .ref 19]) zd0_846 rfl rfl rfl ?_
  refine z_e1 (pc1 := 848) (L1 := [some (.ref 0), some (.ref 4), some (.ref 19), some (.int i)]) (S1 := [.int (i + 2), .ref 0, .int (xs (i + 1).toNatClampNeg), .ref 19]) zd0_847 rfl rfl rfl ?_
  refine z_eial (y := xs (i + 2).toNatClampNeg) zd0_848 h1 (z_ixk (k := 2) (kk := 2) (by decide) (by decide) (by decide) hi0 hi1 hL) rfl ?_
  refine z_e1 (pc1 := 850) (L1 := [some (.ref 0), some (.ref 4), some (.ref 19), some (.int i)]) (S1 := [.ref 0, .int (xs (i + 2).toNatClampNeg), .int (xs (i + 1).toNatClampNeg), .ref 19]) zd0_849 rfl rfl rfl ?_
  refine z_e1 (pc1 := 851) (L1 := [some (.ref 0), some (.ref 4), some (.ref 19), some (.int i)]) (S1 := [.int i, .ref 0, .int (xs (i + 2).toNatClampNeg), .int (xs (i + 1).toNatClampNeg), .ref 19]) zd0_850 rfl rfl rfl ?_
  refine z_e1 (pc1 := 852) (L1 := [some (.ref 0), some (.ref 4), some (.ref 19), some (.int i)]) (S1 := [.int 3, .int i, .ref 0, .int (xs (i + 2).toNatClampNeg), .int (xs (i + 1).toNatClampNeg), .ref 19]) zd0_851 rfl rfl rfl ?_
  refine z_e1 (pc1 := 853) (L1 := [some (.ref 0), some (.ref 4), some (.ref 19), some (.int i)]) (S1 := [.int (i + 3), .ref 0, .int (xs (i + 2).toNatClampNeg), .int (xs (i + 1).toNatClampNeg), .ref 19]) zd0_852 rfl rfl rfl ?_
  refine z_eial (y := xs (i + 3).toNatClampNeg) zd0_853 h1 (z_ixk (k := 3) (kk := 3) (by decide) (by decide) (by decide) hi0 hi1 hL) rfl ?_
  refine z_ecV (vs := [.ref 19, .int (xs (i + 1).toNatClampNeg), .int (xs (i + 2).toNatClampNeg), .int (xs (i + 3).toNatClampNeg)]) (r := []) (L2 := z_ent [.ref 19, .int (xs (i + 1).toNatClampNeg), .int (xs (i + 2).toNatClampNeg), .int (xs (i + 3).toNatClampNeg)] (z_ml 235)) zd0_854 zcV0_85 (Or.inl rfl) rfl h19 (by decide) rfl rfl rfl (Nat.le_of_ble_eq_true rfl) rfl (Nat.le_of_ble_eq_true rfl) rfl ?_
  refine H1.mono (fun v M2 hv => ?_)
  obtain ⟨⟨x2, rfl⟩, hx, H2⟩ := hv
  show z_ev _ 0 857 [some (.ref 0), some (.ref 4), some (.ref 19), some (.int i)] [.int x2] _ _
  refine z_e1 (pc1 := 858) (L1 := [some (.ref 0), some (.ref 4), some (.ref 19), some (.int i)]) (S1 := []) zd0_857 rfl rfl rfl ?_
  refine z_e1 (pc1 := 1774) (L1 := [some (.ref 0), some (.ref 4), some (.ref 19), some (.int i)]) (S1 := []) zd0_858 rfl rfl rfl ?_
  exact H2
theorem z_D17 {M : zH} {xs : Nat → Int32} {L : Nat} {i : Int32} {fs : List Value} {K : Option Value → zH → Prop} (hi0 : 0 ≤ i.toInt) (hi1 : i.toInt + 6 ≤ L) (hL : L ≤ 3072) (h0 : M[0]? = some (.inl (0, L, .inl xs))) (h4 : M[4]? = some (.inr (0, fs)))
    (H : z_ev 2046 83 0 (z_ent [.ref 4, .int (xs (i + 1).toNatClampNeg), .int (xs (i + 2).toNatClampNeg)] (z_ml 83)) [] M fun v M1 => (∃ x1, v = some (.int x1)) ∧ M1[0]? = some (.inl (0, L, .inl xs)) ∧ (∃ fs1, M1[19]? = some (.inr (12, fs1))) ∧
      z_ev 2046 236 0 (z_ent [.ref 19, .int (xs (i + 1).toNatClampNeg), .int (xs (i + 2).toNatClampNeg)] (z_ml 236)) [] M1 fun v2 M2 => (∃ x2, v2 = some (.int x2)) ∧ True ∧ z_ev 2047 0 1774 [some (.ref 0), some (.ref 4), some (.ref 19), some (.int i)] [] M2 K) : z_ev 2047 0 861 [some (.ref 0), some (.ref 4), some (.ref 19), some (.int i)] [] M K := by
  refine z_e1 (pc1 := 862) (L1 := [some (.ref 0), some (.ref 4), some (.ref 19), some (.int i)]) (S1 := [.ref 4]) zd0_861 rfl rfl rfl ?_
  refine z_e1 (pc1 := 863) (L1 := [some (.ref 0), some (.ref 4), some (.ref 19), some (.int i)]) (S1 := [.ref 0, .ref 4]) zd0_862 rfl rfl rfl ?_
  refine z_e1 (pc1 := 864) (L1 := [some (.ref 0), some (.ref 4), some (.ref 19), some (.int i)]) (S1 := [.int i, .ref 0, .ref 4]) zd0_863 rfl rfl rfl ?_
  refine z_e1 (pc1 := 865) (L1 := [some (.ref 0), some (.ref 4), some (.ref 19), some (.int i)]) (S1 := [.int 1, .int i, .ref 0, .ref 4]) zd0_864 rfl rfl rfl ?_
  refine z_e1 (pc1 := 866) (L1 := [some (.ref 0), some (.ref 4), some (.ref 19), some (.int i)]) (S1 := [.int (i + 1), .ref 0, .ref 4]) zd0_865 rfl rfl rfl ?_
  refine z_eial (y := xs (i + 1).toNatClampNeg) zd0_866 h0 (z_ixk (k := 1) (kk := 1) (by decide) (by decide) (by decide) hi0 hi1 hL) rfl ?_
  refine z_e1 (pc1 := 868) (L1 := [some (.ref 0), some (.ref 4), some (.ref 19), some (.int i)]) (S1 := [.ref 0, .int (xs (i + 1).toNatClampNeg), .ref 4]) zd0_867 rfl rfl rfl ?_
  refine z_e1 (pc1 := 869) (L1 := [some (.ref 0), some (.ref 4), some (.ref 19), some (.int i)]) (S1 := [.int i, .ref 0, .int (xs (i + 1).toNatClampNeg), .ref 4]) zd0_868 rfl rfl rfl ?_
  refine z_e1 (pc1 := 870) (L1 := [some (.ref 0), some (.ref 4), some (.ref 19), some (.int i)]) (S1 := [.int 2, .int i, .ref 0, .int (xs (i + 1).toNatClampNeg), .ref 4]) zd0_869 rfl rfl rfl ?_
  refine z_e1 (pc1 := 871) (L1 := [some (.ref 0), some (.ref 4), some (.ref 19), some (.int i)]) (S1 := [.int (i + 2), .ref 0, .int (xs (i + 1).toNatClampNeg), .ref 4]) zd0_870 rfl rfl rfl ?_
  refine z_eial (y := xs (i + 2).toNatClampNeg) zd0_871 h0 (z_ixk (k := 2) (kk := 2) (by decide) (by decide) (by decide) hi0 hi1 hL) rfl ?_
  refine z_ecV (vs := [.ref 4, .int (xs (i + 1).toNatClampNeg), .int (xs (i + 2).toNatClampNeg)]) (r := []) (L2 := z_ent [.ref 4, .int (xs (i + 1).toNatClampNeg), .int (xs (i + 2).toNatClampNeg)] (z_ml 83)) zd0_872 zcV0_86 (Or.inl rfl) rfl h4 (by decide) rfl rfl rfl (Nat.le_of_ble_eq_true rfl) rfl (Nat.le_of_ble_eq_true rfl) rfl ?_
  refine H.mono (fun v M1 hv => ?_)
  obtain ⟨⟨x1, rfl⟩, h1, ⟨fs1, h19⟩, H1⟩ := hv
  show z_ev _ 0 875 [some (.ref 0), some (.ref 4), some (.ref 19), some (.int i)] [.int x1] _ _
  refine z_e1 (pc1 := 876) (L1 := [some (.ref 0), some (.ref 4), some (.ref 19), some (.int i)]) (S1 := []) zd0_875 rfl rfl rfl ?_
  refine z_e1 (pc1 := 877) (L1 := [some (.ref 0), some (.ref 4), some (.ref 19), some (.int i)]) (S1 := [.ref 19]) zd0_876 rfl rfl rfl ?_
  refine z_e1 (pc1 := 878) (L1 := [some (.ref 0), some (.ref 4), some (.ref 19), some (.int i)]) (S1 := [.ref 0, .ref 19]) zd0_877 rfl rfl rfl ?_
  refine z_e1 (pc1 := 879) (L1 := [some (.ref 0), some (.ref 4), some (.ref 19), some (.int i)]) (S1 := [.int i, .ref 0, .ref 19]) zd0_878 rfl rfl rfl ?_
  refine z_e1 (pc1 := 880) (L1 := [some (.ref 0), some (.ref 4), some (.ref 19), some (.int i)]) (S1 := [.int 1, .int i, .ref 0, .ref 19]) zd0_879 rfl rfl rfl ?_
  refine z_e1 (pc1 := 881) (L1 := [some (.ref 0), some (.ref 4), some (.ref 19), some (.int i)]) (S1 := [.int (i + 1), .ref 0, .ref 19]) zd0_880 rfl rfl rfl ?_
  refine z_eial (y := xs (i + 1).toNatClampNeg) zd0_881 h1 (z_ixk (k := 1) (kk := 1) (by decide) (by decide) (by decide) hi0 hi1 hL) rfl ?_
  refine z_e1 (pc1 := 883) (L1 := [some (.ref 0), some (.ref 4), some (.ref 19), some (.int i)]) (S1 := [.ref 0, .int (xs (i + 1).toNatClampNeg), .ref 19]) zd0_882 rfl rfl rfl ?_
  refine z_e1 (pc1 := 884) (L1 := [some (.ref 0), some (.ref 4), some (.ref 19), some (.int i)]) (S1 := [.int i, .ref 0, .int (xs (i + 1).toNatClampNeg), .ref 19]) zd0_883 rfl rfl rfl ?_
  refine z_e1 (pc1 := 885) (L1 := [some (.ref 0), some (.ref 4), some (.ref 19), some (.int i)]) (S1 := [.int 2, .int i, .ref 0, .int (xs (i + 1).toNatClampNeg), .ref 19]) zd0_884 rfl rfl rfl ?_
  refine z_e1 (pc1 := 886) (L1 := [some (.ref 0), some (.ref 4), some (.ref 19), some (.int i)]) (S1 := [.int (i + 2), .ref 0, .int (xs (i + 1).toNatClampNeg), .ref 19]) zd0_885 rfl rfl rfl ?_
  refine z_eial (y := xs (i + 2).toNatClampNeg) zd0_886 h1 (z_ixk (k := 2) (kk := 2) (by decide) (by decide) (by decide) hi0 hi1 hL) rfl ?_
  refine z_ecV (vs := [.ref 19, .int (xs (i + 1).toNatClampNeg), .int (xs (i + 2).toNatClampNeg)]) (r := []) (L2 := z_ent [.ref 19, .int (xs (i + 1).toNatClampNeg), .int (xs (i + 2).toNatClampNeg)] (z_ml 236)) zd0_887 zcV0_89 (Or.inl rfl) rfl h19 (by decide) rfl rfl rfl (Nat.le_of_ble_eq_true rfl) rfl (Nat.le_of_ble_eq_true rfl) rfl ?_
  refine H1.mono (fun v M2 hv => ?_)
  obtain ⟨⟨x2, rfl⟩, hx, H2⟩ := hv
  show z_ev _ 0 890 [some (.ref 0), some (.ref 4), some (.ref 19), some (.int i)] [.int x2] _ _
  refine z_e1 (pc1 := 891) (L1 := [some (.ref 0), some (.ref 4), some (.ref 19), some (.int i)]) (S1 := []) zd0_890 rfl rfl rfl ?_
  refine z_e1 (pc1 := 1774) (L1 := [some (.ref 0), some (.ref 4), some (.ref 19), some (.int i)]) (S1 := []) zd0_891 rfl rfl rfl ?_
  exact H2
theorem z_D18 {M : zH} {xs : Nat → Int32} {L : Nat} {i : Int32} {fs : List Value} {K : Option Value → zH → Prop} (hi0 : 0 ≤ i.toInt) (hi1 : i.toInt + 6 ≤ L) (hL : L ≤ 3072) (h0 : M[0]? = some (.inl (0, L, .inl xs))) (h4 : M[4]? = some (.inr (0, fs)))
    (H : z_ev 2046 85 0 (z_ent [.ref 4, .int (xs (i + 1).toNatClampNeg), .int (xs (i + 2).toNatClampNeg), .int (xs (i + 3).toNatClampNeg)] (z_ml 85)) [] M fun v M1 => (∃ x1, v = some (.int x1)) ∧ M1[0]? = some (.inl (0, L, .inl xs)) ∧ (∃ fs1, M1[19]? = some (.inr (12, fs1))) ∧
      z_ev 2046 238 0 (z_ent [.ref 19, .int (xs (i + 1).toNatClampNeg), .int (xs (i + 2).toNatClampNeg), .int (xs (i + 3).toNatClampNeg)] (z_ml 238)) [] M1 fun v2 M2 => (∃ x2, v2 = some (.int x2)) ∧ True ∧ z_ev 2047 0 1774 [some (.ref 0), some (.ref 4), some (.ref 19), some (.int i)] [] M2 K) : z_ev 2047 0 894 [some (.ref 0), some (.ref 4), some (.ref 19), some (.int i)] [] M K := by
  refine z_e1 (pc1 := 895) (L1 := [some (.ref 0), some (.ref 4), some (.ref 19), some (.int i)]) (S1 := [.ref 4]) zd0_894 rfl rfl rfl ?_
  refine z_e1 (pc1 := 896) (L1 := [some (.ref 0), some (.ref 4), some (.ref 19), some (.int i)]) (S1 := [.ref 0, .ref 4]) zd0_895 rfl rfl rfl ?_
  refine z_e1 (pc1 := 897) (L1 := [some (.ref 0), some (.ref 4), some (.ref 19), some (.int i)]) (S1 := [.int i, .ref 0, .ref 4]) zd0_896 rfl rfl rfl ?_
  refine z_e1 (pc1 := 898) (L1 := [some (.ref 0), some (.ref 4), some (.ref 19), some (.int i)]) (S1 := [.int 1, .int i, .ref 0, .ref 4]) zd0_897 rfl rfl rfl ?_
  refine z_e1 (pc1 := 899) (L1 := [some (.ref 0), some (.ref 4), some (.ref 19), some (.int i)]) (S1 := [.int (i + 1), .ref 0, .ref 4]) zd0_898 rfl rfl rfl ?_
  refine z_eial (y := xs (i + 1).toNatClampNeg) zd0_899 h0 (z_ixk (k := 1) (kk := 1) (by decide) (by decide) (by decide) hi0 hi1 hL) rfl ?_
  refine z_e1 (pc1 := 901) (L1 := [some (.ref 0), some (.ref 4), some (.ref 19), some (.int i)]) (S1 := [.ref 0, .int (xs (i + 1).toNatClampNeg), .ref 4]) zd0_900 rfl rfl rfl ?_
  refine z_e1 (pc1 := 902) (L1 := [some (.ref 0), some (.ref 4), some (.ref 19), some (.int i)]) (S1 := [.int i, .ref 0, .int (xs (i + 1).toNatClampNeg), .ref 4]) zd0_901 rfl rfl rfl ?_
  refine z_e1 (pc1 := 903) (L1 := [some (.ref 0), some (.ref 4), some (.ref 19), some (.int i)]) (S1 := [.int 2, .int i, .ref 0, .int (xs (i + 1).toNatClampNeg), .ref 4]) zd0_902 rfl rfl rfl ?_
  refine z_e1 (pc1 := 904) (L1 := [some (.ref 0), some (.ref 4), some (.ref 19), some (.int i)]) (S1 := [.int (i + 2), .ref 0, .int (xs (i + 1).toNatClampNeg), .ref 4]) zd0_903 rfl rfl rfl ?_
  refine z_eial (y := xs (i + 2).toNatClampNeg) zd0_904 h0 (z_ixk (k := 2) (kk := 2) (by decide) (by decide) (by decide) hi0 hi1 hL) rfl ?_
  refine z_e1 (pc1 := 906) (L1 := [some (.ref 0), some (.ref 4), some (.ref 19), some (.int i)]) (S1 := [.ref 0, .int (xs (i + 2).toNatClampNeg), .int (xs (i + 1).toNatClampNeg), .ref 4]) zd0_905 rfl rfl rfl ?_
  refine z_e1 (pc1 := 907) (L1 := [some (.ref 0), some (.ref 4), some (.ref 19), some (.int i)]) (S1 := [.int i, .ref 0, .int (xs (i + 2).toNatClampNeg), .int (xs (i + 1).toNatClampNeg), .ref 4]) zd0_906 rfl rfl rfl ?_
  refine z_e1 (pc1 := 908) (L1 := [some (.ref 0), some (.ref 4), some (.ref 19), some (.int i)]) (S1 := [.int 3, .int i, .ref 0, .int (xs (i + 2).toNatClampNeg), .int (xs (i + 1).toNatClampNeg), .ref 4]) zd0_907 rfl rfl rfl ?_
  refine z_e1 (pc1 := 909) (L1 := [some (.ref 0), some (.ref 4), some (.ref 19), some (.int i)]) (S1 := [.int (i + 3), .ref 0, .int (xs (i + 2).toNatClampNeg), .int (xs (i + 1).toNatClampNeg), .ref 4]) zd0_908 rfl rfl rfl ?_
  refine z_eial (y := xs (i + 3).toNatClampNeg) zd0_909 h0 (z_ixk (k := 3) (kk := 3) (by decide) (by decide) (by decide) hi0 hi1 hL) rfl ?_
  refine z_ecV (vs := [.ref 4, .int (xs (i + 1).toNatClampNeg), .int (xs (i + 2).toNatClampNeg), .int (xs (i + 3).toNatClampNeg)]) (r := []) (L2 := z_ent [.ref 4, .int (xs (i + 1).toNatClampNeg), .int (xs (i + 2).toNatClampNeg), .int (xs (i + 3).toNatClampNeg)] (z_ml 85)) zd0_910 zcV0_90 (Or.inl rfl) rfl h4 (by decide) rfl rfl rfl (Nat.le_of_ble_eq_true rfl) rfl (Nat.le_of_ble_eq_true rfl) rfl ?_
  refine H.mono (fun v M1 hv => ?_)
  obtain ⟨⟨x1, rfl⟩, h1, ⟨fs1, h19⟩, H1⟩ := hv
  show z_ev _ 0 913 [some (.ref 0), some (.ref 4), some (.ref 19), some (.int i)] [.int x1] _ _
  refine z_e1 (pc1 := 914) (L1 := [some (.ref 0), some (.ref 4), some (.ref 19), some (.int i)]) (S1 := []) zd0_913 rfl rfl rfl ?_
  refine z_e1 (pc1 := 915) (L1 := [some (.ref 0), some (.ref 4), some (.ref 19), some (.int i)]) (S1 := [.ref 19]) zd0_914 rfl rfl rfl ?_
  refine z_e1 (pc1 := 916) (L1 := [some (.ref 0), some (.ref 4), some (.ref 19), some (.int i)]) (S1 := [.ref 0, .ref 19]) zd0_915 rfl rfl rfl ?_
  refine z_e1 (pc1 := 917) (L1 := [some (.ref 0), some (.ref 4), some (.ref 19), some (.int i)]) (S1 := [.int i, .ref 0, .ref 19]) zd0_916 rfl rfl rfl ?_
  refine z_e1 (pc1 := 918) (L1 := [some (.ref 0), some (.ref 4), some (.ref 19), some (.int i)]) (S1 := [.int 1, .int i, .ref 0, .ref 19]) zd0_917 rfl rfl rfl ?_
  refine z_e1 (pc1 := 919) (L1 := [some (.ref 0), some (.ref 4), some (.ref 19), some (.int i)]) (S1 := [.int (i + 1), .ref 0, .ref 19]) zd0_918 rfl rfl rfl ?_
  refine z_eial (y := xs (i + 1).toNatClampNeg) zd0_919 h1 (z_ixk (k := 1) (kk := 1) (by decide) (by decide) (by decide) hi0 hi1 hL) rfl ?_
  refine z_e1 (pc1 := 921) (L1 := [some (.ref 0), some (.ref 4), some (.ref 19), some (.int i)]) (S1 := [.ref 0, .int (xs (i + 1).toNatClampNeg), .ref 19]) zd0_920 rfl rfl rfl ?_
  refine z_e1 (pc1 := 922) (L1 := [some (.ref 0), some (.ref 4), some (.ref 19), some (.int i)]) (S1 := [.int i, .ref 0, .int (xs (i + 1).toNatClampNeg), .ref 19]) zd0_921 rfl rfl rfl ?_
  refine z_e1 (pc1 := 923) (L1 := [some (.ref 0), some (.ref 4), some (.ref 19), some (.int i)]) (S1 := [.int 2, .int i, .ref 0, .int (xs (i + 1).toNatClampNeg), .ref 19]) zd0_922 rfl rfl rfl ?_
  refine z_e1 (pc1 := 924) (L1 := [some (.ref 0), some (.ref 4), some (.ref 19), some (.int i)]) (S1 := [.int (i + 2), .ref 0, .int (xs (i + 1).toNatClampNeg), .ref 19]) zd0_923 rfl rfl rfl ?_
  refine z_eial (y := xs (i + 2).toNatClampNeg) zd0_924 h1 (z_ixk (k := 2) (kk := 2) (by decide) (by decide) (by decide) hi0 hi1 hL) rfl ?_
  refine z_e1 (pc1 := 926) (L1 := [some (.ref 0), some (.ref 4), some (.ref 19), some (.int i)]) (S1 := [.ref 0, .int (xs (i + 2).toNatClampNeg), .int (xs (i + 1).toNatClampNeg), .ref 19]) zd0_925 rfl rfl rfl ?_
  refine z_e1 (pc1 := 927) (L1 := [some (.ref 0), some (.ref 4), some (.ref 19), some (.int i)]) (S1 := [.int i, .ref 0, .int (xs (i + 2).toNatClampNeg), .int (xs (i + 1).toNatClampNeg), .ref 19]) zd0_926 rfl rfl rfl ?_
  refine z_e1 (pc1 := 928) (L1 := [some (.ref 0), some (.ref 4), some (.ref 19), some (.int i)]) (S1 := [.int 3, .int i, .ref 0, .int (xs (i + 2).toNatClampNeg), .int (xs (i + 1).toNatClampNeg), .ref 19]) zd0_927 rfl rfl rfl ?_
  refine z_e1 (pc1 := 929) (L1 := [some (.ref 0), some (.ref 4), some (.ref 19), some (.int i)]) (S1 := [.int (i + 3), .ref 0, .int (xs (i + 2).toNatClampNeg), .int (xs (i + 1).toNatClampNeg), .ref 19]) zd0_928 rfl rfl rfl ?_
  refine z_eial (y := xs (i + 3).toNatClampNeg) zd0_929 h1 (z_ixk (k := 3) (kk := 3) (by decide) (by decide) (by decide) hi0 hi1 hL) rfl ?_
  refine z_ecV (vs := [.ref 19, .int (xs (i + 1).toNatClampNeg), .int (xs (i + 2).toNatClampNeg), .int (xs (i + 3).toNatClampNeg)]) (r := []) (L2 := z_ent [.ref 19, .int (xs (i + 1).toNatClampNeg), .int (xs (i + 2).toNatClampNeg), .int (xs (i + 3).toNatClampNeg)] (z_ml 238)) zd0_930 zcV0_93 (Or.inl rfl) rfl h19 (by decide) rfl rfl rfl (Nat.le_of_ble_eq_true rfl) rfl (Nat.le_of_ble_eq_true rfl) rfl ?_
  refine H1.mono (fun v M2 hv => ?_)
  obtain ⟨⟨x2, rfl⟩, hx, H2⟩ := hv
  show z_ev _ 0 933 [some (.ref 0), some (.ref 4), some (.ref 19), some (.int i)] [.int x2] _ _
  refine z_e1 (pc1 := 934) (L1 := [some (.ref 0), some (.ref 4), some (.ref 19), some (.int i)]) (S1 := []) zd0_933 rfl rfl rfl ?_
  refine z_e1 (pc1 := 1774) (L1 := [some (.ref 0), some (.ref 4), some (.ref 19), some (.int i)]) (S1 := []) zd0_934 rfl rfl rfl ?_
  exact H2
theorem z_D19 {M : zH} {xs : Nat → Int32} {L : Nat} {i : Int32} {fs : List Value} {K : Option Value → zH → Prop} (hi0 : 0 ≤ i.toInt) (hi1 : i.toInt + 6 ≤ L) (hL : L ≤ 3072) (h0 : M[0]? = some (.inl (0, L, .inl xs))) (h4 : M[4]? = some (.inr (0, fs)))
    (H : z_ev 2046 102 0 (z_ent [.ref 4, .int (xs (i + 1).toNatClampNeg), .int (xs (i + 2).toNatClampNeg)] (z_ml 102)) [] M fun v M1 => (∃ x1, v = some (.int x1)) ∧ M1[0]? = some (.inl (0, L, .inl xs)) ∧ (∃ fs1, M1[19]? = some (.inr (12, fs1))) ∧
      z_ev 2046 250 0 (z_ent [.ref 19, .int (xs (i + 1).toNatClampNeg), .int (xs (i + 2).toNatClampNeg)] (z_ml 250)) [] M1 fun v2 M2 => (∃ x2, v2 = some (.int x2)) ∧ True ∧ z_ev 2047 0 1774 [some (.ref 0), some (.ref 4), some (.ref 19), some (.int i)] [] M2 K) : z_ev 2047 0 937 [some (.ref 0), some (.ref 4), some (.ref 19), some (.int i)] [] M K := by
  refine z_e1 (pc1 := 938) (L1 := [some (.ref 0), some (.ref 4), some (.ref 19), some (.int i)]) (S1 := [.ref 4]) zd0_937 rfl rfl rfl ?_
  refine z_e1 (pc1 := 939) (L1 := [some (.ref 0), some (.ref 4), some (.ref 19), some (.int i)]) (S1 := [.ref 0, .ref 4]) zd0_938 rfl rfl rfl ?_
  refine z_e1 (pc1 := 940) (L1 := [some (.ref 0), some (.ref 4), some (.ref 19), some (.int i)]) (S1 := [.int i, .ref 0, .ref 4]) zd0_939 rfl rfl rfl ?_
  refine z_e1 (pc1 := 941) (L1 := [some (.ref 0), some (.ref 4), some (.ref 19), some (.int i)]) (S1 := [.int 1, .int i, .ref 0, .ref 4]) zd0_940 rfl rfl rfl ?_
  refine z_e1 (pc1 := 942) (L1 := [some (.ref 0), some (.ref 4), some (.ref 19), some (.int i)]) (S1 := [.int (i + 1), .ref 0, .ref 4]) zd0_941 rfl rfl rfl ?_
  refine z_eial (y := xs (i + 1).toNatClampNeg) zd0_942 h0 (z_ixk (k := 1) (kk := 1) (by decide) (by decide) (by decide) hi0 hi1 hL) rfl ?_
  refine z_e1 (pc1 := 944) (L1 := [some (.ref 0), some (.ref 4), some (.ref 19), some (.int i)]) (S1 := [.ref 0, .int (xs (i + 1).toNatClampNeg), .ref 4]) zd0_943 rfl rfl rfl ?_
  refine z_e1 (pc1 := 945) (L1 := [some (.ref 0), some (.ref 4), some (.ref 19), some (.int i)]) (S1 := [.int i, .ref 0, .int (xs (i + 1).toNatClampNeg), .ref 4]) zd0_944 rfl rfl rfl ?_
  refine z_e1 (pc1 := 946) (L1 := [some (.ref 0), some (.ref 4), some (.ref 19), some (.int i)]) (S1 := [.int 2, .int i, .ref 0, .int (xs (i + 1).toNatClampNeg), .ref 4]) zd0_945 rfl rfl rfl ?_
  refine z_e1 (pc1 := 947) (L1 := [some (.ref 0), some (.ref 4), some (.ref 19), some (.int i)]) (S1 := [.int (i + 2), .ref 0, .int (xs (i + 1).toNatClampNeg), .ref 4]) zd0_946 rfl rfl rfl ?_
  refine z_eial (y := xs (i + 2).toNatClampNeg) zd0_947 h0 (z_ixk (k := 2) (kk := 2) (by decide) (by decide) (by decide) hi0 hi1 hL) rfl ?_
  refine z_ecV (vs := [.ref 4, .int (xs (i + 1).toNatClampNeg), .int (xs (i + 2).toNatClampNeg)]) (r := []) (L2 := z_ent [.ref 4, .int (xs (i + 1).toNatClampNeg), .int (xs (i + 2).toNatClampNeg)] (z_ml 102)) zd0_948 zcV0_94 (Or.inl rfl) rfl h4 (by decide) rfl rfl rfl (Nat.le_of_ble_eq_true rfl) rfl (Nat.le_of_ble_eq_true rfl) rfl ?_
  refine H.mono (fun v M1 hv => ?_)
  obtain ⟨⟨x1, rfl⟩, h1, ⟨fs1, h19⟩, H1⟩ := hv
  show z_ev _ 0 951 [some (.ref 0), some (.ref 4), some (.ref 19), some (.int i)] [.int x1] _ _
  refine z_e1 (pc1 := 952) (L1 := [some (.ref 0), some (.ref 4), some (.ref 19), some (.int i)]) (S1 := []) zd0_951 rfl rfl rfl ?_
  refine z_e1 (pc1 := 953) (L1 := [some (.ref 0), some (.ref 4), some (.ref 19), some (.int i)]) (S1 := [.ref 19]) zd0_952 rfl rfl rfl ?_
  refine z_e1 (pc1 := 954) (L1 := [some (.ref 0), some (.ref 4), some (.ref 19), some (.int i)]) (S1 := [.ref 0, .ref 19]) zd0_953 rfl rfl rfl ?_
  refine z_e1 (pc1 := 955) (L1 := [some (.ref 0), some (.ref 4), some (.ref 19), some (.int i)]) (S1 := [.int i, .ref 0, .ref 19]) zd0_954 rfl rfl rfl ?_
  refine z_e1 (pc1 := 956) (L1 := [some (.ref 0), some (.ref 4), some (.ref 19), some (.int i)]) (S1 := [.int 1, .int i, .ref 0, .ref 19]) zd0_955 rfl rfl rfl ?_
  refine z_e1 (pc1 := 957) (L1 := [some (.ref 0), some (.ref 4), some (.ref 19), some (.int i)]) (S1 := [.int (i + 1), .ref 0, .ref 19]) zd0_956 rfl rfl rfl ?_
  refine z_eial (y := xs (i + 1).toNatClampNeg) zd0_957 h1 (z_ixk (k := 1) (kk := 1) (by decide) (by decide) (by decide) hi0 hi1 hL) rfl ?_
  refine z_e1 (pc1 := 959) (L1 := [some (.ref 0), some (.ref 4), some (.ref 19), some (.int i)]) (S1 := [.ref 0, .int (xs (i + 1).toNatClampNeg), .ref 19]) zd0_958 rfl rfl rfl ?_
  refine z_e1 (pc1 := 960) (L1 := [some (.ref 0), some (.ref 4), some (.ref 19), some (.int i)]) (S1 := [.int i, .ref 0, .int (xs (i + 1).toNatClampNeg), .ref 19]) zd0_959 rfl rfl rfl ?_
  refine z_e1 (pc1 := 961) (L1 := [some (.ref 0), some (.ref 4), some (.ref 19), some (.int i)]) (S1 := [.int 2, .int i, .ref 0, .int (xs (i + 1).toNatClampNeg), .ref 19]) zd0_960 rfl rfl rfl ?_
  refine z_e1 (pc1 := 962) (L1 := [some (.ref 0), some (.ref 4), some (.ref 19), some (.int i)]) (S1 := [.int (i + 2), .ref 0, .int (xs (i + 1).toNatClampNeg), .ref 19]) zd0_961 rfl rfl rfl ?_
  refine z_eial (y := xs (i + 2).toNatClampNeg) zd0_962 h1 (z_ixk (k := 2) (kk := 2) (by decide) (by decide) (by decide) hi0 hi1 hL) rfl ?_
  refine z_ecV (vs := [.ref 19, .int (xs (i + 1).toNatClampNeg), .int (xs (i + 2).toNatClampNeg)]) (r := []) (L2 := z_ent [.ref 19, .int (xs (i + 1).toNatClampNeg), .int (xs (i + 2).toNatClampNeg)] (z_ml 250)) zd0_963 zcV0_97 (Or.inl rfl) rfl h19 (by decide) rfl rfl rfl (Nat.le_of_ble_eq_true rfl) rfl (Nat.le_of_ble_eq_true rfl) rfl ?_
  refine H1.mono (fun v M2 hv => ?_)
  obtain ⟨⟨x2, rfl⟩, hx, H2⟩ := hv
  show z_ev _ 0 966 [some (.ref 0), some (.ref 4), some (.ref 19), some (.int i)] [.int x2] _ _
  refine z_e1 (pc1 := 967) (L1 := [some (.ref 0), some (.ref 4), some (.ref 19), some (.int i)]) (S1 := []) zd0_966 rfl rfl rfl ?_
  refine z_e1 (pc1 := 1774) (L1 := [some (.ref 0), some (.ref 4), some (.ref 19), some (.int i)]) (S1 := []) zd0_967 rfl rfl rfl ?_
  exact H2
theorem z_D20 {M : zH} {xs : Nat → Int32} {L : Nat} {i : Int32} {fs : List Value} {K : Option Value → zH → Prop} (hi0 : 0 ≤ i.toInt) (hi1 : i.toInt + 6 ≤ L) (hL : L ≤ 3072) (h0 : M[0]? = some (.inl (0, L, .inl xs))) (h4 : M[4]? = some (.inr (0, fs)))
    (H : z_ev 2046 106 0 (z_ent [.ref 4, .int (xs (i + 1).toNatClampNeg), .int (xs (i + 2).toNatClampNeg), .int (xs (i + 3).toNatClampNeg), .int (xs (i + 4).toNatClampNeg)] (z_ml 106)) [] M fun v M1 => (∃ x1, v = some (.int x1)) ∧ M1[0]? = some (.inl (0, L, .inl xs)) ∧ (∃ fs1, M1[19]? = some (.inr (12, fs1))) ∧
      z_ev 2046 256 0 (z_ent [.ref 19, .int (xs (i + 1).toNatClampNeg), .int (xs (i + 2).toNatClampNeg), .int (xs (i + 3).toNatClampNeg), .int (xs (i + 4).toNatClampNeg)] (z_ml 256)) [] M1 fun v2 M2 => (∃ x2, v2 = some (.int x2)) ∧ True ∧ z_ev 2047 0 1774 [some (.ref 0), some (.ref 4), some (.ref 19), some (.int i)] [] M2 K) : z_ev 2047 0 970 [some (.ref 0), some (.ref 4), some (.ref 19), some (.int i)] [] M K := by
  refine z_e1 (pc1 := 971) (L1 := [some (.ref 0), some (.ref 4), some (.ref 19), some (.int i)]) (S1 := [.ref 4]) zd0_970 rfl rfl rfl ?_
  refine z_e1 (pc1 := 972) (L1 := [some (.ref 0), some (.ref 4), some (.ref 19), some (.int i)]) (S1 := [.ref 0, .ref 4]) zd0_971 rfl rfl rfl ?_
  refine z_e1 (pc1 := 973) (L1 := [some (.ref 0), some (.ref 4), some (.ref 19), some (.int i)]) (S1 := [.int i, .ref 0, .ref 4]) zd0_972 rfl rfl rfl ?_
  refine z_e1 (pc1 := 974) (L1 := [some (.ref 0), some (.ref 4), some (.ref 19), some (.int i)]) (S1 := [.int 1, .int i, .ref 0, .ref 4]) zd0_973 rfl rfl rfl ?_
  refine z_e1 (pc1 := 975) (L1 := [some (.ref 0), some (.ref 4), some (.ref 19), some (.int i)]) (S1 := [.int (i + 1), .ref 0, .ref 4]) zd0_974 rfl rfl rfl ?_
  refine z_eial (y := xs (i + 1).toNatClampNeg) zd0_975 h0 (z_ixk (k := 1) (kk := 1) (by decide) (by decide) (by decide) hi0 hi1 hL) rfl ?_
  refine z_e1 (pc1 := 977) (L1 := [some (.ref 0), some (.ref 4), some (.ref 19), some (.int i)]) (S1 := [.ref 0, .int (xs (i + 1).toNatClampNeg), .ref 4]) zd0_976 rfl rfl rfl ?_
  refine z_e1 (pc1 := 978) (L1 := [some (.ref 0), some (.ref 4), some (.ref 19), some (.int i)]) (S1 := [.int i, .ref 0, .int (xs (i + 1).toNatClampNeg), .ref 4]) zd0_977 rfl rfl rfl ?_
  refine z_e1 (pc1 := 979) (L1 := [some (.ref 0), some (.ref 4), some (.ref 19), some (.int i)]) (S1 := [.int 2, .int i, .ref 0, .int (xs (i + 1).toNatClampNeg), .ref 4]) zd0_978 rfl rfl rfl ?_
  refine z_e1 (pc1 := 980) (L1 := [some (.ref 0), some (.ref 4), some (.ref 19), some (.int i)]) (S1 := [.int (i + 2), .ref 0, .int (xs (i + 1).toNatClampNeg), .ref 4]) zd0_979 rfl rfl rfl ?_
  refine z_eial (y := xs (i + 2).toNatClampNeg) zd0_980 h0 (z_ixk (k := 2) (kk := 2) (by decide) (by decide) (by decide) hi0 hi1 hL) rfl ?_
  refine z_e1 (pc1 := 982) (L1 := [some (.ref 0), some (.ref 4), some (.ref 19), some (.int i)]) (S1 := [.ref 0, .int (xs (i + 2).toNatClampNeg), .int (xs (i + 1).toNatClampNeg), .ref 4]) zd0_981 rfl rfl rfl ?_
  refine z_e1 (pc1 := 983) (L1 := [some (.ref 0), some (.ref 4), some (.ref 19), some (.int i)]) (S1 := [.int i, .ref 0, .int (xs (i + 2).toNatClampNeg), .int (xs (i + 1).toNatClampNeg), .ref 4]) zd0_982 rfl rfl rfl ?_
  refine z_e1 (pc1 := 984) (L1 := [some (.ref 0), some (.ref 4), some (.ref 19), some (.int i)]) (S1 := [.int 3, .int i, .ref 0, .int (xs (i + 2).toNatClampNeg), .int (xs (i + 1).toNatClampNeg), .ref 4]) zd0_983 rfl rfl rfl ?_
  refine z_e1 (pc1 := 985) (L1 := [some (.ref 0), some (.ref 4), some (.ref 19), some (.int i)]) (S1 := [.int (i + 3), .ref 0, .int (xs (i + 2).toNatClampNeg), .int (xs (i + 1).toNatClampNeg), .ref 4]) zd0_984 rfl rfl rfl ?_
  refine z_eial (y := xs (i + 3).toNatClampNeg) zd0_985 h0 (z_ixk (k := 3) (kk := 3) (by decide) (by decide) (by decide) hi0 hi1 hL) rfl ?_
  refine z_e1 (pc1 := 987) (L1 := [some (.ref 0), some (.ref 4), some (.ref 19), some (.int i)]) (S1 := [.ref 0, .int (xs (i + 3).toNatClampNeg), .int (xs (i + 2).toNatClampNeg), .int (xs (i + 1).toNatClampNeg), .ref 4]) zd0_986 rfl rfl rfl ?_
  refine z_e1 (pc1 := 988) (L1 := [some (.ref 0), some (.ref 4), some (.ref 19), some (.int i)]) (S1 := [.int i, .ref 0, .int (xs (i + 3).toNatClampNeg), .int (xs (i + 2).toNatClampNeg), .int (xs (i + 1).toNatClampNeg), .ref 4]) zd0_987 rfl rfl rfl ?_
  refine z_e1 (pc1 := 989) (L1 := [some (.ref 0), some (.ref 4), some (.ref 19), some (.int i)]) (S1 := [.int 4, .int i, .ref 0, .int (xs (i + 3).toNatClampNeg), .int (xs (i + 2).toNatClampNeg), .int (xs (i + 1).toNatClampNeg), .ref 4]) zd0_988 rfl rfl rfl ?_
  refine z_e1 (pc1 := 990) (L1 := [some (.ref 0), some (.ref 4), some (.ref 19), some (.int i)]) (S1 := [.int (i + 4), .ref 0, .int (xs (i + 3).toNatClampNeg), .int (xs (i + 2).toNatClampNeg), .int (xs (i + 1).toNatClampNeg), .ref 4]) zd0_989 rfl rfl rfl ?_
  refine z_eial (y := xs (i + 4).toNatClampNeg) zd0_990 h0 (z_ixk (k := 4) (kk := 4) (by decide) (by decide) (by decide) hi0 hi1 hL) rfl ?_
  refine z_ecV (vs := [.ref 4, .int (xs (i + 1).toNatClampNeg), .int (xs (i + 2).toNatClampNeg), .int (xs (i + 3).toNatClampNeg), .int (xs (i + 4).toNatClampNeg)]) (r := []) (L2 := z_ent [.ref 4, .int (xs (i + 1).toNatClampNeg), .int (xs (i + 2).toNatClampNeg), .int (xs (i + 3).toNatClampNeg), .int (xs (i + 4).toNatClampNeg)] (z_ml 106)) zd0_991 zcV0_98 (Or.inl rfl) rfl h4 (by decide) rfl rfl rfl (Nat.le_of_ble_eq_true rfl) rfl (Nat.le_of_ble_eq_true rfl) rfl ?_
  refine H.mono (fun v M1 hv => ?_)
  obtain ⟨⟨x1, rfl⟩, h1, ⟨fs1, h19⟩, H1⟩ := hv
  show z_ev _ 0 994 [some (.ref 0), some (.ref 4), some (.ref 19), some (.int i)] [.int x1] _ _
  refine z_e1 (pc1 := 995) (L1 := [some (.ref 0), some (.ref 4), some (.ref 19), some (.int i)]) (S1 := []) zd0_994 rfl rfl rfl ?_
  refine z_e1 (pc1 := 996) (L1 := [some (.ref 0), some (.ref 4), some (.ref 19), some (.int i)]) (S1 := [.ref 19]) zd0_995 rfl rfl rfl ?_
  refine z_e1 (pc1 := 997) (L1 := [some (.ref 0), some (.ref 4), some (.ref 19), some (.int i)]) (S1 := [.ref 0, .ref 19]) zd0_996 rfl rfl rfl ?_
  refine z_e1 (pc1 := 998) (L1 := [some (.ref 0), some (.ref 4), some (.ref 19), some (.int i)]) (S1 := [.int i, .ref 0, .ref 19]) zd0_997 rfl rfl rfl ?_
  refine z_e1 (pc1 := 999) (L1 := [some (.ref 0), some (.ref 4), some (.ref 19), some (.int i)]) (S1 := [.int 1, .int i, .ref 0, .ref 19]) zd0_998 rfl rfl rfl ?_
  refine z_e1 (pc1 := 1000) (L1 := [some (.ref 0), some (.ref 4), some (.ref 19), some (.int i)]) (S1 := [.int (i + 1), .ref 0, .ref 19]) zd0_999 rfl rfl rfl ?_
  refine z_eial (y := xs (i + 1).toNatClampNeg) zd0_1000 h1 (z_ixk (k := 1) (kk := 1) (by decide) (by decide) (by decide) hi0 hi1 hL) rfl ?_
  refine z_e1 (pc1 := 1002) (L1 := [some (.ref 0), some (.ref 4), some (.ref 19), some (.int i)]) (S1 := [.ref 0, .int (xs (i + 1).toNatClampNeg), .ref 19]) zd0_1001 rfl rfl rfl ?_
  refine z_e1 (pc1 := 1003) (L1 := [some (.ref 0), some (.ref 4), some (.ref 19), some (.int i)]) (S1 := [.int i, .ref 0, .int (xs (i + 1).toNatClampNeg), .ref 19]) zd0_1002 rfl rfl rfl ?_
  refine z_e1 (pc1 := 1004) (L1 := [some (.ref 0), some (.ref 4), some (.ref 19), some (.int i)]) (S1 := [.int 2, .int i, .ref 0, .int (xs (i + 1).toNatClampNeg), .ref 19]) zd0_1003 rfl rfl rfl ?_
  refine z_e1 (pc1 := 1005) (L1 := [some (.ref 0), some (.ref 4), some (.ref 19), some (.int i)]) (S1 := [.int (i + 2), .ref 0, .int (xs (i + 1).toNatClampNeg), .ref 19]) zd0_1004 rfl rfl rfl ?_
  refine z_eial (y := xs (i + 2).toNatClampNeg) zd0_1005 h1 (z_ixk (k := 2) (kk := 2) (by decide) (by decide) (by decide) hi0 hi1 hL) rfl ?_
  refine z_e1 (pc1 := 1007) (L1 := [some (.ref 0), some (.ref 4), some (.ref 19), some (.int i)]) (S1 := [.ref 0, .int (xs (i + 2).toNatClampNeg), .int (xs (i + 1).toNatClampNeg), .ref 19]) zd0_1006 rfl rfl rfl ?_
  refine z_e1 (pc1 := 1008) (L1 := [some (.ref 0), some (.ref 4), some (.ref 19), some (.int i)]) (S1 := [.int i, .ref 0, .int (xs (i + 2).toNatClampNeg), .int (xs (i + 1).toNatClampNeg), .ref 19]) zd0_1007 rfl rfl rfl ?_
  refine z_e1 (pc1 := 1009) (L1 := [some (.ref 0), some (.ref 4), some (.ref 19), some (.int i)]) (S1 := [.int 3, .int i, .ref 0, .int (xs (i + 2).toNatClampNeg), .int (xs (i + 1).toNatClampNeg), .ref 19]) zd0_1008 rfl rfl rfl ?_
  refine z_e1 (pc1 := 1010) (L1 := [some (.ref 0), some (.ref 4), some (.ref 19), some (.int i)]) (S1 := [.int (i + 3), .ref 0, .int (xs (i + 2).toNatClampNeg), .int (xs (i + 1).toNatClampNeg), .ref 19]) zd0_1009 rfl rfl rfl ?_
  refine z_eial (y := xs (i + 3).toNatClampNeg) zd0_1010 h1 (z_ixk (k := 3) (kk := 3) (by decide) (by decide) (by decide) hi0 hi1 hL) rfl ?_
  refine z_e1 (pc1 := 1012) (L1 := [some (.ref 0), some (.ref 4), some (.ref 19), some (.int i)]) (S1 := [.ref 0, .int (xs (i + 3).toNatClampNeg), .int (xs (i + 2).toNatClampNeg), .int (xs (i + 1).toNatClampNeg), .ref 19]) zd0_1011 rfl rfl rfl ?_
  refine z_e1 (pc1 := 1013) (L1 := [some (.ref 0), some (.ref 4), some (.ref 19), some (.int i)]) (S1 := [.int i, .ref 0, .int (xs (i + 3).toNatClampNeg), .int (xs (i + 2).toNatClampNeg), .int (xs (i + 1).toNatClampNeg), .ref 19]) zd0_1012 rfl rfl rfl ?_
  refine z_e1 (pc1 := 1014) (L1 := [some (.ref 0), some (.ref 4), some (.ref 19), some (.int i)]) (S1 := [.int 4, .int i, .ref 0, .int (xs (i + 3).toNatClampNeg), .int (xs (i + 2).toNatClampNeg), .int (xs (i + 1).toNatClampNeg), .ref 19]) zd0_1013 rfl rfl rfl ?_
  refine z_e1 (pc1 := 1015) (L1 := [some (.ref 0), some (.ref 4), some (.ref 19), some (.int i)]) (S1 := [.int (i + 4), .ref 0, .int (xs (i + 3).toNatClampNeg), .int (xs (i + 2).toNatClampNeg), .int (xs (i + 1).toNatClampNeg), .ref 19]) zd0_1014 rfl rfl rfl ?_
  refine z_eial (y := xs (i + 4).toNatClampNeg) zd0_1015 h1 (z_ixk (k := 4) (kk := 4) (by decide) (by decide) (by decide) hi0 hi1 hL) rfl ?_
  refine z_ecV (vs := [.ref 19, .int (xs (i + 1).toNatClampNeg), .int (xs (i + 2).toNatClampNeg), .int (xs (i + 3).toNatClampNeg), .int (xs (i + 4).toNatClampNeg)]) (r := []) (L2 := z_ent [.ref 19, .int (xs (i + 1).toNatClampNeg), .int (xs (i + 2).toNatClampNeg), .int (xs (i + 3).toNatClampNeg), .int (xs (i + 4).toNatClampNeg)] (z_ml 256)) zd0_1016 zcV0_101 (Or.inl rfl) rfl h19 (by decide) rfl rfl rfl (Nat.le_of_ble_eq_true rfl) rfl (Nat.le_of_ble_eq_true rfl) rfl ?_
  refine H1.mono (fun v M2 hv => ?_)
  obtain ⟨⟨x2, rfl⟩, hx, H2⟩ := hv
  show z_ev _ 0 1019 [some (.ref 0), some (.ref 4), some (.ref 19), some (.int i)] [.int x2] _ _
  refine z_e1 (pc1 := 1020) (L1 := [some (.ref 0), some (.ref 4), some (.ref 19), some (.int i)]) (S1 := []) zd0_1019 rfl rfl rfl ?_
  refine z_e1 (pc1 := 1774) (L1 := [some (.ref 0), some (.ref 4), some (.ref 19), some (.int i)]) (S1 := []) zd0_1020 rfl rfl rfl ?_
  exact H2
theorem z_D21 {M : zH} {xs : Nat → Int32} {L : Nat} {i : Int32} {fs : List Value} {K : Option Value → zH → Prop} (hi0 : 0 ≤ i.toInt) (hi1 : i.toInt + 6 ≤ L) (hL : L ≤ 3072) (h0 : M[0]? = some (.inl (0, L, .inl xs))) (h4 : M[4]? = some (.inr (0, fs)))
    (H : z_ev 2046 112 0 (z_ent [.ref 4, .int (xs (i + 1).toNatClampNeg), .int (xs (i + 2).toNatClampNeg), .int (xs (i + 3).toNatClampNeg), .int (xs (i + 4).toNatClampNeg), .int (xs (i + 5).toNatClampNeg)] (z_ml 112)) [] M fun v M1 => (∃ x1, v = some (.int x1)) ∧ M1[0]? = some (.inl (0, L, .inl xs)) ∧ (∃ fs1, M1[19]? = some (.inr (12, fs1))) ∧
      z_ev 2046 258 0 (z_ent [.ref 19, .int (xs (i + 1).toNatClampNeg), .int (xs (i + 2).toNatClampNeg), .int (xs (i + 3).toNatClampNeg), .int (xs (i + 4).toNatClampNeg), .int (xs (i + 5).toNatClampNeg)] (z_ml 258)) [] M1 fun v2 M2 => (∃ x2, v2 = some (.int x2)) ∧ True ∧ z_ev 2047 0 1774 [some (.ref 0), some (.ref 4), some (.ref 19), some (.int i)] [] M2 K) : z_ev 2047 0 1023 [some (.ref 0), some (.ref 4), some (.ref 19), some (.int i)] [] M K := by
  refine z_e1 (pc1 := 1024) (L1 := [some (.ref 0), some (.ref 4), some (.ref 19), some (.int i)]) (S1 := [.ref 4]) zd0_1023 rfl rfl rfl ?_
  refine z_e1 (pc1 := 1025) (L1 := [some (.ref 0), some (.ref 4), some (.ref 19), some (.int i)]) (S1 := [.ref 0, .ref 4]) zd0_1024 rfl rfl rfl ?_
  refine z_e1 (pc1 := 1026) (L1 := [some (.ref 0), some (.ref 4), some (.ref 19), some (.int i)]) (S1 := [.int i, .ref 0, .ref 4]) zd0_1025 rfl rfl rfl ?_
  refine z_e1 (pc1 := 1027) (L1 := [some (.ref 0), some (.ref 4), some (.ref 19), some (.int i)]) (S1 := [.int 1, .int i, .ref 0, .ref 4]) zd0_1026 rfl rfl rfl ?_
  refine z_e1 (pc1 := 1028) (L1 := [some (.ref 0), some (.ref 4), some (.ref 19), some (.int i)]) (S1 := [.int (i + 1), .ref 0, .ref 4]) zd0_1027 rfl rfl rfl ?_
  refine z_eial (y := xs (i + 1).toNatClampNeg) zd0_1028 h0 (z_ixk (k := 1) (kk := 1) (by decide) (by decide) (by decide) hi0 hi1 hL) rfl ?_
  refine z_e1 (pc1 := 1030) (L1 := [some (.ref 0), some (.ref 4), some (.ref 19), some (.int i)]) (S1 := [.ref 0, .int (xs (i + 1).toNatClampNeg), .ref 4]) zd0_1029 rfl rfl rfl ?_
  refine z_e1 (pc1 := 1031) (L1 := [some (.ref 0), some (.ref 4), some (.ref 19), some (.int i)]) (S1 := [.int i, .ref 0, .int (xs (i + 1).toNatClampNeg), .ref 4]) zd0_1030 rfl rfl rfl ?_
  refine z_e1 (pc1 := 1032) (L1 := [some (.ref 0), some (.ref 4), some (.ref 19), some (.int i)]) (S1 := [.int 2, .int i, .ref 0, .int (xs (i + 1).toNatClampNeg), .ref 4]) zd0_1031 rfl rfl rfl ?_
  refine z_e1 (pc1 := 1033) (L1 := [some (.ref 0), some (.ref 4), some (.ref 19), some (.int i)]) (S1 := [.int (i + 2), .ref 0, .int (xs (i + 1).toNatClampNeg), .ref 4]) zd0_1032 rfl rfl rfl ?_
  refine z_eial (y := xs (i + 2).toNatClampNeg) zd0_1033 h0 (z_ixk (k := 2) (kk := 2) (by decide) (by decide) (by decide) hi0 hi1 hL) rfl ?_
  refine z_e1 (pc1 := 1035) (L1 := [some (.ref 0), some (.ref 4), some (.ref 19), some (.int i)]) (S1 := [.ref 0, .int (xs (i + 2).toNatClampNeg), .int (xs (i + 1).toNatClampNeg), .ref 4]) zd0_1034 rfl rfl rfl ?_
  refine z_e1 (pc1 := 1036) (L1 := [some (.ref 0), some (.ref 4), some (.ref 19), some (.int i)]) (S1 := [.int i, .ref 0, .int (xs (i + 2).toNatClampNeg), .int (xs (i + 1).toNatClampNeg), .ref 4]) zd0_1035 rfl rfl rfl ?_
  refine z_e1 (pc1 := 1037) (L1 := [some (.ref 0), some (.ref 4), some (.ref 19), some (.int i)]) (S1 := [.int 3, .int i, .ref 0, .int (xs (i + 2).toNatClampNeg), .int (xs (i + 1).toNatClampNeg), .ref 4]) zd0_1036 rfl rfl rfl ?_
  refine z_e1 (pc1 := 1038) (L1 := [some (.ref 0), some (.ref 4), some (.ref 19), some (.int i)]) (S1 := [.int (i + 3), .ref 0, .int (xs (i + 2).toNatClampNeg), .int (xs (i + 1).toNatClampNeg), .ref 4]) zd0_1037 rfl rfl rfl ?_
  refine z_eial (y := xs (i + 3).toNatClampNeg) zd0_1038 h0 (z_ixk (k := 3) (kk := 3) (by decide) (by decide) (by decide) hi0 hi1 hL) rfl ?_
  refine z_e1 (pc1 := 1040) (L1 := [some (.ref 0), some (.ref 4), some (.ref 19), some (.int i)]) (S1 := [.ref 0, .int (xs (i + 3).toNatClampNeg), .int (xs (i + 2).toNatClampNeg), .int (xs (i + 1).toNatClampNeg), .ref 4]) zd0_1039 rfl rfl rfl ?_
  refine z_e1 (pc1 := 1041) (L1 := [some (.ref 0), some (.ref 4), some (.ref 19), some (.int i)]) (S1 := [.int i, .ref 0, .int (xs (i + 3).toNatClampNeg), .int (xs (i + 2).toNatClampNeg), .int (xs (i + 1).toNatClampNeg), .ref 4]) zd0_1040 rfl rfl rfl ?_
  refine z_e1 (pc1 := 1042) (L1 := [some (.ref 0), some (.ref 4), some (.ref 19), some (.int i)]) (S1 := [.int 4, .int i, .ref 0, .int (xs (i + 3).toNatClampNeg), .int (xs (i + 2).toNatClampNeg), .int (xs (i + 1).toNatClampNeg), .ref 4]) zd0_1041 rfl rfl rfl ?_
  refine z_e1 (pc1 := 1043) (L1 := [some (.ref 0), some (.ref 4), some (.ref 19), some (.int i)]) (S1 := [.int (i + 4), .ref 0, .int (xs (i + 3).toNatClampNeg), .int (xs (i + 2).toNatClampNeg), .int (xs (i + 1).toNatClampNeg), .ref 4]) zd0_1042 rfl rfl rfl ?_
  refine z_eial (y := xs (i + 4).toNatClampNeg) zd0_1043 h0 (z_ixk (k := 4) (kk := 4) (by decide) (by decide) (by decide) hi0 hi1 hL) rfl ?_
  refine z_e1 (pc1 := 1045) (L1 := [some (.ref 0), some (.ref 4), some (.ref 19), some (.int i)]) (S1 := [.ref 0, .int (xs (i + 4).toNatClampNeg), .int (xs (i + 3).toNatClampNeg), .int (xs (i + 2).toNatClampNeg), .int (xs (i + 1).toNatClampNeg), .ref 4]) zd0_1044 rfl rfl rfl ?_
  refine z_e1 (pc1 := 1046) (L1 := [some (.ref 0), some (.ref 4), some (.ref 19), some (.int i)]) (S1 := [.int i, .ref 0, .int (xs (i + 4).toNatClampNeg), .int (xs (i + 3).toNatClampNeg), .int (xs (i + 2).toNatClampNeg), .int (xs (i + 1).toNatClampNeg), .ref 4]) zd0_1045 rfl rfl rfl ?_
  refine z_e1 (pc1 := 1047) (L1 := [some (.ref 0), some (.ref 4), some (.ref 19), some (.int i)]) (S1 := [.int 5, .int i, .ref 0, .int (xs (i + 4).toNatClampNeg), .int (xs (i + 3).toNatClampNeg), .int (xs (i + 2).toNatClampNeg), .int (xs (i + 1).toNatClampNeg), .ref 4]) zd0_1046 rfl rfl rfl ?_
  refine z_e1 (pc1 := 1048) (L1 := [some (.ref 0), some (.ref 4), some (.ref 19), some (.int i)]) (S1 := [.int (i + 5), .ref 0, .int (xs (i + 4).toNatClampNeg), .int (xs (i + 3).toNatClampNeg), .int (xs (i + 2).toNatClampNeg), .int (xs (i + 1).toNatClampNeg), .ref 4]) zd0_1047 rfl rfl rfl ?_
  refine z_eial (y := xs (i + 5).toNatClampNeg) zd0_1048 h0 (z_ixk (k := 5) (kk := 5) (by decide) (by decide) (by decide) hi0 hi1 hL) rfl ?_
  refine z_ecV (vs := [.ref 4, .int (xs (i + 1).toNatClampNeg), .int (xs (i + 2).toNatClampNeg), .int (xs (i + 3).toNatClampNeg), .int (xs (i + 4).toNatClampNeg), .int (xs (i + 5).toNatClampNeg)]) (r := []) (L2 := z_ent [.ref 4, .int (xs (i + 1).toNatClampNeg), .int (xs (i + 2).toNatClampNeg), .int (xs (i + 3).toNatClampNeg), .int (xs (i + 4).toNatClampNeg), .int (xs (i + 5).toNatClampNeg)] (z_ml 112)) zd0_1049 zcV0_102 (Or.inl rfl) rfl h4 (by decide) rfl rfl rfl (Nat.le_of_ble_eq_true rfl) rfl (Nat.le_of_ble_eq_true rfl) rfl ?_
  refine H.mono (fun v M1 hv => ?_)
  obtain ⟨⟨x1, rfl⟩, h1, ⟨fs1, h19⟩, H1⟩ := hv
  show z_ev _ 0 1052 [some (.ref 0), some (.ref 4), some (.ref 19), some (.int i)] [.int x1] _ _
  refine z_e1 (pc1 := 1053) (L1 := [some (.ref 0), some (.ref 4), some (.ref 19), some (.int i)]) (S1 := []) zd0_1052 rfl rfl rfl ?_
  refine z_e1 (pc1 := 1054) (L1 := [some (.ref 0), some (.ref 4), some (.ref 19), some (.int i)]) (S1 := [.ref 19]) zd0_1053 rfl rfl rfl ?_
  refine z_e1 (pc1 := 1055) (L1 := [some (.ref 0), some (.ref 4), some (.ref 19), some (.int i)]) (S1 := [.ref 0, .ref 19]) zd0_1054 rfl rfl rfl ?_
  refine z_e1 (pc1 := 1056) (L1 := [some (.ref 0), some (.ref 4), some (.ref 19), some (.int i)]) (S1 := [.int i, .ref 0, .ref 19]) zd0_1055 rfl rfl rfl ?_
  refine z_e1 (pc1 := 1057) (L1 := [some (.ref 0), some (.ref 4), some (.ref 19), some (.int i)]) (S1 := [.int 1, .int i, .ref 0, .ref 19]) zd0_1056 rfl rfl rfl ?_
  refine z_e1 (pc1 := 1058) (L1 := [some (.ref 0), some (.ref 4), some (.ref 19), some (.int i)]) (S1 := [.int (i + 1), .ref 0, .ref 19]) zd0_1057 rfl rfl rfl ?_
  refine z_eial (y := xs (i + 1).toNatClampNeg) zd0_1058 h1 (z_ixk (k := 1) (kk := 1) (by decide) (by decide) (by decide) hi0 hi1 hL) rfl ?_
  refine z_e1 (pc1 := 1060) (L1 := [some (.ref 0), some (.ref 4), some (.ref 19), some (.int i)]) (S1 := [.ref 0, .int (xs (i + 1).toNatClampNeg), .ref 19]) zd0_1059 rfl rfl rfl ?_
  refine z_e1 (pc1 := 1061) (L1 := [some (.ref 0), some (.ref 4), some (.ref 19), some (.int i)]) (S1 := [.int i, .ref 0, .int (xs (i + 1).toNatClampNeg), .ref 19]) zd0_1060 rfl rfl rfl ?_
  refine z_e1 (pc1 := 1062) (L1 := [some (.ref 0), some (.ref 4), some (.ref 19), some (.int i)]) (S1 := [.int 2, .int i, .ref 0, .int (xs (i + 1).toNatClampNeg), .ref 19]) zd0_1061 rfl rfl rfl ?_
  refine z_e1 (pc1 := 1063) (L1 := [some (.ref 0), some (.ref 4), some (.ref 19), some (.int i)]) (S1 := [.int (i + 2), .ref 0, .int (xs (i + 1).toNatClampNeg), .ref 19]) zd0_1062 rfl rfl rfl ?_
  refine z_eial (y := xs (i + 2).toNatClampNeg) zd0_1063 h1 (z_ixk (k := 2) (kk := 2) (by decide) (by decide) (by decide) hi0 hi1 hL) rfl ?_
  refine z_e1 (pc1 := 1065) (L1 := [some (.ref 0), some (.ref 4), some (.ref 19), some (.int i)]) (S1 := [.ref 0, .int (xs (i + 2).toNatClampNeg), .int (xs (i + 1).toNatClampNeg), .ref 19]) zd0_1064 rfl rfl rfl ?_
  refine z_e1 (pc1 := 1066) (L1 := [some (.ref 0), some (.ref 4), some (.ref 19), some (.int i)]) (S1 := [.int i, .ref 0, .int (xs (i + 2).toNatClampNeg), .int (xs (i + 1).toNatClampNeg), .ref 19]) zd0_1065 rfl rfl rfl ?_
  refine z_e1 (pc1 := 1067) (L1 := [some (.ref 0), some (.ref 4), some (.ref 19), some (.int i)]) (S1 := [.int 3, .int i, .ref 0, .int (xs (i + 2).toNatClampNeg), .int (xs (i + 1).toNatClampNeg), .ref 19]) zd0_1066 rfl rfl rfl ?_
  refine z_e1 (pc1 := 1068) (L1 := [some (.ref 0), some (.ref 4), some (.ref 19), some (.int i)]) (S1 := [.int (i + 3), .ref 0, .int (xs (i + 2).toNatClampNeg), .int (xs (i + 1).toNatClampNeg), .ref 19]) zd0_1067 rfl rfl rfl ?_
  refine z_eial (y := xs (i + 3).toNatClampNeg) zd0_1068 h1 (z_ixk (k := 3) (kk := 3) (by decide) (by decide) (by decide) hi0 hi1 hL) rfl ?_
  refine z_e1 (pc1 := 1070) (L1 := [some (.ref 0), some (.ref 4), some (.ref 19), some (.int i)]) (S1 := [.ref 0, .int (xs (i + 3).toNatClampNeg), .int (xs (i + 2).toNatClampNeg), .int (xs (i + 1).toNatClampNeg), .ref 19]) zd0_1069 rfl rfl rfl ?_
  refine z_e1 (pc1 := 1071) (L1 := [some (.ref 0), some (.ref 4), some (.ref 19), some (.int i)]) (S1 := [.int i, .ref 0, .int (xs (i + 3).toNatClampNeg), .int (xs (i + 2).toNatClampNeg), .int (xs (i + 1).toNatClampNeg), .ref 19]) zd0_1070 rfl rfl rfl ?_
  refine z_e1 (pc1 := 1072) (L1 := [some (.ref 0), some (.ref 4), some (.ref 19), some (.int i)]) (S1 := [.int 4, .int i, .ref 0, .int (xs (i + 3).toNatClampNeg), .int (xs (i + 2).toNatClampNeg), .int (xs (i + 1).toNatClampNeg), .ref 19]) zd0_1071 rfl rfl rfl ?_
  refine z_e1 (pc1 := 1073) (L1 := [some (.ref 0), some (.ref 4), some (.ref 19), some (.int i)]) (S1 := [.int (i + 4), .ref 0, .int (xs (i + 3).toNatClampNeg), .int (xs (i + 2).toNatClampNeg), .int (xs (i + 1).toNatClampNeg), .ref 19]) zd0_1072 rfl rfl rfl ?_
  refine z_eial (y := xs (i + 4).toNatClampNeg) zd0_1073 h1 (z_ixk (k := 4) (kk := 4) (by decide) (by decide) (by decide) hi0 hi1 hL) rfl ?_
  refine z_e1 (pc1 := 1075) (L1 := [some (.ref 0), some (.ref 4), some (.ref 19), some (.int i)]) (S1 := [.ref 0, .int (xs (i + 4).toNatClampNeg), .int (xs (i + 3).toNatClampNeg), .int (xs (i + 2).toNatClampNeg), .int (xs (i + 1).toNatClampNeg), .ref 19]) zd0_1074 rfl rfl rfl ?_
  refine z_e1 (pc1 := 1076) (L1 := [some (.ref 0), some (.ref 4), some (.ref 19), some (.int i)]) (S1 := [.int i, .ref 0, .int (xs (i + 4).toNatClampNeg), .int (xs (i + 3).toNatClampNeg), .int (xs (i + 2).toNatClampNeg), .int (xs (i + 1).toNatClampNeg), .ref 19]) zd0_1075 rfl rfl rfl ?_
  refine z_e1 (pc1 := 1077) (L1 := [some (.ref 0), some (.ref 4), some (.ref 19), some (.int i)]) (S1 := [.int 5, .int i, .ref 0, .int (xs (i + 4).toNatClampNeg), .int (xs (i + 3).toNatClampNeg), .int (xs (i + 2).toNatClampNeg), .int (xs (i + 1).toNatClampNeg), .ref 19]) zd0_1076 rfl rfl rfl ?_
  refine z_e1 (pc1 := 1078) (L1 := [some (.ref 0), some (.ref 4), some (.ref 19), some (.int i)]) (S1 := [.int (i + 5), .ref 0, .int (xs (i + 4).toNatClampNeg), .int (xs (i + 3).toNatClampNeg), .int (xs (i + 2).toNatClampNeg), .int (xs (i + 1).toNatClampNeg), .ref 19]) zd0_1077 rfl rfl rfl ?_
  refine z_eial (y := xs (i + 5).toNatClampNeg) zd0_1078 h1 (z_ixk (k := 5) (kk := 5) (by decide) (by decide) (by decide) hi0 hi1 hL) rfl ?_
  refine z_ecV (vs := [.ref 19, .int (xs (i + 1).toNatClampNeg), .int (xs (i + 2).toNatClampNeg), .int (xs (i + 3).toNatClampNeg), .int (xs (i + 4).toNatClampNeg), .int (xs (i + 5).toNatClampNeg)]) (r := []) (L2 := z_ent [.ref 19, .int (xs (i + 1).toNatClampNeg), .int (xs (i + 2).toNatClampNeg), .int (xs (i + 3).toNatClampNeg), .int (xs (i + 4).toNatClampNeg), .int (xs (i + 5).toNatClampNeg)] (z_ml 258)) zd0_1079 zcV0_106 (Or.inl rfl) rfl h19 (by decide) rfl rfl rfl (Nat.le_of_ble_eq_true rfl) rfl (Nat.le_of_ble_eq_true rfl) rfl ?_
  refine H1.mono (fun v M2 hv => ?_)
  obtain ⟨⟨x2, rfl⟩, hx, H2⟩ := hv
  show z_ev _ 0 1082 [some (.ref 0), some (.ref 4), some (.ref 19), some (.int i)] [.int x2] _ _
  refine z_e1 (pc1 := 1083) (L1 := [some (.ref 0), some (.ref 4), some (.ref 19), some (.int i)]) (S1 := []) zd0_1082 rfl rfl rfl ?_
  refine z_e1 (pc1 := 1774) (L1 := [some (.ref 0), some (.ref 4), some (.ref 19), some (.int i)]) (S1 := []) zd0_1083 rfl rfl rfl ?_
  exact H2
theorem z_D22 {M : zH} {xs : Nat → Int32} {L : Nat} {i : Int32} {fs : List Value} {K : Option Value → zH → Prop} (hi0 : 0 ≤ i.toInt) (hi1 : i.toInt + 6 ≤ L) (hL : L ≤ 3072) (h0 : M[0]? = some (.inl (0, L, .inl xs))) (h4 : M[4]? = some (.inr (0, fs)))
    (H : z_ev 2046 114 0 (z_ent [.ref 4, .int (xs (i + 1).toNatClampNeg), .int (xs (i + 2).toNatClampNeg), .int (xs (i + 3).toNatClampNeg), .int (xs (i + 4).toNatClampNeg)] (z_ml 114)) [] M fun v M1 => (∃ x1, v = some (.int x1)) ∧ M1[0]? = some (.inl (0, L, .inl xs)) ∧ (∃ fs1, M1[19]? = some (.inr (12, fs1))) ∧
      z_ev 2046 259 0 (z_ent [.ref 19, .int (xs (i + 1).toNatClampNeg), .int (xs (i + 2).toNatClampNeg), .int (xs (i + 3).toNatClampNeg), .int (xs (i + 4).toNatClampNeg)] (z_ml 259)) [] M1 fun v2 M2 => (∃ x2, v2 = some (.int x2)) ∧ True ∧ z_ev 2047 0 1774 [some (.ref 0), some (.ref 4), some (.ref 19), some (.int i)] [] M2 K) : z_ev 2047 0 1086 [some (.ref 0), some (.ref 4), some (.ref 19), some (.int i)] [] M K := by
  refine z_e1 (pc1 := 1087) (L1 := [some (.ref 0), some (.ref 4), some (.ref 19), some (.int i)]) (S1 := [.ref 4]) zd0_1086 rfl rfl rfl ?_
  refine z_e1 (pc1 := 1088) (L1 := [some (.ref 0), some (.ref 4), some (.ref 19), some (.int i)]) (S1 := [.ref 0, .ref 4]) zd0_1087 rfl rfl rfl ?_
  refine z_e1 (pc1 := 1089) (L1 := [some (.ref 0), some (.ref 4), some (.ref 19), some (.int i)]) (S1 := [.int i, .ref 0, .ref 4]) zd0_1088 rfl rfl rfl ?_
  refine z_e1 (pc1 := 1090) (L1 := [some (.ref 0), some (.ref 4), some (.ref 19), some (.int i)]) (S1 := [.int 1, .int i, .ref 0, .ref 4]) zd0_1089 rfl rfl rfl ?_
  refine z_e1 (pc1 := 1091) (L1 := [some (.ref 0), some (.ref 4), some (.ref 19), some (.int i)]) (S1 := [.int (i + 1), .ref 0, .ref 4]) zd0_1090 rfl rfl rfl ?_
  refine z_eial (y := xs (i + 1).toNatClampNeg) zd0_1091 h0 (z_ixk (k := 1) (kk := 1) (by decide) (by decide) (by decide) hi0 hi1 hL) rfl ?_
  refine z_e1 (pc1 := 1093) (L1 := [some (.ref 0), some (.ref 4), some (.ref 19), some (.int i)]) (S1 := [.ref 0, .int (xs (i + 1).toNatClampNeg), .ref 4]) zd0_1092 rfl rfl rfl ?_
  refine z_e1 (pc1 := 1094) (L1 := [some (.ref 0), some (.ref 4), some (.ref 19), some (.int i)]) (S1 := [.int i, .ref 0, .int (xs (i + 1).toNatClampNeg), .ref 4]) zd0_1093 rfl rfl rfl ?_
  refine z_e1 (pc1 := 1095) (L1 := [some (.ref 0), some (.ref 4), some (.ref 19), some (.int i)]) (S1 := [.int 2, .int i, .ref 0, .int (xs (i + 1).toNatClampNeg), .ref 4]) zd0_1094 rfl rfl rfl ?_
  refine z_e1 (pc1 := 1096) (L1 := [some (.ref 0), some (.ref 4), some (.ref 19), some (.int i)]) (S1 := [.int (i + 2), .ref 0, .int (xs (i + 1).toNatClampNeg), .ref 4]) zd0_1095 rfl rfl rfl ?_
  refine z_eial (y := xs (i + 2).toNatClampNeg) zd0_1096 h0 (z_ixk (k := 2) (kk := 2) (by decide) (by decide) (by decide) hi0 hi1 hL) rfl ?_
  refine z_e1 (pc1 := 1098) (L1 := [some (.ref 0), some (.ref 4), some (.ref 19), some (.int i)]) (S1 := [.ref 0, .int (xs (i + 2).toNatClampNeg), .int (xs (i + 1).toNatClampNeg), .ref 4]) zd0_1097 rfl rfl rfl ?_
  refine z_e1 (pc1 := 1099) (L1 := [some (.ref 0), some (.ref 4), some (.ref 19), some (.int i)]) (S1 := [.int i, .ref 0, .int (xs (i + 2).toNatClampNeg), .int (xs (i + 1).toNatClampNeg), .ref 4]) zd0_1098 rfl rfl rfl ?_
  refine z_e1 (pc1 := 1100) (L1 := [some (.ref 0), some (.ref 4), some (.ref 19), some (.int i)]) (S1 := [.int 3, .int i, .ref 0, .int (xs (i + 2).toNatClampNeg), .int (xs (i + 1).toNatClampNeg), .ref 4]) zd0_1099 rfl rfl rfl ?_
  refine z_e1 (pc1 := 1101) (L1 := [some (.ref 0), some (.ref 4), some (.ref 19), some (.int i)]) (S1 := [.int (i + 3), .ref 0, .int (xs (i + 2).toNatClampNeg), .int (xs (i + 1).toNatClampNeg), .ref 4]) zd0_1100 rfl rfl rfl ?_
  refine z_eial (y := xs (i + 3).toNatClampNeg) zd0_1101 h0 (z_ixk (k := 3) (kk := 3) (by decide) (by decide) (by decide) hi0 hi1 hL) rfl ?_
  refine z_e1 (pc1 := 1103) (L1 := [some (.ref 0), some (.ref 4), some (.ref 19), some (.int i)]) (S1 := [.ref 0, .int (xs (i + 3).toNatClampNeg), .int (xs (i + 2).toNatClampNeg), .int (xs (i + 1).toNatClampNeg), .ref 4]) zd0_1102 rfl rfl rfl ?_
  refine z_e1 (pc1 := 1104) (L1 := [some (.ref 0), some (.ref 4), some (.ref 19), some (.int i)]) (S1 := [.int i, .ref 0, .int (xs (i + 3).toNatClampNeg), .int (xs (i + 2).toNatClampNeg), .int (xs (i + 1).toNatClampNeg), .ref 4]) zd0_1103 rfl rfl rfl ?_
  refine z_e1 (pc1 := 1105) (L1 := [some (.ref 0), some (.ref 4), some (.ref 19), some (.int i)]) (S1 := [.int 4, .int i, .ref 0, .int (xs (i + 3).toNatClampNeg), .int (xs (i + 2).toNatClampNeg), .int (xs (i + 1).toNatClampNeg), .ref 4]) zd0_1104 rfl rfl rfl ?_
  refine z_e1 (pc1 := 1106) (L1 := [some (.ref 0), some (.ref 4), some (.ref 19), some (.int i)]) (S1 := [.int (i + 4), .ref 0, .int (xs (i + 3).toNatClampNeg), .int (xs (i + 2).toNatClampNeg), .int (xs (i + 1).toNatClampNeg), .ref 4]) zd0_1105 rfl rfl rfl ?_
  refine z_eial (y := xs (i + 4).toNatClampNeg) zd0_1106 h0 (z_ixk (k := 4) (kk := 4) (by decide) (by decide) (by decide) hi0 hi1 hL) rfl ?_
  refine z_ecV (vs := [.ref 4, .int (xs (i + 1).toNatClampNeg), .int (xs (i + 2).toNatClampNeg), .int (xs (i + 3).toNatClampNeg), .int (xs (i + 4).toNatClampNeg)]) (r := []) (L2 := z_ent [.ref 4, .int (xs (i + 1).toNatClampNeg), .int (xs (i + 2).toNatClampNeg), .int (xs (i + 3).toNatClampNeg), .int (xs (i + 4).toNatClampNeg)] (z_ml 114)) zd0_1107 zcV0_107 (Or.inl rfl) rfl h4 (by decide) rfl rfl rfl (Nat.le_of_ble_eq_true rfl) rfl (Nat.le_of_ble_eq_true rfl) rfl ?_
  refine H.mono (fun v M1 hv => ?_)
  obtain ⟨⟨x1, rfl⟩, h1, ⟨fs1, h19⟩, H1⟩ := hv
  show z_ev _ 0 1110 [some (.ref 0), some (.ref 4), some (.ref 19), some (.int i)] [.int x1] _ _
  refine z_e1 (pc1 := 1111) (L1 := [some (.ref 0), some (.ref 4), some (.ref 19), some (.int i)]) (S1 := []) zd0_1110 rfl rfl rfl ?_
  refine z_e1 (pc1 := 1112) (L1 := [some (.ref 0), some (.ref 4), some (.ref 19), some (.int i)]) (S1 := [.ref 19]) zd0_1111 rfl rfl rfl ?_
  refine z_e1 (pc1 := 1113) (L1 := [some (.ref 0), some (.ref 4), some (.ref 19), some (.int i)]) (S1 := [.ref 0, .ref 19]) zd0_1112 rfl rfl rfl ?_
  refine z_e1 (pc1 := 1114) (L1 := [some (.ref 0), some (.ref 4), some (.ref 19), some (.int i)]) (S1 := [.int i, .ref 0, .ref 19]) zd0_1113 rfl rfl rfl ?_
  refine z_e1 (pc1 := 1115) (L1 := [some (.ref 0), some (.ref 4), some (.ref 19), some (.int i)]) (S1 := [.int 1, .int i, .ref 0, .ref 19]) zd0_1114 rfl rfl rfl ?_
  refine z_e1 (pc1 := 1116) (L1 := [some (.ref 0), some (.ref 4), some (.ref 19), some (.int i)]) (S1 := [.int (i + 1), .ref 0, .ref 19]) zd0_1115 rfl rfl rfl ?_
  refine z_eial (y := xs (i + 1).toNatClampNeg) zd0_1116 h1 (z_ixk (k := 1) (kk := 1) (by decide) (by decide) (by decide) hi0 hi1 hL) rfl ?_
  refine z_e1 (pc1 := 1118) (L1 := [some (.ref 0), some (.ref 4), some (.ref 19), some (.int i)]) (S1 := [.ref 0, .int (xs (i + 1).toNatClampNeg), .ref 19]) zd0_1117 rfl rfl rfl ?_
  refine z_e1 (pc1 := 1119) (L1 := [some (.ref 0), some (.ref 4), some (.ref 19), some (.int i)]) (S1 := [.int i, .ref 0, .int (xs (i + 1).toNatClampNeg), .ref 19]) zd0_1118 rfl rfl rfl ?_
  refine z_e1 (pc1 := 1120) (L1 := [some (.ref 0), some (.ref 4), some (.ref 19), some (.int i)]) (S1 := [.int 2, .int i, .ref 0, .int (xs (i + 1).toNatClampNeg), .ref 19]) zd0_1119 rfl rfl rfl ?_
  refine z_e1 (pc1 := 1121) (L1 := [some (.ref 0), some (.ref 4), some (.ref 19), some (.int i)]) (S1 := [.int (i + 2), .ref 0, .int (xs (i + 1).toNatClampNeg), .ref 19]) zd0_1120 rfl rfl rfl ?_
  refine z_eial (y := xs (i + 2).toNatClampNeg) zd0_1121 h1 (z_ixk (k := 2) (kk := 2) (by decide) (by decide) (by decide) hi0 hi1 hL) rfl ?_
  refine z_e1 (pc1 := 1123) (L1 := [some (.ref 0), some (.ref 4), some (.ref 19), some (.int i)]) (S1 := [.ref 0, .int (xs (i + 2).toNatClampNeg), .int (xs (i + 1).toNatClampNeg), .ref 19]) zd0_1122 rfl rfl rfl ?_
  refine z_e1 (pc1 := 1124) (L1 := [some (.ref 0), some (.ref 4), some (.ref 19), some (.int i)]) (S1 := [.int i, .ref 0, .int (xs (i + 2).toNatClampNeg), .int (xs (i + 1).toNatClampNeg), .ref 19]) zd0_1123 rfl rfl rfl ?_
  refine z_e1 (pc1 := 1125) (L1 := [some (.ref 0), some (.ref 4), some (.ref 19), some (.int i)]) (S1 := [.int 3, .int i, .ref 0, .int (xs (i + 2).toNatClampNeg), .int (xs (i + 1).toNatClampNeg), .ref 19]) zd0_1124 rfl rfl rfl ?_
  refine z_e1 (pc1 := 1126) (L1 := [some (.ref 0), some (.ref 4), some (.ref 19), some (.int i)]) (S1 := [.int (i + 3), .ref 0, .int (xs (i + 2).toNatClampNeg), .int (xs (i + 1).toNatClampNeg), .ref 19]) zd0_1125 rfl rfl rfl ?_
  refine z_eial (y := xs (i + 3).toNatClampNeg) zd0_1126 h1 (z_ixk (k := 3) (kk := 3) (by decide) (by decide) (by decide) hi0 hi1 hL) rfl ?_
  refine z_e1 (pc1 := 1128) (L1 := [some (.ref 0), some (.ref 4), some (.ref 19), some (.int i)]) (S1 := [.ref 0, .int (xs (i + 3).toNatClampNeg), .int (xs (i + 2).toNatClampNeg), .int (xs (i + 1).toNatClampNeg), .ref 19]) zd0_1127 rfl rfl rfl ?_
  refine z_e1 (pc1 := 1129) (L1 := [some (.ref 0), some (.ref 4), some (.ref 19), some (.int i)]) (S1 := [.int i, .ref 0, .int (xs (i + 3).toNatClampNeg), .int (xs (i + 2).toNatClampNeg), .int (xs (i + 1).toNatClampNeg), .ref 19]) zd0_1128 rfl rfl rfl ?_
  refine z_e1 (pc1 := 1130) (L1 := [some (.ref 0), some (.ref 4), some (.ref 19), some (.int i)]) (S1 := [.int 4, .int i, .ref 0, .int (xs (i + 3).toNatClampNeg), .int (xs (i + 2).toNatClampNeg), .int (xs (i + 1).toNatClampNeg), .ref 19]) zd0_1129 rfl rfl rfl ?_
  refine z_e1 (pc1 := 1131) (L1 := [some (.ref 0), some (.ref 4), some (.ref 19), some (.int i)]) (S1 := [.int (i + 4), .ref 0, .int (xs (i + 3).toNatClampNeg), .int (xs (i + 2).toNatClampNeg), .int (xs (i + 1).toNatClampNeg), .ref 19]) zd0_1130 rfl rfl rfl ?_
  refine z_eial (y := xs (i + 4).toNatClampNeg) zd0_1131 h1 (z_ixk (k := 4) (kk := 4) (by decide) (by decide) (by decide) hi0 hi1 hL) rfl ?_
  refine z_ecV (vs := [.ref 19, .int (xs (i + 1).toNatClampNeg), .int (xs (i + 2).toNatClampNeg), .int (xs (i + 3).toNatClampNeg), .int (xs (i + 4).toNatClampNeg)]) (r := []) (L2 := z_ent [.ref 19, .int (xs (i + 1).toNatClampNeg), .int (xs (i + 2).toNatClampNeg), .int (xs (i + 3).toNatClampNeg), .int (xs (i + 4).toNatClampNeg)] (z_ml 259)) zd0_1132 zcV0_110 (Or.inl rfl) rfl h19 (by decide) rfl rfl rfl (Nat.le_of_ble_eq_true rfl) rfl (Nat.le_of_ble_eq_true rfl) rfl ?_
  refine H1.mono (fun v M2 hv => ?_)
  obtain ⟨⟨x2, rfl⟩, hx, H2⟩ := hv
  show z_ev _ 0 1135 [some (.ref 0), some (.ref 4), some (.ref 19), some (.int i)] [.int x2] _ _
  refine z_e1 (pc1 := 1136) (L1 := [some (.ref 0), some (.ref 4), some (.ref 19), some (.int i)]) (S1 := []) zd0_1135 rfl rfl rfl ?_
  refine z_e1 (pc1 := 1774) (L1 := [some (.ref 0), some (.ref 4), some (.ref 19), some (.int i)]) (S1 := []) zd0_1136 rfl rfl rfl ?_
  exact H2
theorem z_D23 {M : zH} {xs : Nat → Int32} {L : Nat} {i : Int32} {fs : List Value} {K : Option Value → zH → Prop} (hi0 : 0 ≤ i.toInt) (hi1 : i.toInt + 6 ≤ L) (hL : L ≤ 3072) (h0 : M[0]? = some (.inl (0, L, .inl xs))) (h4 : M[4]? = some (.inr (0, fs)))
    (H : z_ev 2046 116 0 (z_ent [.ref 4, .int (xs (i + 1).toNatClampNeg), .int (xs (i + 2).toNatClampNeg), .int (xs (i + 3).toNatClampNeg)] (z_ml 116)) [] M fun v M1 => (∃ x1, v = some (.int x1)) ∧ M1[0]? = some (.inl (0, L, .inl xs)) ∧ (∃ fs1, M1[19]? = some (.inr (12, fs1))) ∧
      z_ev 2046 260 0 (z_ent [.ref 19, .int (xs (i + 1).toNatClampNeg), .int (xs (i + 2).toNatClampNeg), .int (xs (i + 3).toNatClampNeg)] (z_ml 260)) [] M1 fun v2 M2 => (∃ x2, v2 = some (.int x2)) ∧ True ∧ z_ev 2047 0 1774 [some (.ref 0), some (.ref 4), some (.ref 19), some (.int i)] [] M2 K) : z_ev 2047 0 1139 [some (.ref 0), some (.ref 4), some (.ref 19), some (.int i)] [] M K := by
  refine z_e1 (pc1 := 1140) (L1 := [some (.ref 0), some (.ref 4), some (.ref 19), some (.int i)]) (S1 := [.ref 4]) zd0_1139 rfl rfl rfl ?_
  refine z_e1 (pc1 := 1141) (L1 := [some (.ref 0), some (.ref 4), some (.ref 19), some (.int i)]) (S1 := [.ref 0, .ref 4]) zd0_1140 rfl rfl rfl ?_
  refine z_e1 (pc1 := 1142) (L1 := [some (.ref 0), some (.ref 4), some (.ref 19), some (.int i)]) (S1 := [.int i, .ref 0, .ref 4]) zd0_1141 rfl rfl rfl ?_
  refine z_e1 (pc1 := 1143) (L1 := [some (.ref 0), some (.ref 4), some (.ref 19), some (.int i)]) (S1 := [.int 1, .int i, .ref 0, .ref 4]) zd0_1142 rfl rfl rfl ?_
  refine z_e1 (pc1 := 1144) (L1 := [some (.ref 0), some (.ref 4), some (.ref 19), some (.int i)]) (S1 := [.int (i + 1), .ref 0, .ref 4]) zd0_1143 rfl rfl rfl ?_
  refine z_eial (y := xs (i + 1).toNatClampNeg) zd0_1144 h0 (z_ixk (k := 1) (kk := 1) (by decide) (by decide) (by decide) hi0 hi1 hL) rfl ?_
  refine z_e1 (pc1 := 1146) (L1 := [some (.ref 0), some (.ref 4), some (.ref 19), some (.int i)]) (S1 := [.ref 0, .int (xs (i + 1).toNatClampNeg), .ref 4]) zd0_1145 rfl rfl rfl ?_
  refine z_e1 (pc1 := 1147) (L1 := [some (.ref 0), some (.ref 4), some (.ref 19), some (.int i)]) (S1 := [.int i, .ref 0, .int (xs (i + 1).toNatClampNeg), .ref 4]) zd0_1146 rfl rfl rfl ?_
  refine z_e1 (pc1 := 1148) (L1 := [some (.ref 0), some (.ref 4), some (.ref 19), some (.int i)]) (S1 := [.int 2, .int i, .ref 0, .int (xs (i + 1).toNatClampNeg), .ref 4]) zd0_1147 rfl rfl rfl ?_
  refine z_e1 (pc1 := 1149) (L1 := [some (.ref 0), some (.ref 4), some (.ref 19), some (.int i)]) (S1 := [.int (i + 2), .ref 0, .int (xs (i + 1).toNatClampNeg), .ref 4]) zd0_1148 rfl rfl rfl ?_
  refine z_eial (y := xs (i + 2).toNatClampNeg) zd0_1149 h0 (z_ixk (k := 2) (kk := 2) (by decide) (by decide) (by decide) hi0 hi1 hL) rfl ?_
  refine z_e1 (pc1 := 1151) (L1 := [some (.ref 0), some (.ref 4), some (.ref 19), some (.int i)]) (S1 := [.ref 0, .int (xs (i + 2).toNatClampNeg), .int (xs (i + 1).toNatClampNeg), .ref 4]) zd0_1150 rfl rfl rfl ?_
  refine z_e1 (pc1 := 1152) (L1 := [some (.ref 0), some (.ref 4), some (.ref 19), some (.int i)]) (S1 := [.int i, .ref 0, .int (xs (i + 2).toNatClampNeg), .int (xs (i + 1).toNatClampNeg), .ref 4]) zd0_1151 rfl rfl rfl ?_
  refine z_e1 (pc1 := 1153) (L1 := [some (.ref 0), some (.ref 4), some (.ref 19), some (.int i)]) (S1 := [.int 3, .int i, .ref 0, .int (xs (i + 2).toNatClampNeg), .int (xs (i + 1).toNatClampNeg), .ref 4]) zd0_1152 rfl rfl rfl ?_
  refine z_e1 (pc1 := 1154) (L1 := [some (.ref 0), some (.ref 4), some (.ref 19), some (.int i)]) (S1 := [.int (i + 3), .ref 0, .int (xs (i + 2).toNatClampNeg), .int (xs (i + 1).toNatClampNeg), .ref 4]) zd0_1153 rfl rfl rfl ?_
  refine z_eial (y := xs (i + 3).toNatClampNeg) zd0_1154 h0 (z_ixk (k := 3) (kk := 3) (by decide) (by decide) (by decide) hi0 hi1 hL) rfl ?_
  refine z_ecV (vs := [.ref 4, .int (xs (i + 1).toNatClampNeg), .int (xs (i + 2).toNatClampNeg), .int (xs (i + 3).toNatClampNeg)]) (r := []) (L2 := z_ent [.ref 4, .int (xs (i + 1).toNatClampNeg), .int (xs (i + 2).toNatClampNeg), .int (xs (i + 3).toNatClampNeg)] (z_ml 116)) zd0_1155 zcV0_111 (Or.inl rfl) rfl h4 (by decide) rfl rfl rfl (Nat.le_of_ble_eq_true rfl) rfl (Nat.le_of_ble_eq_true rfl) rfl ?_
  refine H.mono (fun v M1 hv => ?_)
  obtain ⟨⟨x1, rfl⟩, h1, ⟨fs1, h19⟩, H1⟩ := hv
  show z_ev _ 0 1158 [some (.ref 0), some (.ref 4), some (.ref 19), some (.int i)] [.int x1] _ _
  refine z_e1 (pc1 := 1159) (L1 := [some (.ref 0), some (.ref 4), some (.ref 19), some (.int i)]) (S1 := []) zd0_1158 rfl rfl rfl ?_
  refine z_e1 (pc1 := 1160) (L1 := [some (.ref 0), some (.ref 4), some (.ref 19), some (.int i)]) (S1 := [.ref 19]) zd0_1159 rfl rfl rfl ?_
  refine z_e1 (pc1 := 1161) (L1 := [some (.ref 0), some (.ref 4), some (.ref 19), some (.int i)]) (S1 := [.ref 0, .ref 19]) zd0_1160 rfl rfl rfl ?_
  refine z_e1 (pc1 := 1162) (L1 := [some (.ref 0), some (.ref 4), some (.ref 19), some (.int i)]) (S1 := [.int i, .ref 0, .ref 19]) zd0_1161 rfl rfl rfl ?_
  refine z_e1 (pc1 := 1163) (L1 := [some (.ref 0), some (.ref 4), some (.ref 19), some (.int i)]) (S1 := [.int 1, .int i, .ref 0, .ref 19]) zd0_1162 rfl rfl rfl ?_
  refine z_e1 (pc1 := 1164) (L1 := [some (.ref 0), some (.ref 4), some (.ref 19), some (.int i)]) (S1 := [.int (i + 1), .ref 0, .ref 19]) zd0_1163 rfl rfl rfl ?_
  refine z_eial (y := xs (i + 1).toNatClampNeg) zd0_1164 h1 (z_ixk (k := 1) (kk := 1) (by decide) (by decide) (by decide) hi0 hi1 hL) rfl ?_
  refine z_e1 (pc1 := 1166) (L1 := [some (.ref 0), some (.ref 4), some (.ref 19), some (.int i)]) (S1 := [.ref 0, .int (xs (i + 1).toNatClampNeg), .ref 19]) zd0_1165 rfl rfl rfl ?_
  refine z_e1 (pc1 := 1167) (L1 := [some (.ref 0), some (.ref 4), some (.ref 19), some (.int i)]) (S1 := [.int i, .ref 0, .int (xs (i + 1).toNatClampNeg), .ref 19]) zd0_1166 rfl rfl rfl ?_
  refine z_e1 (pc1 := 1168) (L1 := [some (.ref 0), some (.ref 4), some (.ref 19), some (.int i)]) (S1 := [.int 2, .int i, .ref 0, .int (xs (i + 1).toNatClampNeg), .ref 19]) zd0_1167 rfl rfl rfl ?_
  refine z_e1 (pc1 := 1169) (L1 := [some (.ref 0), some (.ref 4), some (.ref 19), some (.int i)]) (S1 := [.int (i + 2), .ref 0, .int (xs (i + 1).toNatClampNeg), .ref 19]) zd0_1168 rfl rfl rfl ?_
  refine z_eial (y := xs (i + 2).toNatClampNeg) zd0_1169 h1 (z_ixk (k := 2) (kk := 2) (by decide) (by decide) (by decide) hi0 hi1 hL) rfl ?_
  refine z_e1 (pc1 := 1171) (L1 := [some (.ref 0), some (.ref 4), some (.ref 19), some (.int i)]) (S1 := [.ref 0, .int (xs (i + 2).toNatClampNeg), .int (xs (i + 1).toNatClampNeg), .ref 19]) zd0_1170 rfl rfl rfl ?_
  refine z_e1 (pc1 := 1172) (L1 := [some (.ref 0), some (.ref 4), some (.ref 19), some (.int i)]) (S1 := [.int i, .ref 0, .int (xs (i + 2).toNatClampNeg), .int (xs (i + 1).toNatClampNeg), .ref 19]) zd0_1171 rfl rfl rfl ?_
  refine z_e1 (pc1 := 1173) (L1 := [some (.ref 0), some (.ref 4), some (.ref 19), some (.int i)]) (S1 := [.int 3, .int i, .ref 0, .int (xs (i + 2).toNatClampNeg), .int (xs (i + 1).toNatClampNeg), .ref 19]) zd0_1172 rfl rfl rfl ?_
  refine z_e1 (pc1 := 1174) (L1 := [some (.ref 0), some (.ref 4), some (.ref 19), some (.int i)]) (S1 := [.int (i + 3), .ref 0, .int (xs (i + 2).toNatClampNeg), .int (xs (i + 1).toNatClampNeg), .ref 19]) zd0_1173 rfl rfl rfl ?_
  refine z_eial (y := xs (i + 3).toNatClampNeg) zd0_1174 h1 (z_ixk (k := 3) (kk := 3) (by decide) (by decide) (by decide) hi0 hi1 hL) rfl ?_
  refine z_ecV (vs := [.ref 19, .int (xs (i + 1).toNatClampNeg), .int (xs (i + 2).toNatClampNeg), .int (xs (i + 3).toNatClampNeg)]) (r := []) (L2 := z_ent [.ref 19, .int (xs (i + 1).toNatClampNeg), .int (xs (i + 2).toNatClampNeg), .int (xs (i + 3).toNatClampNeg)] (z_ml 260)) zd0_1175 zcV0_114 (Or.inl rfl) rfl h19 (by decide) rfl rfl rfl (Nat.le_of_ble_eq_true rfl) rfl (Nat.le_of_ble_eq_true rfl) rfl ?_
  refine H1.mono (fun v M2 hv => ?_)
  obtain ⟨⟨x2, rfl⟩, hx, H2⟩ := hv
  show z_ev _ 0 1178 [some (.ref 0), some (.ref 4), some (.ref 19), some (.int i)] [.int x2] _ _
  refine z_e1 (pc1 := 1179) (L1 := [some (.ref 0), some (.ref 4), some (.ref 19), some (.int i)]) (S1 := []) zd0_1178 rfl rfl rfl ?_
  refine z_e1 (pc1 := 1774) (L1 := [some (.ref 0), some (.ref 4), some (.ref 19), some (.int i)]) (S1 := []) zd0_1179 rfl rfl rfl ?_
  exact H2
theorem z_D24 {M : zH} {xs : Nat → Int32} {L : Nat} {i : Int32} {fs : List Value} {K : Option Value → zH → Prop} (hi0 : 0 ≤ i.toInt) (hi1 : i.toInt + 6 ≤ L) (hL : L ≤ 3072) (h0 : M[0]? = some (.inl (0, L, .inl xs))) (h4 : M[4]? = some (.inr (0, fs)))
    (H : z_ev 2046 119 0 (z_ent [.ref 4, .int (xs (i + 1).toNatClampNeg), .int (xs (i + 2).toNatClampNeg), .int (xs (i + 3).toNatClampNeg)] (z_ml 119)) [] M fun v M1 => (∃ x1, v = some (.int x1)) ∧ M1[0]? = some (.inl (0, L, .inl xs)) ∧ (∃ fs1, M1[19]? = some (.inr (12, fs1))) ∧
      z_ev 2046 263 0 (z_ent [.ref 19, .int (xs (i + 1).toNatClampNeg), .int (xs (i + 2).toNatClampNeg), .int (xs (i + 3).toNatClampNeg)] (z_ml 263)) [] M1 fun v2 M2 => (∃ x2, v2 = some (.int x2)) ∧ True ∧ z_ev 2047 0 1774 [some (.ref 0), some (.ref 4), some (.ref 19), some (.int i)] [] M2 K) : z_ev 2047 0 1182 [some (.ref 0), some (.ref 4), some (.ref 19), some (.int i)] [] M K := by
  refine z_e1 (pc1 := 1183) (L1 := [some (.ref 0), some (.ref 4), some (.ref 19), some (.int i)]) (S1 := [.ref 4]) zd0_1182 rfl rfl rfl ?_
  refine z_e1 (pc1 := 1184) (L1 := [some (.ref 0), some (.ref 4), some (.ref 19), some (.int i)]) (S1 := [.ref 0, .ref 4]) zd0_1183 rfl rfl rfl ?_
  refine z_e1 (pc1 := 1185) (L1 := [some (.ref 0), some (.ref 4), some (.ref 19), some (.int i)]) (S1 := [.int i, .ref 0, .ref 4]) zd0_1184 rfl rfl rfl ?_
  refine z_e1 (pc1 := 1186) (L1 := [some (.ref 0), some (.ref 4), some (.ref 19), some (.int i)]) (S1 := [.int 1, .int i, .ref 0, .ref 4]) zd0_1185 rfl rfl rfl ?_
  refine z_e1 (pc1 := 1187) (L1 := [some (.ref 0), some (.ref 4), some (.ref 19), some (.int i)]) (S1 := [.int (i + 1), .ref 0, .ref 4]) zd0_1186 rfl rfl rfl ?_
  refine z_eial (y := xs (i + 1).toNatClampNeg) zd0_1187 h0 (z_ixk (k := 1) (kk := 1) (by decide) (by decide) (by decide) hi0 hi1 hL) rfl ?_
  refine z_e1 (pc1 := 1189) (L1 := [some (.ref 0), some (.ref 4), some (.ref 19), some (.int i)]) (S1 := [.ref 0, .int (xs (i + 1).toNatClampNeg), .ref 4]) zd0_1188 rfl rfl rfl ?_
  refine z_e1 (pc1 := 1190) (L1 := [some (.ref 0), some (.ref 4), some (.ref 19), some (.int i)]) (S1 := [.int i, .ref 0, .int (xs (i + 1).toNatClampNeg), .ref 4]) zd0_1189 rfl rfl rfl ?_
  refine z_e1 (pc1 := 1191) (L1 := [some (.ref 0), some (.ref 4), some (.ref 19), some (.int i)]) (S1 := [.int 2, .int i, .ref 0, .int (xs (i + 1).toNatClampNeg), .ref 4]) zd0_1190 rfl rfl rfl ?_
  refine z_e1 (pc1 := 1192) (L1 := [some (.ref 0), some (.ref 4), some (.ref 19), some (.int i)]) (S1 := [.int (i + 2), .ref 0, .int (xs (i + 1).toNatClampNeg), .ref 4]) zd0_1191 rfl rfl rfl ?_
  refine z_eial (y := xs (i + 2).toNatClampNeg) zd0_1192 h0 (z_ixk (k := 2) (kk := 2) (by decide) (by decide) (by decide) hi0 hi1 hL) rfl ?_
  refine z_e1 (pc1 := 1194) (L1 := [some (.ref 0), some (.ref 4), some (.ref 19), some (.int i)]) (S1 := [.ref 0, .int (xs (i + 2).toNatClampNeg), .int (xs (i + 1).toNatClampNeg), .ref 4]) zd0_1193 rfl rfl rfl ?_
  refine z_e1 (pc1 := 1195) (L1 := [some (.ref 0), some (.ref 4), some (.ref 19), some (.int i)]) (S1 := [.int i, .ref 0, .int (xs (i + 2).toNatClampNeg), .int (xs (i + 1).toNatClampNeg), .ref 4]) zd0_1194 rfl rfl rfl ?_
  refine z_e1 (pc1 := 1196) (L1 := [some (.ref 0), some (.ref 4), some (.ref 19), some (.int i)]) (S1 := [.int 3, .int i, .ref 0, .int (xs (i + 2).toNatClampNeg), .int (xs (i + 1).toNatClampNeg), .ref 4]) zd0_1195 rfl rfl rfl ?_
  refine z_e1 (pc1 := 1197) (L1 := [some (.ref 0), some (.ref 4), some (.ref 19), some (.int i)]) (S1 := [.int (i + 3), .ref 0, .int (xs (i + 2).toNatClampNeg), .int (xs (i + 1).toNatClampNeg), .ref 4]) zd0_1196 rfl rfl rfl ?_
  refine z_eial (y := xs (i + 3).toNatClampNeg) zd0_1197 h0 (z_ixk (k := 3) (kk := 3) (by decide) (by decide) (by decide) hi0 hi1 hL) rfl ?_
  refine z_ecV (vs := [.ref 4, .int (xs (i + 1).toNatClampNeg), .int (xs (i + 2).toNatClampNeg), .int (xs (i + 3).toNatClampNeg)]) (r := []) (L2 := z_ent [.ref 4, .int (xs (i + 1).toNatClampNeg), .int (xs (i + 2).toNatClampNeg), .int (xs (i + 3).toNatClampNeg)] (z_ml 119)) zd0_1198 zcV0_115 (Or.inl rfl) rfl h4 (by decide) rfl rfl rfl (Nat.le_of_ble_eq_true rfl) rfl (Nat.le_of_ble_eq_true rfl) rfl ?_
  refine H.mono (fun v M1 hv => ?_)
  obtain ⟨⟨x1, rfl⟩, h1, ⟨fs1, h19⟩, H1⟩ := hv
  show z_ev _ 0 1201 [some (.ref 0), some (.ref 4), some (.ref 19), some (.int i)] [.int x1] _ _
  refine z_e1 (pc1 := 1202) (L1 := [some (.ref 0), some (.ref 4), some (.ref 19), some (.int i)]) (S1 := []) zd0_1201 rfl rfl rfl ?_
  refine z_e1 (pc1 := 1203) (L1 := [some (.ref 0), some (.ref 4), some (.ref 19), some (.int i)]) (S1 := [.ref 19]) zd0_1202 rfl rfl rfl ?_
  refine z_e1 (pc1 := 1204) (L1 := [some (.ref 0), some (.ref 4), some (.ref 19), some (.int i)]) (S1 := [.ref 0, .ref 19]) zd0_1203 rfl rfl rfl ?_
  refine z_e1 (pc1 := 1205) (L1 := [some (.ref 0), some (.ref 4), some (.ref 19), some (.int i)]) (S1 := [.int i, .ref 0, .ref 19]) zd0_1204 rfl rfl rfl ?_
  refine z_e1 (pc1 := 1206) (L1 := [some (.ref 0), some (.ref 4), some (.ref 19), some (.int i)]) (S1 := [.int 1, .int i, .ref 0, .ref 19]) zd0_1205 rfl rfl rfl ?_
  refine z_e1 (pc1 := 1207) (L1 := [some (.ref 0), some (.ref 4), some (.ref 19), some (.int i)]) (S1 := [.int (i + 1), .ref 0, .ref 19]) zd0_1206 rfl rfl rfl ?_
  refine z_eial (y := xs (i + 1).toNatClampNeg) zd0_1207 h1 (z_ixk (k := 1) (kk := 1) (by decide) (by decide) (by decide) hi0 hi1 hL) rfl ?_
  refine z_e1 (pc1 := 1209) (L1 := [some (.ref 0), some (.ref 4), some (.ref 19), some (.int i)]) (S1 := [.ref 0, .int (xs (i + 1).toNatClampNeg), .ref 19]) zd0_1208 rfl rfl rfl ?_
  refine z_e1 (pc1 := 1210) (L1 := [some (.ref 0), some (.ref 4), some (.ref 19), some (.int i)]) (S1 := [.int i, .ref 0, .int (xs (i + 1).toNatClampNeg), .ref 19]) zd0_1209 rfl rfl rfl ?_
  refine z_e1 (pc1 := 1211) (L1 := [some (.ref 0), some (.ref 4), some (.ref 19), some (.int i)]) (S1 := [.int 2, .int i, .ref 0, .int (xs (i + 1).toNatClampNeg), .ref 19]) zd0_1210 rfl rfl rfl ?_
  refine z_e1 (pc1 := 1212) (L1 := [some (.ref 0), some (.ref 4), some (.ref 19), some (.int i)]) (S1 := [.int (i + 2), .ref 0, .int (xs (i + 1).toNatClampNeg), .ref 19]) zd0_1211 rfl rfl rfl ?_
  refine z_eial (y := xs (i + 2).toNatClampNeg) zd0_1212 h1 (z_ixk (k := 2) (kk := 2) (by decide) (by decide) (by decide) hi0 hi1 hL) rfl ?_
  refine z_e1 (pc1 := 1214) (L1 := [some (.ref 0), some (.ref 4), some (.ref 19), some (.int i)]) (S1 := [.ref 0, .int (xs (i + 2).toNatClampNeg), .int (xs (i + 1).toNatClampNeg), .ref 19]) zd0_1213 rfl rfl rfl ?_
  refine z_e1 (pc1 := 1215) (L1 := [some (.ref 0), some (.ref 4), some (.ref 19), some (.int i)]) (S1 := [.int i, .ref 0, .int (xs (i + 2).toNatClampNeg), .int (xs (i + 1).toNatClampNeg), .ref 19]) zd0_1214 rfl rfl rfl ?_
  refine z_e1 (pc1 := 1216) (L1 := [some (.ref 0), some (.ref 4), some (.ref 19), some (.int i)]) (S1 := [.int 3, .int i, .ref 0, .int (xs (i + 2).toNatClampNeg), .int (xs (i + 1).toNatClampNeg), .ref 19]) zd0_1215 rfl rfl rfl ?_
  refine z_e1 (pc1 := 1217) (L1 := [some (.ref 0), some (.ref 4), some (.ref 19), some (.int i)]) (S1 := [.int (i + 3), .ref 0, .int (xs (i + 2).toNatClampNeg), .int (xs (i + 1).toNatClampNeg), .ref 19]) zd0_1216 rfl rfl rfl ?_
  refine z_eial (y := xs (i + 3).toNatClampNeg) zd0_1217 h1 (z_ixk (k := 3) (kk := 3) (by decide) (by decide) (by decide) hi0 hi1 hL) rfl ?_
  refine z_ecV (vs := [.ref 19, .int (xs (i + 1).toNatClampNeg), .int (xs (i + 2).toNatClampNeg), .int (xs (i + 3).toNatClampNeg)]) (r := []) (L2 := z_ent [.ref 19, .int (xs (i + 1).toNatClampNeg), .int (xs (i + 2).toNatClampNeg), .int (xs (i + 3).toNatClampNeg)] (z_ml 263)) zd0_1218 zcV0_118 (Or.inl rfl) rfl h19 (by decide) rfl rfl rfl (Nat.le_of_ble_eq_true rfl) rfl (Nat.le_of_ble_eq_true rfl) rfl ?_
  refine H1.mono (fun v M2 hv => ?_)
  obtain ⟨⟨x2, rfl⟩, hx, H2⟩ := hv
  show z_ev _ 0 1221 [some (.ref 0), some (.ref 4), some (.ref 19), some (.int i)] [.int x2] _ _
  refine z_e1 (pc1 := 1222) (L1 := [some (.ref 0), some (.ref 4), some (.ref 19), some (.int i)]) (S1 := []) zd0_1221 rfl rfl rfl ?_
  refine z_e1 (pc1 := 1774) (L1 := [some (.ref 0), some (.ref 4), some (.ref 19), some (.int i)]) (S1 := []) zd0_1222 rfl rfl rfl ?_
  exact H2
theorem z_D25 {M : zH} {xs : Nat → Int32} {L : Nat} {i : Int32} {fs : List Value} {K : Option Value → zH → Prop} (hi0 : 0 ≤ i.toInt) (hi1 : i.toInt + 6 ≤ L) (hL : L ≤ 3072) (h0 : M[0]? = some (.inl (0, L, .inl xs))) (h4 : M[4]? = some (.inr (0, fs)))
    (H : z_ev 2046 129 0 (z_ent [.ref 4, .int (xs (i + 1).toNatClampNeg), .int (xs (i + 2).toNatClampNeg), .int (xs (i + 3).toNatClampNeg), .int (xs (i + 4).toNatClampNeg)] (z_ml 129)) [] M fun v M1 => (∃ x1, v = some (.int x1)) ∧ M1[0]? = some (.inl (0, L, .inl xs)) ∧ (∃ fs1, M1[19]? = some (.inr (12, fs1))) ∧
      z_ev 2046 264 0 (z_ent [.ref 19, .int (xs (i + 1).toNatClampNeg), .int (xs (i + 2).toNatClampNeg), .int (xs (i + 3).toNatClampNeg), .int (xs (i + 4).toNatClampNeg)] (z_ml 264)) [] M1 fun v2 M2 => (∃ x2, v2 = some (.int x2)) ∧ True ∧ z_ev 2047 0 1774 [some (.ref 0), some (.ref 4), some (.ref 19), some (.int i)] [] M2 K) : z_ev 2047 0 1225 [some (.ref 0), some (.ref 4), some (.ref 19), some (.int i)] [] M K := by
  refine z_e1 (pc1 := 1226) (L1 := [some (.ref 0), some (.ref 4), some (.ref 19), some (.int i)]) (S1 := [.ref 4]) zd0_1225 rfl rfl rfl ?_
  refine z_e1 (pc1 := 1227) (L1 := [some (.ref 0), some (.ref 4), some (.ref 19), some (.int i)]) (S1 := [.ref 0, .ref 4]) zd0_1226 rfl rfl rfl ?_
  refine z_e1 (pc1 := 1228) (L1 := [some (.ref 0), some (.ref 4), some (.ref 19), some (.int i)]) (S1 := [.int i, .ref 0, .ref 4]) zd0_1227 rfl rfl rfl ?_
  refine z_e1 (pc1 := 1229) (L1 := [some (.ref 0), some (.ref 4), some (.ref 19), some (.int i)]) (S1 := [.int 1, .int i, .ref 0, .ref 4]) zd0_1228 rfl rfl rfl ?_
  refine z_e1 (pc1 := 1230) (L1 := [some (.ref 0), some (.ref 4), some (.ref 19), some (.int i)]) (S1 := [.int (i + 1), .ref 0, .ref 4]) zd0_1229 rfl rfl rfl ?_
  refine z_eial (y := xs (i + 1).toNatClampNeg) zd0_1230 h0 (z_ixk (k := 1) (kk := 1) (by decide) (by decide) (by decide) hi0 hi1 hL) rfl ?_
  refine z_e1 (pc1 := 1232) (L1 := [some (.ref 0), some (.ref 4), some (.ref 19), some (.int i)]) (S1 := [.ref 0, .int (xs (i + 1).toNatClampNeg), .ref 4]) zd0_1231 rfl rfl rfl ?_
  refine z_e1 (pc1 := 1233) (L1 := [some (.ref 0), some (.ref 4), some (.ref 19), some (.int i)]) (S1 := [.int i, .ref 0, .int (xs (i + 1).toNatClampNeg), .ref 4]) zd0_1232 rfl rfl rfl ?_
  refine z_e1 (pc1 := 1234) (L1 := [some (.ref 0), some (.ref 4), some (.ref 19), some (.int i)]) (S1 := [.int 2, .int i, .ref 0, .int (xs (i + 1).toNatClampNeg), .ref 4]) zd0_1233 rfl rfl rfl ?_
  refine z_e1 (pc1 := 1235) (L1 := [some (.ref 0), some (.ref 4), some (.ref 19), some (.int i)]) (S1 := [.int (i + 2), .ref 0, .int (xs (i + 1).toNatClampNeg), .ref 4]) zd0_1234 rfl rfl rfl ?_
  refine z_eial (y := xs (i + 2).toNatClampNeg) zd0_1235 h0 (z_ixk (k := 2) (kk := 2) (by decide) (by decide) (by decide) hi0 hi1 hL) rfl ?_
  refine z_e1 (pc1 := 1237) (L1 := [some (.ref 0), some (.ref 4), some (.ref 19), some (.int i)]) (S1 := [.ref 0, .int (xs (i + 2).toNatClampNeg), .int (xs (i + 1).toNatClampNeg), .ref 4]) zd0_1236 rfl rfl rfl ?_
  refine z_e1 (pc1 := 1238) (L1 := [some (.ref 0), some (.ref 4), some (.ref 19), some (.int i)]) (S1 := [.int i, .ref 0, .int (xs (i + 2).toNatClampNeg), .int (xs (i + 1).toNatClampNeg), .ref 4]) zd0_1237 rfl rfl rfl ?_
  refine z_e1 (pc1 := 1239) (L1 := [some (.ref 0), some (.ref 4), some (.ref 19), some (.int i)]) (S1 := [.int 3, .int i, .ref 0, .int (xs (i + 2).toNatClampNeg), .int (xs (i + 1).toNatClampNeg), .ref 4]) zd0_1238 rfl rfl rfl ?_
  refine z_e1 (pc1 := 1240) (L1 := [some (.ref 0), some (.ref 4), some (.ref 19), some (.int i)]) (S1 := [.int (i + 3), .ref 0, .int (xs (i + 2).toNatClampNeg), .int (xs (i + 1).toNatClampNeg), .ref 4]) zd0_1239 rfl rfl rfl ?_
  refine z_eial (y := xs (i + 3).toNatClampNeg) zd0_1240 h0 (z_ixk (k := 3) (kk := 3) (by decide) (by decide) (by decide) hi0 hi1 hL) rfl ?_
  refine z_e1 (pc1 := 1242) (L1 := [some (.ref 0), some (.ref 4), some (.ref 19), some (.int i)]) (S1 := [.ref 0, .int (xs (i + 3).toNatClampNeg), .int (xs (i + 2).toNatClampNeg), .int (xs (i + 1).toNatClampNeg), .ref 4]) zd0_1241 rfl rfl rfl ?_
  refine z_e1 (pc1 := 1243) (L1 := [some (.ref 0), some (.ref 4), some (.ref 19), some (.int i)]) (S1 := [.int i, .ref 0, .int (xs (i + 3).toNatClampNeg), .int (xs (i + 2).toNatClampNeg), .int (xs (i + 1).toNatClampNeg), .ref 4]) zd0_1242 rfl rfl rfl ?_
  refine z_e1 (pc1 := 1244) (L1 := [some (.ref 0), some (.ref 4), some (.ref 19), some (.int i)]) (S1 := [.int 4, .int i, .ref 0, .int (xs (i + 3).toNatClampNeg), .int (xs (i + 2).toNatClampNeg), .int (xs (i + 1).toNatClampNeg), .ref 4]) zd0_1243 rfl rfl rfl ?_
  refine z_e1 (pc1 := 1245) (L1 := [some (.ref 0), some (.ref 4), some (.ref 19), some (.int i)]) (S1 := [.int (i + 4), .ref 0, .int (xs (i + 3).toNatClampNeg), .int (xs (i + 2).toNatClampNeg), .int (xs (i + 1).toNatClampNeg), .ref 4]) zd0_1244 rfl rfl rfl ?_
  refine z_eial (y := xs (i + 4).toNatClampNeg) zd0_1245 h0 (z_ixk (k := 4) (kk := 4) (by decide) (by decide) (by decide) hi0 hi1 hL) rfl ?_
  refine z_ecV (vs := [.ref 4, .int (xs (i + 1).toNatClampNeg), .int (xs (i + 2).toNatClampNeg), .int (xs (i + 3).toNatClampNeg), .int (xs (i + 4).toNatClampNeg)]) (r := []) (L2 := z_ent [.ref 4, .int (xs (i + 1).toNatClampNeg), .int (xs (i + 2).toNatClampNeg), .int (xs (i + 3).toNatClampNeg), .int (xs (i + 4).toNatClampNeg)] (z_ml 129)) zd0_1246 zcV0_119 (Or.inl rfl) rfl h4 (by decide) rfl rfl rfl (Nat.le_of_ble_eq_true rfl) rfl (Nat.le_of_ble_eq_true rfl) rfl ?_
  refine H.mono (fun v M1 hv => ?_)
  obtain ⟨⟨x1, rfl⟩, h1, ⟨fs1, h19⟩, H1⟩ := hv
  show z_ev _ 0 1249 [some (.ref 0), some (.ref 4), some (.ref 19), some (.int i)] [.int x1] _ _
  refine z_e1 (pc1 := 1250) (L1 := [some (.ref 0), some (.ref 4), some (.ref 19), some (.int i)]) (S1 := []) zd0_1249 rfl rfl rfl ?_
  refine z_e1 (pc1 := 1251) (L1 := [some (.ref 0), some (.ref 4), some (.ref 19), some (.int i)]) (S1 := [.ref 19]) zd0_1250 rfl rfl rfl ?_
  refine z_e1 (pc1 := 1252) (L1 := [some (.ref 0), some (.ref 4), some (.ref 19), some (.int i)]) (S1 := [.ref 0, .ref 19]) zd0_1251 rfl rfl rfl ?_
  refine z_e1 (pc1 := 1253) (L1 := [some (.ref 0), some (.ref 4), some (.ref 19), some (.int i)]) (S1 := [.int i, .ref 0, .ref 19]) zd0_1252 rfl rfl rfl ?_
  refine z_e1 (pc1 := 1254) (L1 := [some (.ref 0), some (.ref 4), some (.ref 19), some (.int i)]) (S1 := [.int 1, .int i, .ref 0, .ref 19]) zd0_1253 rfl rfl rfl ?_
  refine z_e1 (pc1 := 1255) (L1 := [some (.ref 0), some (.ref 4), some (.ref 19), some (.int i)]) (S1 := [.int (i + 1), .ref 0, .ref 19]) zd0_1254 rfl rfl rfl ?_
  refine z_eial (y := xs (i + 1).toNatClampNeg) zd0_1255 h1 (z_ixk (k := 1) (kk := 1) (by decide) (by decide) (by decide) hi0 hi1 hL) rfl ?_
  refine z_e1 (pc1 := 1257) (L1 := [some (.ref 0), some (.ref 4), some (.ref 19), some (.int i)]) (S1 := [.ref 0, .int (xs (i + 1).toNatClampNeg), .ref 19]) zd0_1256 rfl rfl rfl ?_
  refine z_e1 (pc1 := 1258) (L1 := [some (.ref 0), some (.ref 4), some (.ref 19), some (.int i)]) (S1 := [.int i, .ref 0, .int (xs (i + 1).toNatClampNeg), .ref 19]) zd0_1257 rfl rfl rfl ?_
  refine z_e1 (pc1 := 1259) (L1 := [some (.ref 0), some (.ref 4), some (.ref 19), some (.int i)]) (S1 := [.int 2, .int i, .ref 0, .int (xs (i + 1).toNatClampNeg), .ref 19]) zd0_1258 rfl rfl rfl ?_
  refine z_e1 (pc1 := 1260) (L1 := [some (.ref 0), some (.ref 4), some (.ref 19), some (.int i)]) (S1 := [.int (i + 2), .ref 0, .int (xs (i + 1).toNatClampNeg), .ref 19]) zd0_1259 rfl rfl rfl ?_
  refine z_eial (y := xs (i + 2).toNatClampNeg) zd0_1260 h1 (z_ixk (k := 2) (kk := 2) (by decide) (by decide) (by decide) hi0 hi1 hL) rfl ?_
  refine z_e1 (pc1 := 1262) (L1 := [some (.ref 0), some (.ref 4), some (.ref 19), some (.int i)]) (S1 := [.ref 0, .int (xs (i + 2).toNatClampNeg), .int (xs (i + 1).toNatClampNeg), .ref 19]) zd0_1261 rfl rfl rfl ?_
  refine z_e1 (pc1 := 1263) (L1 := [some (.ref 0), some (.ref 4), some (.ref 19), some (.int i)]) (S1 := [.int i, .ref 0, .int (xs (i + 2).toNatClampNeg), .int (xs (i + 1).toNatClampNeg), .ref 19]) zd0_1262 rfl rfl rfl ?_
  refine z_e1 (pc1 := 1264) (L1 := [some (.ref 0), some (.ref 4), some (.ref 19), some (.int i)]) (S1 := [.int 3, .int i, .ref 0, .int (xs (i + 2).toNatClampNeg), .int (xs (i + 1).toNatClampNeg), .ref 19]) zd0_1263 rfl rfl rfl ?_
  refine z_e1 (pc1 := 1265) (L1 := [some (.ref 0), some (.ref 4), some (.ref 19), some (.int i)]) (S1 := [.int (i + 3), .ref 0, .int (xs (i + 2).toNatClampNeg), .int (xs (i + 1).toNatClampNeg), .ref 19]) zd0_1264 rfl rfl rfl ?_
  refine z_eial (y := xs (i + 3).toNatClampNeg) zd0_1265 h1 (z_ixk (k := 3) (kk := 3) (by decide) (by decide) (by decide) hi0 hi1 hL) rfl ?_
  refine z_e1 (pc1 := 1267) (L1 := [some (.ref 0), some (.ref 4), some (.ref 19), some (.int i)]) (S1 := [.ref 0, .int (xs (i + 3).toNatClampNeg), .int (xs (i + 2).toNatClampNeg), .int (xs (i + 1).toNatClampNeg), .ref 19]) zd0_1266 rfl rfl rfl ?_
  refine z_e1 (pc1 := 1268) (L1 := [some (.ref 0), some (.ref 4), some (.ref 19), some (.int i)]) (S1 := [.int i, .ref 0, .int (xs (i + 3).toNatClampNeg), .int (xs (i + 2).toNatClampNeg), .int (xs (i + 1).toNatClampNeg), .ref 19]) zd0_1267 rfl rfl rfl ?_
  refine z_e1 (pc1 := 1269) (L1 := [some (.ref 0), some (.ref 4), some (.ref 19), some (.int i)]) (S1 := [.int 4, .int i, .ref 0, .int (xs (i + 3).toNatClampNeg), .int (xs (i + 2).toNatClampNeg), .int (xs (i + 1).toNatClampNeg), .ref 19]) zd0_1268 rfl rfl rfl ?_
  refine z_e1 (pc1 := 1270) (L1 := [some (.ref 0), some (.ref 4), some (.ref 19), some (.int i)]) (S1 := [.int (i + 4), .ref 0, .int (xs (i + 3).toNatClampNeg), .int (xs (i + 2).toNatClampNeg), .int (xs (i + 1).toNatClampNeg), .ref 19]) zd0_1269 rfl rfl rfl ?_
  refine z_eial (y := xs (i + 4).toNatClampNeg) zd0_1270 h1 (z_ixk (k := 4) (kk := 4) (by decide) (by decide) (by decide) hi0 hi1 hL) rfl ?_
  refine z_ecV (vs := [.ref 19, .int (xs (i + 1).toNatClampNeg), .int (xs (i + 2).toNatClampNeg), .int (xs (i + 3).toNatClampNeg), .int (xs (i + 4).toNatClampNeg)]) (r := []) (L2 := z_ent [.ref 19, .int (xs (i + 1).toNatClampNeg), .int (xs (i + 2).toNatClampNeg), .int (xs (i + 3).toNatClampNeg), .int (xs (i + 4).toNatClampNeg)] (z_ml 264)) zd0_1271 zcV0_122 (Or.inl rfl) rfl h19 (by decide) rfl rfl rfl (Nat.le_of_ble_eq_true rfl) rfl (Nat.le_of_ble_eq_true rfl) rfl ?_
  refine H1.mono (fun v M2 hv => ?_)
  obtain ⟨⟨x2, rfl⟩, hx, H2⟩ := hv
  show z_ev _ 0 1274 [some (.ref 0), some (.ref 4), some (.ref 19), some (.int i)] [.int x2] _ _
  refine z_e1 (pc1 := 1275) (L1 := [some (.ref 0), some (.ref 4), some (.ref 19), some (.int i)]) (S1 := []) zd0_1274 rfl rfl rfl ?_
  refine z_e1 (pc1 := 1774) (L1 := [some (.ref 0), some (.ref 4), some (.ref 19), some (.int i)]) (S1 := []) zd0_1275 rfl rfl rfl ?_
  exact H2
theorem z_D26 {M : zH} {xs : Nat → Int32} {L : Nat} {i : Int32} {fs : List Value} {K : Option Value → zH → Prop} (hi0 : 0 ≤ i.toInt) (hi1 : i.toInt + 6 ≤ L) (hL : L ≤ 3072) (h0 : M[0]? = some (.inl (0, L, .inl xs))) (h4 : M[4]? = some (.inr (0, fs)))
    (H : z_ev 2046 144 0 (z_ent [.ref 4, .int (xs (i + 1).toNatClampNeg), .int (xs (i + 2).toNatClampNeg), .int (xs (i + 3).toNatClampNeg)] (z_ml 144)) [] M fun v M1 => (∃ x1, v = some (.int x1)) ∧ M1[0]? = some (.inl (0, L, .inl xs)) ∧ (∃ fs1, M1[19]? = some (.inr (12, fs1))) ∧
      z_ev 2046 271 0 (z_ent [.ref 19, .int (xs (i + 1).toNatClampNeg), .int (xs (i + 2).toNatClampNeg), .int (xs (i + 3).toNatClampNeg)] (z_ml 271)) [] M1 fun v2 M2 => (∃ x2, v2 = some (.int x2)) ∧ True ∧ z_ev 2047 0 1774 [some (.ref 0), some (.ref 4), some (.ref 19), some (.int i)] [] M2 K) : z_ev 2047 0 1278 [some (.ref 0), some (.ref 4), some (.ref 19), some (.int i)] [] M K := by
  refine z_e1 (pc1 := 1279) (L1 := [some (.ref 0), some (.ref 4), some (.ref 19), some (.int i)]) (S1 := [.ref 4]) zd0_1278 rfl rfl rfl ?_
  refine z_e1 (pc1 := 1280) (L1 := [some (.ref 0), some (.ref 4), some (.ref 19), some (.int i)]) (S1 := [.ref 0, .ref 4]) zd0_1279 rfl rfl rfl ?_
  refine z_e1 (pc1 := 1281) (L1 := [some (.ref 0), some (.ref 4), some (.ref 19), some (.int i)]) (S1 := [.int i, .ref 0, .ref 4]) zd0_1280 rfl rfl rfl ?_
  refine z_e1 (pc1 := 1282) (L1 := [some (.ref 0), some (.ref 4), some (.ref 19), some (.int i)]) (S1 := [.int 1, .int i, .ref 0, .ref 4]) zd0_1281 rfl rfl rfl ?_
  refine z_e1 (pc1 := 1283) (L1 := [some (.ref 0), some (.ref 4), some (.ref 19), some (.int i)]) (S1 := [.int (i + 1), .ref 0, .ref 4]) zd0_1282 rfl rfl rfl ?_
  refine z_eial (y := xs (i + 1).toNatClampNeg) zd0_1283 h0 (z_ixk (k := 1) (kk := 1) (by decide) (by decide) (by decide) hi0 hi1 hL) rfl ?_
  refine z_e1 (pc1 := 1285) (L1 := [some (.ref 0), some (.ref 4), some (.ref 19), some (.int i)]) (S1 := [.ref 0, .int (xs (i + 1).toNatClampNeg), .ref 4]) zd0_1284 rfl rfl rfl ?_
  refine z_e1 (pc1 := 1286) (L1 := [some (.ref 0), some (.ref 4), some (.ref 19), some (.int i)]) (S1 := [.int i, .ref 0, .int (xs (i + 1).toNatClampNeg), .ref 4]) zd0_1285 rfl rfl rfl ?_
  refine z_e1 (pc1 := 1287) (L1 := [some (.ref 0), some (.ref 4), some (.ref 19), some (.int i)]) (S1 := [.int 2, .int i, .ref 0, .int (xs (i + 1).toNatClampNeg), .ref 4]) zd0_1286 rfl rfl rfl ?_
  refine z_e1 (pc1 := 1288) (L1 := [some (.ref 0), some (.ref 4), some (.ref 19), some (.int i)]) (S1 := [.int (i + 2), .ref 0, .int (xs (i + 1).toNatClampNeg), .ref 4]) zd0_1287 rfl rfl rfl ?_
  refine z_eial (y := xs (i + 2).toNatClampNeg) zd0_1288 h0 (z_ixk (k := 2) (kk := 2) (by decide) (by decide) (by decide) hi0 hi1 hL) rfl ?_
  refine z_e1 (pc1 := 1290) (L1 := [some (.ref 0), some (.ref 4), some (.ref 19), some (.int i)]) (S1 := [.ref 0, .int (xs (i + 2).toNatClampNeg), .int (xs (i + 1).toNatClampNeg), .ref 4]) zd0_1289 rfl rfl rfl ?_
  refine z_e1 (pc1 := 1291) (L1 := [some (.ref 0), some (.ref 4), some (.ref 19), some (.int i)]) (S1 := [.int i, .ref 0, .int (xs (i + 2).toNatClampNeg), .int (xs (i + 1).toNatClampNeg), .ref 4]) zd0_1290 rfl rfl rfl ?_
  refine z_e1 (pc1 := 1292) (L1 := [some (.ref 0), some (.ref 4), some (.ref 19), some (.int i)]) (S1 := [.int 3, .int i, .ref 0, .int (xs (i + 2).toNatClampNeg), .int (xs (i + 1).toNatClampNeg), .ref 4]) zd0_1291 rfl rfl rfl ?_
  refine z_e1 (pc1 := 1293) (L1 := [some (.ref 0), some (.ref 4), some (.ref 19), some (.int i)]) (S1 := [.int (i + 3), .ref 0, .int (xs (i + 2).toNatClampNeg), .int (xs (i + 1).toNatClampNeg), .ref 4]) zd0_1292 rfl rfl rfl ?_
  refine z_eial (y := xs (i + 3).toNatClampNeg) zd0_1293 h0 (z_ixk (k := 3) (kk := 3) (by decide) (by decide) (by decide) hi0 hi1 hL) rfl ?_
  refine z_ecV (vs := [.ref 4, .int (xs (i + 1).toNatClampNeg), .int (xs (i + 2).toNatClampNeg), .int (xs (i + 3).toNatClampNeg)]) (r := []) (L2 := z_ent [.ref 4, .int (xs (i + 1).toNatClampNeg), .int (xs (i + 2).toNatClampNeg), .int (xs (i + 3).toNatClampNeg)] (z_ml 144)) zd0_1294 zcV0_123 (Or.inl rfl) rfl h4 (by decide) rfl rfl rfl (Nat.le_of_ble_eq_true rfl) rfl (Nat.le_of_ble_eq_true rfl) rfl ?_
  refine H.mono (fun v M1 hv => ?_)
  obtain ⟨⟨x1, rfl⟩, h1, ⟨fs1, h19⟩, H1⟩ := hv
  show z_ev _ 0 1297 [some (.ref 0), some (.ref 4), some (.ref 19), some (.int i)] [.int x1] _ _
  refine z_e1 (pc1 := 1298) (L1 := [some (.ref 0), some (.ref 4), some (.ref 19), some (.int i)]) (S1 := []) zd0_1297 rfl rfl rfl ?_
  refine z_e1 (pc1 := 1299) (L1 := [some (.ref 0), some (.ref 4), some (.ref 19), some (.int i)]) (S1 := [.ref 19]) zd0_1298 rfl rfl rfl ?_
  refine z_e1 (pc1 := 1300) (L1 := [some (.ref 0), some (.ref 4), some (.ref 19), some (.int i)]) (S1 := [.ref 0, .ref 19]) zd0_1299 rfl rfl rfl ?_
  refine z_e1 (pc1 := 1301) (L1 := [some (.ref 0), some (.ref 4), some (.ref 19), some (.int i)]) (S1 := [.int i, .ref 0, .ref 19]) zd0_1300 rfl rfl rfl ?_
  refine z_e1 (pc1 := 1302) (L1 := [some (.ref 0), some (.ref 4), some (.ref 19), some (.int i)]) (S1 := [.int 1, .int i, .ref 0, .ref 19]) zd0_1301 rfl rfl rfl ?_
  refine z_e1 (pc1 := 1303) (L1 := [some (.ref 0), some (.ref 4), some (.ref 19), some (.int i)]) (S1 := [.int (i + 1), .ref 0, .ref 19]) zd0_1302 rfl rfl rfl ?_
  refine z_eial (y := xs (i + 1).toNatClampNeg) zd0_1303 h1 (z_ixk (k := 1) (kk := 1) (by decide) (by decide) (by decide) hi0 hi1 hL) rfl ?_
  refine z_e1 (pc1 := 1305) (L1 := [some (.ref 0), some (.ref 4), some (.ref 19), some (.int i)]) (S1 := [.ref 0, .int (xs (i + 1).toNatClampNeg), .ref 19]) zd0_1304 rfl rfl rfl ?_
  refine z_e1 (pc1 := 1306) (L1 := [some (.ref 0), some (.ref 4), some (.ref 19), some (.int i)]) (S1 := [.int i, .ref 0, .int (xs (i + 1).toNatClampNeg), .ref 19]) zd0_1305 rfl rfl rfl ?_
  refine z_e1 (pc1 := 1307) (L1 := [some (.ref 0), some (.ref 4), some (.ref 19), some (.int i)]) (S1 := [.int 2, .int i, .ref 0, .int (xs (i + 1).toNatClampNeg), .ref 19]) zd0_1306 rfl rfl rfl ?_
  refine z_e1 (pc1 := 1308) (L1 := [some (.ref 0), some (.ref 4), some (.ref 19), some (.int i)]) (S1 := [.int (i + 2), .ref 0, .int (xs (i + 1).toNatClampNeg), .ref 19]) zd0_1307 rfl rfl rfl ?_
  refine z_eial (y := xs (i + 2).toNatClampNeg) zd0_1308 h1 (z_ixk (k := 2) (kk := 2) (by decide) (by decide) (by decide) hi0 hi1 hL) rfl ?_
  refine z_e1 (pc1 := 1310) (L1 := [some (.ref 0), some (.ref 4), some (.ref 19), some (.int i)]) (S1 := [.ref 0, .int (xs (i + 2).toNatClampNeg), .int (xs (i + 1).toNatClampNeg), .ref 19]) zd0_1309 rfl rfl rfl ?_
  refine z_e1 (pc1 := 1311) (L1 := [some (.ref 0), some (.ref 4), some (.ref 19), some (.int i)]) (S1 := [.int i, .ref 0, .int (xs (i + 2).toNatClampNeg), .int (xs (i + 1).toNatClampNeg), .ref 19]) zd0_1310 rfl rfl rfl ?_
  refine z_e1 (pc1 := 1312) (L1 := [some (.ref 0), some (.ref 4), some (.ref 19), some (.int i)]) (S1 := [.int 3, .int i, .ref 0, .int (xs (i + 2).toNatClampNeg), .int (xs (i + 1).toNatClampNeg), .ref 19]) zd0_1311 rfl rfl rfl ?_
  refine z_e1 (pc1 := 1313) (L1 := [some (.ref 0), some (.ref 4), some (.ref 19), some (.int i)]) (S1 := [.int (i + 3), .ref 0, .int (xs (i + 2).toNatClampNeg), .int (xs (i + 1).toNatClampNeg), .ref 19]) zd0_1312 rfl rfl rfl ?_
  refine z_eial (y := xs (i + 3).toNatClampNeg) zd0_1313 h1 (z_ixk (k := 3) (kk := 3) (by decide) (by decide) (by decide) hi0 hi1 hL) rfl ?_
  refine z_ecV (vs := [.ref 19, .int (xs (i + 1).toNatClampNeg), .int (xs (i + 2).toNatClampNeg), .int (xs (i + 3).toNatClampNeg)]) (r := []) (L2 := z_ent [.ref 19, .int (xs (i + 1).toNatClampNeg), .int (xs (i + 2).toNatClampNeg), .int (xs (i + 3).toNatClampNeg)] (z_ml 271)) zd0_1314 zcV0_126 (Or.inl rfl) rfl h19 (by decide) rfl rfl rfl (Nat.le_of_ble_eq_true rfl) rfl (Nat.le_of_ble_eq_true rfl) rfl ?_
  refine H1.mono (fun v M2 hv => ?_)
  obtain ⟨⟨x2, rfl⟩, hx, H2⟩ := hv
  show z_ev _ 0 1317 [some (.ref 0), some (.ref 4), some (.ref 19), some (.int i)] [.int x2] _ _
  refine z_e1 (pc1 := 1318) (L1 := [some (.ref 0), some (.ref 4), some (.ref 19), some (.int i)]) (S1 := []) zd0_1317 rfl rfl rfl ?_
  refine z_e1 (pc1 := 1774) (L1 := [some (.ref 0), some (.ref 4), some (.ref 19), some (.int i)]) (S1 := []) zd0_1318 rfl rfl rfl ?_
  exact H2
theorem z_D27 {M : zH} {xs : Nat → Int32} {L : Nat} {i : Int32} {fs : List Value} {K : Option Value → zH → Prop} (hi0 : 0 ≤ i.toInt) (hi1 : i.toInt + 6 ≤ L) (hL : L ≤ 3072) (h0 : M[0]? = some (.inl (0, L, .inl xs))) (h4 : M[4]? = some (.inr (0, fs)))
    (H : z_ev 2046 146 0 (z_ent [.ref 4, .int (xs (i + 1).toNatClampNeg), .int (xs (i + 2).toNatClampNeg), .int (xs (i + 3).toNatClampNeg)] (z_ml 146)) [] M fun v M1 => (∃ x1, v = some (.int x1)) ∧ M1[0]? = some (.inl (0, L, .inl xs)) ∧ (∃ fs1, M1[19]? = some (.inr (12, fs1))) ∧
      z_ev 2046 272 0 (z_ent [.ref 19, .int (xs (i + 1).toNatClampNeg), .int (xs (i + 2).toNatClampNeg), .int (xs (i + 3).toNatClampNeg)] (z_ml 272)) [] M1 fun v2 M2 => (∃ x2, v2 = some (.int x2)) ∧ True ∧ z_ev 2047 0 1774 [some (.ref 0), some (.ref 4), some (.ref 19), some (.int i)] [] M2 K) : z_ev 2047 0 1321 [some (.ref 0), some (.ref 4), some (.ref 19), some (.int i)] [] M K := by
  refine z_e1 (pc1 := 1322) (L1 := [some (.ref 0), some (.ref 4), some (.ref 19), some (.int i)]) (S1 := [.ref 4]) zd0_1321 rfl rfl rfl ?_
  refine z_e1 (pc1 := 1323) (L1 := [some (.ref 0), some (.ref 4), some (.ref 19), some (.int i)]) (S1 := [.ref 0, .ref 4]) zd0_1322 rfl rfl rfl ?_
  refine z_e1 (pc1 := 1324) (L1 := [some (.ref 0), some (.ref 4), some (.ref 19), some (.int i)]) (S1 := [.int i, .ref 0, .ref 4]) zd0_1323 rfl rfl rfl ?_
  refine z_e1 (pc1 := 1325) (L1 := [some (.ref 0), some (.ref 4), some (.ref 19), some (.int i)]) (S1 := [.int 1, .int i, .ref 0, .ref 4]) zd0_1324 rfl rfl rfl ?_
  refine z_e1 (pc1 := 1326) (L1 := [some (.ref 0), some (.ref 4), some (.ref 19), some (.int i)]) (S1 := [.int (i + 1), .ref 0, .ref 4]) zd0_1325 rfl rfl rfl ?_
  refine z_eial (y := xs (i + 1).toNatClampNeg) zd0_1326 h0 (z_ixk (k := 1) (kk := 1) (by decide) (by decide) (by decide) hi0 hi1 hL) rfl ?_
  refine z_e1 (pc1 := 1328) (L1 := [some (.ref 0), some (.ref 4), some (.ref 19), some (.int i)]) (S1 := [.ref 0, .int (xs (i + 1).toNatClampNeg), .ref 4]) zd0_1327 rfl rfl rfl ?_
  refine z_e1 (pc1 := 1329) (L1 := [some (.ref 0), some (.ref 4), some (.ref 19), some (.int i)]) (S1 := [.int i, .ref 0, .int (xs (i + 1).toNatClampNeg), .ref 4]) zd0_1328 rfl rfl rfl ?_
  refine z_e1 (pc1 := 1330) (L1 := [some (.ref 0), some (.ref 4), some (.ref 19), some (.int i)]) (S1 := [.int 2, .int i, .ref 0, .int (xs (i + 1).toNatClampNeg), .ref 4]) zd0_1329 rfl rfl rfl ?_
  refine z_e1 (pc1 := 1331) (L1 := [some (.ref 0), some (.ref 4), some (.ref 19), some (.int i)]) (S1 := [.int (i + 2), .ref 0, .int (xs (i + 1).toNatClampNeg), .ref 4]) zd0_1330 rfl rfl rfl ?_
  refine z_eial (y := xs (i + 2).toNatClampNeg) zd0_1331 h0 (z_ixk (k := 2) (kk := 2) (by decide) (by decide) (by decide) hi0 hi1 hL) rfl ?_
  refine z_e1 (pc1 := 1333) (L1 := [some (.ref 0), some (.ref 4), some (.ref 19), some (.int i)]) (S1 := [.ref 0, .int (xs (i + 2).toNatClampNeg), .int (xs (i + 1).toNatClampNeg), .ref 4]) zd0_1332 rfl rfl rfl ?_
  refine z_e1 (pc1 := 1334) (L1 := [some (.ref 0), some (.ref 4), some (.ref 19), some (.int i)]) (S1 := [.int i, .ref 0, .int (xs (i + 2).toNatClampNeg), .int (xs (i + 1).toNatClampNeg), .ref 4]) zd0_1333 rfl rfl rfl ?_
  refine z_e1 (pc1 := 1335) (L1 := [some (.ref 0), some (.ref 4), some (.ref 19), some (.int i)]) (S1 := [.int 3, .int i, .ref 0, .int (xs (i + 2).toNatClampNeg), .int (xs (i + 1).toNatClampNeg), .ref 4]) zd0_1334 rfl rfl rfl ?_
  refine z_e1 (pc1 := 1336) (L1 := [some (.ref 0), some (.ref 4), some (.ref 19), some (.int i)]) (S1 := [.int (i + 3), .ref 0, .int (xs (i + 2).toNatClampNeg), .int (xs (i + 1).toNatClampNeg), .ref 4]) zd0_1335 rfl rfl rfl ?_
  refine z_eial (y := xs (i + 3).toNatClampNeg) zd0_1336 h0 (z_ixk (k := 3) (kk := 3) (by decide) (by decide) (by decide) hi0 hi1 hL) rfl ?_
  refine z_ecV (vs := [.ref 4, .int (xs (i + 1).toNatClampNeg), .int (xs (i + 2).toNatClampNeg), .int (xs (i + 3).toNatClampNeg)]) (r := []) (L2 := z_ent [.ref 4, .int (xs (i + 1).toNatClampNeg), .int (xs (i + 2).toNatClampNeg), .int (xs (i + 3).toNatClampNeg)] (z_ml 146)) zd0_1337 zcV0_127 (Or.inl rfl) rfl h4 (by decide) rfl rfl rfl (Nat.le_of_ble_eq_true rfl) rfl (Nat.le_of_ble_eq_true rfl) rfl ?_
  refine H.mono (fun v M1 hv => ?_)
  obtain ⟨⟨x1, rfl⟩, h1, ⟨fs1, h19⟩, H1⟩ := hv
  show z_ev _ 0 1340 [some (.ref 0), some (.ref 4), some (.ref 19), some (.int i)] [.int x1] _ _
  refine z_e1 (pc1 := 1341) (L1 := [some (.ref 0), some (.ref 4), some (.ref 19), some (.int i)]) (S1 := []) zd0_1340 rfl rfl rfl ?_
  refine z_e1 (pc1 := 1342) (L1 := [some (.ref 0), some (.ref 4), some (.ref 19), some (.int i)]) (S1 := [.ref 19]) zd0_1341 rfl rfl rfl ?_
  refine z_e1 (pc1 := 1343) (L1 := [some (.ref 0), some (.ref 4), some (.ref 19), some (.int i)]) (S1 := [.ref 0, .ref 19]) zd0_1342 rfl rfl rfl ?_
  refine z_e1 (pc1 := 1344) (L1 := [some (.ref 0), some (.ref 4), some (.ref 19), some (.int i)]) (S1 := [.int i, .ref 0, .ref 19]) zd0_1343 rfl rfl rfl ?_
  refine z_e1 (pc1 := 1345) (L1 := [some (.ref 0), some (.ref 4), some (.ref 19), some (.int i)]) (S1 := [.int 1, .int i, .ref 0, .ref 19]) zd0_1344 rfl rfl rfl ?_
  refine z_e1 (pc1 := 1346) (L1 := [some (.ref 0), some (.ref 4), some (.ref 19), some (.int i)]) (S1 := [.int (i + 1), .ref 0, .ref 19]) zd0_1345 rfl rfl rfl ?_
  refine z_eial (y := xs (i + 1).toNatClampNeg) zd0_1346 h1 (z_ixk (k := 1) (kk := 1) (by decide) (by decide) (by decide) hi0 hi1 hL) rfl ?_
  refine z_e1 (pc1 := 1348) (L1 := [some (.ref 0), some (.ref 4), some (.ref 19), some (.int i)]) (S1 := [.ref 0, .int (xs (i + 1).toNatClampNeg), .ref 19]) zd0_1347 rfl rfl rfl ?_
  refine z_e1 (pc1 := 1349) (L1 := [some (.ref 0), some (.ref 4), some (.ref 19), some (.int i)]) (S1 := [.int i, .ref 0, .int (xs (i + 1).toNatClampNeg), .ref 19]) zd0_1348 rfl rfl rfl ?_
  refine z_e1 (pc1 := 1350) (L1 := [some (.ref 0), some (.ref 4), some (.ref 19), some (.int i)]) (S1 := [.int 2, .int i, .ref 0, .int (xs (i + 1).toNatClampNeg), .ref 19]) zd0_1349 rfl rfl rfl ?_
  refine z_e1 (pc1 := 1351) (L1 := [some (.ref 0), some (.ref 4), some (.ref 19), some (.int i)]) (S1 := [.int (i + 2), .ref 0, .int (xs (i + 1).toNatClampNeg), .ref 19]) zd0_1350 rfl rfl rfl ?_
  refine z_eial (y := xs (i + 2).toNatClampNeg) zd0_1351 h1 (z_ixk (k := 2) (kk := 2) (by decide) (by decide) (by decide) hi0 hi1 hL) rfl ?_
  refine z_e1 (pc1 := 1353) (L1 := [some (.ref 0), some (.ref 4), some (.ref 19), some (.int i)]) (S1 := [.ref 0, .int (xs (i + 2).toNatClampNeg), .int (xs (i + 1).toNatClampNeg), .ref 19]) zd0_1352 rfl rfl rfl ?_
  refine z_e1 (pc1 := 1354) (L1 := [some (.ref 0), some (.ref 4), some (.ref 19), some (.int i)]) (S1 := [.int i, .ref 0, .int (xs (i + 2).toNatClampNeg), .int (xs (i + 1).toNatClampNeg), .ref 19]) zd0_1353 rfl rfl rfl ?_
  refine z_e1 (pc1 := 1355) (L1 := [some (.ref 0), some (.ref 4), some (.ref 19), some (.int i)]) (S1 := [.int 3, .int i, .ref 0, .int (xs (i + 2).toNatClampNeg), .int (xs (i + 1).toNatClampNeg), .ref 19]) zd0_1354 rfl rfl rfl ?_
  refine z_e1 (pc1 := 1356) (L1 := [some (.ref 0), some (.ref 4), some (.ref 19), some (.int i)]) (S1 := [.int (i + 3), .ref 0, .int (xs (i + 2).toNatClampNeg), .int (xs (i + 1).toNatClampNeg), .ref 19]) zd0_1355 rfl rfl rfl ?_
  refine z_eial (y := xs (i + 3).toNatClampNeg) zd0_1356 h1 (z_ixk (k := 3) (kk := 3) (by decide) (by decide) (by decide) hi0 hi1 hL) rfl ?_
  refine z_ecV (vs := [.ref 19, .int (xs (i + 1).toNatClampNeg), .int (xs (i + 2).toNatClampNeg), .int (xs (i + 3).toNatClampNeg)]) (r := []) (L2 := z_ent [.ref 19, .int (xs (i + 1).toNatClampNeg), .int (xs (i + 2).toNatClampNeg), .int (xs (i + 3).toNatClampNeg)] (z_ml 272)) zd0_1357 zcV0_130 (Or.inl rfl) rfl h19 (by decide) rfl rfl rfl (Nat.le_of_ble_eq_true rfl) rfl (Nat.le_of_ble_eq_true rfl) rfl ?_
  refine H1.mono (fun v M2 hv => ?_)
  obtain ⟨⟨x2, rfl⟩, hx, H2⟩ := hv
  show z_ev _ 0 1360 [some (.ref 0), some (.ref 4), some (.ref 19), some (.int i)] [.int x2] _ _
  refine z_e1 (pc1 := 1361) (L1 := [some (.ref 0), some (.ref 4), some (.ref 19), some (.int i)]) (S1 := []) zd0_1360 rfl rfl rfl ?_
  refine z_e1 (pc1 := 1774) (L1 := [some (.ref 0), some (.ref 4), some (.ref 19), some (.int i)]) (S1 := []) zd0_1361 rfl rfl rfl ?_
  exact H2
theorem z_D28 {M : zH} {xs : Nat → Int32} {L : Nat} {i : Int32} {fs : List Value} {K : Option Value → zH → Prop} (hi0 : 0 ≤ i.toInt) (hi1 : i.toInt + 6 ≤ L) (hL : L ≤ 3072) (h0 : M[0]? = some (.inl (0, L, .inl xs))) (h4 : M[4]? = some (.inr (0, fs)))
    (H : z_ev 2046 154 0 (z_ent [.ref 4, .int (xs (i + 1).toNatClampNeg), .int (xs (i + 2).toNatClampNeg), .int (xs (i + 3).toNatClampNeg)] (z_ml 154)) [] M fun v M1 => (∃ x1, v = some (.int x1)) ∧ M1[0]? = some (.inl (0, L, .inl xs)) ∧ (∃ fs1, M1[19]? = some (.inr (12, fs1))) ∧
      z_ev 2046 274 0 (z_ent [.ref 19, .int (xs (i + 1).toNatClampNeg), .int (xs (i + 2).toNatClampNeg), .int (xs (i + 3).toNatClampNeg)] (z_ml 274)) [] M1 fun v2 M2 => (∃ x2, v2 = some (.int x2)) ∧ v = v2 ∧ z_ev 2047 0 1774 [some (.ref 0), some (.ref 4), some (.ref 19), some (.int i)] [] M2 K) : z_ev 2047 0 1364 [some (.ref 0), some (.ref 4), some (.ref 19), some (.int i)] [] M K := by
  refine z_e1 (pc1 := 1365) (L1 := [some (.ref 0), some (.ref 4), some (.ref 19), some (.int i)]) (S1 := [.ref 4]) zd0_1364 rfl rfl rfl ?_
  refine z_e1 (pc1 := 1366) (L1 := [some (.ref 0), some (.ref 4), some (.ref 19), some (.int i)]) (S1 := [.ref 0, .ref 4]) zd0_1365 rfl rfl rfl ?_
  refine z_e1 (pc1 := 1367) (L1 := [some (.ref 0), some (.ref 4), some (.ref 19), some (.int i)]) (S1 := [.int i, .ref 0, .ref 4]) zd0_1366 rfl rfl rfl ?_
  refine z_e1 (pc1 := 1368) (L1 := [some (.ref 0), some (.ref 4), some (.ref 19), some (.int i)]) (S1 := [.int 1, .int i, .ref 0, .ref 4]) zd0_1367 rfl rfl rfl ?_
  refine z_e1 (pc1 := 1369) (L1 := [some (.ref 0), some (.ref 4), some (.ref 19), some (.int i)]) (S1 := [.int (i + 1), .ref 0, .ref 4]) zd0_1368 rfl rfl rfl ?_
  refine z_eial (y := xs (i + 1).toNatClampNeg) zd0_1369 h0 (z_ixk (k := 1) (kk := 1) (by decide) (by decide) (by decide) hi0 hi1 hL) rfl ?_
  refine z_e1 (pc1 := 1371) (L1 := [some (.ref 0), some (.ref 4), some (.ref 19), some (.int i)]) (S1 := [.ref 0, .int (xs (i + 1).toNatClampNeg), .ref 4]) zd0_1370 rfl rfl rfl ?_
  refine z_e1 (pc1 := 1372) (L1 := [some (.ref 0), some (.ref 4), some (.ref 19), some (.int i)]) (S1 := [.int i, .ref 0, .int (xs (i + 1).toNatClampNeg), .ref 4]) zd0_1371 rfl rfl rfl ?_
  refine z_e1 (pc1 := 1373) (L1 := [some (.ref 0), some (.ref 4), some (.ref 19), some (.int i)]) (S1 := [.int 2, .int i, .ref 0, .int (xs (i + 1).toNatClampNeg), .ref 4]) zd0_1372 rfl rfl rfl ?_
  refine z_e1 (pc1 := 1374) (L1 := [some (.ref 0), some (.ref 4), some (.ref 19), some (.int i)]) (S1 := [.int (i + 2), .ref 0, .int (xs (i + 1).toNatClampNeg), .ref 4]) zd0_1373 rfl rfl rfl ?_
  refine z_eial (y := xs (i + 2).toNatClampNeg) zd0_1374 h0 (z_ixk (k := 2) (kk := 2) (by decide) (by decide) (by decide) hi0 hi1 hL) rfl ?_
  refine z_e1 (pc1 := 1376) (L1 := [some (.ref 0), some (.ref 4), some (.ref 19), some (.int i)]) (S1 := [.ref 0, .int (xs (i + 2).toNatClampNeg), .int (xs (i + 1).toNatClampNeg), .ref 4]) zd0_1375 rfl rfl rfl ?_
  refine z_e1 (pc1 := 1377) (L1 := [some (.ref 0), some (.ref 4), some (.ref 19), some (.int i)]) (S1 := [.int i, .ref 0, .int (xs (i + 2).toNatClampNeg), .int (xs (i + 1).toNatClampNeg), .ref 4]) zd0_1376 rfl rfl rfl ?_
  refine z_e1 (pc1 := 1378) (L1 := [some (.ref 0), some (.ref 4), some (.ref 19), some (.int i)]) (S1 := [.int 3, .int i, .ref 0, .int (xs (i + 2).toNatClampNeg), .int (xs (i + 1).toNatClampNeg), .ref 4]) zd0_1377 rfl rfl rfl ?_
  refine z_e1 (pc1 := 1379) (L1 := [some (.ref 0), some (.ref 4), some (.ref 19), some (.int i)]) (S1 := [.int (i + 3), .ref 0, .int (xs (i + 2).toNatClampNeg), .int (xs (i + 1).toNatClampNeg), .ref 4]) zd0_1378 rfl rfl rfl ?_
  refine z_eial (y := xs (i + 3).toNatClampNeg) zd0_1379 h0 (z_ixk (k := 3) (kk := 3) (by decide) (by decide) (by decide) hi0 hi1 hL) rfl ?_
  refine z_ecV (vs := [.ref 4, .int (xs (i + 1).toNatClampNeg), .int (xs (i + 2).toNatClampNeg), .int (xs (i + 3).toNatClampNeg)]) (r := []) (L2 := z_ent [.ref 4, .int (xs (i + 1).toNatClampNeg), .int (xs (i + 2).toNatClampNeg), .int (xs (i + 3).toNatClampNeg)] (z_ml 154)) zd0_1380 zcV0_131 (Or.inl rfl) rfl h4 (by decide) rfl rfl rfl (Nat.le_of_ble_eq_true rfl) rfl (Nat.le_of_ble_eq_true rfl) rfl ?_
  refine H.mono (fun v M1 hv => ?_)
  obtain ⟨⟨x1, rfl⟩, h1, ⟨fs1, h19⟩, H1⟩ := hv
  show z_ev _ 0 1383 [some (.ref 0), some (.ref 4), some (.ref 19), some (.int i)] [.int x1] _ _
  refine z_e1 (pc1 := 1384) (L1 := [some (.ref 0), some (.ref 4), some (.ref 19), some (.int i)]) (S1 := [.ref 19, .int x1]) zd0_1383 rfl rfl rfl ?_
  refine z_e1 (pc1 := 1385) (L1 := [some (.ref 0), some (.ref 4), some (.ref 19), some (.int i)]) (S1 := [.ref 0, .ref 19, .int x1]) zd0_1384 rfl rfl rfl ?_
  refine z_e1 (pc1 := 1386) (L1 := [some (.ref 0), some (.ref 4), some (.ref 19), some (.int i)]) (S1 := [.int i, .ref 0, .ref 19, .int x1]) zd0_1385 rfl rfl rfl ?_
  refine z_e1 (pc1 := 1387) (L1 := [some (.ref 0), some (.ref 4), some (.ref 19), some (.int i)]) (S1 := [.int 1, .int i, .ref 0, .ref 19, .int x1]) zd0_1386 rfl rfl rfl ?_
  refine z_e1 (pc1 := 1388) (L1 := [some (.ref 0), some (.ref 4), some (.ref 19), some (.int i)]) (S1 := [.int (i + 1), .ref 0, .ref 19, .int x1]) zd0_1387 rfl rfl rfl ?_
  refine z_eial (y := xs (i + 1).toNatClampNeg) zd0_1388 h1 (z_ixk (k := 1) (kk := 1) (by decide) (by decide) (by decide) hi0 hi1 hL) rfl ?_
  refine z_e1 (pc1 := 1390) (L1 := [some (.ref 0), some (.ref 4), some (.ref 19), some (.int i)]) (S1 := [.ref 0, .int (xs (i + 1).toNatClampNeg), .ref 19, .int x1]) zd0_1389 rfl rfl rfl ?_
  refine z_e1 (pc1 := 1391) (L1 := [some (.ref 0), some (.ref 4), some (.ref 19), some (.int i)]) (S1 := [.int i, .ref 0, .int (xs (i + 1).toNatClampNeg), .ref 19, .int x1]) zd0_1390 rfl rfl rfl ?_
  refine z_e1 (pc1 := 1392) (L1 := [some (.ref 0), some (.ref 4), some (.ref 19), some (.int i)]) (S1 := [.int 2, .int i, .ref 0, .int (xs (i + 1).toNatClampNeg), .ref 19, .int x1]) zd0_1391 rfl rfl rfl ?_
  refine z_e1 (pc1 := 1393) (L1 := [some (.ref 0), some (.ref 4), some (.ref 19), some (.int i)]) (S1 := [.int (i + 2), .ref 0, .int (xs (i + 1).toNatClampNeg), .ref 19, .int x1]) zd0_1392 rfl rfl rfl ?_
  refine z_eial (y := xs (i + 2).toNatClampNeg) zd0_1393 h1 (z_ixk (k := 2) (kk := 2) (by decide) (by decide) (by decide) hi0 hi1 hL) rfl ?_
  refine z_e1 (pc1 := 1395) (L1 := [some (.ref 0), some (.ref 4), some (.ref 19), some (.int i)]) (S1 := [.ref 0, .int (xs (i + 2).toNatClampNeg), .int (xs (i + 1).toNatClampNeg), .ref 19, .int x1]) zd0_1394 rfl rfl rfl ?_
  refine z_e1 (pc1 := 1396) (L1 := [some (.ref 0), some (.ref 4), some (.ref 19), some (.int i)]) (S1 := [.int i, .ref 0, .int (xs (i + 2).toNatClampNeg), .int (xs (i + 1).toNatClampNeg), .ref 19, .int x1]) zd0_1395 rfl rfl rfl ?_
  refine z_e1 (pc1 := 1397) (L1 := [some (.ref 0), some (.ref 4), some (.ref 19), some (.int i)]) (S1 := [.int 3, .int i, .ref 0, .int (xs (i + 2).toNatClampNeg), .int (xs (i + 1).toNatClampNeg), .ref 19, .int x1]) zd0_1396 rfl rfl rfl ?_
  refine z_e1 (pc1 := 1398) (L1 := [some (.ref 0), some (.ref 4), some (.ref 19), some (.int i)]) (S1 := [.int (i + 3), .ref 0, .int (xs (i + 2).toNatClampNeg), .int (xs (i + 1).toNatClampNeg), .ref 19, .int x1]) zd0_1397 rfl rfl rfl ?_
  refine z_eial (y := xs (i + 3).toNatClampNeg) zd0_1398 h1 (z_ixk (k := 3) (kk := 3) (by decide) (by decide) (by decide) hi0 hi1 hL) rfl ?_
  refine z_ecV (vs := [.ref 19, .int (xs (i + 1).toNatClampNeg), .int (xs (i + 2).toNatClampNeg), .int (xs (i + 3).toNatClampNeg)]) (r := [.int x1]) (L2 := z_ent [.ref 19, .int (xs (i + 1).toNatClampNeg), .int (xs (i + 2).toNatClampNeg), .int (xs (i + 3).toNatClampNeg)] (z_ml 274)) zd0_1399 zcV0_134 (Or.inl rfl) rfl h19 (by decide) rfl rfl rfl (Nat.le_of_ble_eq_true rfl) rfl (Nat.le_of_ble_eq_true rfl) rfl ?_
  refine H1.mono (fun v M2 hv => ?_)
  obtain ⟨⟨x2, rfl⟩, hx, H2⟩ := hv
  show z_ev _ 0 1402 [some (.ref 0), some (.ref 4), some (.ref 19), some (.int i)] [.int x2, .int x1] _ _
  refine z_ej (t := 1774) (t2 := 1774) zd0_1402 rfl (if_pos (Value.int.inj (Option.some.inj hx))) ?_
  exact H2
theorem z_D29 {M : zH} {xs : Nat → Int32} {L : Nat} {i : Int32} {fs : List Value} {K : Option Value → zH → Prop} (hi0 : 0 ≤ i.toInt) (hi1 : i.toInt + 6 ≤ L) (hL : L ≤ 3072) (h0 : M[0]? = some (.inl (0, L, .inl xs))) (h4 : M[4]? = some (.inr (0, fs)))
    (H : z_ev 2046 159 0 (z_ent [.ref 4, .int (xs (i + 1).toNatClampNeg), .int (xs (i + 2).toNatClampNeg), .int (xs (i + 3).toNatClampNeg)] (z_ml 159)) [] M fun v M1 => (∃ x1, v = some (.int x1)) ∧ M1[0]? = some (.inl (0, L, .inl xs)) ∧ (∃ fs1, M1[19]? = some (.inr (12, fs1))) ∧
      z_ev 2046 276 0 (z_ent [.ref 19, .int (xs (i + 1).toNatClampNeg), .int (xs (i + 2).toNatClampNeg), .int (xs (i + 3).toNatClampNeg)] (z_ml 276)) [] M1 fun v2 M2 => (∃ x2, v2 = some (.int x2)) ∧ True ∧ z_ev 2047 0 1774 [some (.ref 0), some (.ref 4), some (.ref 19), some (.int i)] [] M2 K) : z_ev 2047 0 1407 [some (.ref 0), some (.ref 4), some (.ref 19), some (.int i)] [] M K := by
  refine z_e1 (pc1 := 1408) (L1 := [some (.ref 0), some (.ref 4), some (.ref 19), some (.int i)]) (S1 := [.ref 4]) zd0_1407 rfl rfl rfl ?_
  refine z_e1 (pc1 := 1409) (L1 := [some (.ref 0), some (.ref 4), some (.ref 19), some (.int i)]) (S1 := [.ref 0, .ref 4]) zd0_1408 rfl rfl rfl ?_
  refine z_e1 (pc1 := 1410) (L1 := [some (.ref 0), some (.ref 4), some (.ref 19), some (.int i)]) (S1 := [.int i, .ref 0, .ref 4]) zd0_1409 rfl rfl rfl ?_
  refine z_e1 (pc1 := 1411) (L1 := [some (.ref 0), some (.ref 4), some (.ref 19), some (.int i)]) (S1 := [.int 1, .int i, .ref 0, .ref 4]) zd0_1410 rfl rfl rfl ?_
  refine z_e1 (pc1 := 1412) (L1 := [some (.ref 0), some (.ref 4), some (.ref 19), some (.int i)]) (S1 := [.int (i + 1), .ref 0, .ref 4]) zd0_1411 rfl rfl rfl ?_
  refine z_eial (y := xs (i + 1).toNatClampNeg) zd0_1412 h0 (z_ixk (k := 1) (kk := 1) (by decide) (by decide) (by decide) hi0 hi1 hL) rfl ?_
  refine z_e1 (pc1 := 1414) (L1 := [some (.ref 0), some (.ref 4), some (.ref 19), some (.int i)]) (S1 := [.ref 0, .int (xs (i + 1).toNatClampNeg), .ref 4]) zd0_1413 rfl rfl rfl ?_
  refine z_e1 (pc1 := 1415) (L1 := [some (.ref 0), some (.ref 4), some (.ref 19), some (.int i)]) (S1 := [.int i, .ref 0, .int (xs (i + 1).toNatClampNeg), .ref 4]) zd0_1414 rfl rfl rfl ?_
  refine z_e1 (pc1 := 1416) (L1 := [some (.ref 0), some (.ref 4), some (.ref 19), some (.int i)]) (S1 := [.int 2, .int i, .ref 0, .int (xs (i + 1).toNatClampNeg), .ref 4]) zd0_1415 rfl rfl rfl ?_
  refine z_e1 (pc1 := 1417) (L1 := [some (.ref 0), some (.ref 4), some (.ref 19), some (.int i)]) (S1 := [.int (i + 2), .ref 0, .int (xs (i + 1).toNatClampNeg), .ref 4]) zd0_1416 rfl rfl rfl ?_
  refine z_eial (y := xs (i + 2).toNatClampNeg) zd0_1417 h0 (z_ixk (k := 2) (kk := 2) (by decide) (by decide) (by decide) hi0 hi1 hL) rfl ?_
  refine z_e1 (pc1 := 1419) (L1 := [some (.ref 0), some (.ref 4), some (.ref 19), some (.int i)]) (S1 := [.ref 0, .int (xs (i + 2).toNatClampNeg), .int (xs (i + 1).toNatClampNeg), .ref 4]) zd0_1418 rfl rfl rfl ?_
  refine z_e1 (pc1 := 1420) (L1 := [some (.ref 0), some (.ref 4), some (.ref 19), some (.int i)]) (S1 := [.int i, .ref 0, .int (xs (i + 2).toNatClampNeg), .int (xs (i + 1).toNatClampNeg), .ref 4]) zd0_1419 rfl rfl rfl ?_
  refine z_e1 (pc1 := 1421) (L1 := [some (.ref 0), some (.ref 4), some (.ref 19), some (.int i)]) (S1 := [.int 3, .int i, .ref 0, .int (xs (i + 2).toNatClampNeg), .int (xs (i + 1).toNatClampNeg), .ref 4]) zd0_1420 rfl rfl rfl ?_
  refine z_e1 (pc1 := 1422) (L1 := [some (.ref 0), some (.ref 4), some (.ref 19), some (.int i)]) (S1 := [.int (i + 3), .ref 0, .int (xs (i + 2).toNatClampNeg), .int (xs (i + 1).toNatClampNeg), .ref 4]) zd0_1421 rfl rfl rfl ?_
  refine z_eial (y := xs (i + 3).toNatClampNeg) zd0_1422 h0 (z_ixk (k := 3) (kk := 3) (by decide) (by decide) (by decide) hi0 hi1 hL) rfl ?_
  refine z_ecV (vs := [.ref 4, .int (xs (i + 1).toNatClampNeg), .int (xs (i + 2).toNatClampNeg), .int (xs (i + 3).toNatClampNeg)]) (r := []) (L2 := z_ent [.ref 4, .int (xs (i + 1).toNatClampNeg), .int (xs (i + 2).toNatClampNeg), .int (xs (i + 3).toNatClampNeg)] (z_ml 159)) zd0_1423 zcV0_135 (Or.inl rfl) rfl h4 (by decide) rfl rfl rfl (Nat.le_of_ble_eq_true rfl) rfl (Nat.le_of_ble_eq_true rfl) rfl ?_
  refine H.mono (fun v M1 hv => ?_)
  obtain ⟨⟨x1, rfl⟩, h1, ⟨fs1, h19⟩, H1⟩ := hv
  show z_ev _ 0 1426 [some (.ref 0), some (.ref 4), some (.ref 19), some (.int i)] [.int x1] _ _
  refine z_e1 (pc1 := 1427) (L1 := [some (.ref 0), some (.ref 4), some (.ref 19), some (.int i)]) (S1 := []) zd0_1426 rfl rfl rfl ?_
  refine z_e1 (pc1 := 1428) (L1 := [some (.ref 0), some (.ref 4), some (.ref 19), some (.int i)]) (S1 := [.ref 19]) zd0_1427 rfl rfl rfl ?_
  refine z_e1 (pc1 := 1429) (L1 := [some (.ref 0), some (.ref 4), some (.ref 19), some (.int i)]) (S1 := [.ref 0, .ref 19]) zd0_1428 rfl rfl rfl ?_
  refine z_e1 (pc1 := 1430) (L1 := [some (.ref 0), some (.ref 4), some (.ref 19), some (.int i)]) (S1 := [.int i, .ref 0, .ref 19]) zd0_1429 rfl rfl rfl ?_
  refine z_e1 (pc1 := 1431) (L1 := [some (.ref 0), some (.ref 4), some (.ref 19), some (.int i)]) (S1 := [.int 1, .int i, .ref 0, .ref 19]) zd0_1430 rfl rfl rfl ?_
  refine z_e1 (pc1 := 1432) (L1 := [some (.ref 0), some (.ref 4), some (.ref 19), some (.int i)]) (S1 := [.int (i + 1), .ref 0, .ref 19]) zd0_1431 rfl rfl rfl ?_
  refine z_eial (y := xs (i + 1).toNatClampNeg) zd0_1432 h1 (z_ixk (k := 1) (kk := 1) (by decide) (by decide) (by decide) hi0 hi1 hL) rfl ?_
  refine z_e1 (pc1 := 1434) (L1 := [some (.ref 0), some (.ref 4), some (.ref 19), some (.int i)]) (S1 := [.ref 0, .int (xs (i + 1).toNatClampNeg), .ref 19]) zd0_1433 rfl rfl rfl ?_
  refine z_e1 (pc1 := 1435) (L1 := [some (.ref 0), some (.ref 4), some (.ref 19), some (.int i)]) (S1 := [.int i, .ref 0, .int (xs (i + 1).toNatClampNeg), .ref 19]) zd0_1434 rfl rfl rfl ?_
  refine z_e1 (pc1 := 1436) (L1 := [some (.ref 0), some (.ref 4), some (.ref 19), some (.int i)]) (S1 := [.int 2, .int i, .ref 0, .int (xs (i + 1).toNatClampNeg), .ref 19]) zd0_1435 rfl rfl rfl ?_
  refine z_e1 (pc1 := 1437) (L1 := [some (.ref 0), some (.ref 4), some (.ref 19), some (.int i)]) (S1 := [.int (i + 2), .ref 0, .int (xs (i + 1).toNatClampNeg), .ref 19]) zd0_1436 rfl rfl rfl ?_
  refine z_eial (y := xs (i + 2).toNatClampNeg) zd0_1437 h1 (z_ixk (k := 2) (kk := 2) (by decide) (by decide) (by decide) hi0 hi1 hL) rfl ?_
  refine z_e1 (pc1 := 1439) (L1 := [some (.ref 0), some (.ref 4), some (.ref 19), some (.int i)]) (S1 := [.ref 0, .int (xs (i + 2).toNatClampNeg), .int (xs (i + 1).toNatClampNeg), .ref 19]) zd0_1438 rfl rfl rfl ?_
  refine z_e1 (pc1 := 1440) (L1 := [some (.ref 0), some (.ref 4), some (.ref 19), some (.int i)]) (S1 := [.int i, .ref 0, .int (xs (i + 2).toNatClampNeg), .int (xs (i + 1).toNatClampNeg), .ref 19]) zd0_1439 rfl rfl rfl ?_
  refine z_e1 (pc1 := 1441) (L1 := [some (.ref 0), some (.ref 4), some (.ref 19), some (.int i)]) (S1 := [.int 3, .int i, .ref 0, .int (xs (i + 2).toNatClampNeg), .int (xs (i + 1).toNatClampNeg), .ref 19]) zd0_1440 rfl rfl rfl ?_
  refine z_e1 (pc1 := 1442) (L1 := [some (.ref 0), some (.ref 4), some (.ref 19), some (.int i)]) (S1 := [.int (i + 3), .ref 0, .int (xs (i + 2).toNatClampNeg), .int (xs (i + 1).toNatClampNeg), .ref 19]) zd0_1441 rfl rfl rfl ?_
  refine z_eial (y := xs (i + 3).toNatClampNeg) zd0_1442 h1 (z_ixk (k := 3) (kk := 3) (by decide) (by decide) (by decide) hi0 hi1 hL) rfl ?_
  refine z_ecV (vs := [.ref 19, .int (xs (i + 1).toNatClampNeg), .int (xs (i + 2).toNatClampNeg), .int (xs (i + 3).toNatClampNeg)]) (r := []) (L2 := z_ent [.ref 19, .int (xs (i + 1).toNatClampNeg), .int (xs (i + 2).toNatClampNeg), .int (xs (i + 3).toNatClampNeg)] (z_ml 276)) zd0_1443 zcV0_138 (Or.inl rfl) rfl h19 (by decide) rfl rfl rfl (Nat.le_of_ble_eq_true rfl) rfl (Nat.le_of_ble_eq_true rfl) rfl ?_
  refine H1.mono (fun v M2 hv => ?_)
  obtain ⟨⟨x2, rfl⟩, hx, H2⟩ := hv
  show z_ev _ 0 1446 [some (.ref 0), some (.ref 4), some (.ref 19), some (.int i)] [.int x2] _ _
  refine z_e1 (pc1 := 1447) (L1 := [some (.ref 0), some (.ref 4), some (.ref 19), some (.int i)]) (S1 := []) zd0_1446 rfl rfl rfl ?_
  refine z_e1 (pc1 := 1774) (L1 := [some (.ref 0), some (.ref 4), some (.ref 19), some (.int i)]) (S1 := []) zd0_1447 rfl rfl rfl ?_
  exact H2
theorem z_D30 {M : zH} {xs : Nat → Int32} {L : Nat} {i : Int32} {fs : List Value} {K : Option Value → zH → Prop} (hi0 : 0 ≤ i.toInt) (hi1 : i.toInt + 6 ≤ L) (hL : L ≤ 3072) (h0 : M[0]? = some (.inl (0, L, .inl xs))) (h4 : M[4]? = some (.inr (0, fs)))
    (H : z_ev 2046 174 0 (z_ent [.ref 4, .int (xs (i + 1).toNatClampNeg)] (z_ml 174)) [] M fun v M1 => (∃ x1, v = some (.int x1)) ∧ M1[0]? = some (.inl (0, L, .inl xs)) ∧ (∃ fs1, M1[19]? = some (.inr (12, fs1))) ∧
      z_ev 2046 283 0 (z_ent [.ref 19, .int (xs (i + 1).toNatClampNeg)] (z_ml 283)) [] M1 fun v2 M2 => (∃ x2, v2 = some (.int x2)) ∧ True ∧ z_ev 2047 0 1774 [some (.ref 0), some (.ref 4), some (.ref 19), some (.int i)] [] M2 K) : z_ev 2047 0 1450 [some (.ref 0), some (.ref 4), some (.ref 19), some (.int i)] [] M K := by
  refine z_e1 (pc1 := 1451) (L1 := [some (.ref 0), some (.ref 4), some (.ref 19), some (.int i)]) (S1 := [.ref 4]) zd0_1450 rfl rfl rfl ?_
  refine z_e1 (pc1 := 1452) (L1 := [some (.ref 0), some (.ref 4), some (.ref 19), some (.int i)]) (S1 := [.ref 0, .ref 4]) zd0_1451 rfl rfl rfl ?_
  refine z_e1 (pc1 := 1453) (L1 := [some (.ref 0), some (.ref 4), some (.ref 19), some (.int i)]) (S1 := [.int i, .ref 0, .ref 4]) zd0_1452 rfl rfl rfl ?_
  refine z_e1 (pc1 := 1454) (L1 := [some (.ref 0), some (.ref 4), some (.ref 19), some (.int i)]) (S1 := [.int 1, .int i, .ref 0, .ref 4]) zd0_1453 rfl rfl rfl ?_
  refine z_e1 (pc1 := 1455) (L1 := [some (.ref 0), some (.ref 4), some (.ref 19), some (.int i)]) (S1 := [.int (i + 1), .ref 0, .ref 4]) zd0_1454 rfl rfl rfl ?_
  refine z_eial (y := xs (i + 1).toNatClampNeg) zd0_1455 h0 (z_ixk (k := 1) (kk := 1) (by decide) (by decide) (by decide) hi0 hi1 hL) rfl ?_
  refine z_ecV (vs := [.ref 4, .int (xs (i + 1).toNatClampNeg)]) (r := []) (L2 := z_ent [.ref 4, .int (xs (i + 1).toNatClampNeg)] (z_ml 174)) zd0_1456 zcV0_139 (Or.inl rfl) rfl h4 (by decide) rfl rfl rfl (Nat.le_of_ble_eq_true rfl) rfl (Nat.le_of_ble_eq_true rfl) rfl ?_
  refine H.mono (fun v M1 hv => ?_)
  obtain ⟨⟨x1, rfl⟩, h1, ⟨fs1, h19⟩, H1⟩ := hv
  show z_ev _ 0 1459 [some (.ref 0), some (.ref 4), some (.ref 19), some (.int i)] [.int x1] _ _
  refine z_e1 (pc1 := 1460) (L1 := [some (.ref 0), some (.ref 4), some (.ref 19), some (.int i)]) (S1 := []) zd0_1459 rfl rfl rfl ?_
  refine z_e1 (pc1 := 1461) (L1 := [some (.ref 0), some (.ref 4), some (.ref 19), some (.int i)]) (S1 := [.ref 19]) zd0_1460 rfl rfl rfl ?_
  refine z_e1 (pc1 := 1462) (L1 := [some (.ref 0), some (.ref 4), some (.ref 19), some (.int i)]) (S1 := [.ref 0, .ref 19]) zd0_1461 rfl rfl rfl ?_
  refine z_e1 (pc1 := 1463) (L1 := [some (.ref 0), some (.ref 4), some (.ref 19), some (.int i)]) (S1 := [.int i, .ref 0, .ref 19]) zd0_1462 rfl rfl rfl ?_
  refine z_e1 (pc1 := 1464) (L1 := [some (.ref 0), some (.ref 4), some (.ref 19), some (.int i)]) (S1 := [.int 1, .int i, .ref 0, .ref 19]) zd0_1463 rfl rfl rfl ?_
  refine z_e1 (pc1 := 1465) (L1 := [some (.ref 0), some (.ref 4), some (.ref 19), some (.int i)]) (S1 := [.int (i + 1), .ref 0, .ref 19]) zd0_1464 rfl rfl rfl ?_
  refine z_eial (y := xs (i + 1).toNatClampNeg) zd0_1465 h1 (z_ixk (k := 1) (kk := 1) (by decide) (by decide) (by decide) hi0 hi1 hL) rfl ?_
  refine z_ecV (vs := [.ref 19, .int (xs (i + 1).toNatClampNeg)]) (r := []) (L2 := z_ent [.ref 19, .int (xs (i + 1).toNatClampNeg)] (z_ml 283)) zd0_1466 zcV0_142 (Or.inl rfl) rfl h19 (by decide) rfl rfl rfl (Nat.le_of_ble_eq_true rfl) rfl (Nat.le_of_ble_eq_true rfl) rfl ?_
  refine H1.mono (fun v M2 hv => ?_)
  obtain ⟨⟨x2, rfl⟩, hx, H2⟩ := hv
  show z_ev _ 0 1469 [some (.ref 0), some (.ref 4), some (.ref 19), some (.int i)] [.int x2] _ _
  refine z_e1 (pc1 := 1470) (L1 := [some (.ref 0), some (.ref 4), some (.ref 19), some (.int i)]) (S1 := []) zd0_1469 rfl rfl rfl ?_
  refine z_e1 (pc1 := 1774) (L1 := [some (.ref 0), some (.ref 4), some (.ref 19), some (.int i)]) (S1 := []) zd0_1470 rfl rfl rfl ?_
  exact H2
theorem z_D31 {M : zH} {xs : Nat → Int32} {L : Nat} {i : Int32} {fs : List Value} {K : Option Value → zH → Prop} (hi0 : 0 ≤ i.toInt) (hi1 : i.toInt + 6 ≤ L) (hL : L ≤ 3072) (h0 : M[0]? = some (.inl (0, L, .inl xs))) (h4 : M[4]? = some (.inr (0, fs)))
    (H : z_ev 2046 175 0 (z_ent [.ref 4, .int (xs (i + 1).toNatClampNeg), .int (xs (i + 2).toNatClampNeg)] (z_ml 175)) [] M fun v M1 => (∃ x1, v = some (.int x1)) ∧ M1[0]? = some (.inl (0, L, .inl xs)) ∧ (∃ fs1, M1[19]? = some (.inr (12, fs1))) ∧
      z_ev 2046 284 0 (z_ent [.ref 19, .int (xs (i + 1).toNatClampNeg), .int (xs (i + 2).toNatClampNeg)] (z_ml 284)) [] M1 fun v2 M2 => (∃ x2, v2 = some (.int x2)) ∧ True ∧ z_ev 2047 0 1774 [some (.ref 0), some (.ref 4), some (.ref 19), some (.int i)] [] M2 K) : z_ev 2047 0 1473 [some (.ref 0), some (.ref 4), some (.ref 19), some (.int i)] [] M K := by
  refine z_e1 (pc1 := 1474) (L1 := [some (.ref 0), some (.ref 4), some (.ref 19), some (.int i)]) (S1 := [.ref 4]) zd0_1473 rfl rfl rfl ?_
  refine z_e1 (pc1 := 1475) (L1 := [some (.ref 0), some (.ref 4), some (.ref 19), some (.int i)]) (S1 := [.ref 0, .ref 4]) zd0_1474 rfl rfl rfl ?_
  refine z_e1 (pc1 := 1476) (L1 := [some (.ref 0), some (.ref 4), some (.ref 19), some (.int i)]) (S1 := [.int i, .ref 0, .ref 4]) zd0_1475 rfl rfl rfl ?_
  refine z_e1 (pc1 := 1477) (L1 := [some (.ref 0), some (.ref 4), some (.ref 19), some (.int i)]) (S1 := [.int 1, .int i, .ref 0, .ref 4]) zd0_1476 rfl rfl rfl ?_
  refine z_e1 (pc1 := 1478) (L1 := [some (.ref 0), some (.ref 4), some (.ref 19), some (.int i)]) (S1 := [.int (i + 1), .ref 0, .ref 4]) zd0_1477 rfl rfl rfl ?_
  refine z_eial (y := xs (i + 1).toNatClampNeg) zd0_1478 h0 (z_ixk (k := 1) (kk := 1) (by decide) (by decide) (by decide) hi0 hi1 hL) rfl ?_
  refine z_e1 (pc1 := 1480) (L1 := [some (.ref 0), some (.ref 4), some (.ref 19), some (.int i)]) (S1 := [.ref 0, .int (xs (i + 1).toNatClampNeg), .ref 4]) zd0_1479 rfl rfl rfl ?_
  refine z_e1 (pc1 := 1481) (L1 := [some (.ref 0), some (.ref 4), some (.ref 19), some (.int i)]) (S1 := [.int i, .ref 0, .int (xs (i + 1).toNatClampNeg), .ref 4]) zd0_1480 rfl rfl rfl ?_
  refine z_e1 (pc1 := 1482) (L1 := [some (.ref 0), some (.ref 4), some (.ref 19), some (.int i)]) (S1 := [.int 2, .int i, .ref 0, .int (xs (i + 1).toNatClampNeg), .ref 4]) zd0_1481 rfl rfl rfl ?_
  refine z_e1 (pc1 := 1483) (L1 := [some (.ref 0), some (.ref 4), some (.ref 19), some (.int i)]) (S1 := [.int (i + 2), .ref 0, .int (xs (i + 1).toNatClampNeg), .ref 4]) zd0_1482 rfl rfl rfl ?_
  refine z_eial (y := xs (i + 2).toNatClampNeg) zd0_1483 h0 (z_ixk (k := 2) (kk := 2) (by decide) (by decide) (by decide) hi0 hi1 hL) rfl ?_
  refine z_ecV (vs := [.ref 4, .int (xs (i + 1).toNatClampNeg), .int (xs (i + 2).toNatClampNeg)]) (r := []) (L2 := z_ent [.ref 4, .int (xs (i + 1).toNatClampNeg), .int (xs (i + 2).toNatClampNeg)] (z_ml 175)) zd0_1484 zcV0_143 (Or.inl rfl) rfl h4 (by decide) rfl rfl rfl (Nat.le_of_ble_eq_true rfl) rfl (Nat.le_of_ble_eq_true rfl) rfl ?_
  refine H.mono (fun v M1 hv => ?_)
  obtain ⟨⟨x1, rfl⟩, h1, ⟨fs1, h19⟩, H1⟩ := hv
  show z_ev _ 0 1487 [some (.ref 0), some (.ref 4), some (.ref 19), some (.int i)] [.int x1] _ _
  refine z_e1 (pc1 := 1488) (L1 := [some (.ref 0), some (.ref 4), some (.ref 19), some (.int i)]) (S1 := []) zd0_1487 rfl rfl rfl ?_
  refine z_e1 (pc1 := 1489) (L1 := [some (.ref 0), some (.ref 4), some (.ref 19), some (.int i)]) (S1 := [.ref 19]) zd0_1488 rfl rfl rfl ?_
  refine z_e1 (pc1 := 1490) (L1 := [some (.ref 0), some (.ref 4), some (.ref 19), some (.int i)]) (S1 := [.ref 0, .ref 19]) zd0_1489 rfl rfl rfl ?_
  refine z_e1 (pc1 := 1491) (L1 := [some (.ref 0), some (.ref 4), some (.ref 19), some (.int i)]) (S1 := [.int i, .ref 0, .ref 19]) zd0_1490 rfl rfl rfl ?_
  refine z_e1 (pc1 := 1492) (L1 := [some (.ref 0), some (.ref 4), some (.ref 19), some (.int i)]) (S1 := [.int 1, .int i, .ref 0, .ref 19]) zd0_1491 rfl rfl rfl ?_
  refine z_e1 (pc1 := 1493) (L1 := [some (.ref 0), some (.ref 4), some (.ref 19), some (.int i)]) (S1 := [.int (i + 1), .ref 0, .ref 19]) zd0_1492 rfl rfl rfl ?_
  refine z_eial (y := xs (i + 1).toNatClampNeg) zd0_1493 h1 (z_ixk (k := 1) (kk := 1) (by decide) (by decide) (by decide) hi0 hi1 hL) rfl ?_
  refine z_e1 (pc1 := 1495) (L1 := [some (.ref 0), some (.ref 4), some (.ref 19), some (.int i)]) (S1 := [.ref 0, .int (xs (i + 1).toNatClampNeg), .ref 19]) zd0_1494 rfl rfl rfl ?_
  refine z_e1 (pc1 := 1496) (L1 := [some (.ref 0), some (.ref 4), some (.ref 19), some (.int i)]) (S1 := [.int i, .ref 0, .int (xs (i + 1).toNatClampNeg), .ref 19]) zd0_1495 rfl rfl rfl ?_
  refine z_e1 (pc1 := 1497) (L1 := [some (.ref 0), some (.ref 4), some (.ref 19), some (.int i)]) (S1 := [.int 2, .int i, .ref 0, .int (xs (i + 1).toNatClampNeg), .ref 19]) zd0_1496 rfl rfl rfl ?_
  refine z_e1 (pc1 := 1498) (L1 := [some (.ref 0), some (.ref 4), some (.ref 19), some (.int i)]) (S1 := [.int (i + 2), .ref 0, .int (xs (i + 1).toNatClampNeg), .ref 19]) zd0_1497 rfl rfl rfl ?_
  refine z_eial (y := xs (i + 2).toNatClampNeg) zd0_1498 h1 (z_ixk (k := 2) (kk := 2) (by decide) (by decide) (by decide) hi0 hi1 hL) rfl ?_
  refine z_ecV (vs := [.ref 19, .int (xs (i + 1).toNatClampNeg), .int (xs (i + 2).toNatClampNeg)]) (r := []) (L2 := z_ent [.ref 19, .int (xs (i + 1).toNatClampNeg), .int (xs (i + 2).toNatClampNeg)] (z_ml 284)) zd0_1499 zcV0_146 (Or.inl rfl) rfl h19 (by decide) rfl rfl rfl (Nat.le_of_ble_eq_true rfl) rfl (Nat.le_of_ble_eq_true rfl) rfl ?_
  refine H1.mono (fun v M2 hv => ?_)
  obtain ⟨⟨x2, rfl⟩, hx, H2⟩ := hv
  show z_ev _ 0 1502 [some (.ref 0), some (.ref 4), some (.ref 19), some (.int i)] [.int x2] _ _
  refine z_e1 (pc1 := 1503) (L1 := [some (.ref 0), some (.ref 4), some (.ref 19), some (.int i)]) (S1 := []) zd0_1502 rfl rfl rfl ?_
  refine z_e1 (pc1 := 1774) (L1 := [some (.ref 0), some (.ref 4), some (.ref 19), some (.int i)]) (S1 := []) zd0_1503 rfl rfl rfl ?_
  exact H2
theorem z_D32 {M : zH} {xs : Nat → Int32} {L : Nat} {i : Int32} {fs : List Value} {K : Option Value → zH → Prop} (hi0 : 0 ≤ i.toInt) (hi1 : i.toInt + 6 ≤ L) (hL : L ≤ 3072) (h0 : M[0]? = some (.inl (0, L, .inl xs))) (h4 : M[4]? = some (.inr (0, fs)))
    (H : z_ev 2046 176 0 (z_ent [.ref 4, .int (xs (i + 1).toNatClampNeg), .int (xs (i + 2).toNatClampNeg), .int (xs (i + 3).toNatClampNeg)] (z_ml 176)) [] M fun v M1 => (∃ x1, v = some (.int x1)) ∧ M1[0]? = some (.inl (0, L, .inl xs)) ∧ (∃ fs1, M1[19]? = some (.inr (12, fs1))) ∧
      z_ev 2046 285 0 (z_ent [.ref 19, .int (xs (i + 1).toNatClampNeg), .int (xs (i + 2).toNatClampNeg), .int (xs (i + 3).toNatClampNeg)] (z_ml 285)) [] M1 fun v2 M2 => (∃ x2, v2 = some (.int x2)) ∧ True ∧ z_ev 2047 0 1774 [some (.ref 0), some (.ref 4), some (.ref 19), some (.int i)] [] M2 K) : z_ev 2047 0 1506 [some (.ref 0), some (.ref 4), some (.ref 19), some (.int i)] [] M K := by
  refine z_e1 (pc1 := 1507) (L1 := [some (.ref 0), some (.ref 4), some (.ref 19), some (.int i)]) (S1 := [.ref 4]) zd0_1506 rfl rfl rfl ?_
  refine z_e1 (pc1 := 1508) (L1 := [some (.ref 0), some (.ref 4), some (.ref 19), some (.int i)]) (S1 := [.ref 0, .ref 4]) zd0_1507 rfl rfl rfl ?_
  refine z_e1 (pc1 := 1509) (L1 := [some (.ref 0), some (.ref 4), some (.ref 19), some (.int i)]) (S1 := [.int i, .ref 0, .ref 4]) zd0_1508 rfl rfl rfl ?_
  refine z_e1 (pc1 := 1510) (L1 := [some (.ref 0), some (.ref 4), some (.ref 19), some (.int i)]) (S1 := [.int 1, .int i, .ref 0, .ref 4]) zd0_1509 rfl rfl rfl ?_
  refine z_e1 (pc1 := 1511) (L1 := [some (.ref 0), some (.ref 4), some (.ref 19), some (.int i)]) (S1 := [.int (i + 1), .ref 0, .ref 4]) zd0_1510 rfl rfl rfl ?_
  refine z_eial (y := xs (i + 1).toNatClampNeg) zd0_1511 h0 (z_ixk (k := 1) (kk := 1) (by decide) (by decide) (by decide) hi0 hi1 hL) rfl ?_
  refine z_e1 (pc1 := 1513) (L1 := [some (.ref 0), some (.ref 4), some (.ref 19), some (.int i)]) (S1 := [.ref 0, .int (xs (i + 1).toNatClampNeg), .ref 4]) zd0_1512 rfl rfl rfl ?_
  refine z_e1 (pc1 := 1514) (L1 := [some (.ref 0), some (.ref 4), some (.ref 19), some (.int i)]) (S1 := [.int i, .ref 0, .int (xs (i + 1).toNatClampNeg), .ref 4]) zd0_1513 rfl rfl rfl ?_
  refine z_e1 (pc1 := 1515) (L1 := [some (.ref 0), some (.ref 4), some (.ref 19), some (.int i)]) (S1 := [.int 2, .int i, .ref 0, .int (xs (i + 1).toNatClampNeg), .ref 4]) zd0_1514 rfl rfl rfl ?_
  refine z_e1 (pc1 := 1516) (L1 := [some (.ref 0), some (.ref 4), some (.ref 19), some (.int i)]) (S1 := [.int (i + 2), .ref 0, .int (xs (i + 1).toNatClampNeg), .ref 4]) zd0_1515 rfl rfl rfl ?_
  refine z_eial (y := xs (i + 2).toNatClampNeg) zd0_1516 h0 (z_ixk (k := 2) (kk := 2) (by decide) (by decide) (by decide) hi0 hi1 hL) rfl ?_
  refine z_e1 (pc1 := 1518) (L1 := [some (.ref 0), some (.ref 4), some (.ref 19), some (.int i)]) (S1 := [.ref 0, .int (xs (i + 2).toNatClampNeg), .int (xs (i + 1).toNatClampNeg), .ref 4]) zd0_1517 rfl rfl rfl ?_
  refine z_e1 (pc1 := 1519) (L1 := [some (.ref 0), some (.ref 4), some (.ref 19), some (.int i)]) (S1 := [.int i, .ref 0, .int (xs (i + 2).toNatClampNeg), .int (xs (i + 1).toNatClampNeg), .ref 4]) zd0_1518 rfl rfl rfl ?_
  refine z_e1 (pc1 := 1520) (L1 := [some (.ref 0), some (.ref 4), some (.ref 19), some (.int i)]) (S1 := [.int 3, .int i, .ref 0, .int (xs (i + 2).toNatClampNeg), .int (xs (i + 1).toNatClampNeg), .ref 4]) zd0_1519 rfl rfl rfl ?_
  refine z_e1 (pc1 := 1521) (L1 := [some (.ref 0), some (.ref 4), some (.ref 19), some (.int i)]) (S1 := [.int (i + 3), .ref 0, .int (xs (i + 2).toNatClampNeg), .int (xs (i + 1).toNatClampNeg), .ref 4]) zd0_1520 rfl rfl rfl ?_
  refine z_eial (y := xs (i + 3).toNatClampNeg) zd0_1521 h0 (z_ixk (k := 3) (kk := 3) (by decide) (by decide) (by decide) hi0 hi1 hL) rfl ?_
  refine z_ecV (vs := [.ref 4, .int (xs (i + 1).toNatClampNeg), .int (xs (i + 2).toNatClampNeg), .int (xs (i + 3).toNatClampNeg)]) (r := []) (L2 := z_ent [.ref 4, .int (xs (i + 1).toNatClampNeg), .int (xs (i + 2).toNatClampNeg), .int (xs (i + 3).toNatClampNeg)] (z_ml 176)) zd0_1522 zcV0_147 (Or.inl rfl) rfl h4 (by decide) rfl rfl rfl (Nat.le_of_ble_eq_true rfl) rfl (Nat.le_of_ble_eq_true rfl) rfl ?_
  refine H.mono (fun v M1 hv => ?_)
  obtain ⟨⟨x1, rfl⟩, h1, ⟨fs1, h19⟩, H1⟩ := hv
  show z_ev _ 0 1525 [some (.ref 0), some (.ref 4), some (.ref 19), some (.int i)] [.int x1] _ _
  refine z_e1 (pc1 := 1526) (L1 := [some (.ref 0), some (.ref 4), some (.ref 19), some (.int i)]) (S1 := []) zd0_1525 rfl rfl rfl ?_
  refine z_e1 (pc1 := 1527) (L1 := [some (.ref 0), some (.ref 4), some (.ref 19), some (.int i)]) (S1 := [.ref 19]) zd0_1526 rfl rfl rfl ?_
  refine z_e1 (pc1 := 1528) (L1 := [some (.ref 0), some (.ref 4), some (.ref 19), some (.int i)]) (S1 := [.ref 0, .ref 19]) zd0_1527 rfl rfl rfl ?_
  refine z_e1 (pc1 := 1529) (L1 := [some (.ref 0), some (.ref 4), some (.ref 19), some (.int i)]) (S1 := [.int i, .ref 0, .ref 19]) zd0_1528 rfl rfl rfl ?_
  refine z_e1 (pc1 := 1530) (L1 := [some (.ref 0), some (.ref 4), some (.ref 19), some (.int i)]) (S1 := [.int 1, .int i, .ref 0, .ref 19]) zd0_1529 rfl rfl rfl ?_
  refine z_e1 (pc1 := 1531) (L1 := [some (.ref 0), some (.ref 4), some (.ref 19), some (.int i)]) (S1 := [.int (i + 1), .ref 0, .ref 19]) zd0_1530 rfl rfl rfl ?_
  refine z_eial (y := xs (i + 1).toNatClampNeg) zd0_1531 h1 (z_ixk (k := 1) (kk := 1) (by decide) (by decide) (by decide) hi0 hi1 hL) rfl ?_
  refine z_e1 (pc1 := 1533) (L1 := [some (.ref 0), some (.ref 4), some (.ref 19), some (.int i)]) (S1 := [.ref 0, .int (xs (i + 1).toNatClampNeg), .ref 19]) zd0_1532 rfl rfl rfl ?_
  refine z_e1 (pc1 := 1534) (L1 := [some (.ref 0), some (.ref 4), some (.ref 19), some (.int i)]) (S1 := [.int i, .ref 0, .int (xs (i + 1).toNatClampNeg), .ref 19]) zd0_1533 rfl rfl rfl ?_
  refine z_e1 (pc1 := 1535) (L1 := [some (.ref 0), some (.ref 4), some (.ref 19), some (.int i)]) (S1 := [.int 2, .int i, .ref 0, .int (xs (i + 1).toNatClampNeg), .ref 19]) zd0_1534 rfl rfl rfl ?_
  refine z_e1 (pc1 := 1536) (L1 := [some (.ref 0), some (.ref 4), some (.ref 19), some (.int i)]) (S1 := [.int (i + 2), .ref 0, .int (xs (i + 1).toNatClampNeg), .ref 19]) zd0_1535 rfl rfl rfl ?_
  refine z_eial (y := xs (i + 2).toNatClampNeg) zd0_1536 h1 (z_ixk (k := 2) (kk := 2) (by decide) (by decide) (by decide) hi0 hi1 hL) rfl ?_
  refine z_e1 (pc1 := 1538) (L1 := [some (.ref 0), some (.ref 4), some (.ref 19), some (.int i)]) (S1 := [.ref 0, .int (xs (i + 2).toNatClampNeg), .int (xs (i + 1).toNatClampNeg), .ref 19]) zd0_1537 rfl rfl rfl ?_
  refine z_e1 (pc1 := 1539) (L1 := [some (.ref 0), some (.ref 4), some (.ref 19), some (.int i)]) (S1 := [.int i, .ref 0, .int (xs (i + 2).toNatClampNeg), .int (xs (i + 1).toNatClampNeg), .ref 19]) zd0_1538 rfl rfl rfl ?_
  refine z_e1 (pc1 := 1540) (L1 := [some (.ref 0), some (.ref 4), some (.ref 19), some (.int i)]) (S1 := [.int 3, .int i, .ref 0, .int (xs (i + 2).toNatClampNeg), .int (xs (i + 1).toNatClampNeg), .ref 19]) zd0_1539 rfl rfl rfl ?_
  refine z_e1 (pc1 := 1541) (L1 := [some (.ref 0), some (.ref 4), some (.ref 19), some (.int i)]) (S1 := [.int (i + 3), .ref 0, .int (xs (i + 2).toNatClampNeg), .int (xs (i + 1).toNatClampNeg), .ref 19]) zd0_1540 rfl rfl rfl ?_
  refine z_eial (y := xs (i + 3).toNatClampNeg) zd0_1541 h1 (z_ixk (k := 3) (kk := 3) (by decide) (by decide) (by decide) hi0 hi1 hL) rfl ?_
  refine z_ecV (vs := [.ref 19, .int (xs (i + 1).toNatClampNeg), .int (xs (i + 2).toNatClampNeg), .int (xs (i + 3).toNatClampNeg)]) (r := []) (L2 := z_ent [.ref 19, .int (xs (i + 1).toNatClampNeg), .int (xs (i + 2).toNatClampNeg), .int (xs (i + 3).toNatClampNeg)] (z_ml 285)) zd0_1542 zcV0_150 (Or.inl rfl) rfl h19 (by decide) rfl rfl rfl (Nat.le_of_ble_eq_true rfl) rfl (Nat.le_of_ble_eq_true rfl) rfl ?_
  refine H1.mono (fun v M2 hv => ?_)
  obtain ⟨⟨x2, rfl⟩, hx, H2⟩ := hv
  show z_ev _ 0 1545 [some (.ref 0), some (.ref 4), some (.ref 19), some (.int i)] [.int x2] _ _
  refine z_e1 (pc1 := 1546) (L1 := [some (.ref 0), some (.ref 4), some (.ref 19), some (.int i)]) (S1 := []) zd0_1545 rfl rfl rfl ?_
  refine z_e1 (pc1 := 1774) (L1 := [some (.ref 0), some (.ref 4), some (.ref 19), some (.int i)]) (S1 := []) zd0_1546 rfl rfl rfl ?_
  exact H2
theorem z_D33 {M : zH} {xs : Nat → Int32} {L : Nat} {i : Int32} {fs : List Value} {K : Option Value → zH → Prop} (hi0 : 0 ≤ i.toInt) (hi1 : i.toInt + 6 ≤ L) (hL : L ≤ 3072) (h0 : M[0]? = some (.inl (0, L, .inl xs))) (h4 : M[4]? = some (.inr (0, fs)))
    (H : z_ev 2046 177 0 (z_ent [.ref 4, .int (xs (i + 1).toNatClampNeg), .int (xs (i + 2).toNatClampNeg), .long (((((xs (i + 3).toNatClampNeg) : Int32).toInt64) <<< ((32 : Int32).toInt64 &&& 63)) ||| ((((xs (i + 4).toNatClampNeg) : Int32).toInt64) &&& 4294967295))] (z_ml 177)) [] M fun v M1 => (∃ x1, v = some (.int x1)) ∧ M1[0]? = some (.inl (0, L, .inl xs)) ∧ (∃ fs1, M1[19]? = some (.inr (12, fs1))) ∧
      z_ev 2046 286 0 (z_ent [.ref 19, .int (xs (i + 1).toNatClampNeg), .int (xs (i + 2).toNatClampNeg), .long (((((xs (i + 3).toNatClampNeg) : Int32).toInt64) <<< ((32 : Int32).toInt64 &&& 63)) ||| ((((xs (i + 4).toNatClampNeg) : Int32).toInt64) &&& 4294967295))] (z_ml 286)) [] M1 fun v2 M2 => (∃ x2, v2 = some (.int x2)) ∧ True ∧ z_ev 2047 0 1774 [some (.ref 0), some (.ref 4), some (.ref 19), some (.int i)] [] M2 K) : z_ev 2047 0 1549 [some (.ref 0), some (.ref 4), some (.ref 19), some (.int i)] [] M K := by
  refine z_e1 (pc1 := 1550) (L1 := [some (.ref 0), some (.ref 4), some (.ref 19), some (.int i)]) (S1 := [.ref 4]) zd0_1549 rfl rfl rfl ?_
  refine z_e1 (pc1 := 1551) (L1 := [some (.ref 0), some (.ref 4), some (.ref 19), some (.int i)]) (S1 := [.ref 0, .ref 4]) zd0_1550 rfl rfl rfl ?_
  refine z_e1 (pc1 := 1552) (L1 := [some (.ref 0), some (.ref 4), some (.ref 19), some (.int i)]) (S1 := [.int i, .ref 0, .ref 4]) zd0_1551 rfl rfl rfl ?_
  refine z_e1 (pc1 := 1553) (L1 := [some (.ref 0), some (.ref 4), some (.ref 19), some (.int i)]) (S1 := [.int 1, .int i, .ref 0, .ref 4]) zd0_1552 rfl rfl rfl ?_
  refine z_e1 (pc1 := 1554) (L1 := [some (.ref 0), some (.ref 4), some (.ref 19), some (.int i)]) (S1 := [.int (i + 1), .ref 0, .ref 4]) zd0_1553 rfl rfl rfl ?_
  refine z_eial (y := xs (i + 1).toNatClampNeg) zd0_1554 h0 (z_ixk (k := 1) (kk := 1) (by decide) (by decide) (by decide) hi0 hi1 hL) rfl ?_
  refine z_e1 (pc1 := 1556) (L1 := [some (.ref 0), some (.ref 4), some (.ref 19), some (.int i)]) (S1 := [.ref 0, .int (xs (i + 1).toNatClampNeg), .ref 4]) zd0_1555 rfl rfl rfl ?_
  refine z_e1 (pc1 := 1557) (L1 := [some (.ref 0), some (.ref 4), some (.ref 19), some (.int i)]) (S1 := [.int i, .ref 0, .int (xs (i + 1).toNatClampNeg), .ref 4]) zd0_1556 rfl rfl rfl ?_
  refine z_e1 (pc1 := 1558) (L1 := [some (.ref 0), some (.ref 4), some (.ref 19), some (.int i)]) (S1 := [.int 2, .int i, .ref 0, .int (xs (i + 1).toNatClampNeg), .ref 4]) zd0_1557 rfl rfl rfl ?_
  refine z_e1 (pc1 := 1559) (L1 := [some (.ref 0), some (.ref 4), some (.ref 19), some (.int i)]) (S1 := [.int (i + 2), .ref 0, .int (xs (i + 1).toNatClampNeg), .ref 4]) zd0_1558 rfl rfl rfl ?_
  refine z_eial (y := xs (i + 2).toNatClampNeg) zd0_1559 h0 (z_ixk (k := 2) (kk := 2) (by decide) (by decide) (by decide) hi0 hi1 hL) rfl ?_
  refine z_e1 (pc1 := 1561) (L1 := [some (.ref 0), some (.ref 4), some (.ref 19), some (.int i)]) (S1 := [.ref 0, .int (xs (i + 2).toNatClampNeg), .int (xs (i + 1).toNatClampNeg), .ref 4]) zd0_1560 rfl rfl rfl ?_
  refine z_e1 (pc1 := 1562) (L1 := [some (.ref 0), some (.ref 4), some (.ref 19), some (.int i)]) (S1 := [.int i, .ref 0, .int (xs (i + 2).toNatClampNeg), .int (xs (i + 1).toNatClampNeg), .ref 4]) zd0_1561 rfl rfl rfl ?_
  refine z_e1 (pc1 := 1563) (L1 := [some (.ref 0), some (.ref 4), some (.ref 19), some (.int i)]) (S1 := [.int 3, .int i, .ref 0, .int (xs (i + 2).toNatClampNeg), .int (xs (i + 1).toNatClampNeg), .ref 4]) zd0_1562 rfl rfl rfl ?_
  refine z_e1 (pc1 := 1564) (L1 := [some (.ref 0), some (.ref 4), some (.ref 19), some (.int i)]) (S1 := [.int (i + 3), .ref 0, .int (xs (i + 2).toNatClampNeg), .int (xs (i + 1).toNatClampNeg), .ref 4]) zd0_1563 rfl rfl rfl ?_
  refine z_eial (y := xs (i + 3).toNatClampNeg) zd0_1564 h0 (z_ixk (k := 3) (kk := 3) (by decide) (by decide) (by decide) hi0 hi1 hL) rfl ?_
  refine z_e1 (pc1 := 1566) (L1 := [some (.ref 0), some (.ref 4), some (.ref 19), some (.int i)]) (S1 := [.long (((xs (i + 3).toNatClampNeg) : Int32).toInt64), .int (xs (i + 2).toNatClampNeg), .int (xs (i + 1).toNatClampNeg), .ref 4]) zd0_1565 rfl rfl rfl ?_
  refine z_e1 (pc1 := 1568) (L1 := [some (.ref 0), some (.ref 4), some (.ref 19), some (.int i)]) (S1 := [.int 32, .long (((xs (i + 3).toNatClampNeg) : Int32).toInt64), .int (xs (i + 2).toNatClampNeg), .int (xs (i + 1).toNatClampNeg), .ref 4]) zd0_1566 rfl rfl rfl ?_
  refine z_e1 (pc1 := 1569) (L1 := [some (.ref 0), some (.ref 4), some (.ref 19), some (.int i)]) (S1 := [.long ((((xs (i + 3).toNatClampNeg) : Int32).toInt64) <<< ((32 : Int32).toInt64 &&& 63)), .int (xs (i + 2).toNatClampNeg), .int (xs (i + 1).toNatClampNeg), .ref 4]) zd0_1568 rfl rfl rfl ?_
  refine z_e1 (pc1 := 1570) (L1 := [some (.ref 0), some (.ref 4), some (.ref 19), some (.int i)]) (S1 := [.ref 0, .long ((((xs (i + 3).toNatClampNeg) : Int32).toInt64) <<< ((32 : Int32).toInt64 &&& 63)), .int (xs (i + 2).toNatClampNeg), .int (xs (i + 1).toNatClampNeg), .ref 4]) zd0_1569 rfl rfl rfl ?_
  refine z_e1 (pc1 := 1571) (L1 := [some (.ref 0), some (.ref 4), some (.ref 19), some (.int i)]) (S1 := [.int i, .ref 0, .long ((((xs (i + 3).toNatClampNeg) : Int32).toInt64) <<< ((32 : Int32).toInt64 &&& 63)), .int (xs (i + 2).toNatClampNeg), .int (xs (i + 1).toNatClampNeg), .ref 4]) zd0_1570 rfl rfl rfl ?_
  refine z_e1 (pc1 := 1572) (L1 := [some (.ref 0), some (.ref 4), some (.ref 19), some (.int i)]) (S1 := [.int 4, .int i, .ref 0, .long ((((xs (i + 3).toNatClampNeg) : Int32).toInt64) <<< ((32 : Int32).toInt64 &&& 63)), .int (xs (i + 2).toNatClampNeg), .int (xs (i + 1).toNatClampNeg), .ref 4]) zd0_1571 rfl rfl rfl ?_
  refine z_e1 (pc1 := 1573) (L1 := [some (.ref 0), some (.ref 4), some (.ref 19), some (.int i)]) (S1 := [.int (i + 4), .ref 0, .long ((((xs (i + 3).toNatClampNeg) : Int32).toInt64) <<< ((32 : Int32).toInt64 &&& 63)), .int (xs (i + 2).toNatClampNeg), .int (xs (i + 1).toNatClampNeg), .ref 4]) zd0_1572 rfl rfl rfl ?_
  refine z_eial (y := xs (i + 4).toNatClampNeg) zd0_1573 h0 (z_ixk (k := 4) (kk := 4) (by decide) (by decide) (by decide) hi0 hi1 hL) rfl ?_
  refine z_e1 (pc1 := 1575) (L1 := [some (.ref 0), some (.ref 4), some (.ref 19), some (.int i)]) (S1 := [.long (((xs (i + 4).toNatClampNeg) : Int32).toInt64), .long ((((xs (i + 3).toNatClampNeg) : Int32).toInt64) <<< ((32 : Int32).toInt64 &&& 63)), .int (xs (i + 2).toNatClampNeg), .int (xs (i + 1).toNatClampNeg), .ref 4]) zd0_1574 rfl rfl rfl ?_
  refine z_eld2 zd0_1575 zl0_151 ?_
  refine z_e1 (pc1 := 1579) (L1 := [some (.ref 0), some (.ref 4), some (.ref 19), some (.int i)]) (S1 := [.long ((((xs (i + 4).toNatClampNeg) : Int32).toInt64) &&& 4294967295), .long ((((xs (i + 3).toNatClampNeg) : Int32).toInt64) <<< ((32 : Int32).toInt64 &&& 63)), .int (xs (i + 2).toNatClampNeg), .int (xs (i + 1).toNatClampNeg), .ref 4]) zd0_1578 rfl rfl rfl ?_
  refine z_e1 (pc1 := 1580) (L1 := [some (.ref 0), some (.ref 4), some (.ref 19), some (.int i)]) (S1 := [.long (((((xs (i + 3).toNatClampNeg) : Int32).toInt64) <<< ((32 : Int32).toInt64 &&& 63)) ||| ((((xs (i + 4).toNatClampNeg) : Int32).toInt64) &&& 4294967295)), .int (xs (i + 2).toNatClampNeg), .int (xs (i + 1).toNatClampNeg), .ref 4]) zd0_1579 rfl rfl rfl ?_
  refine z_ecV (vs := [.ref 4, .int (xs (i + 1).toNatClampNeg), .int (xs (i + 2).toNatClampNeg), .long (((((xs (i + 3).toNatClampNeg) : Int32).toInt64) <<< ((32 : Int32).toInt64 &&& 63)) ||| ((((xs (i + 4).toNatClampNeg) : Int32).toInt64) &&& 4294967295))]) (r := []) (L2 := z_ent [.ref 4, .int (xs (i + 1).toNatClampNeg), .int (xs (i + 2).toNatClampNeg), .long (((((xs (i + 3).toNatClampNeg) : Int32).toInt64) <<< ((32 : Int32).toInt64 &&& 63)) ||| ((((xs (i + 4).toNatClampNeg) : Int32).toInt64) &&& 4294967295))] (z_ml 177)) zd0_1580 zcV0_153 (Or.inl rfl) rfl h4 (by decide) rfl rfl rfl (Nat.le_of_ble_eq_true rfl) rfl (Nat.le_of_ble_eq_true rfl) rfl ?_
  refine H.mono (fun v M1 hv => ?_)
  obtain ⟨⟨x1, rfl⟩, h1, ⟨fs1, h19⟩, H1⟩ := hv
  show z_ev _ 0 1583 [some (.ref 0), some (.ref 4), some (.ref 19), some (.int i)] [.int x1] _ _
  refine z_e1 (pc1 := 1584) (L1 := [some (.ref 0), some (.ref 4), some (.ref 19), some (.int i)]) (S1 := []) zd0_1583 rfl rfl rfl ?_
  refine z_e1 (pc1 := 1585) (L1 := [some (.ref 0), some (.ref 4), some (.ref 19), some (.int i)]) (S1 := [.ref 19]) zd0_1584 rfl rfl rfl ?_
  refine z_e1 (pc1 := 1586) (L1 := [some (.ref 0), some (.ref 4), some (.ref 19), some (.int i)]) (S1 := [.ref 0, .ref 19]) zd0_1585 rfl rfl rfl ?_
  refine z_e1 (pc1 := 1587) (L1 := [some (.ref 0), some (.ref 4), some (.ref 19), some (.int i)]) (S1 := [.int i, .ref 0, .ref 19]) zd0_1586 rfl rfl rfl ?_
  refine z_e1 (pc1 := 1588) (L1 := [some (.ref 0), some (.ref 4), some (.ref 19), some (.int i)]) (S1 := [.int 1, .int i, .ref 0, .ref 19]) zd0_1587 rfl rfl rfl ?_
  refine z_e1 (pc1 := 1589) (L1 := [some (.ref 0), some (.ref 4), some (.ref 19), some (.int i)]) (S1 := [.int (i + 1), .ref 0, .ref 19]) zd0_1588 rfl rfl rfl ?_
  refine z_eial (y := xs (i + 1).toNatClampNeg) zd0_1589 h1 (z_ixk (k := 1) (kk := 1) (by decide) (by decide) (by decide) hi0 hi1 hL) rfl ?_
  refine z_e1 (pc1 := 1591) (L1 := [some (.ref 0), some (.ref 4), some (.ref 19), some (.int i)]) (S1 := [.ref 0, .int (xs (i + 1).toNatClampNeg), .ref 19]) zd0_1590 rfl rfl rfl ?_
  refine z_e1 (pc1 := 1592) (L1 := [some (.ref 0), some (.ref 4), some (.ref 19), some (.int i)]) (S1 := [.int i, .ref 0, .int (xs (i + 1).toNatClampNeg), .ref 19]) zd0_1591 rfl rfl rfl ?_
  refine z_e1 (pc1 := 1593) (L1 := [some (.ref 0), some (.ref 4), some (.ref 19), some (.int i)]) (S1 := [.int 2, .int i, .ref 0, .int (xs (i + 1).toNatClampNeg), .ref 19]) zd0_1592 rfl rfl rfl ?_
  refine z_e1 (pc1 := 1594) (L1 := [some (.ref 0), some (.ref 4), some (.ref 19), some (.int i)]) (S1 := [.int (i + 2), .ref 0, .int (xs (i + 1).toNatClampNeg), .ref 19]) zd0_1593 rfl rfl rfl ?_
  refine z_eial (y := xs (i + 2).toNatClampNeg) zd0_1594 h1 (z_ixk (k := 2) (kk := 2) (by decide) (by decide) (by decide) hi0 hi1 hL) rfl ?_
  refine z_e1 (pc1 := 1596) (L1 := [some (.ref 0), some (.ref 4), some (.ref 19), some (.int i)]) (S1 := [.ref 0, .int (xs (i + 2).toNatClampNeg), .int (xs (i + 1).toNatClampNeg), .ref 19]) zd0_1595 rfl rfl rfl ?_
  refine z_e1 (pc1 := 1597) (L1 := [some (.ref 0), some (.ref 4), some (.ref 19), some (.int i)]) (S1 := [.int i, .ref 0, .int (xs (i + 2).toNatClampNeg), .int (xs (i + 1).toNatClampNeg), .ref 19]) zd0_1596 rfl rfl rfl ?_
  refine z_e1 (pc1 := 1598) (L1 := [some (.ref 0), some (.ref 4), some (.ref 19), some (.int i)]) (S1 := [.int 3, .int i, .ref 0, .int (xs (i + 2).toNatClampNeg), .int (xs (i + 1).toNatClampNeg), .ref 19]) zd0_1597 rfl rfl rfl ?_
  refine z_e1 (pc1 := 1599) (L1 := [some (.ref 0), some (.ref 4), some (.ref 19), some (.int i)]) (S1 := [.int (i + 3), .ref 0, .int (xs (i + 2).toNatClampNeg), .int (xs (i + 1).toNatClampNeg), .ref 19]) zd0_1598 rfl rfl rfl ?_
  refine z_eial (y := xs (i + 3).toNatClampNeg) zd0_1599 h1 (z_ixk (k := 3) (kk := 3) (by decide) (by decide) (by decide) hi0 hi1 hL) rfl ?_
  refine z_e1 (pc1 := 1601) (L1 := [some (.ref 0), some (.ref 4), some (.ref 19), some (.int i)]) (S1 := [.long (((xs (i + 3).toNatClampNeg) : Int32).toInt64), .int (xs (i + 2).toNatClampNeg), .int (xs (i + 1).toNatClampNeg), .ref 19]) zd0_1600 rfl rfl rfl ?_
  refine z_e1 (pc1 := 1603) (L1 := [some (.ref 0), some (.ref 4), some (.ref 19), some (.int i)]) (S1 := [.int 32, .long (((xs (i + 3).toNatClampNeg) : Int32).toInt64), .int (xs (i + 2).toNatClampNeg), .int (xs (i + 1).toNatClampNeg), .ref 19]) zd0_1601 rfl rfl rfl ?_
  refine z_e1 (pc1 := 1604) (L1 := [some (.ref 0), some (.ref 4), some (.ref 19), some (.int i)]) (S1 := [.long ((((xs (i + 3).toNatClampNeg) : Int32).toInt64) <<< ((32 : Int32).toInt64 &&& 63)), .int (xs (i + 2).toNatClampNeg), .int (xs (i + 1).toNatClampNeg), .ref 19]) zd0_1603 rfl rfl rfl ?_
  refine z_e1 (pc1 := 1605) (L1 := [some (.ref 0), some (.ref 4), some (.ref 19), some (.int i)]) (S1 := [.ref 0, .long ((((xs (i + 3).toNatClampNeg) : Int32).toInt64) <<< ((32 : Int32).toInt64 &&& 63)), .int (xs (i + 2).toNatClampNeg), .int (xs (i + 1).toNatClampNeg), .ref 19]) zd0_1604 rfl rfl rfl ?_
  refine z_e1 (pc1 := 1606) (L1 := [some (.ref 0), some (.ref 4), some (.ref 19), some (.int i)]) (S1 := [.int i, .ref 0, .long ((((xs (i + 3).toNatClampNeg) : Int32).toInt64) <<< ((32 : Int32).toInt64 &&& 63)), .int (xs (i + 2).toNatClampNeg), .int (xs (i + 1).toNatClampNeg), .ref 19]) zd0_1605 rfl rfl rfl ?_
  refine z_e1 (pc1 := 1607) (L1 := [some (.ref 0), some (.ref 4), some (.ref 19), some (.int i)]) (S1 := [.int 4, .int i, .ref 0, .long ((((xs (i + 3).toNatClampNeg) : Int32).toInt64) <<< ((32 : Int32).toInt64 &&& 63)), .int (xs (i + 2).toNatClampNeg), .int (xs (i + 1).toNatClampNeg), .ref 19]) zd0_1606 rfl rfl rfl ?_
  refine z_e1 (pc1 := 1608) (L1 := [some (.ref 0), some (.ref 4), some (.ref 19), some (.int i)]) (S1 := [.int (i + 4), .ref 0, .long ((((xs (i + 3).toNatClampNeg) : Int32).toInt64) <<< ((32 : Int32).toInt64 &&& 63)), .int (xs (i + 2).toNatClampNeg), .int (xs (i + 1).toNatClampNeg), .ref 19]) zd0_1607 rfl rfl rfl ?_
  refine z_eial (y := xs (i + 4).toNatClampNeg) zd0_1608 h1 (z_ixk (k := 4) (kk := 4) (by decide) (by decide) (by decide) hi0 hi1 hL) rfl ?_
  refine z_e1 (pc1 := 1610) (L1 := [some (.ref 0), some (.ref 4), some (.ref 19), some (.int i)]) (S1 := [.long (((xs (i + 4).toNatClampNeg) : Int32).toInt64), .long ((((xs (i + 3).toNatClampNeg) : Int32).toInt64) <<< ((32 : Int32).toInt64 &&& 63)), .int (xs (i + 2).toNatClampNeg), .int (xs (i + 1).toNatClampNeg), .ref 19]) zd0_1609 rfl rfl rfl ?_
  refine z_eld2 zd0_1610 zl0_151 ?_
  refine z_e1 (pc1 := 1614) (L1 := [some (.ref 0), some (.ref 4), some (.ref 19), some (.int i)]) (S1 := [.long ((((xs (i + 4).toNatClampNeg) : Int32).toInt64) &&& 4294967295), .long ((((xs (i + 3).toNatClampNeg) : Int32).toInt64) <<< ((32 : Int32).toInt64 &&& 63)), .int (xs (i + 2).toNatClampNeg), .int (xs (i + 1).toNatClampNeg), .ref 19]) zd0_1613 rfl rfl rfl ?_
  refine z_e1 (pc1 := 1615) (L1 := [some (.ref 0), some (.ref 4), some (.ref 19), some (.int i)]) (S1 := [.long (((((xs (i + 3).toNatClampNeg) : Int32).toInt64) <<< ((32 : Int32).toInt64 &&& 63)) ||| ((((xs (i + 4).toNatClampNeg) : Int32).toInt64) &&& 4294967295)), .int (xs (i + 2).toNatClampNeg), .int (xs (i + 1).toNatClampNeg), .ref 19]) zd0_1614 rfl rfl rfl ?_
  refine z_ecV (vs := [.ref 19, .int (xs (i + 1).toNatClampNeg), .int (xs (i + 2).toNatClampNeg), .long (((((xs (i + 3).toNatClampNeg) : Int32).toInt64) <<< ((32 : Int32).toInt64 &&& 63)) ||| ((((xs (i + 4).toNatClampNeg) : Int32).toInt64) &&& 4294967295))]) (r := []) (L2 := z_ent [.ref 19, .int (xs (i + 1).toNatClampNeg), .int (xs (i + 2).toNatClampNeg), .long (((((xs (i + 3).toNatClampNeg) : Int32).toInt64) <<< ((32 : Int32).toInt64 &&& 63)) ||| ((((xs (i + 4).toNatClampNeg) : Int32).toInt64) &&& 4294967295))] (z_ml 286)) zd0_1615 zcV0_157 (Or.inl rfl) rfl h19 (by decide) rfl rfl rfl (Nat.le_of_ble_eq_true rfl) rfl (Nat.le_of_ble_eq_true rfl) rfl ?_
  refine H1.mono (fun v M2 hv => ?_)
  obtain ⟨⟨x2, rfl⟩, hx, H2⟩ := hv
  show z_ev _ 0 1618 [some (.ref 0), some (.ref 4), some (.ref 19), some (.int i)] [.int x2] _ _
  refine z_e1 (pc1 := 1619) (L1 := [some (.ref 0), some (.ref 4), some (.ref 19), some (.int i)]) (S1 := []) zd0_1618 rfl rfl rfl ?_
  refine z_e1 (pc1 := 1774) (L1 := [some (.ref 0), some (.ref 4), some (.ref 19), some (.int i)]) (S1 := []) zd0_1619 rfl rfl rfl ?_
  exact H2
theorem z_D34 {M : zH} {xs : Nat → Int32} {L : Nat} {i : Int32} {fs : List Value} {K : Option Value → zH → Prop} (hi0 : 0 ≤ i.toInt) (hi1 : i.toInt + 6 ≤ L) (hL : L ≤ 3072) (h0 : M[0]? = some (.inl (0, L, .inl xs))) (h4 : M[4]? = some (.inr (0, fs)))
    (H : z_ev 2046 180 0 (z_ent [.ref 4, .int (xs (i + 1).toNatClampNeg), .int (xs (i + 2).toNatClampNeg)] (z_ml 180)) [] M fun v M1 => (∃ x1, v = some (.long x1)) ∧ M1[0]? = some (.inl (0, L, .inl xs)) ∧ (∃ fs1, M1[19]? = some (.inr (12, fs1))) ∧
      z_ev 2046 289 0 (z_ent [.ref 19, .int (xs (i + 1).toNatClampNeg), .int (xs (i + 2).toNatClampNeg)] (z_ml 289)) [] M1 fun v2 M2 => (∃ x2, v2 = some (.long x2)) ∧ True ∧ z_ev 2047 0 1774 [some (.ref 0), some (.ref 4), some (.ref 19), some (.int i)] [] M2 K) : z_ev 2047 0 1622 [some (.ref 0), some (.ref 4), some (.ref 19), some (.int i)] [] M K := by
  refine z_e1 (pc1 := 1623) (L1 := [some (.ref 0), some (.ref 4), some (.ref 19), some (.int i)]) (S1 := [.ref 4]) zd0_1622 rfl rfl rfl ?_
  refine z_e1 (pc1 := 1624) (L1 := [some (.ref 0), some (.ref 4), some (.ref 19), some (.int i)]) (S1 := [.ref 0, .ref 4]) zd0_1623 rfl rfl rfl ?_
  refine z_e1 (pc1 := 1625) (L1 := [some (.ref 0), some (.ref 4), some (.ref 19), some (.int i)]) (S1 := [.int i, .ref 0, .ref 4]) zd0_1624 rfl rfl rfl ?_
  refine z_e1 (pc1 := 1626) (L1 := [some (.ref 0), some (.ref 4), some (.ref 19), some (.int i)]) (S1 := [.int 1, .int i, .ref 0, .ref 4]) zd0_1625 rfl rfl rfl ?_
  refine z_e1 (pc1 := 1627) (L1 := [some (.ref 0), some (.ref 4), some (.ref 19), some (.int i)]) (S1 := [.int (i + 1), .ref 0, .ref 4]) zd0_1626 rfl rfl rfl ?_
  refine z_eial (y := xs (i + 1).toNatClampNeg) zd0_1627 h0 (z_ixk (k := 1) (kk := 1) (by decide) (by decide) (by decide) hi0 hi1 hL) rfl ?_
  refine z_e1 (pc1 := 1629) (L1 := [some (.ref 0), some (.ref 4), some (.ref 19), some (.int i)]) (S1 := [.ref 0, .int (xs (i + 1).toNatClampNeg), .ref 4]) zd0_1628 rfl rfl rfl ?_
  refine z_e1 (pc1 := 1630) (L1 := [some (.ref 0), some (.ref 4), some (.ref 19), some (.int i)]) (S1 := [.int i, .ref 0, .int (xs (i + 1).toNatClampNeg), .ref 4]) zd0_1629 rfl rfl rfl ?_
  refine z_e1 (pc1 := 1631) (L1 := [some (.ref 0), some (.ref 4), some (.ref 19), some (.int i)]) (S1 := [.int 2, .int i, .ref 0, .int (xs (i + 1).toNatClampNeg), .ref 4]) zd0_1630 rfl rfl rfl ?_
  refine z_e1 (pc1 := 1632) (L1 := [some (.ref 0), some (.ref 4), some (.ref 19), some (.int i)]) (S1 := [.int (i + 2), .ref 0, .int (xs (i + 1).toNatClampNeg), .ref 4]) zd0_1631 rfl rfl rfl ?_
  refine z_eial (y := xs (i + 2).toNatClampNeg) zd0_1632 h0 (z_ixk (k := 2) (kk := 2) (by decide) (by decide) (by decide) hi0 hi1 hL) rfl ?_
  refine z_ecV (vs := [.ref 4, .int (xs (i + 1).toNatClampNeg), .int (xs (i + 2).toNatClampNeg)]) (r := []) (L2 := z_ent [.ref 4, .int (xs (i + 1).toNatClampNeg), .int (xs (i + 2).toNatClampNeg)] (z_ml 180)) zd0_1633 zcV0_158 (Or.inl rfl) rfl h4 (by decide) rfl rfl rfl (Nat.le_of_ble_eq_true rfl) rfl (Nat.le_of_ble_eq_true rfl) rfl ?_
  refine H.mono (fun v M1 hv => ?_)
  obtain ⟨⟨x1, rfl⟩, h1, ⟨fs1, h19⟩, H1⟩ := hv
  show z_ev _ 0 1636 [some (.ref 0), some (.ref 4), some (.ref 19), some (.int i)] [.long x1] _ _
  refine z_e1 (pc1 := 1637) (L1 := [some (.ref 0), some (.ref 4), some (.ref 19), some (.int i)]) (S1 := []) zd0_1636 rfl rfl rfl ?_
  refine z_e1 (pc1 := 1638) (L1 := [some (.ref 0), some (.ref 4), some (.ref 19), some (.int i)]) (S1 := [.ref 19]) zd0_1637 rfl rfl rfl ?_
  refine z_e1 (pc1 := 1639) (L1 := [some (.ref 0), some (.ref 4), some (.ref 19), some (.int i)]) (S1 := [.ref 0, .ref 19]) zd0_1638 rfl rfl rfl ?_
  refine z_e1 (pc1 := 1640) (L1 := [some (.ref 0), some (.ref 4), some (.ref 19), some (.int i)]) (S1 := [.int i, .ref 0, .ref 19]) zd0_1639 rfl rfl rfl ?_
  refine z_e1 (pc1 := 1641) (L1 := [some (.ref 0), some (.ref 4), some (.ref 19), some (.int i)]) (S1 := [.int 1, .int i, .ref 0, .ref 19]) zd0_1640 rfl rfl rfl ?_
  refine z_e1 (pc1 := 1642) (L1 := [some (.ref 0), some (.ref 4), some (.ref 19), some (.int i)]) (S1 := [.int (i + 1), .ref 0, .ref 19]) zd0_1641 rfl rfl rfl ?_
  refine z_eial (y := xs (i + 1).toNatClampNeg) zd0_1642 h1 (z_ixk (k := 1) (kk := 1) (by decide) (by decide) (by decide) hi0 hi1 hL) rfl ?_
  refine z_e1 (pc1 := 1644) (L1 := [some (.ref 0), some (.ref 4), some (.ref 19), some (.int i)]) (S1 := [.ref 0, .int (xs (i + 1).toNatClampNeg), .ref 19]) zd0_1643 rfl rfl rfl ?_
  refine z_e1 (pc1 := 1645) (L1 := [some (.ref 0), some (.ref 4), some (.ref 19), some (.int i)]) (S1 := [.int i, .ref 0, .int (xs (i + 1).toNatClampNeg), .ref 19]) zd0_1644 rfl rfl rfl ?_
  refine z_e1 (pc1 := 1646) (L1 := [some (.ref 0), some (.ref 4), some (.ref 19), some (.int i)]) (S1 := [.int 2, .int i, .ref 0, .int (xs (i + 1).toNatClampNeg), .ref 19]) zd0_1645 rfl rfl rfl ?_
  refine z_e1 (pc1 := 1647) (L1 := [some (.ref 0), some (.ref 4), some (.ref 19), some (.int i)]) (S1 := [.int (i + 2), .ref 0, .int (xs (i + 1).toNatClampNeg), .ref 19]) zd0_1646 rfl rfl rfl ?_
  refine z_eial (y := xs (i + 2).toNatClampNeg) zd0_1647 h1 (z_ixk (k := 2) (kk := 2) (by decide) (by decide) (by decide) hi0 hi1 hL) rfl ?_
  refine z_ecV (vs := [.ref 19, .int (xs (i + 1).toNatClampNeg), .int (xs (i + 2).toNatClampNeg)]) (r := []) (L2 := z_ent [.ref 19, .int (xs (i + 1).toNatClampNeg), .int (xs (i + 2).toNatClampNeg)] (z_ml 289)) zd0_1648 zcV0_162 (Or.inl rfl) rfl h19 (by decide) rfl rfl rfl (Nat.le_of_ble_eq_true rfl) rfl (Nat.le_of_ble_eq_true rfl) rfl ?_
  refine H1.mono (fun v M2 hv => ?_)
  obtain ⟨⟨x2, rfl⟩, hx, H2⟩ := hv
  show z_ev _ 0 1651 [some (.ref 0), some (.ref 4), some (.ref 19), some (.int i)] [.long x2] _ _
  refine z_e1 (pc1 := 1652) (L1 := [some (.ref 0), some (.ref 4), some (.ref 19), some (.int i)]) (S1 := []) zd0_1651 rfl rfl rfl ?_
  refine z_e1 (pc1 := 1774) (L1 := [some (.ref 0), some (.ref 4), some (.ref 19), some (.int i)]) (S1 := []) zd0_1652 rfl rfl rfl ?_
  exact H2
theorem z_D35 {M : zH} {xs : Nat → Int32} {L : Nat} {i : Int32} {fs : List Value} {K : Option Value → zH → Prop} (hi0 : 0 ≤ i.toInt) (hi1 : i.toInt + 6 ≤ L) (hL : L ≤ 3072) (h0 : M[0]? = some (.inl (0, L, .inl xs))) (h4 : M[4]? = some (.inr (0, fs)))
    (H : z_ev 2046 181 0 (z_ent [.ref 4, .int (xs (i + 1).toNatClampNeg), .int (xs (i + 2).toNatClampNeg), .int (xs (i + 3).toNatClampNeg), .int (xs (i + 4).toNatClampNeg), .int (xs (i + 5).toNatClampNeg)] (z_ml 181)) [] M fun v M1 => (∃ x1, v = some (.int x1)) ∧ M1[0]? = some (.inl (0, L, .inl xs)) ∧ (∃ fs1, M1[19]? = some (.inr (12, fs1))) ∧
      z_ev 2046 290 0 (z_ent [.ref 19, .int (xs (i + 1).toNatClampNeg), .int (xs (i + 2).toNatClampNeg), .int (xs (i + 3).toNatClampNeg), .int (xs (i + 4).toNatClampNeg), .int (xs (i + 5).toNatClampNeg)] (z_ml 290)) [] M1 fun v2 M2 => (∃ x2, v2 = some (.int x2)) ∧ True ∧ z_ev 2047 0 1774 [some (.ref 0), some (.ref 4), some (.ref 19), some (.int i)] [] M2 K) : z_ev 2047 0 1655 [some (.ref 0), some (.ref 4), some (.ref 19), some (.int i)] [] M K := by
  refine z_e1 (pc1 := 1656) (L1 := [some (.ref 0), some (.ref 4), some (.ref 19), some (.int i)]) (S1 := [.ref 4]) zd0_1655 rfl rfl rfl ?_
  refine z_e1 (pc1 := 1657) (L1 := [some (.ref 0), some (.ref 4), some (.ref 19), some (.int i)]) (S1 := [.ref 0, .ref 4]) zd0_1656 rfl rfl rfl ?_
  refine z_e1 (pc1 := 1658) (L1 := [some (.ref 0), some (.ref 4), some (.ref 19), some (.int i)]) (S1 := [.int i, .ref 0, .ref 4]) zd0_1657 rfl rfl rfl ?_
  refine z_e1 (pc1 := 1659) (L1 := [some (.ref 0), some (.ref 4), some (.ref 19), some (.int i)]) (S1 := [.int 1, .int i, .ref 0, .ref 4]) zd0_1658 rfl rfl rfl ?_
  refine z_e1 (pc1 := 1660) (L1 := [some (.ref 0), some (.ref 4), some (.ref 19), some (.int i)]) (S1 := [.int (i + 1), .ref 0, .ref 4]) zd0_1659 rfl rfl rfl ?_
  refine z_eial (y := xs (i + 1).toNatClampNeg) zd0_1660 h0 (z_ixk (k := 1) (kk := 1) (by decide) (by decide) (by decide) hi0 hi1 hL) rfl ?_
  refine z_e1 (pc1 := 1662) (L1 := [some (.ref 0), some (.ref 4), some (.ref 19), some (.int i)]) (S1 := [.ref 0, .int (xs (i + 1).toNatClampNeg), .ref 4]) zd0_1661 rfl rfl rfl ?_
  refine z_e1 (pc1 := 1663) (L1 := [some (.ref 0), some (.ref 4), some (.ref 19), some (.int i)]) (S1 := [.int i, .ref 0, .int (xs (i + 1).toNatClampNeg), .ref 4]) zd0_1662 rfl rfl rfl ?_
  refine z_e1 (pc1 := 1664) (L1 := [some (.ref 0), some (.ref 4), some (.ref 19), some (.int i)]) (S1 := [.int 2, .int i, .ref 0, .int (xs (i + 1).toNatClampNeg), .ref 4]) zd0_1663 rfl rfl rfl ?_
  refine z_e1 (pc1 := 1665) (L1 := [some (.ref 0), some (.ref 4), some (.ref 19), some (.int i)]) (S1 := [.int (i + 2), .ref 0, .int (xs (i + 1).toNatClampNeg), .ref 4]) zd0_1664 rfl rfl rfl ?_
  refine z_eial (y := xs (i + 2).toNatClampNeg) zd0_1665 h0 (z_ixk (k := 2) (kk := 2) (by decide) (by decide) (by decide) hi0 hi1 hL) rfl ?_
  refine z_e1 (pc1 := 1667) (L1 := [some (.ref 0), some (.ref 4), some (.ref 19), some (.int i)]) (S1 := [.ref 0, .int (xs (i + 2).toNatClampNeg), .int (xs (i + 1).toNatClampNeg), .ref 4]) zd0_1666 rfl rfl rfl ?_
  refine z_e1 (pc1 := 1668) (L1 := [some (.ref 0), some (.ref 4), some (.ref 19), some (.int i)]) (S1 := [.int i, .ref 0, .int (xs (i + 2).toNatClampNeg), .int (xs (i + 1).toNatClampNeg), .ref 4]) zd0_1667 rfl rfl rfl ?_
  refine z_e1 (pc1 := 1669) (L1 := [some (.ref 0), some (.ref 4), some (.ref 19), some (.int i)]) (S1 := [.int 3, .int i, .ref 0, .int (xs (i + 2).toNatClampNeg), .int (xs (i + 1).toNatClampNeg), .ref 4]) zd0_1668 rfl rfl rfl ?_
  refine z_e1 (pc1 := 1670) (L1 := [some (.ref 0), some (.ref 4), some (.ref 19), some (.int i)]) (S1 := [.int (i + 3), .ref 0, .int (xs (i + 2).toNatClampNeg), .int (xs (i + 1).toNatClampNeg), .ref 4]) zd0_1669 rfl rfl rfl ?_
  refine z_eial (y := xs (i + 3).toNatClampNeg) zd0_1670 h0 (z_ixk (k := 3) (kk := 3) (by decide) (by decide) (by decide) hi0 hi1 hL) rfl ?_
  refine z_e1 (pc1 := 1672) (L1 := [some (.ref 0), some (.ref 4), some (.ref 19), some (.int i)]) (S1 := [.ref 0, .int (xs (i + 3).toNatClampNeg), .int (xs (i + 2).toNatClampNeg), .int (xs (i + 1).toNatClampNeg), .ref 4]) zd0_1671 rfl rfl rfl ?_
  refine z_e1 (pc1 := 1673) (L1 := [some (.ref 0), some (.ref 4), some (.ref 19), some (.int i)]) (S1 := [.int i, .ref 0, .int (xs (i + 3).toNatClampNeg), .int (xs (i + 2).toNatClampNeg), .int (xs (i + 1).toNatClampNeg), .ref 4]) zd0_1672 rfl rfl rfl ?_
  refine z_e1 (pc1 := 1674) (L1 := [some (.ref 0), some (.ref 4), some (.ref 19), some (.int i)]) (S1 := [.int 4, .int i, .ref 0, .int (xs (i + 3).toNatClampNeg), .int (xs (i + 2).toNatClampNeg), .int (xs (i + 1).toNatClampNeg), .ref 4]) zd0_1673 rfl rfl rfl ?_
  refine z_e1 (pc1 := 1675) (L1 := [some (.ref 0), some (.ref 4), some (.ref 19), some (.int i)]) (S1 := [.int (i + 4), .ref 0, .int (xs (i + 3).toNatClampNeg), .int (xs (i + 2).toNatClampNeg), .int (xs (i + 1).toNatClampNeg), .ref 4]) zd0_1674 rfl rfl rfl ?_
  refine z_eial (y := xs (i + 4).toNatClampNeg) zd0_1675 h0 (z_ixk (k := 4) (kk := 4) (by decide) (by decide) (by decide) hi0 hi1 hL) rfl ?_
  refine z_e1 (pc1 := 1677) (L1 := [some (.ref 0), some (.ref 4), some (.ref 19), some (.int i)]) (S1 := [.ref 0, .int (xs (i + 4).toNatClampNeg), .int (xs (i + 3).toNatClampNeg), .int (xs (i + 2).toNatClampNeg), .int (xs (i + 1).toNatClampNeg), .ref 4]) zd0_1676 rfl rfl rfl ?_
  refine z_e1 (pc1 := 1678) (L1 := [some (.ref 0), some (.ref 4), some (.ref 19), some (.int i)]) (S1 := [.int i, .ref 0, .int (xs (i + 4).toNatClampNeg), .int (xs (i + 3).toNatClampNeg), .int (xs (i + 2).toNatClampNeg), .int (xs (i + 1).toNatClampNeg), .ref 4]) zd0_1677 rfl rfl rfl ?_
  refine z_e1 (pc1 := 1679) (L1 := [some (.ref 0), some (.ref 4), some (.ref 19), some (.int i)]) (S1 := [.int 5, .int i, .ref 0, .int (xs (i + 4).toNatClampNeg), .int (xs (i + 3).toNatClampNeg), .int (xs (i + 2).toNatClampNeg), .int (xs (i + 1).toNatClampNeg), .ref 4]) zd0_1678 rfl rfl rfl ?_
  refine z_e1 (pc1 := 1680) (L1 := [some (.ref 0), some (.ref 4), some (.ref 19), some (.int i)]) (S1 := [.int (i + 5), .ref 0, .int (xs (i + 4).toNatClampNeg), .int (xs (i + 3).toNatClampNeg), .int (xs (i + 2).toNatClampNeg), .int (xs (i + 1).toNatClampNeg), .ref 4]) zd0_1679 rfl rfl rfl ?_
  refine z_eial (y := xs (i + 5).toNatClampNeg) zd0_1680 h0 (z_ixk (k := 5) (kk := 5) (by decide) (by decide) (by decide) hi0 hi1 hL) rfl ?_
  refine z_ecV (vs := [.ref 4, .int (xs (i + 1).toNatClampNeg), .int (xs (i + 2).toNatClampNeg), .int (xs (i + 3).toNatClampNeg), .int (xs (i + 4).toNatClampNeg), .int (xs (i + 5).toNatClampNeg)]) (r := []) (L2 := z_ent [.ref 4, .int (xs (i + 1).toNatClampNeg), .int (xs (i + 2).toNatClampNeg), .int (xs (i + 3).toNatClampNeg), .int (xs (i + 4).toNatClampNeg), .int (xs (i + 5).toNatClampNeg)] (z_ml 181)) zd0_1681 zcV0_163 (Or.inl rfl) rfl h4 (by decide) rfl rfl rfl (Nat.le_of_ble_eq_true rfl) rfl (Nat.le_of_ble_eq_true rfl) rfl ?_
  refine H.mono (fun v M1 hv => ?_)
  obtain ⟨⟨x1, rfl⟩, h1, ⟨fs1, h19⟩, H1⟩ := hv
  show z_ev _ 0 1684 [some (.ref 0), some (.ref 4), some (.ref 19), some (.int i)] [.int x1] _ _
  refine z_e1 (pc1 := 1685) (L1 := [some (.ref 0), some (.ref 4), some (.ref 19), some (.int i)]) (S1 := []) zd0_1684 rfl rfl rfl ?_
  refine z_e1 (pc1 := 1686) (L1 := [some (.ref 0), some (.ref 4), some (.ref 19), some (.int i)]) (S1 := [.ref 19]) zd0_1685 rfl rfl rfl ?_
  refine z_e1 (pc1 := 1687) (L1 := [some (.ref 0), some (.ref 4), some (.ref 19), some (.int i)]) (S1 := [.ref 0, .ref 19]) zd0_1686 rfl rfl rfl ?_
  refine z_e1 (pc1 := 1688) (L1 := [some (.ref 0), some (.ref 4), some (.ref 19), some (.int i)]) (S1 := [.int i, .ref 0, .ref 19]) zd0_1687 rfl rfl rfl ?_
  refine z_e1 (pc1 := 1689) (L1 := [some (.ref 0), some (.ref 4), some (.ref 19), some (.int i)]) (S1 := [.int 1, .int i, .ref 0, .ref 19]) zd0_1688 rfl rfl rfl ?_
  refine z_e1 (pc1 := 1690) (L1 := [some (.ref 0), some (.ref 4), some (.ref 19), some (.int i)]) (S1 := [.int (i + 1), .ref 0, .ref 19]) zd0_1689 rfl rfl rfl ?_
  refine z_eial (y := xs (i + 1).toNatClampNeg) zd0_1690 h1 (z_ixk (k := 1) (kk := 1) (by decide) (by decide) (by decide) hi0 hi1 hL) rfl ?_
  refine z_e1 (pc1 := 1692) (L1 := [some (.ref 0), some (.ref 4), some (.ref 19), some (.int i)]) (S1 := [.ref 0, .int (xs (i + 1).toNatClampNeg), .ref 19]) zd0_1691 rfl rfl rfl ?_
  refine z_e1 (pc1 := 1693) (L1 := [some (.ref 0), some (.ref 4), some (.ref 19), some (.int i)]) (S1 := [.int i, .ref 0, .int (xs (i + 1).toNatClampNeg), .ref 19]) zd0_1692 rfl rfl rfl ?_
  refine z_e1 (pc1 := 1694) (L1 := [some (.ref 0), some (.ref 4), some (.ref 19), some (.int i)]) (S1 := [.int 2, .int i, .ref 0, .int (xs (i + 1).toNatClampNeg), .ref 19]) zd0_1693 rfl rfl rfl ?_
  refine z_e1 (pc1 := 1695) (L1 := [some (.ref 0), some (.ref 4), some (.ref 19), some (.int i)]) (S1 := [.int (i + 2), .ref 0, .int (xs (i + 1).toNatClampNeg), .ref 19]) zd0_1694 rfl rfl rfl ?_
  refine z_eial (y := xs (i + 2).toNatClampNeg) zd0_1695 h1 (z_ixk (k := 2) (kk := 2) (by decide) (by decide) (by decide) hi0 hi1 hL) rfl ?_
  refine z_e1 (pc1 := 1697) (L1 := [some (.ref 0), some (.ref 4), some (.ref 19), some (.int i)]) (S1 := [.ref 0, .int (xs (i + 2).toNatClampNeg), .int (xs (i + 1).toNatClampNeg), .ref 19]) zd0_1696 rfl rfl rfl ?_
  refine z_e1 (pc1 := 1698) (L1 := [some (.ref 0), some (.ref 4), some (.ref 19), some (.int i)]) (S1 := [.int i, .ref 0, .int (xs (i + 2).toNatClampNeg), .int (xs (i + 1).toNatClampNeg), .ref 19]) zd0_1697 rfl rfl rfl ?_
  refine z_e1 (pc1 := 1699) (L1 := [some (.ref 0), some (.ref 4), some (.ref 19), some (.int i)]) (S1 := [.int 3, .int i, .ref 0, .int (xs (i + 2).toNatClampNeg), .int (xs (i + 1).toNatClampNeg), .ref 19]) zd0_1698 rfl rfl rfl ?_
  refine z_e1 (pc1 := 1700) (L1 := [some (.ref 0), some (.ref 4), some (.ref 19), some (.int i)]) (S1 := [.int (i + 3), .ref 0, .int (xs (i + 2).toNatClampNeg), .int (xs (i + 1).toNatClampNeg), .ref 19]) zd0_1699 rfl rfl rfl ?_
  refine z_eial (y := xs (i + 3).toNatClampNeg) zd0_1700 h1 (z_ixk (k := 3) (kk := 3) (by decide) (by decide) (by decide) hi0 hi1 hL) rfl ?_
  refine z_e1 (pc1 := 1702) (L1 := [some (.ref 0), some (.ref 4), some (.ref 19), some (.int i)]) (S1 := [.ref 0, .int (xs (i + 3).toNatClampNeg), .int (xs (i + 2).toNatClampNeg), .int (xs (i + 1).toNatClampNeg), .ref 19]) zd0_1701 rfl rfl rfl ?_
  refine z_e1 (pc1 := 1703) (L1 := [some (.ref 0), some (.ref 4), some (.ref 19), some (.int i)]) (S1 := [.int i, .ref 0, .int (xs (i + 3).toNatClampNeg), .int (xs (i + 2).toNatClampNeg), .int (xs (i + 1).toNatClampNeg), .ref 19]) zd0_1702 rfl rfl rfl ?_
  refine z_e1 (pc1 := 1704) (L1 := [some (.ref 0), some (.ref 4), some (.ref 19), some (.int i)]) (S1 := [.int 4, .int i, .ref 0, .int (xs (i + 3).toNatClampNeg), .int (xs (i + 2).toNatClampNeg), .int (xs (i + 1).toNatClampNeg), .ref 19]) zd0_1703 rfl rfl rfl ?_
  refine z_e1 (pc1 := 1705) (L1 := [some (.ref 0), some (.ref 4), some (.ref 19), some (.int i)]) (S1 := [.int (i + 4), .ref 0, .int (xs (i + 3).toNatClampNeg), .int (xs (i + 2).toNatClampNeg), .int (xs (i + 1).toNatClampNeg), .ref 19]) zd0_1704 rfl rfl rfl ?_
  refine z_eial (y := xs (i + 4).toNatClampNeg) zd0_1705 h1 (z_ixk (k := 4) (kk := 4) (by decide) (by decide) (by decide) hi0 hi1 hL) rfl ?_
  refine z_e1 (pc1 := 1707) (L1 := [some (.ref 0), some (.ref 4), some (.ref 19), some (.int i)]) (S1 := [.ref 0, .int (xs (i + 4).toNatClampNeg), .int (xs (i + 3).toNatClampNeg), .int (xs (i + 2).toNatClampNeg), .int (xs (i + 1).toNatClampNeg), .ref 19]) zd0_1706 rfl rfl rfl ?_
  refine z_e1 (pc1 := 1708) (L1 := [some (.ref 0), some (.ref 4), some (.ref 19), some (.int i)]) (S1 := [.int i, .ref 0, .int (xs (i + 4).toNatClampNeg), .int (xs (i + 3).toNatClampNeg), .int (xs (i + 2).toNatClampNeg), .int (xs (i + 1).toNatClampNeg), .ref 19]) zd0_1707 rfl rfl rfl ?_
  refine z_e1 (pc1 := 1709) (L1 := [some (.ref 0), some (.ref 4), some (.ref 19), some (.int i)]) (S1 := [.int 5, .int i, .ref 0, .int (xs (i + 4).toNatClampNeg), .int (xs (i + 3).toNatClampNeg), .int (xs (i + 2).toNatClampNeg), .int (xs (i + 1).toNatClampNeg), .ref 19]) zd0_1708 rfl rfl rfl ?_
  refine z_e1 (pc1 := 1710) (L1 := [some (.ref 0), some (.ref 4), some (.ref 19), some (.int i)]) (S1 := [.int (i + 5), .ref 0, .int (xs (i + 4).toNatClampNeg), .int (xs (i + 3).toNatClampNeg), .int (xs (i + 2).toNatClampNeg), .int (xs (i + 1).toNatClampNeg), .ref 19]) zd0_1709 rfl rfl rfl ?_
  refine z_eial (y := xs (i + 5).toNatClampNeg) zd0_1710 h1 (z_ixk (k := 5) (kk := 5) (by decide) (by decide) (by decide) hi0 hi1 hL) rfl ?_
  refine z_ecV (vs := [.ref 19, .int (xs (i + 1).toNatClampNeg), .int (xs (i + 2).toNatClampNeg), .int (xs (i + 3).toNatClampNeg), .int (xs (i + 4).toNatClampNeg), .int (xs (i + 5).toNatClampNeg)]) (r := []) (L2 := z_ent [.ref 19, .int (xs (i + 1).toNatClampNeg), .int (xs (i + 2).toNatClampNeg), .int (xs (i + 3).toNatClampNeg), .int (xs (i + 4).toNatClampNeg), .int (xs (i + 5).toNatClampNeg)] (z_ml 290)) zd0_1711 zcV0_166 (Or.inl rfl) rfl h19 (by decide) rfl rfl rfl (Nat.le_of_ble_eq_true rfl) rfl (Nat.le_of_ble_eq_true rfl) rfl ?_
  refine H1.mono (fun v M2 hv => ?_)
  obtain ⟨⟨x2, rfl⟩, hx, H2⟩ := hv
  show z_ev _ 0 1714 [some (.ref 0), some (.ref 4), some (.ref 19), some (.int i)] [.int x2] _ _
  refine z_e1 (pc1 := 1715) (L1 := [some (.ref 0), some (.ref 4), some (.ref 19), some (.int i)]) (S1 := []) zd0_1714 rfl rfl rfl ?_
  refine z_e1 (pc1 := 1774) (L1 := [some (.ref 0), some (.ref 4), some (.ref 19), some (.int i)]) (S1 := []) zd0_1715 rfl rfl rfl ?_
  exact H2
theorem z_D36 {M : zH} {xs : Nat → Int32} {L : Nat} {i : Int32} {fs : List Value} {K : Option Value → zH → Prop} (hi0 : 0 ≤ i.toInt) (hi1 : i.toInt + 6 ≤ L) (hL : L ≤ 3072) (h0 : M[0]? = some (.inl (0, L, .inl xs))) (h4 : M[4]? = some (.inr (0, fs)))
    (H : z_ev 2046 183 0 (z_ent [.ref 4, .int (xs (i + 1).toNatClampNeg), .int (xs (i + 2).toNatClampNeg)] (z_ml 183)) [] M fun v M1 => (∃ x1, v = some (.int x1)) ∧ M1[0]? = some (.inl (0, L, .inl xs)) ∧ (∃ fs1, M1[19]? = some (.inr (12, fs1))) ∧
      z_ev 2046 291 0 (z_ent [.ref 19, .int (xs (i + 1).toNatClampNeg), .int (xs (i + 2).toNatClampNeg)] (z_ml 291)) [] M1 fun v2 M2 => (∃ x2, v2 = some (.int x2)) ∧ True ∧ z_ev 2047 0 1774 [some (.ref 0), some (.ref 4), some (.ref 19), some (.int i)] [] M2 K) : z_ev 2047 0 1718 [some (.ref 0), some (.ref 4), some (.ref 19), some (.int i)] [] M K := by
  refine z_e1 (pc1 := 1719) (L1 := [some (.ref 0), some (.ref 4), some (.ref 19), some (.int i)]) (S1 := [.ref 4]) zd0_1718 rfl rfl rfl ?_
  refine z_e1 (pc1 := 1720) (L1 := [some (.ref 0), some (.ref 4), some (.ref 19), some (.int i)]) (S1 := [.ref 0, .ref 4]) zd0_1719 rfl rfl rfl ?_
  refine z_e1 (pc1 := 1721) (L1 := [some (.ref 0), some (.ref 4), some (.ref 19), some (.int i)]) (S1 := [.int i, .ref 0, .ref 4]) zd0_1720 rfl rfl rfl ?_
  refine z_e1 (pc1 := 1722) (L1 := [some (.ref 0), some (.ref 4), some (.ref 19), some (.int i)]) (S1 := [.int 1, .int i, .ref 0, .ref 4]) zd0_1721 rfl rfl rfl ?_
  refine z_e1 (pc1 := 1723) (L1 := [some (.ref 0), some (.ref 4), some (.ref 19), some (.int i)]) (S1 := [.int (i + 1), .ref 0, .ref 4]) zd0_1722 rfl rfl rfl ?_
  refine z_eial (y := xs (i + 1).toNatClampNeg) zd0_1723 h0 (z_ixk (k := 1) (kk := 1) (by decide) (by decide) (by decide) hi0 hi1 hL) rfl ?_
  refine z_e1 (pc1 := 1725) (L1 := [some (.ref 0), some (.ref 4), some (.ref 19), some (.int i)]) (S1 := [.ref 0, .int (xs (i + 1).toNatClampNeg), .ref 4]) zd0_1724 rfl rfl rfl ?_
  refine z_e1 (pc1 := 1726) (L1 := [some (.ref 0), some (.ref 4), some (.ref 19), some (.int i)]) (S1 := [.int i, .ref 0, .int (xs (i + 1).toNatClampNeg), .ref 4]) zd0_1725 rfl rfl rfl ?_
  refine z_e1 (pc1 := 1727) (L1 := [some (.ref 0), some (.ref 4), some (.ref 19), some (.int i)]) (S1 := [.int 2, .int i, .ref 0, .int (xs (i + 1).toNatClampNeg), .ref 4]) zd0_1726 rfl rfl rfl ?_
  refine z_e1 (pc1 := 1728) (L1 := [some (.ref 0), some (.ref 4), some (.ref 19), some (.int i)]) (S1 := [.int (i + 2), .ref 0, .int (xs (i + 1).toNatClampNeg), .ref 4]) zd0_1727 rfl rfl rfl ?_
  refine z_eial (y := xs (i + 2).toNatClampNeg) zd0_1728 h0 (z_ixk (k := 2) (kk := 2) (by decide) (by decide) (by decide) hi0 hi1 hL) rfl ?_
  refine z_ecV (vs := [.ref 4, .int (xs (i + 1).toNatClampNeg), .int (xs (i + 2).toNatClampNeg)]) (r := []) (L2 := z_ent [.ref 4, .int (xs (i + 1).toNatClampNeg), .int (xs (i + 2).toNatClampNeg)] (z_ml 183)) zd0_1729 zcV0_167 (Or.inl rfl) rfl h4 (by decide) rfl rfl rfl (Nat.le_of_ble_eq_true rfl) rfl (Nat.le_of_ble_eq_true rfl) rfl ?_
  refine H.mono (fun v M1 hv => ?_)
  obtain ⟨⟨x1, rfl⟩, h1, ⟨fs1, h19⟩, H1⟩ := hv
  show z_ev _ 0 1732 [some (.ref 0), some (.ref 4), some (.ref 19), some (.int i)] [.int x1] _ _
  refine z_e1 (pc1 := 1733) (L1 := [some (.ref 0), some (.ref 4), some (.ref 19), some (.int i)]) (S1 := []) zd0_1732 rfl rfl rfl ?_
  refine z_e1 (pc1 := 1734) (L1 := [some (.ref 0), some (.ref 4), some (.ref 19), some (.int i)]) (S1 := [.ref 19]) zd0_1733 rfl rfl rfl ?_
  refine z_e1 (pc1 := 1735) (L1 := [some (.ref 0), some (.ref 4), some (.ref 19), some (.int i)]) (S1 := [.ref 0, .ref 19]) zd0_1734 rfl rfl rfl ?_
  refine z_e1 (pc1 := 1736) (L1 := [some (.ref 0), some (.ref 4), some (.ref 19), some (.int i)]) (S1 := [.int i, .ref 0, .ref 19]) zd0_1735 rfl rfl rfl ?_
  refine z_e1 (pc1 := 1737) (L1 := [some (.ref 0), some (.ref 4), some (.ref 19), some (.int i)]) (S1 := [.int 1, .int i, .ref 0, .ref 19]) zd0_1736 rfl rfl rfl ?_
  refine z_e1 (pc1 := 1738) (L1 := [some (.ref 0), some (.ref 4), some (.ref 19), some (.int i)]) (S1 := [.int (i + 1), .ref 0, .ref 19]) zd0_1737 rfl rfl rfl ?_
  refine z_eial (y := xs (i + 1).toNatClampNeg) zd0_1738 h1 (z_ixk (k := 1) (kk := 1) (by decide) (by decide) (by decide) hi0 hi1 hL) rfl ?_
  refine z_e1 (pc1 := 1740) (L1 := [some (.ref 0), some (.ref 4), some (.ref 19), some (.int i)]) (S1 := [.ref 0, .int (xs (i + 1).toNatClampNeg), .ref 19]) zd0_1739 rfl rfl rfl ?_
  refine z_e1 (pc1 := 1741) (L1 := [some (.ref 0), some (.ref 4), some (.ref 19), some (.int i)]) (S1 := [.int i, .ref 0, .int (xs (i + 1).toNatClampNeg), .ref 19]) zd0_1740 rfl rfl rfl ?_
  refine z_e1 (pc1 := 1742) (L1 := [some (.ref 0), some (.ref 4), some (.ref 19), some (.int i)]) (S1 := [.int 2, .int i, .ref 0, .int (xs (i + 1).toNatClampNeg), .ref 19]) zd0_1741 rfl rfl rfl ?_
  refine z_e1 (pc1 := 1743) (L1 := [some (.ref 0), some (.ref 4), some (.ref 19), some (.int i)]) (S1 := [.int (i + 2), .ref 0, .int (xs (i + 1).toNatClampNeg), .ref 19]) zd0_1742 rfl rfl rfl ?_
  refine z_eial (y := xs (i + 2).toNatClampNeg) zd0_1743 h1 (z_ixk (k := 2) (kk := 2) (by decide) (by decide) (by decide) hi0 hi1 hL) rfl ?_
  refine z_ecV (vs := [.ref 19, .int (xs (i + 1).toNatClampNeg), .int (xs (i + 2).toNatClampNeg)]) (r := []) (L2 := z_ent [.ref 19, .int (xs (i + 1).toNatClampNeg), .int (xs (i + 2).toNatClampNeg)] (z_ml 291)) zd0_1744 zcV0_170 (Or.inl rfl) rfl h19 (by decide) rfl rfl rfl (Nat.le_of_ble_eq_true rfl) rfl (Nat.le_of_ble_eq_true rfl) rfl ?_
  refine H1.mono (fun v M2 hv => ?_)
  obtain ⟨⟨x2, rfl⟩, hx, H2⟩ := hv
  show z_ev _ 0 1747 [some (.ref 0), some (.ref 4), some (.ref 19), some (.int i)] [.int x2] _ _
  refine z_e1 (pc1 := 1748) (L1 := [some (.ref 0), some (.ref 4), some (.ref 19), some (.int i)]) (S1 := []) zd0_1747 rfl rfl rfl ?_
  refine z_e1 (pc1 := 1774) (L1 := [some (.ref 0), some (.ref 4), some (.ref 19), some (.int i)]) (S1 := []) zd0_1748 rfl rfl rfl ?_
  exact H2
theorem z_D37 {M : zH} {xs : Nat → Int32} {L : Nat} {i : Int32} {fs : List Value} {K : Option Value → zH → Prop} (hi0 : 0 ≤ i.toInt) (hi1 : i.toInt + 6 ≤ L) (hL : L ≤ 3072) (h0 : M[0]? = some (.inl (0, L, .inl xs))) (h4 : M[4]? = some (.inr (0, fs)))
    (H : z_ev 2046 185 0 (z_ent [.ref 4, .int (xs (i + 1).toNatClampNeg)] (z_ml 185)) [] M fun v M1 => (∃ x1, v = some (.int x1)) ∧ M1[0]? = some (.inl (0, L, .inl xs)) ∧ (∃ fs1, M1[19]? = some (.inr (12, fs1))) ∧
      z_ev 2046 292 0 (z_ent [.ref 19, .int (xs (i + 1).toNatClampNeg)] (z_ml 292)) [] M1 fun v2 M2 => (∃ x2, v2 = some (.int x2)) ∧ True ∧ z_ev 2047 0 1774 [some (.ref 0), some (.ref 4), some (.ref 19), some (.int i)] [] M2 K) : z_ev 2047 0 1751 [some (.ref 0), some (.ref 4), some (.ref 19), some (.int i)] [] M K := by
  refine z_e1 (pc1 := 1752) (L1 := [some (.ref 0), some (.ref 4), some (.ref 19), some (.int i)]) (S1 := [.ref 4]) zd0_1751 rfl rfl rfl ?_
  refine z_e1 (pc1 := 1753) (L1 := [some (.ref 0), some (.ref 4), some (.ref 19), some (.int i)]) (S1 := [.ref 0, .ref 4]) zd0_1752 rfl rfl rfl ?_
  refine z_e1 (pc1 := 1754) (L1 := [some (.ref 0), some (.ref 4), some (.ref 19), some (.int i)]) (S1 := [.int i, .ref 0, .ref 4]) zd0_1753 rfl rfl rfl ?_
  refine z_e1 (pc1 := 1755) (L1 := [some (.ref 0), some (.ref 4), some (.ref 19), some (.int i)]) (S1 := [.int 1, .int i, .ref 0, .ref 4]) zd0_1754 rfl rfl rfl ?_
  refine z_e1 (pc1 := 1756) (L1 := [some (.ref 0), some (.ref 4), some (.ref 19), some (.int i)]) (S1 := [.int (i + 1), .ref 0, .ref 4]) zd0_1755 rfl rfl rfl ?_
  refine z_eial (y := xs (i + 1).toNatClampNeg) zd0_1756 h0 (z_ixk (k := 1) (kk := 1) (by decide) (by decide) (by decide) hi0 hi1 hL) rfl ?_
  refine z_ecV (vs := [.ref 4, .int (xs (i + 1).toNatClampNeg)]) (r := []) (L2 := z_ent [.ref 4, .int (xs (i + 1).toNatClampNeg)] (z_ml 185)) zd0_1757 zcV0_171 (Or.inl rfl) rfl h4 (by decide) rfl rfl rfl (Nat.le_of_ble_eq_true rfl) rfl (Nat.le_of_ble_eq_true rfl) rfl ?_
  refine H.mono (fun v M1 hv => ?_)
  obtain ⟨⟨x1, rfl⟩, h1, ⟨fs1, h19⟩, H1⟩ := hv
  show z_ev _ 0 1760 [some (.ref 0), some (.ref 4), some (.ref 19), some (.int i)] [.int x1] _ _
  refine z_e1 (pc1 := 1761) (L1 := [some (.ref 0), some (.ref 4), some (.ref 19), some (.int i)]) (S1 := []) zd0_1760 rfl rfl rfl ?_
  refine z_e1 (pc1 := 1762) (L1 := [some (.ref 0), some (.ref 4), some (.ref 19), some (.int i)]) (S1 := [.ref 19]) zd0_1761 rfl rfl rfl ?_
  refine z_e1 (pc1 := 1763) (L1 := [some (.ref 0), some (.ref 4), some (.ref 19), some (.int i)]) (S1 := [.ref 0, .ref 19]) zd0_1762 rfl rfl rfl ?_
  refine z_e1 (pc1 := 1764) (L1 := [some (.ref 0), some (.ref 4), some (.ref 19), some (.int i)]) (S1 := [.int i, .ref 0, .ref 19]) zd0_1763 rfl rfl rfl ?_
  refine z_e1 (pc1 := 1765) (L1 := [some (.ref 0), some (.ref 4), some (.ref 19), some (.int i)]) (S1 := [.int 1, .int i, .ref 0, .ref 19]) zd0_1764 rfl rfl rfl ?_
  refine z_e1 (pc1 := 1766) (L1 := [some (.ref 0), some (.ref 4), some (.ref 19), some (.int i)]) (S1 := [.int (i + 1), .ref 0, .ref 19]) zd0_1765 rfl rfl rfl ?_
  refine z_eial (y := xs (i + 1).toNatClampNeg) zd0_1766 h1 (z_ixk (k := 1) (kk := 1) (by decide) (by decide) (by decide) hi0 hi1 hL) rfl ?_
  refine z_ecV (vs := [.ref 19, .int (xs (i + 1).toNatClampNeg)]) (r := []) (L2 := z_ent [.ref 19, .int (xs (i + 1).toNatClampNeg)] (z_ml 292)) zd0_1767 zcV0_174 (Or.inl rfl) rfl h19 (by decide) rfl rfl rfl (Nat.le_of_ble_eq_true rfl) rfl (Nat.le_of_ble_eq_true rfl) rfl ?_
  refine H1.mono (fun v M2 hv => ?_)
  obtain ⟨⟨x2, rfl⟩, hx, H2⟩ := hv
  show z_ev _ 0 1770 [some (.ref 0), some (.ref 4), some (.ref 19), some (.int i)] [.int x2] _ _
  refine z_e1 (pc1 := 1771) (L1 := [some (.ref 0), some (.ref 4), some (.ref 19), some (.int i)]) (S1 := []) zd0_1770 rfl rfl rfl ?_
  refine z_e1 (pc1 := 1774) (L1 := [some (.ref 0), some (.ref 4), some (.ref 19), some (.int i)]) (S1 := []) zd0_1771 rfl rfl rfl ?_
  exact H2
