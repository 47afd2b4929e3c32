/-! way: a body is made -/
theorem zzi76 : ((z_name 76).name == "<init>") = true := by decide +kernel
theorem zzn4 : "DoorBench$Way" = z_cn 4 := by decide +kernel
theorem zzcI4_3 : (z_find z_cI 4 3).map (·.1) = some (7, 0, []) := by decide +kernel
theorem zzf4_22 : z_fF 4 22 = some ((1, [4, 5, 6, 7, 8, 9, 10, 11]), "DoorBench$Way") := by decide +kernel
theorem zzf4_25 : z_fF 4 25 = some ((2, [4, 5, 6, 7, 8, 9, 10, 11]), "DoorBench$Way") := by decide +kernel
theorem zzr76 : z_rt 76 = none := by decide +kernel
theorem zzcI5_1 : (z_find z_cI 5 1).map (·.1) = some (3, 5, [(0, 76)]) := by decide +kernel
theorem zzm76 : z_ml 76 = 6 := by decide +kernel
theorem zzr75 : z_rt 75 = none := by decide +kernel
theorem zzcI6_1 : (z_find z_cI 6 1).map (·.1) = some (3, 3, [(0, 75)]) := by decide +kernel
theorem zzm75 : z_ml 75 = 4 := by decide +kernel
theorem zzr77 : z_rt 77 = none := by decide +kernel
theorem zzcI7_1 : (z_find z_cI 7 1).map (·.1) = some (3, 3, [(0, 75)]) := by decide +kernel
theorem zzr78 : z_rt 78 = none := by decide +kernel
theorem zzcI8_1 : (z_find z_cI 8 1).map (·.1) = some (3, 5, [(0, 76)]) := by decide +kernel
theorem zzr79 : z_rt 79 = none := by decide +kernel
theorem zzcI9_1 : (z_find z_cI 9 1).map (·.1) = some (3, 5, [(0, 76)]) := by decide +kernel
theorem zzr80 : z_rt 80 = none := by decide +kernel
theorem zzcI10_1 : (z_find z_cI 10 1).map (·.1) = some (3, 5, [(0, 80)]) := by decide +kernel
theorem zzm80 : z_ml 80 = 6 := by decide +kernel
theorem zzr81 : z_rt 81 = none := by decide +kernel
theorem zzcI11_3 : (z_find z_cI 11 3).map (·.1) = some (3, 5, [(0, 76)]) := by decide +kernel
theorem zzr82 : z_rt 82 = none := by decide +kernel
theorem zzw0_195 : (z_find z_nw 0 195).map (·.1) = some 5 := by decide +kernel
theorem zzcI0_197 : (z_find z_cI 0 197).map (·.1) = some (3, 3, [(0, 75)]) := by decide +kernel
theorem zzr74 : z_rt 74 = some (.object "DoorBench$Way") := by decide +kernel
theorem zzw0_200 : (z_find z_nw 0 200).map (·.1) = some 6 := by decide +kernel
theorem zzcI0_202 : (z_find z_cI 0 202).map (·.1) = some (3, 3, [(0, 77)]) := by decide +kernel
theorem zzm77 : z_ml 77 = 4 := by decide +kernel
theorem zzw0_203 : (z_find z_nw 0 203).map (·.1) = some 7 := by decide +kernel
theorem zzcI0_205 : (z_find z_cI 0 205).map (·.1) = some (3, 3, [(0, 78)]) := by decide +kernel
theorem zzm78 : z_ml 78 = 4 := by decide +kernel
theorem zzw0_206 : (z_find z_nw 0 206).map (·.1) = some 8 := by decide +kernel
theorem zzcI0_208 : (z_find z_cI 0 208).map (·.1) = some (3, 3, [(0, 79)]) := by decide +kernel
theorem zzm79 : z_ml 79 = 4 := by decide +kernel
theorem zzw0_209 : (z_find z_nw 0 209).map (·.1) = some 9 := by decide +kernel
theorem zzcI0_211 : (z_find z_cI 0 211).map (·.1) = some (3, 5, [(0, 80)]) := by decide +kernel
theorem zzw0_214 : (z_find z_nw 0 214).map (·.1) = some 10 := by decide +kernel
theorem zzcI0_216 : (z_find z_cI 0 216).map (·.1) = some (3, 5, [(0, 81)]) := by decide +kernel
theorem zzm81 : z_ml 81 = 6 := by decide +kernel
theorem zzw0_217 : (z_find z_nw 0 217).map (·.1) = some 11 := by decide +kernel
theorem zzcI0_219 : (z_find z_cI 0 219).map (·.1) = some (3, 5, [(0, 82)]) := by decide +kernel
theorem zzm82 : z_ml 82 = 6 := by decide +kernel
theorem zzw0_25 : (z_find z_nw 0 25).map (·.1) = some 4 := by decide +kernel
theorem zzcI0_220 : (z_find z_cI 0 220).map (·.1) = some (3, 5, [(0, 76)]) := by decide +kernel
theorem zw0_5 : ((z_cl[0]?).map fun w => (w.2.1 5).2.2.2) = some false := by decide +kernel
theorem zzm235 : z_ml 235 = 4 := by decide +kernel
theorem zzm73 : z_ml 73 = 6 := by decide +kernel
theorem zA76 {d : Nat} {N ci : Nat} {k p s c : Int32} {M : zH} {K : Option Value → zH → Prop} (h4 : 4 ≤ N) (hc : 4 ≤ ci ∧ ci ≤ 11) (hM : M[N]? = some (.inr (ci, [.int 0, .int 0, .int 0, .int 0, .null]))) (kk : K none (M.set N (.inr (ci, [.int k, .int s, .int c, .int p, .ref 13])))) : z_ev d 76 0 [some (.ref N), some (.int k), some (.int p), some (.ref 13), some (.int s), some (.int c)] [] M K := by
  have hm : ci ∈ [4, 5, 6, 7, 8, 9, 10, 11] := z_w8 (fun c => c ∈ [4, 5, 6, 7, 8, 9, 10, 11]) (by decide) (by decide) (by decide) (by decide) (by decide) (by decide) (by decide) (by decide) hc
  have hi : ((z_name 76).name == "<init>") = true ∧ "DoorBench$Way" = z_cn (z_oc 76) := ⟨zzi76, by rw [zo76]; exact zzn4⟩
  refine z_xP zt76 0 1 [some (.ref N), some (.int k), some (.int p), some (.ref 13), some (.int s), some (.int c)] [.ref N] rfl rfl ?_
  refine z_eoi (z_dc1 zt76 (n := 1) rfl) (by rw [zo76]; exact zzcI4_3) (by decide) ?_
  refine z_xP zt76 2 6 [some (.ref N), some (.int k), some (.int p), some (.ref 13), some (.int s), some (.int c)] [.int k, .ref N] rfl rfl ?_
  refine z_epf (fs := [.int 0, .int 0, .int 0, .int 0, .null]) (z_dc1 zt76 (n := 3) rfl) (by rw [zo76]; exact zzf4_9) (hM) hm h4 (z_w8 (fun x => z_fit (z_fty x 0) (.int k) = true) rfl rfl rfl rfl rfl rfl rfl rfl hc) (Nat.le_of_ble_eq_true rfl) (Or.inr hi) ?_
  show z_ev d 76 9 [some (.ref N), some (.int k), some (.int p), some (.ref 13), some (.int s), some (.int c)] [] (M.set N (.inr (ci, [.int k, .int 0, .int 0, .int 0, .null]))) K
  refine z_xP zt76 4 11 [some (.ref N), some (.int k), some (.int p), some (.ref 13), some (.int s), some (.int c)] [.int p, .ref N] rfl rfl ?_
  refine z_epf (fs := [.int k, .int 0, .int 0, .int 0, .null]) (z_dc1 zt76 (n := 5) rfl) (by rw [zo76]; exact zzf4_15) (z_gs1 hM) hm h4 (z_w8 (fun x => z_fit (z_fty x 3) (.int p) = true) rfl rfl rfl rfl rfl rfl rfl rfl hc) (Nat.le_of_ble_eq_true rfl) (Or.inr hi) ?_
  rw [List.set_set]
  show z_ev d 76 14 [some (.ref N), some (.int k), some (.int p), some (.ref 13), some (.int s), some (.int c)] [] (M.set N (.inr (ci, [.int k, .int 0, .int 0, .int p, .null]))) K
  refine z_xP zt76 6 16 [some (.ref N), some (.int k), some (.int p), some (.ref 13), some (.int s), some (.int c)] [.ref 13, .ref N] rfl rfl ?_
  refine z_epf (fs := [.int k, .int 0, .int 0, .int p, .null]) (z_dc1 zt76 (n := 7) rfl) (by rw [zo76]; exact zzf4_18) (z_gs1 hM) hm h4 (z_w8 (fun x => z_fit (z_fty x 4) (.ref 13) = true) rfl rfl rfl rfl rfl rfl rfl rfl hc) (Nat.le_of_ble_eq_true rfl) (Or.inr hi) ?_
  rw [List.set_set]
  show z_ev d 76 19 [some (.ref N), some (.int k), some (.int p), some (.ref 13), some (.int s), some (.int c)] [] (M.set N (.inr (ci, [.int k, .int 0, .int 0, .int p, .ref 13]))) K
  refine z_xP zt76 8 22 [some (.ref N), some (.int k), some (.int p), some (.ref 13), some (.int s), some (.int c)] [.int s, .ref N] rfl rfl ?_
  refine z_epf (fs := [.int k, .int 0, .int 0, .int p, .ref 13]) (z_dc1 zt76 (n := 9) rfl) (by rw [zo76]; exact zzf4_22) (z_gs1 hM) hm h4 (z_w8 (fun x => z_fit (z_fty x 1) (.int s) = true) rfl rfl rfl rfl rfl rfl rfl rfl hc) (Nat.le_of_ble_eq_true rfl) (Or.inr hi) ?_
  rw [List.set_set]
  show z_ev d 76 25 [some (.ref N), some (.int k), some (.int p), some (.ref 13), some (.int s), some (.int c)] [] (M.set N (.inr (ci, [.int k, .int s, .int 0, .int p, .ref 13]))) K
  refine z_xP zt76 10 28 [some (.ref N), some (.int k), some (.int p), some (.ref 13), some (.int s), some (.int c)] [.int c, .ref N] rfl rfl ?_
  refine z_epf (fs := [.int k, .int s, .int 0, .int p, .ref 13]) (z_dc1 zt76 (n := 11) rfl) (by rw [zo76]; exact zzf4_25) (z_gs1 hM) hm h4 (z_w8 (fun x => z_fit (z_fty x 2) (.int c) = true) rfl rfl rfl rfl rfl rfl rfl rfl hc) (Nat.le_of_ble_eq_true rfl) (Or.inr hi) ?_
  rw [List.set_set]
  show z_ev d 76 31 [some (.ref N), some (.int k), some (.int p), some (.ref 13), some (.int s), some (.int c)] [] (M.set N (.inr (ci, [.int k, .int s, .int c, .int p, .ref 13]))) K
  exact z_erv (z_dc1 zt76 (n := 12) rfl) zzr76 kk
theorem zA75 {d : Nat} {N ci : Nat} {k p : Int32} {M : zH} {K : Option Value → zH → Prop} (h4 : 4 ≤ N) (hc : 4 ≤ ci ∧ ci ≤ 11) (hM : M[N]? = some (.inr (ci, [.int 0, .int 0, .int 0, .int 0, .null]))) (kk : K none (M.set N (.inr (ci, [.int k, .int 0, .int 0, .int p, .ref 13])))) : z_ev (d + 1) 75 0 [some (.ref N), some (.int k), some (.int p), some (.ref 13)] [] M K := by
  refine z_xP zt75 0 6 [some (.ref N), some (.int k), some (.int p), some (.ref 13)] [.int 0, .int 0, .ref 13, .int p, .int k, .ref N] rfl rfl ?_
  refine z_ecI (vs := [.ref N, .int k, .int p, .ref 13, .int 0, .int 0]) (r := []) (L2 := [some (.ref N), some (.int k), some (.int p), some (.ref 13), some (.int 0), some (.int 0)]) (z_dc1 zt75 (n := 1) rfl) (by rw [zo75]; exact zzcI5_1) (by decide) rfl hM h4 rfl rfl (Nat.le_of_ble_eq_true rfl) zzm76 (Nat.le_of_ble_eq_true rfl) rfl ?_
  refine zA76 h4 hc hM ?_
  show z_ev (d + 1) 75 9 [some (.ref N), some (.int k), some (.int p), some (.ref 13)] [] _ K
  exact z_erv (z_dc1 zt75 (n := 2) rfl) zzr75 kk
theorem zA77 {d : Nat} {N ci : Nat} {k p : Int32} {M : zH} {K : Option Value → zH → Prop} (h4 : 4 ≤ N) (hc : 4 ≤ ci ∧ ci ≤ 11) (hM : M[N]? = some (.inr (ci, [.int 0, .int 0, .int 0, .int 0, .null]))) (kk : K none (M.set N (.inr (ci, [.int k, .int 0, .int 0, .int p, .ref 13])))) : z_ev (d + 2) 77 0 [some (.ref N), some (.int k), some (.int p), some (.ref 13)] [] M K := by
  refine z_xP zt77 0 4 [some (.ref N), some (.int k), some (.int p), some (.ref 13)] [.ref 13, .int p, .int k, .ref N] rfl rfl ?_
  refine z_ecI (vs := [.ref N, .int k, .int p, .ref 13]) (r := []) (L2 := [some (.ref N), some (.int k), some (.int p), some (.ref 13)]) (z_dc1 zt77 (n := 1) rfl) (by rw [zo77]; exact zzcI6_1) (by decide) rfl hM h4 rfl rfl (Nat.le_of_ble_eq_true rfl) zzm75 (Nat.le_of_ble_eq_true rfl) rfl ?_
  refine zA75 h4 hc hM ?_
  show z_ev (d + 2) 77 7 [some (.ref N), some (.int k), some (.int p), some (.ref 13)] [] _ K
  exact z_erv (z_dc1 zt77 (n := 2) rfl) zzr77 kk
theorem zA78 {d : Nat} {N ci : Nat} {k p : Int32} {M : zH} {K : Option Value → zH → Prop} (h4 : 4 ≤ N) (hc : 4 ≤ ci ∧ ci ≤ 11) (hM : M[N]? = some (.inr (ci, [.int 0, .int 0, .int 0, .int 0, .null]))) (kk : K none (M.set N (.inr (ci, [.int k, .int 0, .int 0, .int p, .ref 13])))) : z_ev (d + 2) 78 0 [some (.ref N), some (.int k), some (.int p), some (.ref 13)] [] M K := by
  refine z_xP zt78 0 4 [some (.ref N), some (.int k), some (.int p), some (.ref 13)] [.ref 13, .int p, .int k, .ref N] rfl rfl ?_
  refine z_ecI (vs := [.ref N, .int k, .int p, .ref 13]) (r := []) (L2 := [some (.ref N), some (.int k), some (.int p), some (.ref 13)]) (z_dc1 zt78 (n := 1) rfl) (by rw [zo78]; exact zzcI7_1) (by decide) rfl hM h4 rfl rfl (Nat.le_of_ble_eq_true rfl) zzm75 (Nat.le_of_ble_eq_true rfl) rfl ?_
  refine zA75 h4 hc hM ?_
  show z_ev (d + 2) 78 7 [some (.ref N), some (.int k), some (.int p), some (.ref 13)] [] _ K
  exact z_erv (z_dc1 zt78 (n := 2) rfl) zzr78 kk
theorem zA79 {d : Nat} {N ci : Nat} {k p : Int32} {M : zH} {K : Option Value → zH → Prop} (h4 : 4 ≤ N) (hc : 4 ≤ ci ∧ ci ≤ 11) (hM : M[N]? = some (.inr (ci, [.int 0, .int 0, .int 0, .int 0, .null]))) (kk : K none (M.set N (.inr (ci, [.int k, .int 0, .int 0, .int p, .ref 13])))) : z_ev (d + 1) 79 0 [some (.ref N), some (.int k), some (.int p), some (.ref 13)] [] M K := by
  refine z_xP zt79 0 6 [some (.ref N), some (.int k), some (.int p), some (.ref 13)] [.int 0, .int 0, .ref 13, .int p, .int k, .ref N] rfl rfl ?_
  refine z_ecI (vs := [.ref N, .int k, .int p, .ref 13, .int 0, .int 0]) (r := []) (L2 := [some (.ref N), some (.int k), some (.int p), some (.ref 13), some (.int 0), some (.int 0)]) (z_dc1 zt79 (n := 1) rfl) (by rw [zo79]; exact zzcI8_1) (by decide) rfl hM h4 rfl rfl (Nat.le_of_ble_eq_true rfl) zzm76 (Nat.le_of_ble_eq_true rfl) rfl ?_
  refine zA76 h4 hc hM ?_
  show z_ev (d + 1) 79 9 [some (.ref N), some (.int k), some (.int p), some (.ref 13)] [] _ K
  exact z_erv (z_dc1 zt79 (n := 2) rfl) zzr79 kk
theorem zA80 {d : Nat} {N ci : Nat} {k p s c : Int32} {M : zH} {K : Option Value → zH → Prop} (h4 : 4 ≤ N) (hc : 4 ≤ ci ∧ ci ≤ 11) (hM : M[N]? = some (.inr (ci, [.int 0, .int 0, .int 0, .int 0, .null]))) (kk : K none (M.set N (.inr (ci, [.int k, .int s, .int c, .int p, .ref 13])))) : z_ev (d + 1) 80 0 [some (.ref N), some (.int k), some (.int p), some (.ref 13), some (.int s), some (.int c)] [] M K := by
  refine z_xP zt80 0 8 [some (.ref N), some (.int k), some (.int p), some (.ref 13), some (.int s), some (.int c)] [.int c, .int s, .ref 13, .int p, .int k, .ref N] rfl rfl ?_
  refine z_ecI (vs := [.ref N, .int k, .int p, .ref 13, .int s, .int c]) (r := []) (L2 := [some (.ref N), some (.int k), some (.int p), some (.ref 13), some (.int s), some (.int c)]) (z_dc1 zt80 (n := 1) rfl) (by rw [zo80]; exact zzcI9_1) (by decide) rfl hM h4 rfl rfl (Nat.le_of_ble_eq_true rfl) zzm76 (Nat.le_of_ble_eq_true rfl) rfl ?_
  refine zA76 h4 hc hM ?_
  show z_ev (d + 1) 80 11 [some (.ref N), some (.int k), some (.int p), some (.ref 13), some (.int s), some (.int c)] [] _ K
  exact z_erv (z_dc1 zt80 (n := 2) rfl) zzr80 kk
theorem zA81 {d : Nat} {N ci : Nat} {k p s c : Int32} {M : zH} {K : Option Value → zH → Prop} (h4 : 4 ≤ N) (hc : 4 ≤ ci ∧ ci ≤ 11) (hM : M[N]? = some (.inr (ci, [.int 0, .int 0, .int 0, .int 0, .null]))) (kk : K none (M.set N (.inr (ci, [.int k, .int s, .int c, .int p, .ref 13])))) : z_ev (d + 2) 81 0 [some (.ref N), some (.int k), some (.int p), some (.ref 13), some (.int s), some (.int c)] [] M K := by
  refine z_xP zt81 0 8 [some (.ref N), some (.int k), some (.int p), some (.ref 13), some (.int s), some (.int c)] [.int c, .int s, .ref 13, .int p, .int k, .ref N] rfl rfl ?_
  refine z_ecI (vs := [.ref N, .int k, .int p, .ref 13, .int s, .int c]) (r := []) (L2 := [some (.ref N), some (.int k), some (.int p), some (.ref 13), some (.int s), some (.int c)]) (z_dc1 zt81 (n := 1) rfl) (by rw [zo81]; exact zzcI10_1) (by decide) rfl hM h4 rfl rfl (Nat.le_of_ble_eq_true rfl) zzm80 (Nat.le_of_ble_eq_true rfl) rfl ?_
  refine zA80 h4 hc hM ?_
  show z_ev (d + 2) 81 11 [some (.ref N), some (.int k), some (.int p), some (.ref 13), some (.int s), some (.int c)] [] _ K
  exact z_erv (z_dc1 zt81 (n := 2) rfl) zzr81 kk
theorem zA82 {d : Nat} {N ci : Nat} {k p s c : Int32} {M : zH} {K : Option Value → zH → Prop} (h4 : 4 ≤ N) (hc : 4 ≤ ci ∧ ci ≤ 11) (hM : M[N]? = some (.inr (ci, [.int 0, .int 0, .int 0, .int 0, .null]))) (kk : K none (M.set N (.inr (ci, [.int k, .int s, .int c, .int p, .ref 13])))) : z_ev (d + 1) 82 0 [some (.ref N), some (.int k), some (.int p), some (.ref 13), some (.int s), some (.int c)] [] M K := by
  refine z_xP zt82 0 8 [some (.ref N), some (.int k), some (.int p), some (.ref 13), some (.int s), some (.int c)] [.int c, .int s, .ref 13, .int p, .int k, .ref N] rfl rfl ?_
  refine z_ecI (vs := [.ref N, .int k, .int p, .ref 13, .int s, .int c]) (r := []) (L2 := [some (.ref N), some (.int k), some (.int p), some (.ref 13), some (.int s), some (.int c)]) (z_dc1 zt82 (n := 1) rfl) (by rw [zo82]; exact zzcI11_3) (by decide) rfl hM h4 rfl rfl (Nat.le_of_ble_eq_true rfl) zzm76 (Nat.le_of_ble_eq_true rfl) rfl ?_
  refine zA76 h4 hc hM ?_
  show z_ev (d + 1) 82 11 [some (.ref N), some (.int k), some (.int p), some (.ref 13), some (.int s), some (.int c)] [] _ K
  exact z_erv (z_dc1 zt82 (n := 2) rfl) zzr82 kk
theorem z_seta {M : zH} {b x : zE} : (M ++ [b]).set M.length x = M ++ [x] := by
  rw [List.set_append_right _ _ (Nat.le_refl _), Nat.sub_self]; rfl
theorem z_asy {T : List zK} {rs : List Nat} {M0 M : zH} {f : Nat → Option Nat} {x : Int32} {b : Nat} (hX : z_X T rs M0 M) (ha : T[12]? = some (.inr (12, 3, 20, 0, 0))) (e1 : M[12]? = some (.inl (3, 20, .inr (.inr f)))) (e3 : ∀ i b, i < 20 → f i = some b → z_elk T 3 0 b) (hy : z_elk T 3 0 b) (hr : 12 ∈ rs) : z_X T rs M0 (M.set 12 (.inl (3, 20, .inr (.inr (z_updR f x.toNatClampNeg (some b)))))) ∧ z_ke T [12] M (M.set 12 (.inl (3, 20, .inr (.inr (z_updR f x.toNatClampNeg (some b)))))) := by
  have hkp := z_kpA (z := (3, 20, .inr (.inr (z_updR f x.toNatClampNeg (some b))))) ha e1
  refine ⟨⟨hX.1.set ha (Or.inr ⟨rfl, by decide, rfl, fun i b2 hi hb => ?_⟩), hX.2.trans hkp fun z hz => by rw [List.mem_singleton.mp hz]; exact hr⟩, hkp⟩
  by_cases hi3 : i = x.toNatClampNeg
  · have : some b = some b2 := by rw [← hb]; simp [z_updR, hi3]
    cases this
    exact hy
  · exact e3 i b2 hi (by rw [← hb]; simp [z_updR, hi3])
theorem z_xasB {d j pc b : Nat} {segs : List (List (Nat × Instr × Nat))} {L : zL} {r : zS} {M M0 : zH} {T : List zK} {rs : List Nat} {K : Option Value → zH → Prop} {x : Int32} {c : Nat} (ht : z_dcs j segs = true) (n : Nat) (hk : segs[n]? = some [(pc, .aastore, 1)]) (hX : z_X T rs M0 M) (ha : T[12]? = some (.inr (12, 3, 20, 0, 0))) (h0 : 0 ≤ x.toInt) (h1 : x.toInt < (20 : Nat)) (hb : T[b]? = some (.inl (c, 0, 0, 0, 0))) (hc : 4 ≤ c ∧ c ≤ 11) (hr : 12 ∈ rs) (kk : ∀ M1, z_X T rs M0 M1 → z_ke T [12] M M1 → z_O M1 12 = z_updR (z_O M 12) x.toNatClampNeg (some b) → z_ev d j (pc + 1) L r M1 K) : z_ev d j pc L (.ref b :: .int x :: .ref 12 :: r) M K := by
  obtain ⟨f, e1, e2, e3⟩ := hX.1.aa ha (by decide) (by decide)
  obtain ⟨fs, h3, h4, h5, h6, h7⟩ := hX.1.ob hb
  obtain ⟨g1, g2⟩ := z_asy (x := x) (b := b) hX ha e1 e3 ⟨c, hc.1, hc.2, hb⟩ hr
  refine z_eas (z_dc1 ht hk) e1 h3 (z_inr h0 h1) (by decide) h7 (Or.inr ⟨rfl, hc⟩) (kk _ g1 g2 ?_)
  rw [e2]
  unfold z_O
  rw [z_gs1 e1]
def zw73 : List Nat := []
theorem zC73 {T : List zK} {d : Nat} {K : Option Value → zH → Prop} {p1 : Int32} {p2 : Int32} {p3 : Int32} {zp0 : Int32} {M0 : zH} (hW : z_W M0 T) (hz0 : z_F M0 4 5 = some (.int zp0)) (bz0 : 0 ≤ zp0.toInt ∧ zp0.toInt ≤ 20) (hT : ∀ (s4 s5 : Int32), 0 ≤ p1.toInt ∧ p1.toInt ≤ 7 ∧ zp0.toInt < 20 → ((s4.toInt = 1 ∧ (p1.toInt = 5 ∨ p1.toInt = 6) ∧ 0 ≤ p2.toInt ∧ p2.toInt ≤ 9) ∨ (s4.toInt = 0 ∧ p1.toInt ≠ 5 ∧ p1.toInt ≠ 6)) → ((s5.toInt = 1 ∧ (p1.toInt = 6 ∨ p1.toInt = 7) ∧ 0 ≤ p3.toInt ∧ p3.toInt ≤ 8) ∨ (s5.toInt = 0 ∧ p1.toInt ≠ 6 ∧ p1.toInt ≠ 7)) → z_ev (d + 4) 73 95 [some (.ref 4), some (.int p1), some (.int p2), some (.int p3), some (.int s4), some (.int s5)] [] M0 K) (kk : ∀ (x : Int32) (M1 : zH), z_X T zw73 M0 M1 → (-3) ≤ x.toInt → x.toInt ≤ (-1) → ∀ (w0 : Int32), z_F M1 4 5 = some (.int w0) → 0 ≤ w0.toInt ∧ w0.toInt ≤ 20 → ((p1.toInt < 0 ∨ 7 < p1.toInt ∨ ((p1.toInt = 5 ∨ p1.toInt = 6) ∧ (p2.toInt < 0 ∨ 9 < p2.toInt)) ∨ ((p1.toInt = 6 ∨ p1.toInt = 7) ∧ (p3.toInt < 0 ∨ 8 < p3.toInt))) → x.toInt = -1 ∧ w0.toInt = zp0.toInt) → (¬ (p1.toInt < 0 ∨ 7 < p1.toInt ∨ ((p1.toInt = 5 ∨ p1.toInt = 6) ∧ (p2.toInt < 0 ∨ 9 < p2.toInt)) ∨ ((p1.toInt = 6 ∨ p1.toInt = 7) ∧ (p3.toInt < 0 ∨ 8 < p3.toInt))) → 20 ≤ zp0.toInt → x.toInt = -3 ∧ w0.toInt = zp0.toInt) → ((p1.toInt < 0 ∨ 7 < p1.toInt ∨ ((p1.toInt = 5 ∨ p1.toInt = 6) ∧ (p2.toInt < 0 ∨ 9 < p2.toInt)) ∨ ((p1.toInt = 6 ∨ p1.toInt = 7) ∧ (p3.toInt < 0 ∨ 8 < p3.toInt))) ∨ 20 ≤ zp0.toInt) → K (some (.int x)) M1) : z_ev (d + 4) 73 0 [some (.ref 4), some (.int p1), some (.int p2), some (.int p3), none, none] [] M0 K := by
  have X : z_X T zw73 M0 M0 := .refl hW
  refine z_xP zt73 0 1 [some (.ref 4), some (.int p1), some (.int p2), some (.int p3), none, none] [.int p1] rfl rfl ?_
  refine z_xZ zt73 1 rfl rfl (fun (h1 : p1.toInt < 0) => ?_) (fun (h1 : 0 ≤ p1.toInt) => ?_)
  · skip
    refine z_xP zt73 6 13 [some (.ref 4), some (.int p1), some (.int p2), some (.int p3), none, none] [.int (-1)] rfl rfl ?_
    have f4 : T[4]? = some (.inl (0, 0, 0, 0, 0)) := X.1.k rfl (by decide)
    have qm1 : (((-1) : Int32)).toInt = (-1) := rfl
    exact z_xri zt73 7 rfl zzr73 (kk (-1) M0 X (by omega) (by omega) zp0 hz0 ⟨by omega, by omega⟩ (by omega) (by omega) (by omega))
  refine z_xP zt73 2 5 [some (.ref 4), some (.int p1), some (.int p2), some (.int p3), none, none] [.int p1] rfl rfl ?_
  refine z_xgs zt73 3 rfl zo73 zg0_185 ?_
  have f3 : T[3]? = some (.inr (3, 0, 8, (-1), 5)) := X.1.k rfl (by decide)
  refine z_xln zt73 4 rfl X f3 (by decide) (by decide) (fun (x2 : Int32) (h3 : x2.toInt = ((8 : Nat) : Int)) => ?_)
  have h4 := z_b32 p1
  refine z_xJ zt73 5 rfl rfl (fun (h5 : p1.toInt < x2.toInt) => ?_) (fun (h5 : x2.toInt ≤ p1.toInt) => ?_)
  · skip
    refine z_xP zt73 8 16 [some (.ref 4), some (.int p1), some (.int p2), some (.int p3), none, none] [.int 5, .int p1] rfl rfl ?_
    refine z_xJ zt73 9 rfl rfl (fun (h6 : p1.toInt = 5) => ?_) (fun (h6 : p1.toInt ≠ 5) => ?_)
    · skip
      refine z_xP zt73 12 30 [some (.ref 4), some (.int p1), some (.int p2), some (.int p3), none, none] [.int 1] rfl rfl ?_
      refine z_xP zt73 14 35 [some (.ref 4), some (.int p1), some (.int p2), some (.int p3), some (.int 1), none] [.int 6, .int p1] rfl rfl ?_
      refine z_xJ zt73 15 rfl rfl (fun (h7 : p1.toInt = 6) => absurd h7 (by omega)) (fun (h7 : p1.toInt ≠ 6) => ?_)
      refine z_xP zt73 16 41 [some (.ref 4), some (.int p1), some (.int p2), some (.int p3), some (.int 1), none] [.int 7, .int p1] rfl rfl ?_
      refine z_xJ zt73 17 rfl rfl (fun (h8 : p1.toInt ≠ 7) => ?_) (fun (h8 : p1.toInt = 7) => absurd h8 (by omega))
      refine z_xP zt73 19 49 [some (.ref 4), some (.int p1), some (.int p2), some (.int p3), some (.int 1), none] [.int 0] rfl rfl ?_
      refine z_xP zt73 20 53 [some (.ref 4), some (.int p1), some (.int p2), some (.int p3), some (.int 1), some (.int 0)] [.int 1] rfl rfl ?_
      refine z_xZ zt73 21 rfl rfl (fun (h9 : (1 : Int) = 0) => absurd h9 (by omega)) (fun (h9 : (1 : Int) ≠ 0) => ?_)
      refine z_xP zt73 22 57 [some (.ref 4), some (.int p1), some (.int p2), some (.int p3), some (.int 1), some (.int 0)] [.int p2] rfl rfl ?_
      refine z_xZ zt73 23 rfl rfl (fun (h10 : p2.toInt < 0) => ?_) (fun (h10 : 0 ≤ p2.toInt) => ?_)
      · skip
        refine z_xP zt73 32 82 [some (.ref 4), some (.int p1), some (.int p2), some (.int p3), some (.int 1), some (.int 0)] [.int (-1)] rfl rfl ?_
        have f4 : T[4]? = some (.inl (0, 0, 0, 0, 0)) := X.1.k rfl (by decide)
        have qm1 : (((-1) : Int32)).toInt = (-1) := rfl
        exact z_xri zt73 33 rfl zzr73 (kk (-1) M0 X (by omega) (by omega) zp0 hz0 ⟨by omega, by omega⟩ (by omega) (by omega) (by omega))
      refine z_xP zt73 24 63 [some (.ref 4), some (.int p1), some (.int p2), some (.int p3), some (.int 1), some (.int 0)] [.int 9, .int p2] rfl rfl ?_
      refine z_xJ zt73 25 rfl rfl (fun (h11 : 9 < p2.toInt) => ?_) (fun (h11 : p2.toInt ≤ 9) => ?_)
      · skip
        refine z_xP zt73 32 82 [some (.ref 4), some (.int p1), some (.int p2), some (.int p3), some (.int 1), some (.int 0)] [.int (-1)] rfl rfl ?_
        have f4 : T[4]? = some (.inl (0, 0, 0, 0, 0)) := X.1.k rfl (by decide)
        have qm1 : (((-1) : Int32)).toInt = (-1) := rfl
        exact z_xri zt73 33 rfl zzr73 (kk (-1) M0 X (by omega) (by omega) zp0 hz0 ⟨by omega, by omega⟩ (by omega) (by omega) (by omega))
      refine z_xP zt73 26 68 [some (.ref 4), some (.int p1), some (.int p2), some (.int p3), some (.int 1), some (.int 0)] [.int 0] rfl rfl ?_
      refine z_xZ zt73 27 rfl rfl (fun (h12 : (0 : Int) = 0) => ?_) (fun (h12 : (0 : Int) ≠ 0) => absurd h12 (by omega))
      refine z_xP zt73 34 84 [some (.ref 4), some (.int p1), some (.int p2), some (.int p3), some (.int 1), some (.int 0)] [.ref 4] rfl rfl ?_
      have f4 : T[4]? = some (.inl (0, 0, 0, 0, 0)) := X.1.k rfl (by decide)
      refine z_xgv zt73 35 rfl zo73 zzf0_188 X f4 (by decide) hz0 ?_
      refine z_xP zt73 36 89 [some (.ref 4), some (.int p1), some (.int p2), some (.int p3), some (.int 1), some (.int 0)] [.int 20, .int zp0] rfl rfl ?_
      refine z_xJ zt73 37 rfl rfl (fun (h13 : zp0.toInt < 20) => ?_) (fun (h13 : 20 ≤ zp0.toInt) => ?_)
      · skip
        have qz1 : ((1 : Int32)).toInt = 1 := rfl
        have qz0 : ((0 : Int32)).toInt = 0 := rfl
        exact hT 1 0 (by omega) (by omega) (by omega)
      refine z_xP zt73 38 94 [some (.ref 4), some (.int p1), some (.int p2), some (.int p3), some (.int 1), some (.int 0)] [.int (-3)] rfl rfl ?_
      have qm3 : (((-3) : Int32)).toInt = (-3) := rfl
      exact z_xri zt73 39 rfl zzr73 (kk (-3) M0 X (by omega) (by omega) zp0 hz0 ⟨by omega, by omega⟩ (by omega) (by omega) (by omega))
    refine z_xP zt73 10 22 [some (.ref 4), some (.int p1), some (.int p2), some (.int p3), none, none] [.int 6, .int p1] rfl rfl ?_
    refine z_xJ zt73 11 rfl rfl (fun (h14 : p1.toInt ≠ 6) => ?_) (fun (h14 : p1.toInt = 6) => ?_)
    · skip
      refine z_xP zt73 13 30 [some (.ref 4), some (.int p1), some (.int p2), some (.int p3), none, none] [.int 0] rfl rfl ?_
      refine z_xP zt73 14 35 [some (.ref 4), some (.int p1), some (.int p2), some (.int p3), some (.int 0), none] [.int 6, .int p1] rfl rfl ?_
      refine z_xJ zt73 15 rfl rfl (fun (h15 : p1.toInt = 6) => ?_) (fun (h15 : p1.toInt ≠ 6) => ?_)
      · skip
        refine z_xP zt73 18 49 [some (.ref 4), some (.int p1), some (.int p2), some (.int p3), some (.int 0), none] [.int 1] rfl rfl ?_
        refine z_xP zt73 20 53 [some (.ref 4), some (.int p1), some (.int p2), some (.int p3), some (.int 0), some (.int 1)] [.int 0] rfl rfl ?_
        refine z_xZ zt73 21 rfl rfl (fun (h16 : (0 : Int) = 0) => ?_) (fun (h16 : (0 : Int) ≠ 0) => absurd h16 (by omega))
        refine z_xP zt73 26 68 [some (.ref 4), some (.int p1), some (.int p2), some (.int p3), some (.int 0), some (.int 1)] [.int 1] rfl rfl ?_
        refine z_xZ zt73 27 rfl rfl (fun (h17 : (1 : Int) = 0) => absurd h17 (by omega)) (fun (h17 : (1 : Int) ≠ 0) => ?_)
        refine z_xP zt73 28 72 [some (.ref 4), some (.int p1), some (.int p2), some (.int p3), some (.int 0), some (.int 1)] [.int p3] rfl rfl ?_
        refine z_xZ zt73 29 rfl rfl (fun (h18 : p3.toInt < 0) => ?_) (fun (h18 : 0 ≤ p3.toInt) => ?_)
        · skip
          refine z_xP zt73 32 82 [some (.ref 4), some (.int p1), some (.int p2), some (.int p3), some (.int 0), some (.int 1)] [.int (-1)] rfl rfl ?_
          have f4 : T[4]? = some (.inl (0, 0, 0, 0, 0)) := X.1.k rfl (by decide)
          have qm1 : (((-1) : Int32)).toInt = (-1) := rfl
          exact z_xri zt73 33 rfl zzr73 (kk (-1) M0 X (by omega) (by omega) zp0 hz0 ⟨by omega, by omega⟩ (by omega) (by omega) (by omega))
        refine z_xP zt73 30 78 [some (.ref 4), some (.int p1), some (.int p2), some (.int p3), some (.int 0), some (.int 1)] [.int 9, .int p3] rfl rfl ?_
        refine z_xJ zt73 31 rfl rfl (fun (h19 : p3.toInt < 9) => ?_) (fun (h19 : 9 ≤ p3.toInt) => ?_)
        · skip
          refine z_xP zt73 34 84 [some (.ref 4), some (.int p1), some (.int p2), some (.int p3), some (.int 0), some (.int 1)] [.ref 4] rfl rfl ?_
          have f4 : T[4]? = some (.inl (0, 0, 0, 0, 0)) := X.1.k rfl (by decide)
          refine z_xgv zt73 35 rfl zo73 zzf0_188 X f4 (by decide) hz0 ?_
          refine z_xP zt73 36 89 [some (.ref 4), some (.int p1), some (.int p2), some (.int p3), some (.int 0), some (.int 1)] [.int 20, .int zp0] rfl rfl ?_
          refine z_xJ zt73 37 rfl rfl (fun (h20 : zp0.toInt < 20) => ?_) (fun (h20 : 20 ≤ zp0.toInt) => ?_)
          · skip
            have qz0 : ((0 : Int32)).toInt = 0 := rfl
            have qz1 : ((1 : Int32)).toInt = 1 := rfl
            exact hT 0 1 (by omega) (by omega) (by omega)
          refine z_xP zt73 38 94 [some (.ref 4), some (.int p1), some (.int p2), some (.int p3), some (.int 0), some (.int 1)] [.int (-3)] rfl rfl ?_
          have qm3 : (((-3) : Int32)).toInt = (-3) := rfl
          exact z_xri zt73 39 rfl zzr73 (kk (-3) M0 X (by omega) (by omega) zp0 hz0 ⟨by omega, by omega⟩ (by omega) (by omega) (by omega))
        refine z_xP zt73 32 82 [some (.ref 4), some (.int p1), some (.int p2), some (.int p3), some (.int 0), some (.int 1)] [.int (-1)] rfl rfl ?_
        have f4 : T[4]? = some (.inl (0, 0, 0, 0, 0)) := X.1.k rfl (by decide)
        have qm1 : (((-1) : Int32)).toInt = (-1) := rfl
        exact z_xri zt73 33 rfl zzr73 (kk (-1) M0 X (by omega) (by omega) zp0 hz0 ⟨by omega, by omega⟩ (by omega) (by omega) (by omega))
      refine z_xP zt73 16 41 [some (.ref 4), some (.int p1), some (.int p2), some (.int p3), some (.int 0), none] [.int 7, .int p1] rfl rfl ?_
      refine z_xJ zt73 17 rfl rfl (fun (h21 : p1.toInt ≠ 7) => ?_) (fun (h21 : p1.toInt = 7) => ?_)
      · skip
        refine z_xP zt73 19 49 [some (.ref 4), some (.int p1), some (.int p2), some (.int p3), some (.int 0), none] [.int 0] rfl rfl ?_
        refine z_xP zt73 20 53 [some (.ref 4), some (.int p1), some (.int p2), some (.int p3), some (.int 0), some (.int 0)] [.int 0] rfl rfl ?_
        refine z_xZ zt73 21 rfl rfl (fun (h22 : (0 : Int) = 0) => ?_) (fun (h22 : (0 : Int) ≠ 0) => absurd h22 (by omega))
        refine z_xP zt73 26 68 [some (.ref 4), some (.int p1), some (.int p2), some (.int p3), some (.int 0), some (.int 0)] [.int 0] rfl rfl ?_
        refine z_xZ zt73 27 rfl rfl (fun (h23 : (0 : Int) = 0) => ?_) (fun (h23 : (0 : Int) ≠ 0) => absurd h23 (by omega))
        refine z_xP zt73 34 84 [some (.ref 4), some (.int p1), some (.int p2), some (.int p3), some (.int 0), some (.int 0)] [.ref 4] rfl rfl ?_
        have f4 : T[4]? = some (.inl (0, 0, 0, 0, 0)) := X.1.k rfl (by decide)
        refine z_xgv zt73 35 rfl zo73 zzf0_188 X f4 (by decide) hz0 ?_
        refine z_xP zt73 36 89 [some (.ref 4), some (.int p1), some (.int p2), some (.int p3), some (.int 0), some (.int 0)] [.int 20, .int zp0] rfl rfl ?_
        refine z_xJ zt73 37 rfl rfl (fun (h24 : zp0.toInt < 20) => ?_) (fun (h24 : 20 ≤ zp0.toInt) => ?_)
        · skip
          have qz0 : ((0 : Int32)).toInt = 0 := rfl
          have qz0 : ((0 : Int32)).toInt = 0 := rfl
          exact hT 0 0 (by omega) (by omega) (by omega)
        refine z_xP zt73 38 94 [some (.ref 4), some (.int p1), some (.int p2), some (.int p3), some (.int 0), some (.int 0)] [.int (-3)] rfl rfl ?_
        have qm3 : (((-3) : Int32)).toInt = (-3) := rfl
        exact z_xri zt73 39 rfl zzr73 (kk (-3) M0 X (by omega) (by omega) zp0 hz0 ⟨by omega, by omega⟩ (by omega) (by omega) (by omega))
      refine z_xP zt73 18 49 [some (.ref 4), some (.int p1), some (.int p2), some (.int p3), some (.int 0), none] [.int 1] rfl rfl ?_
      refine z_xP zt73 20 53 [some (.ref 4), some (.int p1), some (.int p2), some (.int p3), some (.int 0), some (.int 1)] [.int 0] rfl rfl ?_
      refine z_xZ zt73 21 rfl rfl (fun (h25 : (0 : Int) = 0) => ?_) (fun (h25 : (0 : Int) ≠ 0) => absurd h25 (by omega))
      refine z_xP zt73 26 68 [some (.ref 4), some (.int p1), some (.int p2), some (.int p3), some (.int 0), some (.int 1)] [.int 1] rfl rfl ?_
      refine z_xZ zt73 27 rfl rfl (fun (h26 : (1 : Int) = 0) => absurd h26 (by omega)) (fun (h26 : (1 : Int) ≠ 0) => ?_)
      refine z_xP zt73 28 72 [some (.ref 4), some (.int p1), some (.int p2), some (.int p3), some (.int 0), some (.int 1)] [.int p3] rfl rfl ?_
      refine z_xZ zt73 29 rfl rfl (fun (h27 : p3.toInt < 0) => ?_) (fun (h27 : 0 ≤ p3.toInt) => ?_)
      · skip
        refine z_xP zt73 32 82 [some (.ref 4), some (.int p1), some (.int p2), some (.int p3), some (.int 0), some (.int 1)] [.int (-1)] rfl rfl ?_
        have f4 : T[4]? = some (.inl (0, 0, 0, 0, 0)) := X.1.k rfl (by decide)
        have qm1 : (((-1) : Int32)).toInt = (-1) := rfl
        exact z_xri zt73 33 rfl zzr73 (kk (-1) M0 X (by omega) (by omega) zp0 hz0 ⟨by omega, by omega⟩ (by omega) (by omega) (by omega))
      refine z_xP zt73 30 78 [some (.ref 4), some (.int p1), some (.int p2), some (.int p3), some (.int 0), some (.int 1)] [.int 9, .int p3] rfl rfl ?_
      refine z_xJ zt73 31 rfl rfl (fun (h28 : p3.toInt < 9) => ?_) (fun (h28 : 9 ≤ p3.toInt) => ?_)
      · skip
        refine z_xP zt73 34 84 [some (.ref 4), some (.int p1), some (.int p2), some (.int p3), some (.int 0), some (.int 1)] [.ref 4] rfl rfl ?_
        have f4 : T[4]? = some (.inl (0, 0, 0, 0, 0)) := X.1.k rfl (by decide)
        refine z_xgv zt73 35 rfl zo73 zzf0_188 X f4 (by decide) hz0 ?_
        refine z_xP zt73 36 89 [some (.ref 4), some (.int p1), some (.int p2), some (.int p3), some (.int 0), some (.int 1)] [.int 20, .int zp0] rfl rfl ?_
        refine z_xJ zt73 37 rfl rfl (fun (h29 : zp0.toInt < 20) => ?_) (fun (h29 : 20 ≤ zp0.toInt) => ?_)
        · skip
          have qz0 : ((0 : Int32)).toInt = 0 := rfl
          have qz1 : ((1 : Int32)).toInt = 1 := rfl
          exact hT 0 1 (by omega) (by omega) (by omega)
        refine z_xP zt73 38 94 [some (.ref 4), some (.int p1), some (.int p2), some (.int p3), some (.int 0), some (.int 1)] [.int (-3)] rfl rfl ?_
        have qm3 : (((-3) : Int32)).toInt = (-3) := rfl
        exact z_xri zt73 39 rfl zzr73 (kk (-3) M0 X (by omega) (by omega) zp0 hz0 ⟨by omega, by omega⟩ (by omega) (by omega) (by omega))
      refine z_xP zt73 32 82 [some (.ref 4), some (.int p1), some (.int p2), some (.int p3), some (.int 0), some (.int 1)] [.int (-1)] rfl rfl ?_
      have f4 : T[4]? = some (.inl (0, 0, 0, 0, 0)) := X.1.k rfl (by decide)
      have qm1 : (((-1) : Int32)).toInt = (-1) := rfl
      exact z_xri zt73 33 rfl zzr73 (kk (-1) M0 X (by omega) (by omega) zp0 hz0 ⟨by omega, by omega⟩ (by omega) (by omega) (by omega))
    refine z_xP zt73 12 30 [some (.ref 4), some (.int p1), some (.int p2), some (.int p3), none, none] [.int 1] rfl rfl ?_
    refine z_xP zt73 14 35 [some (.ref 4), some (.int p1), some (.int p2), some (.int p3), some (.int 1), none] [.int 6, .int p1] rfl rfl ?_
    refine z_xJ zt73 15 rfl rfl (fun (h30 : p1.toInt = 6) => ?_) (fun (h30 : p1.toInt ≠ 6) => absurd h30 (by omega))
    refine z_xP zt73 18 49 [some (.ref 4), some (.int p1), some (.int p2), some (.int p3), some (.int 1), none] [.int 1] rfl rfl ?_
    refine z_xP zt73 20 53 [some (.ref 4), some (.int p1), some (.int p2), some (.int p3), some (.int 1), some (.int 1)] [.int 1] rfl rfl ?_
    refine z_xZ zt73 21 rfl rfl (fun (h31 : (1 : Int) = 0) => absurd h31 (by omega)) (fun (h31 : (1 : Int) ≠ 0) => ?_)
    refine z_xP zt73 22 57 [some (.ref 4), some (.int p1), some (.int p2), some (.int p3), some (.int 1), some (.int 1)] [.int p2] rfl rfl ?_
    refine z_xZ zt73 23 rfl rfl (fun (h32 : p2.toInt < 0) => ?_) (fun (h32 : 0 ≤ p2.toInt) => ?_)
    · skip
      refine z_xP zt73 32 82 [some (.ref 4), some (.int p1), some (.int p2), some (.int p3), some (.int 1), some (.int 1)] [.int (-1)] rfl rfl ?_
      have f4 : T[4]? = some (.inl (0, 0, 0, 0, 0)) := X.1.k rfl (by decide)
      have qm1 : (((-1) : Int32)).toInt = (-1) := rfl
      exact z_xri zt73 33 rfl zzr73 (kk (-1) M0 X (by omega) (by omega) zp0 hz0 ⟨by omega, by omega⟩ (by omega) (by omega) (by omega))
    refine z_xP zt73 24 63 [some (.ref 4), some (.int p1), some (.int p2), some (.int p3), some (.int 1), some (.int 1)] [.int 9, .int p2] rfl rfl ?_
    refine z_xJ zt73 25 rfl rfl (fun (h33 : 9 < p2.toInt) => ?_) (fun (h33 : p2.toInt ≤ 9) => ?_)
    · skip
      refine z_xP zt73 32 82 [some (.ref 4), some (.int p1), some (.int p2), some (.int p3), some (.int 1), some (.int 1)] [.int (-1)] rfl rfl ?_
      have f4 : T[4]? = some (.inl (0, 0, 0, 0, 0)) := X.1.k rfl (by decide)
      have qm1 : (((-1) : Int32)).toInt = (-1) := rfl
      exact z_xri zt73 33 rfl zzr73 (kk (-1) M0 X (by omega) (by omega) zp0 hz0 ⟨by omega, by omega⟩ (by omega) (by omega) (by omega))
    refine z_xP zt73 26 68 [some (.ref 4), some (.int p1), some (.int p2), some (.int p3), some (.int 1), some (.int 1)] [.int 1] rfl rfl ?_
    refine z_xZ zt73 27 rfl rfl (fun (h34 : (1 : Int) = 0) => absurd h34 (by omega)) (fun (h34 : (1 : Int) ≠ 0) => ?_)
    refine z_xP zt73 28 72 [some (.ref 4), some (.int p1), some (.int p2), some (.int p3), some (.int 1), some (.int 1)] [.int p3] rfl rfl ?_
    refine z_xZ zt73 29 rfl rfl (fun (h35 : p3.toInt < 0) => ?_) (fun (h35 : 0 ≤ p3.toInt) => ?_)
    · skip
      refine z_xP zt73 32 82 [some (.ref 4), some (.int p1), some (.int p2), some (.int p3), some (.int 1), some (.int 1)] [.int (-1)] rfl rfl ?_
      have f4 : T[4]? = some (.inl (0, 0, 0, 0, 0)) := X.1.k rfl (by decide)
      have qm1 : (((-1) : Int32)).toInt = (-1) := rfl
      exact z_xri zt73 33 rfl zzr73 (kk (-1) M0 X (by omega) (by omega) zp0 hz0 ⟨by omega, by omega⟩ (by omega) (by omega) (by omega))
    refine z_xP zt73 30 78 [some (.ref 4), some (.int p1), some (.int p2), some (.int p3), some (.int 1), some (.int 1)] [.int 9, .int p3] rfl rfl ?_
    refine z_xJ zt73 31 rfl rfl (fun (h36 : p3.toInt < 9) => ?_) (fun (h36 : 9 ≤ p3.toInt) => ?_)
    · skip
      refine z_xP zt73 34 84 [some (.ref 4), some (.int p1), some (.int p2), some (.int p3), some (.int 1), some (.int 1)] [.ref 4] rfl rfl ?_
      have f4 : T[4]? = some (.inl (0, 0, 0, 0, 0)) := X.1.k rfl (by decide)
      refine z_xgv zt73 35 rfl zo73 zzf0_188 X f4 (by decide) hz0 ?_
      refine z_xP zt73 36 89 [some (.ref 4), some (.int p1), some (.int p2), some (.int p3), some (.int 1), some (.int 1)] [.int 20, .int zp0] rfl rfl ?_
      refine z_xJ zt73 37 rfl rfl (fun (h37 : zp0.toInt < 20) => ?_) (fun (h37 : 20 ≤ zp0.toInt) => ?_)
      · skip
        have qz1 : ((1 : Int32)).toInt = 1 := rfl
        have qz1 : ((1 : Int32)).toInt = 1 := rfl
        exact hT 1 1 (by omega) (by omega) (by omega)
      refine z_xP zt73 38 94 [some (.ref 4), some (.int p1), some (.int p2), some (.int p3), some (.int 1), some (.int 1)] [.int (-3)] rfl rfl ?_
      have qm3 : (((-3) : Int32)).toInt = (-3) := rfl
      exact z_xri zt73 39 rfl zzr73 (kk (-3) M0 X (by omega) (by omega) zp0 hz0 ⟨by omega, by omega⟩ (by omega) (by omega) (by omega))
    refine z_xP zt73 32 82 [some (.ref 4), some (.int p1), some (.int p2), some (.int p3), some (.int 1), some (.int 1)] [.int (-1)] rfl rfl ?_
    have f4 : T[4]? = some (.inl (0, 0, 0, 0, 0)) := X.1.k rfl (by decide)
    have qm1 : (((-1) : Int32)).toInt = (-1) := rfl
    exact z_xri zt73 33 rfl zzr73 (kk (-1) M0 X (by omega) (by omega) zp0 hz0 ⟨by omega, by omega⟩ (by omega) (by omega) (by omega))
  refine z_xP zt73 6 13 [some (.ref 4), some (.int p1), some (.int p2), some (.int p3), none, none] [.int (-1)] rfl rfl ?_
  have f4 : T[4]? = some (.inl (0, 0, 0, 0, 0)) := X.1.k rfl (by decide)
  have qm1 : (((-1) : Int32)).toInt = (-1) := rfl
  exact z_xri zt73 7 rfl zzr73 (kk (-1) M0 X (by omega) (by omega) zp0 hz0 ⟨by omega, by omega⟩ (by omega) (by omega) (by omega))
