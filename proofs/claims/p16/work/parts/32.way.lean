/-! way: a body is made -/
theorem zzi76 : ((z_name 76).name == "<init>") = true := by decide +kernel
theorem zzn4 : "DoorBench$Way" = z_cn 4 := by decide +kernel
theorem zzcI4_3 : (z_find z_cI 4 3).map (·.1) = some (7, 0, []) := by decide +kernel
theorem zzf4_22 : z_fF 4 22 = some ((1, [4, 5, 6, 7, 8, 9, 10, 11]), "DoorBench$Way") := by decide +kernel
theorem zzf4_25 : z_fF 4 25 = some ((2, [4, 5, 6, 7, 8, 9, 10, 11]), "DoorBench$Way") := by decide +kernel
theorem zzr76 : z_rt 76 = none := by decide +kernel
theorem zzcI5_1 : (z_find z_cI 5 1).map (·.1) = some (3, 5, [(0, 76)]) := by decide +kernel
theorem zzm76 : z_ml 76 = 6 := by decide +kernel
theorem zzr75 : z_rt 75 = none := by decide +kernel
theorem zzcI6_1 : (z_find z_cI 6 1).map (·.1) = some (3, 3, [(0, 75)]) := by decide +kernel
theorem zzm75 : z_ml 75 = 4 := by decide +kernel
theorem zzr77 : z_rt 77 = none := by decide +kernel
theorem zzcI7_1 : (z_find z_cI 7 1).map (·.1) = some (3, 3, [(0, 75)]) := by decide +kernel
theorem zzr78 : z_rt 78 = none := by decide +kernel
theorem zzcI8_1 : (z_find z_cI 8 1).map (·.1) = some (3, 5, [(0, 76)]) := by decide +kernel
theorem zzr79 : z_rt 79 = none := by decide +kernel
theorem zzcI9_1 : (z_find z_cI 9 1).map (·.1) = some (3, 5, [(0, 76)]) := by decide +kernel
theorem zzr80 : z_rt 80 = none := by decide +kernel
theorem zzcI10_1 : (z_find z_cI 10 1).map (·.1) = some (3, 5, [(0, 80)]) := by decide +kernel
theorem zzm80 : z_ml 80 = 6 := by decide +kernel
theorem zzr81 : z_rt 81 = none := by decide +kernel
theorem zzcI11_3 : (z_find z_cI 11 3).map (·.1) = some (3, 5, [(0, 76)]) := by decide +kernel
theorem zzr82 : z_rt 82 = none := by decide +kernel
theorem zzw0_195 : (z_find z_nw 0 195).map (·.1) = some 5 := by decide +kernel
theorem zzcI0_197 : (z_find z_cI 0 197).map (·.1) = some (3, 3, [(0, 75)]) := by decide +kernel
theorem zzr74 : z_rt 74 = some (.object "DoorBench$Way") := by decide +kernel
theorem zzw0_200 : (z_find z_nw 0 200).map (·.1) = some 6 := by decide +kernel
theorem zzcI0_202 : (z_find z_cI 0 202).map (·.1) = some (3, 3, [(0, 77)]) := by decide +kernel
theorem zzm77 : z_ml 77 = 4 := by decide +kernel
theorem zzw0_203 : (z_find z_nw 0 203).map (·.1) = some 7 := by decide +kernel
theorem zzcI0_205 : (z_find z_cI 0 205).map (·.1) = some (3, 3, [(0, 78)]) := by decide +kernel
theorem zzm78 : z_ml 78 = 4 := by decide +kernel
theorem zzw0_206 : (z_find z_nw 0 206).map (·.1) = some 8 := by decide +kernel
theorem zzcI0_208 : (z_find z_cI 0 208).map (·.1) = some (3, 3, [(0, 79)]) := by decide +kernel
theorem zzm79 : z_ml 79 = 4 := by decide +kernel
theorem zzw0_209 : (z_find z_nw 0 209).map (·.1) = some 9 := by decide +kernel
theorem zzcI0_211 : (z_find z_cI 0 211).map (·.1) = some (3, 5, [(0, 80)]) := by decide +kernel
theorem zzw0_214 : (z_find z_nw 0 214).map (·.1) = some 10 := by decide +kernel
theorem zzcI0_216 : (z_find z_cI 0 216).map (·.1) = some (3, 5, [(0, 81)]) := by decide +kernel
theorem zzm81 : z_ml 81 = 6 := by decide +kernel
theorem zzw0_217 : (z_find z_nw 0 217).map (·.1) = some 11 := by decide +kernel
theorem zzcI0_219 : (z_find z_cI 0 219).map (·.1) = some (3, 5, [(0, 82)]) := by decide +kernel
theorem zzm82 : z_ml 82 = 6 := by decide +kernel
theorem zzw0_25 : (z_find z_nw 0 25).map (·.1) = some 4 := by decide +kernel
theorem zzcI0_220 : (z_find z_cI 0 220).map (·.1) = some (3, 5, [(0, 76)]) := by decide +kernel
theorem zw0_5 : ((z_cl[0]?).map fun w => (w.2.1 5).2.2.2) = some false := by decide +kernel
theorem zzm235 : z_ml 235 = 4 := by decide +kernel
theorem zzm73 : z_ml 73 = 6 := by decide +kernel
theorem zA76 {d : Nat} {N ci : Nat} {k p s c : Int32} {M : zH} {K : Option Value → zH → Prop} (h4 : 4 ≤ N) (hc : 4 ≤ ci ∧ ci ≤ 11) (hM : M[N]? = some (.inr (ci, [.int 0, .int 0, .int 0, .int 0, .null]))) (kk : K none (M.set N (.inr (ci, [.int k, .int s, .int c, .int p, .ref 13])))) : z_ev d 76 0 [some (.ref N), some (.int k), some (.int p), some (.ref 13), some (.int s), some (.int c)] [] M K := by
  have hm : ci ∈ [4, 5, 6, 7, 8, 9, 10, 11] := z_w8 (fun c => c ∈ [4, 5, 6, 7, 8, 9, 10, 11]) (by decide) (by decide) (by decide) (by decide) (by decide) (by decide) (by decide) (by decide) hc
  have hi : ((z_name 76).name == "<init>") = true ∧ "DoorBench$Way" = z_cn (z_oc 76) := ⟨zzi76, by rw [zo76]; exact zzn4⟩
  refine z_xP zt76 0 1 [some (.ref N), some (.int k), some (.int p), some (.ref 13), some (.int s), some (.int c)] [.ref N] rfl rfl ?_
  refine z_eoi (z_dc1 zt76 (n := 1) rfl) (by rw [zo76]; exact zzcI4_3) (by decide) ?_
  refine z_xP zt76 2 6 [some (.ref N), some (.int k), some (.int p), some (.ref 13), some (.int s), some (.int c)] [.int k, .ref N] rfl rfl ?_
  refine z_epf (fs := [.int 0, .int 0, .int 0, .int 0, .null]) (z_dc1 zt76 (n := 3) rfl) (by rw [zo76]; exact zzf4_9) (hM) hm h4 (z_w8 (fun x => z_fit (z_fty x 0) (.int k) = true) rfl rfl rfl rfl rfl rfl rfl rfl hc) (Nat.le_of_ble_eq_true rfl) (Or.inr hi) ?_
  show z_ev d 76 9 [some (.ref N), some (.int k), some (.int p), some (.ref 13), some (.int s), some (.int c)] [] (M.set N (.inr (ci, [.int k, .int 0, .int 0, .int 0, .null]))) K
  refine z_xP zt76 4 11 [some (.ref N), some (.int k), some (.int p), some (.ref 13), some (.int s), some (.int c)] [.int p, .ref N] rfl rfl ?_
  refine z_epf (fs := [.int k, .int 0, .int 0, .int 0, .null]) (z_dc1 zt76 (n := 5) rfl) (by rw [zo76]; exact zzf4_15) (z_gs1 hM) hm h4 (z_w8 (fun x => z_fit (z_fty x 3) (.int p) = true) rfl rfl rfl rfl rfl rfl rfl rfl hc) (Nat.le_of_ble_eq_true rfl) (Or.inr hi) ?_
  rw [List.set_set]
  show z_ev d 76 14 [some (.ref N), some (.int k), some (.int p), some (.ref 13), some (.int s), some (.int c)] [] (M.set N (.inr (ci, [.int k, .int 0, .int 0, .int p, .null]))) K
  refine z_xP zt76 6 16 [some (.ref N), some (.int k), some (.int p), some (.ref 13), some (.int s), some (.int c)] [.ref 13, .ref N] rfl rfl ?_
  refine z_epf (fs := [.int k, .int 0, .int 0, .int p, .null]) (z_dc1 zt76 (n := 7) rfl) (by rw [zo76]; exact zzf4_18) (z_gs1 hM) hm h4 (z_w8 (fun x => z_fit (z_fty x 4) (.ref 13) = true) rfl rfl rfl rfl rfl rfl rfl rfl hc) (Nat.le_of_ble_eq_true rfl) (Or.inr hi) ?_
  rw [List.set_set]
  show z_ev d 76 19 [some (.ref N), some (.int k), some (.int p), some (.ref 13), some (.int s), some (.int c)] [] (M.set N (.inr (ci, [.int k, .int 0, .int 0, .int p, .ref 13]))) K
  refine z_xP zt76 8 22 [some (.ref N), some (.int k), some (.int p), some (.ref 13), some (.int s), some (.int c)] [.int s, .ref N] rfl rfl ?_
  refine z_epf (fs := [.int k, .int 0, .int 0, .int p, .ref 13]) (z_dc1 zt76 (n := 9) rfl) (by rw [zo76]; exact zzf4_22) (z_gs1 hM) hm h4 (z_w8 (fun x => z_fit (z_fty x 1) (.int s) = true) rfl rfl rfl rfl rfl rfl rfl rfl hc) (Nat.le_of_ble_eq_true rfl) (Or.inr hi) ?_
  rw [List.set_set]
  show z_ev d 76 25 [some (.ref N), some (.int k), some (.int p), some (.ref 13), some (.int s), some (.int c)] [] (M.set N (.inr (ci, [.int k, .int s, .int 0, .int p, .ref 13]))) K
  refine z_xP zt76 10 28 [some (.ref N), some (.int k), some (.int p), some (.ref 13), some (.int s), some (.int c)] [.int c, .ref N] rfl rfl ?_
  refine z_epf (fs := [.int k, .int s, .int 0, .int p, .ref 13]) (z_dc1 zt76 (n := 11) rfl) (by rw [zo76]; exact zzf4_25) (z_gs1 hM) hm h4 (z_w8 (fun x => z_fit (z_fty x 2) (.int c) = true) rfl rfl rfl rfl rfl rfl rfl rfl hc) (Nat.le_of_ble_eq_true rfl) (Or.inr hi) ?_
  rw [List.set_set]
  show z_ev d 76 31 [some (.ref N), some (.int k), some (.int p), some (.ref 13), some (.int s), some (.int c)] [] (M.set N (.inr (ci, [.int k, .int s, .int c, .int p, .ref 13]))) K
  exact z_erv (z_dc1 zt76 (n := 12) rfl) zzr76 kk
theorem zA75 {d : Nat} {N ci : Nat} {k p : Int32} {M : zH} {K : Option Value → zH → Prop} (h4 : 4 ≤ N) (hc : 4 ≤ ci ∧ ci ≤ 11) (hM : M[N]? = some (.inr (ci, [.int 0, .int 0, .int 0, .int 0, .null]))) (kk : K none (M.set N (.inr (ci, [.int k, .int 0, .int 0, .int p, .ref 13])))) : z_ev (d + 1) 75 0 [some (.ref N), some (.int k), some (.int p), some (.ref 13)] [] M K := by
  refine z_xP zt75 0 6 [some (.ref N), some (.int k), some (.int p), some (.ref 13)] [.int 0, .int 0, .ref 13, .int p, .int k, .ref N] rfl rfl ?_
  refine z_ecI (vs := [.ref N, .int k, .int p, .ref 13, .int 0, .int 0]) (r := []) (L2 := [some (.ref N), some (.int k), some (.int p), some (.ref 13), some (.int 0), some (.int 0)]) (z_dc1 zt75 (n := 1) rfl) (by rw [zo75]; exact zzcI5_1) (by decide) rfl hM h4 rfl rfl (Nat.le_of_ble_eq_true rfl) zzm76 (Nat.le_of_ble_eq_true rfl) rfl ?_
  refine zA76 h4 hc hM ?_
  show z_ev (d + 1) 75 9 [some (.ref N), some (.int k), some (.int p), some (.ref 13)] [] _ K
  exact z_erv (z_dc1 zt75 (n := 2) rfl) zzr75 kk
theorem zA77 {d : Nat} {N ci : Nat} {k p : Int32} {M : zH} {K : Option Value → zH → Prop} (h4 : 4 ≤ N) (hc : 4 ≤ ci ∧ ci ≤ 11) (hM : M[N]? = some (.inr (ci, [.int 0, .int 0, .int 0, .int 0, .null]))) (kk : K none (M.set N (.inr (ci, [.int k, .int 0, .int 0, .int p, .ref 13])))) : z_ev (d + 2) 77 0 [some (.ref N), some (.int k), some (.int p), some (.ref 13)] [] M K := by
  refine z_xP zt77 0 4 [some (.ref N), some (.int k), some (.int p), some (.ref 13)] [.ref 13, .int p, .int k, .ref N] rfl rfl ?_
  refine z_ecI (vs := [.ref N, .int k, .int p, .ref 13]) (r := []) (L2 := [some (.ref N), some (.int k), some (.int p), some (.ref 13)]) (z_dc1 zt77 (n := 1) rfl) (by rw [zo77]; exact zzcI6_1) (by decide) rfl hM h4 rfl rfl (Nat.le_of_ble_eq_true rfl) zzm75 (Nat.le_of_ble_eq_true rfl) rfl ?_
  refine zA75 h4 hc hM ?_
  show z_ev (d + 2) 77 7 [some (.ref N), some (.int k), some (.int p), some (.ref 13)] [] _ K
  exact z_erv (z_dc1 zt77 (n := 2) rfl) zzr77 kk
theorem zA78 {d : Nat} {N ci : Nat} {k p : Int32} {M : zH} {K : Option Value → zH → Prop} (h4 : 4 ≤ N) (hc : 4 ≤ ci ∧ ci ≤ 11) (hM : M[N]? = some (.inr (ci, [.int 0, .int 0, .int 0, .int 0, .null]))) (kk : K none (M.set N (.inr (ci, [.int k, .int 0, .int 0, .int p, .ref 13])))) : z_ev (d + 2) 78 0 [some (.ref N), some (.int k), some (.int p), some (.ref 13)] [] M K := by
  refine z_xP zt78 0 4 [some (.ref N), some (.int k), some (.int p), some (.ref 13)] [.ref 13, .int p, .int k, .ref N] rfl rfl ?_
  refine z_ecI (vs := [.ref N, .int k, .int p, .ref 13]) (r := []) (L2 := [some (.ref N), some (.int k), some (.int p), some (.ref 13)]) (z_dc1 zt78 (n := 1) rfl) (by rw [zo78]; exact zzcI7_1) (by decide) rfl hM h4 rfl rfl (Nat.le_of_ble_eq_true rfl) zzm75 (Nat.le_of_ble_eq_true rfl) rfl ?_
  refine zA75 h4 hc hM ?_
  show z_ev (d + 2) 78 7 [some (.ref N), some (.int k), some (.int p), some (.ref 13)] [] _ K
  exact z_erv (z_dc1 zt78 (n := 2) rfl) zzr78 kk
theorem zA79 {d : Nat} {N ci : Nat} {k p : Int32} {M : zH} {K : Option Value → zH → Prop} (h4 : 4 ≤ N) (hc : 4 ≤ ci ∧ ci ≤ 11) (hM : M[N]? = some (.inr (ci, [.int 0, .int 0, .int 0, .int 0, .null]))) (kk : K none (M.set N (.inr (ci, [.int k, .int 0, .int 0, .int p, .ref 13])))) : z_ev (d + 1) 79 0 [some (.ref N), some (.int k), some (.int p), some (.ref 13)] [] M K := by
  refine z_xP zt79 0 6 [some (.ref N), some (.int k), some (.int p), some (.ref 13)] [.int 0, .int 0, .ref 13, .int p, .int k, .ref N] rfl rfl ?_
  refine z_ecI (vs := [.ref N, .int k, .int p, .ref 13, .int 0, .int 0]) (r := []) (L2 := [some (.ref N), some (.int k), some (.int p), some (.ref 13), some (.int 0), some (.int 0)]) (z_dc1 zt79 (n := 1) rfl) (by rw [zo79]; exact zzcI8_1) (by decide) rfl hM h4 rfl rfl (Nat.le_of_ble_eq_true rfl) zzm76 (Nat.le_of_ble_eq_true rfl) rfl ?_
  refine zA76 h4 hc hM ?_
  show z_ev (d + 1) 79 9 [some (.ref N), some (.int k), some (.int p), some (.ref 13)] [] _ K
  exact z_erv (z_dc1 zt79 (n := 2) rfl) zzr79 kk
theorem zA80 {d : Nat} {N ci : Nat} {k p s c : Int32} {M : zH} {K : Option Value → zH → Prop} (h4 : 4 ≤ N) (hc : 4 ≤ ci ∧ ci ≤ 11) (hM : M[N]? = some (.inr (ci, [.int 0, .int 0, .int 0, .int 0, .null]))) (kk : K none (M.set N (.inr (ci, [.int k, .int s, .int c, .int p, .ref 13])))) : z_ev (d + 1) 80 0 [some (.ref N), some (.int k), some (.int p), some (.ref 13), some (.int s), some (.int c)] [] M K := by
  refine z_xP zt80 0 8 [some (.ref N), some (.int k), some (.int p), some (.ref 13), some (.int s), some (.int c)] [.int c, .int s, .ref 13, .int p, .int k, .ref N] rfl rfl ?_
  refine z_ecI (vs := [.ref N, .int k, .int p, .ref 13, .int s, .int c]) (r := []) (L2 := [some (.ref N), some (.int k), some (.int p), some (.ref 13), some (.int s), some (.int c)]) (z_dc1 zt80 (n := 1) rfl) (by rw [zo80]; exact zzcI9_1) (by decide) rfl hM h4 rfl rfl (Nat.le_of_ble_eq_true rfl) zzm76 (Nat.le_of_ble_eq_true rfl) rfl ?_
  refine zA76 h4 hc hM ?_
  show z_ev (d + 1) 80 11 [some (.ref N), some (.int k), some (.int p), some (.ref 13), some (.int s), some (.int c)] [] _ K
  exact z_erv (z_dc1 zt80 (n := 2) rfl) zzr80 kk
theorem zA81 {d : Nat} {N ci : Nat} {k p s c : Int32} {M : zH} {K : Option Value → zH → Prop} (h4 : 4 ≤ N) (hc : 4 ≤ ci ∧ ci ≤ 11) (hM : M[N]? = some (.inr (ci, [.int 0, .int 0, .int 0, .int 0, .null]))) (kk : K none (M.set N (.inr (ci, [.int k, .int s, .int c, .int p, .ref 13])))) : z_ev (d + 2) 81 0 [some (.ref N), some (.int k), some (.int p), some (.ref 13), some (.int s), some (.int c)] [] M K := by
  refine z_xP zt81 0 8 [some (.ref N), some (.int k), some (.int p), some (.ref 13), some (.int s), some (.int c)] [.int c, .int s, .ref 13, .int p, .int k, .ref N] rfl rfl ?_
  refine z_ecI (vs := [.ref N, .int k, .int p, .ref 13, .int s, .int c]) (r := []) (L2 := [some (.ref N), some (.int k), some (.int p), some (.ref 13), some (.int s), some (.int c)]) (z_dc1 zt81 (n := 1) rfl) (by rw [zo81]; exact zzcI10_1) (by decide) rfl hM h4 rfl rfl (Nat.le_of_ble_eq_true rfl) zzm80 (Nat.le_of_ble_eq_true rfl) rfl ?_
  refine zA80 h4 hc hM ?_
  show z_ev (d + 2) 81 11 [some (.ref N), some (.int k), some (.int p), some (.ref 13), some (.int s), some (.int c)] [] _ K
  exact z_erv (z_dc1 zt81 (n := 2) rfl) zzr81 kk
theorem zA82 {d : Nat} {N ci : Nat} {k p s c : Int32} {M : zH} {K : Option Value → zH → Prop} (h4 : 4 ≤ N) (hc : 4 ≤ ci ∧ ci ≤ 11) (hM : M[N]? = some (.inr (ci, [.int 0, .int 0, .int 0, .int 0, .null]))) (kk : K none (M.set N (.inr (ci, [.int k, .int s, .int c, .int p, .ref 13])))) : z_ev (d + 1) 82 0 [some (.ref N), some (.int k), some (.int p), some (.ref 13), some (.int s), some (.int c)] [] M K := by
  refine z_xP zt82 0 8 [some (.ref N), some (.int k), some (.int p), some (.ref 13), some (.int s), some (.int c)] [.int c, .int s, .ref 13, .int p, .int k, .ref N] rfl rfl ?_
  refine z_ecI (vs := [.ref N, .int k, .int p, .ref 13, .int s, .int c]) (r := []) (L2 := [some (.ref N), some (.int k), some (.int p), some (.ref 13), some (.int s), some (.int c)]) (z_dc1 zt82 (n := 1) rfl) (by rw [zo82]; exact zzcI11_3) (by decide) rfl hM h4 rfl rfl (Nat.le_of_ble_eq_true rfl) zzm76 (Nat.le_of_ble_eq_true rfl) rfl ?_
  refine zA76 h4 hc hM ?_
  show z_ev (d + 1) 82 11 [some (.ref N), some (.int k), some (.int p), some (.ref 13), some (.int s), some (.int c)] [] _ K
  exact z_erv (z_dc1 zt82 (n := 2) rfl) zzr82 kk
theorem z_seta {M : zH} {b x : zE} : (M ++ [b]).set M.length x = M ++ [x] := by
  rw [List.set_append_right _ _ (Nat.le_refl _), Nat.sub_self]; rfl
theorem zA74 {d : Nat} {k s c p : Int32} {M : zH} {fs : List Value} {K : Option Value → zH → Prop} (hl : 53 ≤ M.length) (h4 : M[4]? = some (.inr (0, fs))) (f5 : fs[5]? = some (.int p)) (f6 : fs[6]? = some (.ref 13)) (hz : 1 ≤ k.toInt → k.toInt ≤ 4 → s = 0 ∧ c = 0) (kk : ∀ ci : Nat, 4 ≤ ci ∧ ci ≤ 11 → K (some (.ref M.length)) (M ++ [.inr (ci, [.int k, .int s, .int c, .int p, .ref 13])])) : z_ev (d + 3) 74 0 [some (.ref 4), some (.int k), some (.int s), some (.int c)] [] M K := by
  refine z_xP zt74 0 1 [some (.ref 4), some (.int k), some (.int s), some (.int c)] [.int k] rfl rfl ?_
  by_cases hk1 : k.toInt = 1
  · obtain ⟨rfl, rfl⟩ := hz (by omega) (by omega)
    obtain rfl := z_sub (k := 1) hk1 rfl
    refine z_xSC zt74 1 rfl 44 rfl rfl ?_
    refine z_enew (N := M.length) (fs := [.int 0, .int 0, .int 0, .int 0, .null]) (z_dc1 zt74 (n := 2) rfl) (by rw [zo74]; exact zzw0_195) rfl rfl ?_
    have g4 : (M ++ [.inr (5, [.int 0, .int 0, .int 0, .int 0, .null])])[4]? = some (.inr (0, fs)) := by rw [List.getElem?_append_left (by omega)]; exact h4
    have gN : (M ++ [.inr (5, [.int 0, .int 0, .int 0, .int 0, .null])])[M.length]? = some (.inr (5, [.int 0, .int 0, .int 0, .int 0, .null])) := by rw [List.getElem?_append_right (Nat.le_refl _), Nat.sub_self]; rfl
    refine z_xP zt74 3 50 [some (.ref 4), some (.int 1), some (.int 0), some (.int 0)] [.ref 4, .int 1, .ref M.length, .ref M.length] rfl rfl ?_
    refine z_egf (z_dc1 zt74 (n := 4) rfl) (by rw [zo74]; exact zzf0_188) g4 (by decide) (by decide) f5 ?_
    refine z_xP zt74 5 54 [some (.ref 4), some (.int 1), some (.int 0), some (.int 0)] [.ref 4, .int p, .int 1, .ref M.length, .ref M.length] rfl rfl ?_
    refine z_egf (z_dc1 zt74 (n := 6) rfl) (by rw [zo74]; exact zzf0_31) g4 (by decide) (by decide) f6 ?_
    refine z_ecI (vs := [.ref M.length, .int 1, .int p, .ref 13]) (r := [.ref M.length]) (L2 := [some (.ref M.length), some (.int 1), some (.int p), some (.ref 13)]) (z_dc1 zt74 (n := 7) rfl) (by rw [zo74]; exact zzcI0_197) (by decide) rfl gN (by omega) rfl rfl (Nat.le_of_ble_eq_true rfl) zzm75 (Nat.le_of_ble_eq_true rfl) rfl ?_
    refine zA75 (by omega) (by decide) gN ?_
    show z_ev (d + 3) 74 60 [some (.ref 4), some (.int 1), some (.int 0), some (.int 0)] [.ref M.length] _ K
    rw [z_seta]
    exact z_era (z_dc1 zt74 (n := 8) rfl) zzr74 (kk 5 (by decide))
  by_cases hk2 : k.toInt = 2
  · obtain ⟨rfl, rfl⟩ := hz (by omega) (by omega)
    obtain rfl := z_sub (k := 2) hk2 rfl
    refine z_xSC zt74 1 rfl 61 rfl rfl ?_
    refine z_enew (N := M.length) (fs := [.int 0, .int 0, .int 0, .int 0, .null]) (z_dc1 zt74 (n := 9) rfl) (by rw [zo74]; exact zzw0_200) rfl rfl ?_
    have g4 : (M ++ [.inr (6, [.int 0, .int 0, .int 0, .int 0, .null])])[4]? = some (.inr (0, fs)) := by rw [List.getElem?_append_left (by omega)]; exact h4
    have gN : (M ++ [.inr (6, [.int 0, .int 0, .int 0, .int 0, .null])])[M.length]? = some (.inr (6, [.int 0, .int 0, .int 0, .int 0, .null])) := by rw [List.getElem?_append_right (Nat.le_refl _), Nat.sub_self]; rfl
    refine z_xP zt74 10 67 [some (.ref 4), some (.int 2), some (.int 0), some (.int 0)] [.ref 4, .int 2, .ref M.length, .ref M.length] rfl rfl ?_
    refine z_egf (z_dc1 zt74 (n := 11) rfl) (by rw [zo74]; exact zzf0_188) g4 (by decide) (by decide) f5 ?_
    refine z_xP zt74 12 71 [some (.ref 4), some (.int 2), some (.int 0), some (.int 0)] [.ref 4, .int p, .int 2, .ref M.length, .ref M.length] rfl rfl ?_
    refine z_egf (z_dc1 zt74 (n := 13) rfl) (by rw [zo74]; exact zzf0_31) g4 (by decide) (by decide) f6 ?_
    refine z_ecI (vs := [.ref M.length, .int 2, .int p, .ref 13]) (r := [.ref M.length]) (L2 := [some (.ref M.length), some (.int 2), some (.int p), some (.ref 13)]) (z_dc1 zt74 (n := 14) rfl) (by rw [zo74]; exact zzcI0_202) (by decide) rfl gN (by omega) rfl rfl (Nat.le_of_ble_eq_true rfl) zzm77 (Nat.le_of_ble_eq_true rfl) rfl ?_
    refine zA77 (by omega) (by decide) gN ?_
    show z_ev (d + 3) 74 77 [some (.ref 4), some (.int 2), some (.int 0), some (.int 0)] [.ref M.length] _ K
    rw [z_seta]
    exact z_era (z_dc1 zt74 (n := 15) rfl) zzr74 (kk 6 (by decide))
  by_cases hk3 : k.toInt = 3
  · obtain ⟨rfl, rfl⟩ := hz (by omega) (by omega)
    obtain rfl := z_sub (k := 3) hk3 rfl
    refine z_xSC zt74 1 rfl 78 rfl rfl ?_
    refine z_enew (N := M.length) (fs := [.int 0, .int 0, .int 0, .int 0, .null]) (z_dc1 zt74 (n := 16) rfl) (by rw [zo74]; exact zzw0_203) rfl rfl ?_
    have g4 : (M ++ [.inr (7, [.int 0, .int 0, .int 0, .int 0, .null])])[4]? = some (.inr (0, fs)) := by rw [List.getElem?_append_left (by omega)]; exact h4
    have gN : (M ++ [.inr (7, [.int 0, .int 0, .int 0, .int 0, .null])])[M.length]? = some (.inr (7, [.int 0, .int 0, .int 0, .int 0, .null])) := by rw [List.getElem?_append_right (Nat.le_refl _), Nat.sub_self]; rfl
    refine z_xP zt74 17 84 [some (.ref 4), some (.int 3), some (.int 0), some (.int 0)] [.ref 4, .int 3, .ref M.length, .ref M.length] rfl rfl ?_
    refine z_egf (z_dc1 zt74 (n := 18) rfl) (by rw [zo74]; exact zzf0_188) g4 (by decide) (by decide) f5 ?_
    refine z_xP zt74 19 88 [some (.ref 4), some (.int 3), some (.int 0), some (.int 0)] [.ref 4, .int p, .int 3, .ref M.length, .ref M.length] rfl rfl ?_
    refine z_egf (z_dc1 zt74 (n := 20) rfl) (by rw [zo74]; exact zzf0_31) g4 (by decide) (by decide) f6 ?_
    refine z_ecI (vs := [.ref M.length, .int 3, .int p, .ref 13]) (r := [.ref M.length]) (L2 := [some (.ref M.length), some (.int 3), some (.int p), some (.ref 13)]) (z_dc1 zt74 (n := 21) rfl) (by rw [zo74]; exact zzcI0_205) (by decide) rfl gN (by omega) rfl rfl (Nat.le_of_ble_eq_true rfl) zzm78 (Nat.le_of_ble_eq_true rfl) rfl ?_
    refine zA78 (by omega) (by decide) gN ?_
    show z_ev (d + 3) 74 94 [some (.ref 4), some (.int 3), some (.int 0), some (.int 0)] [.ref M.length] _ K
    rw [z_seta]
    exact z_era (z_dc1 zt74 (n := 22) rfl) zzr74 (kk 7 (by decide))
  by_cases hk4 : k.toInt = 4
  · obtain ⟨rfl, rfl⟩ := hz (by omega) (by omega)
    obtain rfl := z_sub (k := 4) hk4 rfl
    refine z_xSC zt74 1 rfl 95 rfl rfl ?_
    refine z_enew (N := M.length) (fs := [.int 0, .int 0, .int 0, .int 0, .null]) (z_dc1 zt74 (n := 23) rfl) (by rw [zo74]; exact zzw0_206) rfl rfl ?_
    have g4 : (M ++ [.inr (8, [.int 0, .int 0, .int 0, .int 0, .null])])[4]? = some (.inr (0, fs)) := by rw [List.getElem?_append_left (by omega)]; exact h4
    have gN : (M ++ [.inr (8, [.int 0, .int 0, .int 0, .int 0, .null])])[M.length]? = some (.inr (8, [.int 0, .int 0, .int 0, .int 0, .null])) := by rw [List.getElem?_append_right (Nat.le_refl _), Nat.sub_self]; rfl
    refine z_xP zt74 24 101 [some (.ref 4), some (.int 4), some (.int 0), some (.int 0)] [.ref 4, .int 4, .ref M.length, .ref M.length] rfl rfl ?_
    refine z_egf (z_dc1 zt74 (n := 25) rfl) (by rw [zo74]; exact zzf0_188) g4 (by decide) (by decide) f5 ?_
    refine z_xP zt74 26 105 [some (.ref 4), some (.int 4), some (.int 0), some (.int 0)] [.ref 4, .int p, .int 4, .ref M.length, .ref M.length] rfl rfl ?_
    refine z_egf (z_dc1 zt74 (n := 27) rfl) (by rw [zo74]; exact zzf0_31) g4 (by decide) (by decide) f6 ?_
    refine z_ecI (vs := [.ref M.length, .int 4, .int p, .ref 13]) (r := [.ref M.length]) (L2 := [some (.ref M.length), some (.int 4), some (.int p), some (.ref 13)]) (z_dc1 zt74 (n := 28) rfl) (by rw [zo74]; exact zzcI0_208) (by decide) rfl gN (by omega) rfl rfl (Nat.le_of_ble_eq_true rfl) zzm79 (Nat.le_of_ble_eq_true rfl) rfl ?_
    refine zA79 (by omega) (by decide) gN ?_
    show z_ev (d + 3) 74 111 [some (.ref 4), some (.int 4), some (.int 0), some (.int 0)] [.ref M.length] _ K
    rw [z_seta]
    exact z_era (z_dc1 zt74 (n := 29) rfl) zzr74 (kk 8 (by decide))
  by_cases hk5 : k.toInt = 5
  · obtain rfl := z_sub (k := 5) hk5 rfl
    refine z_xSC zt74 1 rfl 112 rfl rfl ?_
    refine z_enew (N := M.length) (fs := [.int 0, .int 0, .int 0, .int 0, .null]) (z_dc1 zt74 (n := 30) rfl) (by rw [zo74]; exact zzw0_209) rfl rfl ?_
    have g4 : (M ++ [.inr (9, [.int 0, .int 0, .int 0, .int 0, .null])])[4]? = some (.inr (0, fs)) := by rw [List.getElem?_append_left (by omega)]; exact h4
    have gN : (M ++ [.inr (9, [.int 0, .int 0, .int 0, .int 0, .null])])[M.length]? = some (.inr (9, [.int 0, .int 0, .int 0, .int 0, .null])) := by rw [List.getElem?_append_right (Nat.le_refl _), Nat.sub_self]; rfl
    refine z_xP zt74 31 118 [some (.ref 4), some (.int 5), some (.int s), some (.int c)] [.ref 4, .int 5, .ref M.length, .ref M.length] rfl rfl ?_
    refine z_egf (z_dc1 zt74 (n := 32) rfl) (by rw [zo74]; exact zzf0_188) g4 (by decide) (by decide) f5 ?_
    refine z_xP zt74 33 122 [some (.ref 4), some (.int 5), some (.int s), some (.int c)] [.ref 4, .int p, .int 5, .ref M.length, .ref M.length] rfl rfl ?_
    refine z_egf (z_dc1 zt74 (n := 34) rfl) (by rw [zo74]; exact zzf0_31) g4 (by decide) (by decide) f6 ?_
    refine z_xP zt74 35 127 [some (.ref 4), some (.int 5), some (.int s), some (.int c)] [.int c, .int s, .ref 13, .int p, .int 5, .ref M.length, .ref M.length] rfl rfl ?_
    refine z_ecI (vs := [.ref M.length, .int 5, .int p, .ref 13, .int s, .int c]) (r := [.ref M.length]) (L2 := [some (.ref M.length), some (.int 5), some (.int p), some (.ref 13), some (.int s), some (.int c)]) (z_dc1 zt74 (n := 36) rfl) (by rw [zo74]; exact zzcI0_211) (by decide) rfl gN (by omega) rfl rfl (Nat.le_of_ble_eq_true rfl) zzm80 (Nat.le_of_ble_eq_true rfl) rfl ?_
    refine zA80 (by omega) (by decide) gN ?_
    show z_ev (d + 3) 74 130 [some (.ref 4), some (.int 5), some (.int s), some (.int c)] [.ref M.length] _ K
    rw [z_seta]
    exact z_era (z_dc1 zt74 (n := 37) rfl) zzr74 (kk 9 (by decide))
  by_cases hk6 : k.toInt = 6
  · obtain rfl := z_sub (k := 6) hk6 rfl
    refine z_xSC zt74 1 rfl 131 rfl rfl ?_
    refine z_enew (N := M.length) (fs := [.int 0, .int 0, .int 0, .int 0, .null]) (z_dc1 zt74 (n := 38) rfl) (by rw [zo74]; exact zzw0_214) rfl rfl ?_
    have g4 : (M ++ [.inr (10, [.int 0, .int 0, .int 0, .int 0, .null])])[4]? = some (.inr (0, fs)) := by rw [List.getElem?_append_left (by omega)]; exact h4
    have gN : (M ++ [.inr (10, [.int 0, .int 0, .int 0, .int 0, .null])])[M.length]? = some (.inr (10, [.int 0, .int 0, .int 0, .int 0, .null])) := by rw [List.getElem?_append_right (Nat.le_refl _), Nat.sub_self]; rfl
    refine z_xP zt74 39 137 [some (.ref 4), some (.int 6), some (.int s), some (.int c)] [.ref 4, .int 6, .ref M.length, .ref M.length] rfl rfl ?_
    refine z_egf (z_dc1 zt74 (n := 40) rfl) (by rw [zo74]; exact zzf0_188) g4 (by decide) (by decide) f5 ?_
    refine z_xP zt74 41 141 [some (.ref 4), some (.int 6), some (.int s), some (.int c)] [.ref 4, .int p, .int 6, .ref M.length, .ref M.length] rfl rfl ?_
    refine z_egf (z_dc1 zt74 (n := 42) rfl) (by rw [zo74]; exact zzf0_31) g4 (by decide) (by decide) f6 ?_
    refine z_xP zt74 43 146 [some (.ref 4), some (.int 6), some (.int s), some (.int c)] [.int c, .int s, .ref 13, .int p, .int 6, .ref M.length, .ref M.length] rfl rfl ?_
    refine z_ecI (vs := [.ref M.length, .int 6, .int p, .ref 13, .int s, .int c]) (r := [.ref M.length]) (L2 := [some (.ref M.length), some (.int 6), some (.int p), some (.ref 13), some (.int s), some (.int c)]) (z_dc1 zt74 (n := 44) rfl) (by rw [zo74]; exact zzcI0_216) (by decide) rfl gN (by omega) rfl rfl (Nat.le_of_ble_eq_true rfl) zzm81 (Nat.le_of_ble_eq_true rfl) rfl ?_
    refine zA81 (by omega) (by decide) gN ?_
    show z_ev (d + 3) 74 149 [some (.ref 4), some (.int 6), some (.int s), some (.int c)] [.ref M.length] _ K
    rw [z_seta]
    exact z_era (z_dc1 zt74 (n := 45) rfl) zzr74 (kk 10 (by decide))
  by_cases hk7 : k.toInt = 7
  · obtain rfl := z_sub (k := 7) hk7 rfl
    refine z_xSC zt74 1 rfl 150 rfl rfl ?_
    refine z_enew (N := M.length) (fs := [.int 0, .int 0, .int 0, .int 0, .null]) (z_dc1 zt74 (n := 46) rfl) (by rw [zo74]; exact zzw0_217) rfl rfl ?_
    have g4 : (M ++ [.inr (11, [.int 0, .int 0, .int 0, .int 0, .null])])[4]? = some (.inr (0, fs)) := by rw [List.getElem?_append_left (by omega)]; exact h4
    have gN : (M ++ [.inr (11, [.int 0, .int 0, .int 0, .int 0, .null])])[M.length]? = some (.inr (11, [.int 0, .int 0, .int 0, .int 0, .null])) := by rw [List.getElem?_append_right (Nat.le_refl _), Nat.sub_self]; rfl
    refine z_xP zt74 47 156 [some (.ref 4), some (.int 7), some (.int s), some (.int c)] [.ref 4, .int 7, .ref M.length, .ref M.length] rfl rfl ?_
    refine z_egf (z_dc1 zt74 (n := 48) rfl) (by rw [zo74]; exact zzf0_188) g4 (by decide) (by decide) f5 ?_
    refine z_xP zt74 49 160 [some (.ref 4), some (.int 7), some (.int s), some (.int c)] [.ref 4, .int p, .int 7, .ref M.length, .ref M.length] rfl rfl ?_
    refine z_egf (z_dc1 zt74 (n := 50) rfl) (by rw [zo74]; exact zzf0_31) g4 (by decide) (by decide) f6 ?_
    refine z_xP zt74 51 165 [some (.ref 4), some (.int 7), some (.int s), some (.int c)] [.int c, .int s, .ref 13, .int p, .int 7, .ref M.length, .ref M.length] rfl rfl ?_
    refine z_ecI (vs := [.ref M.length, .int 7, .int p, .ref 13, .int s, .int c]) (r := [.ref M.length]) (L2 := [some (.ref M.length), some (.int 7), some (.int p), some (.ref 13), some (.int s), some (.int c)]) (z_dc1 zt74 (n := 52) rfl) (by rw [zo74]; exact zzcI0_219) (by decide) rfl gN (by omega) rfl rfl (Nat.le_of_ble_eq_true rfl) zzm82 (Nat.le_of_ble_eq_true rfl) rfl ?_
    refine zA82 (by omega) (by decide) gN ?_
    show z_ev (d + 3) 74 168 [some (.ref 4), some (.int 7), some (.int s), some (.int c)] [.ref M.length] _ K
    rw [z_seta]
    exact z_era (z_dc1 zt74 (n := 53) rfl) zzr74 (kk 11 (by decide))
  refine z_xSD (t := 169) zt74 1 rfl rfl (by omega) ?_
  refine z_enew (N := M.length) (fs := [.int 0, .int 0, .int 0, .int 0, .null]) (z_dc1 zt74 (n := 54) rfl) (by rw [zo74]; exact zzw0_25) rfl rfl ?_
  have g4 : (M ++ [.inr (4, [.int 0, .int 0, .int 0, .int 0, .null])])[4]? = some (.inr (0, fs)) := by rw [List.getElem?_append_left (by omega)]; exact h4
  have gN : (M ++ [.inr (4, [.int 0, .int 0, .int 0, .int 0, .null])])[M.length]? = some (.inr (4, [.int 0, .int 0, .int 0, .int 0, .null])) := by rw [List.getElem?_append_right (Nat.le_refl _), Nat.sub_self]; rfl
  refine z_xP zt74 55 175 [some (.ref 4), some (.int k), some (.int s), some (.int c)] [.ref 4, .int k, .ref M.length, .ref M.length] rfl rfl ?_
  refine z_egf (z_dc1 zt74 (n := 56) rfl) (by rw [zo74]; exact zzf0_188) g4 (by decide) (by decide) f5 ?_
  refine z_xP zt74 57 179 [some (.ref 4), some (.int k), some (.int s), some (.int c)] [.ref 4, .int p, .int k, .ref M.length, .ref M.length] rfl rfl ?_
  refine z_egf (z_dc1 zt74 (n := 58) rfl) (by rw [zo74]; exact zzf0_31) g4 (by decide) (by decide) f6 ?_
  refine z_xP zt74 59 184 [some (.ref 4), some (.int k), some (.int s), some (.int c)] [.int c, .int s, .ref 13, .int p, .int k, .ref M.length, .ref M.length] rfl rfl ?_
  refine z_ecI (vs := [.ref M.length, .int k, .int p, .ref 13, .int s, .int c]) (r := [.ref M.length]) (L2 := [some (.ref M.length), some (.int k), some (.int p), some (.ref 13), some (.int s), some (.int c)]) (z_dc1 zt74 (n := 60) rfl) (by rw [zo74]; exact zzcI0_220) (by decide) rfl gN (by omega) rfl rfl (Nat.le_of_ble_eq_true rfl) zzm76 (Nat.le_of_ble_eq_true rfl) rfl ?_
  refine zA76 (by omega) (by decide) gN ?_
  show z_ev (d + 3) 74 187 [some (.ref 4), some (.int k), some (.int s), some (.int c)] [.ref M.length] _ K
  rw [z_seta]
  exact z_era (z_dc1 zt74 (n := 61) rfl) zzr74 (kk 4 (by decide))
theorem z_asy {T : List zK} {rs : List Nat} {M0 M : zH} {f : Nat → Option Nat} {x : Int32} {b : Nat} (hX : z_X T rs M0 M) (ha : T[12]? = some (.inr (12, 3, 20, 0, 0))) (e1 : M[12]? = some (.inl (3, 20, .inr (.inr f)))) (e3 : ∀ i b, i < 20 → f i = some b → z_elk T 3 0 b) (hy : z_elk T 3 0 b) (hr : 12 ∈ rs) : z_X T rs M0 (M.set 12 (.inl (3, 20, .inr (.inr (z_updR f x.toNatClampNeg (some b)))))) ∧ z_ke T [12] M (M.set 12 (.inl (3, 20, .inr (.inr (z_updR f x.toNatClampNeg (some b)))))) := by
  have hkp := z_kpA (z := (3, 20, .inr (.inr (z_updR f x.toNatClampNeg (some b))))) ha e1
  refine ⟨⟨hX.1.set ha (Or.inr ⟨rfl, by decide, rfl, fun i b2 hi hb => ?_⟩), hX.2.trans hkp fun z hz => by rw [List.mem_singleton.mp hz]; exact hr⟩, hkp⟩
  by_cases hi3 : i = x.toNatClampNeg
  · have : some b = some b2 := by rw [← hb]; simp [z_updR, hi3]
    cases this
    exact hy
  · exact e3 i b2 hi (by rw [← hb]; simp [z_updR, hi3])
theorem z_xasB {d j pc b : Nat} {segs : List (List (Nat × Instr × Nat))} {L : zL} {r : zS} {M M0 : zH} {T : List zK} {rs : List Nat} {K : Option Value → zH → Prop} {x : Int32} {c : Nat} (ht : z_dcs j segs = true) (n : Nat) (hk : segs[n]? = some [(pc, .aastore, 1)]) (hX : z_X T rs M0 M) (ha : T[12]? = some (.inr (12, 3, 20, 0, 0))) (h0 : 0 ≤ x.toInt) (h1 : x.toInt < (20 : Nat)) (hb : T[b]? = some (.inl (c, 0, 0, 0, 0))) (hc : 4 ≤ c ∧ c ≤ 11) (hr : 12 ∈ rs) (kk : ∀ M1, z_X T rs M0 M1 → z_ke T [12] M M1 → z_O M1 12 = z_updR (z_O M 12) x.toNatClampNeg (some b) → z_ev d j (pc + 1) L r M1 K) : z_ev d j pc L (.ref b :: .int x :: .ref 12 :: r) M K := by
  obtain ⟨f, e1, e2, e3⟩ := hX.1.aa ha (by decide) (by decide)
  obtain ⟨fs, h3, h4, h5, h6, h7⟩ := hX.1.ob hb
  obtain ⟨g1, g2⟩ := z_asy (x := x) (b := b) hX ha e1 e3 ⟨c, hc.1, hc.2, hb⟩ hr
  refine z_eas (z_dc1 ht hk) e1 h3 (z_inr h0 h1) (by decide) h7 (Or.inr ⟨rfl, hc⟩) (kk _ g1 g2 ?_)
  rw [e2]
  unfold z_O
  rw [z_gs1 e1]
theorem zT73b {T : List zK} {d : Nat} {K : Option Value → zH → Prop} {p1 p2 p3 s4 s5 s c w : Int32} {M : zH} (hA : z_GG T M ∧ z_GL M ∧ z_G4 M ∧ z_F M 4 5 = z_F M 19 21) (hw : z_F M 4 5 = some (.int w)) (w0 : 0 ≤ w.toInt) (w1 : w.toInt < 20) (hk : 0 ≤ p1.toInt ∧ p1.toInt ≤ 7) (hs : 0 ≤ s.toInt ∧ s.toInt ≤ 9) (hc : 0 ≤ c.toInt ∧ c.toInt ≤ 8) (hz : 1 ≤ p1.toInt → p1.toInt ≤ 4 → s = 0 ∧ c = 0) (kk : ∀ (y u : Int32) (T1 : List zK) (M3 : zH), y.toInt = w.toInt → z_F M3 4 5 = some (.int u) → u.toInt = w.toInt + 1 → z_F M3 19 21 = z_F M 19 21 → z_GG T1 M3 ∧ z_GL M3 ∧ z_G4 M3 → M3.length = M.length + 1 → z_sz M3 = z_sz M + 5 → z_pot M3 = z_pot M → K (some (.int y)) M3) : z_ev (d + 4) 73 125 [some (.ref 4), some (.int p1), some (.int p2), some (.int p3), some (.int s4), some (.int s5)] [.int c, .int s, .int p1, .ref 4, .int w, .ref 12] M K := by
  have hW := hA.1.1
  have k4 : T[4]? = some (.inl (0, 0, 0, 0, 0)) := hW.k rfl (by decide)
  have k19 : T[19]? = some (.inl (12, 0, 0, 0, 0)) := hW.k rfl (by decide)
  have k10 : T[10]? = some (.inr (10, 2, 8, 9, 0)) := hW.k rfl (by decide)
  have k11 : T[11]? = some (.inr (11, 2, 8, 5, 0)) := hW.k rfl (by decide)
  have k12 : T[12]? = some (.inr (12, 3, 20, 0, 0)) := hW.k rfl (by decide)
  obtain ⟨fs, m4, m5, m6, m7, m8⟩ := hW.ob k4
  have f5 : fs[5]? = some (.int w) := by have := hw; unfold z_F at this; rw [m4] at this; exact this
  have f6 : fs[6]? = some (.ref 13) := by
    obtain ⟨v, q1, q2⟩ := hW.fld k4 (k := 6) (by decide)
    unfold z_F at q1
    rw [m4] at q1
    match v, q2 with
    | .ref a, q2 => have : a = 13 := q2; rw [← this]; exact q1
  have X0 : z_X T [] M M := .refl hW
  refine z_xcV (vs := [.ref 4, .int p1, .int s, .int c]) (r := [.int w, .ref 12]) (L2 := [some (.ref 4), some (.int p1), some (.int s), some (.int c)]) zt73 52 rfl zo73 zzcV0_191 (by decide) rfl X0 k4 rfl rfl rfl (Nat.le_of_ble_eq_true rfl) zzm74 (Nat.le_of_ble_eq_true rfl) rfl ?_
  refine zA74 (by rw [hW.1]; exact hW.ge) m4 f5 f6 hz (fun ci hci => ?_)
  show z_ev (d + 4) 73 128 [some (.ref 4), some (.int p1), some (.int p2), some (.int p3), some (.int s4), some (.int s5)] [.ref M.length, .int w, .ref 12] (M ++ [(.inr (ci, [.int p1, .int s, .int c, .int w, .ref 13]))]) _
  have hfs : ∀ k, z_fsp ci 0 0 0 0 k = z_fsW k := fun k => z_w8 (fun x => z_fsp x 0 0 0 0 k = z_fsW k) rfl rfl rfl rfl rfl rfl rfl rfl hci
  have hnf : z_nf ci = 5 := z_w8 (fun x => z_nf x = 5) (by decide) (by decide) (by decide) (by decide) (by decide) (by decide) (by decide) (by decide) hci
  have hwt : z_wt (T ++ [(.inl (ci, 0, 0, 0, 0) : zK)]) (.inl (ci, 0, 0, 0, 0)) (.inr (ci, [.int p1, .int s, .int c, .int w, .ref 13])) := by
    refine ⟨rfl, hnf.symm, ⟨by omega, fun z => by omega, fun z => by omega⟩, fun k v hv => ?_⟩
    rw [hfs]
    match k, v, hv with
    | 0, _, hv => cases hv; exact hk
    | 1, _, hv => cases hv; exact hs
    | 2, _, hv => cases hv; exact hc
    | 3, _, hv => cases hv; exact ⟨w0, by omega⟩
    | 4, _, hv => cases hv; rfl
  have hW1 : z_W (M ++ [(.inr (ci, [.int p1, .int s, .int c, .int w, .ref 13]))]) (T ++ [(.inl (ci, 0, 0, 0, 0) : zK)]) := hW.push hwt
  have hsm : z_same T M (M ++ [(.inr (ci, [.int p1, .int s, .int c, .int w, .ref 13]))]) := z_same.push hW
  have hB := z_new4 hA hsm hW1
  have X : z_X (T ++ [(.inl (ci, 0, 0, 0, 0) : zK)]) [12, 1005] (M ++ [(.inr (ci, [.int p1, .int s, .int c, .int w, .ref 13]))]) (M ++ [(.inr (ci, [.int p1, .int s, .int c, .int w, .ref 13]))]) := .refl hW1
  have f4 : (T ++ [(.inl (ci, 0, 0, 0, 0) : zK)])[4]? = some (.inl (0, 0, 0, 0, 0)) := X.1.k rfl (by decide)
  have f19 : (T ++ [(.inl (ci, 0, 0, 0, 0) : zK)])[19]? = some (.inl (12, 0, 0, 0, 0)) := X.1.k rfl (by decide)
  have f10 : (T ++ [(.inl (ci, 0, 0, 0, 0) : zK)])[10]? = some (.inr (10, 2, 8, 9, 0)) := X.1.k rfl (by decide)
  have f11 : (T ++ [(.inl (ci, 0, 0, 0, 0) : zK)])[11]? = some (.inr (11, 2, 8, 5, 0)) := X.1.k rfl (by decide)
  have f12 : (T ++ [(.inl (ci, 0, 0, 0, 0) : zK)])[12]? = some (.inr (12, 3, 20, 0, 0)) := X.1.k rfl (by decide)
  have fN : (T ++ [(.inl (ci, 0, 0, 0, 0) : zK)])[M.length]? = some (.inl (ci, 0, 0, 0, 0)) := by rw [hW.1, List.getElem?_append_right (Nat.le_refl _), Nat.sub_self]; rfl
  have hw1 : z_F (M ++ [(.inr (ci, [.int p1, .int s, .int c, .int w, .ref 13]))]) 4 5 = some (.int w) := (hsm.f k4 (by decide)).trans hw
  refine z_ev.mono (z_ev.grow (K := fun v M3 => ∃ y u : Int32, v = some (.int y) ∧ y.toInt = w.toInt ∧ z_F M3 4 5 = some (.int u) ∧ u.toInt = w.toInt + 1 ∧ z_X (T ++ [(.inl (ci, 0, 0, 0, 0) : zK)]) [12, 1005] (M ++ [(.inr (ci, [.int p1, .int s, .int c, .int w, .ref 13]))]) M3 ∧ z_O M3 12 = z_updR (z_O (M ++ [(.inr (ci, [.int p1, .int s, .int c, .int w, .ref 13]))]) 12) w.toNatClampNeg (some M.length)) ?_) (fun v M3 ⟨⟨y, u, hv, hy, hu, hu1, X3, hO⟩, hg, _⟩ => ?_)
  · refine z_xasB (c := ci) zt73 53 rfl X f12 w0 w1 fN hci (by decide) (fun M2 X2 ke2 hO => ?_)
    have hw2 : z_F M2 4 5 = some (.int w) := ke2.f f4 (by decide) hw1
    refine z_xP zt73 54 131 [some (.ref 4), some (.int p1), some (.int p2), some (.int p3), some (.int s4), some (.int s5)] [.ref 4, .ref 4] rfl rfl ?_
    refine z_xgv zt73 55 rfl zo73 zzf0_188 X2 f4 (by decide) hw2 ?_
    refine z_xP zt73 56 135 [some (.ref 4), some (.int p1), some (.int p2), some (.int p3), some (.int s4), some (.int s5)] [.int 1, .int w, .ref 4] rfl rfl ?_
    refine z_xI zt73 57 rfl rfl (fun (u : Int32) (hu : u.toInt = w.toInt + 1) => ?_) (z_pAdd rfl rfl (by omega) (by omega))
    refine z_xpf zt73 58 rfl zo73 zzf0_188 X2 f4 (by decide) (by decide) (show 0 ≤ u.toInt ∧ u.toInt ≤ 20 from ⟨by omega, by omega⟩) rfl (by decide) zw0_5 (fun M3 X3 ke3 h3 => ?_)
    refine z_xP zt73 59 140 [some (.ref 4), some (.int p1), some (.int p2), some (.int p3), some (.int s4), some (.int s5)] [.ref 4] rfl rfl ?_
    refine z_xgv zt73 60 rfl zo73 zzf0_188 X3 f4 (by decide) h3 ?_
    refine z_xP zt73 61 144 [some (.ref 4), some (.int p1), some (.int p2), some (.int p3), some (.int s4), some (.int s5)] [.int 1, .int u] rfl rfl ?_
    refine z_xI zt73 62 rfl rfl (fun (y : Int32) (hy : y.toInt = u.toInt - 1) => ?_) (z_pSub rfl rfl (by omega) (by omega))
    exact z_xri zt73 63 rfl zzr73 ⟨y, u, rfl, by omega, h3, hu, X3, (ke3.o f12 (by decide)).trans hO⟩
  · subst hv
    refine kk y u _ M3 hy hu hu1 ?_ ⟨⟨X3.1, ⟨?_, ?_⟩, ?_⟩, hB.2.1.go X3 (by decide), hB.2.2.1.go X3 (by decide)⟩ ?_ ?_ ?_
    · exact (X3.2.1 19 12 0 0 0 0 21 f19 (by decide)).trans (hsm.f k19 (by decide))
    · rw [X3.2.1 4 0 0 0 0 0 3 f4 (by decide), X3.2.o f10 (by decide), X3.2.o f11 (by decide)]
      exact hB.1.2.1.1
    · intro A hA2 i i0 i1
      rw [hu] at hA2
      cases hA2
      rw [hO]
      unfold z_updR
      by_cases hi : i.toNatClampNeg = w.toNatClampNeg
      · rw [if_pos hi]; intro h; cases h
      · rw [if_neg hi]
        refine hB.1.2.1.2 w hw1 i i0 ?_
        unfold Int32.toNatClampNeg at hi
        omega
    · exact hB.1.2.2.go X3 hB.1.1 (by decide)
    · rw [X3.1.1, List.length_append, ← hW.1]; rfl
    · rw [z_szg hg (X3.1.1.trans hW1.1.symm), z_sz_push]; show _ + z_nf ci = _; rw [hnf]
    · exact (z_kep X3 (by decide)).trans (z_potF (hsm.f k4 (by decide)))
theorem zT73 {T : List zK} {d : Nat} {K : Option Value → zH → Prop} {p1 p2 p3 s4 s5 w : Int32} {M : zH} (hA : z_GG T M ∧ z_GL M ∧ z_G4 M ∧ z_F M 4 5 = z_F M 19 21) (hw : z_F M 4 5 = some (.int w)) (w0 : 0 ≤ w.toInt) (w1 : w.toInt < 20) (hk : 0 ≤ p1.toInt ∧ p1.toInt ≤ 7) (h4 : ((s4.toInt = 1 ∧ (p1.toInt = 5 ∨ p1.toInt = 6) ∧ 0 ≤ p2.toInt ∧ p2.toInt ≤ 9) ∨ (s4.toInt = 0 ∧ p1.toInt ≠ 5 ∧ p1.toInt ≠ 6))) (h5 : ((s5.toInt = 1 ∧ (p1.toInt = 6 ∨ p1.toInt = 7) ∧ 0 ≤ p3.toInt ∧ p3.toInt ≤ 8) ∨ (s5.toInt = 0 ∧ p1.toInt ≠ 6 ∧ p1.toInt ≠ 7))) (kk : ∀ (y u : Int32) (T1 : List zK) (M3 : zH), y.toInt = w.toInt → z_F M3 4 5 = some (.int u) → u.toInt = w.toInt + 1 → z_F M3 19 21 = z_F M 19 21 → z_GG T1 M3 ∧ z_GL M3 ∧ z_G4 M3 → M3.length = M.length + 1 → z_sz M3 = z_sz M + 5 → z_pot M3 = z_pot M → K (some (.int y)) M3) : z_ev (d + 4) 73 95 [some (.ref 4), some (.int p1), some (.int p2), some (.int p3), some (.int s4), some (.int s5)] [] M K := by
  have X : z_X T [] M M := .refl hA.1.1
  have f4 : T[4]? = some (.inl (0, 0, 0, 0, 0)) := X.1.k rfl (by decide)
  have z0 : (0 : Int32).toInt = 0 := rfl
  refine z_xP zt73 40 96 [some (.ref 4), some (.int p1), some (.int p2), some (.int p3), some (.int s4), some (.int s5)] [.ref 4] rfl rfl ?_
  refine z_xgX (b := 12) zt73 41 rfl zo73 zzf0_27 X f4 (by decide) (by decide) rfl ?_
  refine z_xP zt73 42 100 [some (.ref 4), some (.int p1), some (.int p2), some (.int p3), some (.int s4), some (.int s5)] [.ref 4, .ref 12] rfl rfl ?_
  refine z_xgv zt73 43 rfl zo73 zzf0_188 X f4 (by decide) hw ?_
  refine z_xP zt73 44 107 [some (.ref 4), some (.int p1), some (.int p2), some (.int p3), some (.int s4), some (.int s5)] [.int s4, .int p1, .ref 4, .int w, .ref 12] rfl rfl ?_
  refine z_xZ zt73 45 rfl rfl (fun (h6 : s4.toInt = 0) => ?_) (fun (h6 : s4.toInt ≠ 0) => ?_)
  · refine z_xP zt73 47 115 [some (.ref 4), some (.int p1), some (.int p2), some (.int p3), some (.int s4), some (.int s5)] [.int 0, .int p1, .ref 4, .int w, .ref 12] rfl rfl ?_
    refine z_xP zt73 48 117 [some (.ref 4), some (.int p1), some (.int p2), some (.int p3), some (.int s4), some (.int s5)] [.int s5, .int 0, .int p1, .ref 4, .int w, .ref 12] rfl rfl ?_
    refine z_xZ zt73 49 rfl rfl (fun (h7 : s5.toInt = 0) => ?_) (fun (h7 : s5.toInt ≠ 0) => ?_)
    · refine z_xP zt73 51 125 [some (.ref 4), some (.int p1), some (.int p2), some (.int p3), some (.int s4), some (.int s5)] [.int 0, .int 0, .int p1, .ref 4, .int w, .ref 12] rfl rfl ?_
      exact zT73b hA hw w0 w1 hk ⟨by omega, by omega⟩ ⟨by omega, by omega⟩ (fun _ _ => ⟨rfl, rfl⟩) kk
    · refine z_xP zt73 50 125 [some (.ref 4), some (.int p1), some (.int p2), some (.int p3), some (.int s4), some (.int s5)] [.int p3, .int 0, .int p1, .ref 4, .int w, .ref 12] rfl rfl ?_
      exact zT73b hA hw w0 w1 hk ⟨by omega, by omega⟩ ⟨by omega, by omega⟩ (fun z1 z2 => by omega) kk
  · refine z_xP zt73 46 115 [some (.ref 4), some (.int p1), some (.int p2), some (.int p3), some (.int s4), some (.int s5)] [.int p2, .int p1, .ref 4, .int w, .ref 12] rfl rfl ?_
    refine z_xP zt73 48 117 [some (.ref 4), some (.int p1), some (.int p2), some (.int p3), some (.int s4), some (.int s5)] [.int s5, .int p2, .int p1, .ref 4, .int w, .ref 12] rfl rfl ?_
    refine z_xZ zt73 49 rfl rfl (fun (h7 : s5.toInt = 0) => ?_) (fun (h7 : s5.toInt ≠ 0) => ?_)
    · refine z_xP zt73 51 125 [some (.ref 4), some (.int p1), some (.int p2), some (.int p3), some (.int s4), some (.int s5)] [.int 0, .int p2, .int p1, .ref 4, .int w, .ref 12] rfl rfl ?_
      exact zT73b hA hw w0 w1 hk ⟨by omega, by omega⟩ ⟨by omega, by omega⟩ (fun z1 z2 => by omega) kk
    · refine z_xP zt73 50 125 [some (.ref 4), some (.int p1), some (.int p2), some (.int p3), some (.int s4), some (.int s5)] [.int p3, .int p2, .int p1, .ref 4, .int w, .ref 12] rfl rfl ?_
      exact zT73b hA hw w0 w1 hk ⟨by omega, by omega⟩ ⟨by omega, by omega⟩ (fun z1 z2 => by omega) kk
def zw73 : List Nat := []
theorem zC73 {T : List zK} {d : Nat} {K : Option Value → zH → Prop} {p1 : Int32} {p2 : Int32} {p3 : Int32} {zp0 : Int32} {M0 : zH} (hW : z_W M0 T) (hz0 : z_F M0 4 5 = some (.int zp0)) (bz0 : 0 ≤ zp0.toInt ∧ zp0.toInt ≤ 20) (hT : ∀ (s4 s5 : Int32), 0 ≤ p1.toInt ∧ p1.toInt ≤ 7 ∧ zp0.toInt < 20 → ((s4.toInt = 1 ∧ (p1.toInt = 5 ∨ p1.toInt = 6) ∧ 0 ≤ p2.toInt ∧ p2.toInt ≤ 9) ∨ (s4.toInt = 0 ∧ p1.toInt ≠ 5 ∧ p1.toInt ≠ 6)) → ((s5.toInt = 1 ∧ (p1.toInt = 6 ∨ p1.toInt = 7) ∧ 0 ≤ p3.toInt ∧ p3.toInt ≤ 8) ∨ (s5.toInt = 0 ∧ p1.toInt ≠ 6 ∧ p1.toInt ≠ 7)) → z_ev (d + 4) 73 95 [some (.ref 4), some (.int p1), some (.int p2), some (.int p3), some (.int s4), some (.int s5)] [] M0 K) (kk : ∀ (x : Int32) (M1 : zH), z_X T zw73 M0 M1 → (-3) ≤ x.toInt → x.toInt ≤ (-1) → ∀ (w0 : Int32), z_F M1 4 5 = some (.int w0) → 0 ≤ w0.toInt ∧ w0.toInt ≤ 20 → ((p1.toInt < 0 ∨ 7 < p1.toInt ∨ ((p1.toInt = 5 ∨ p1.toInt = 6) ∧ (p2.toInt < 0 ∨ 9 < p2.toInt)) ∨ ((p1.toInt = 6 ∨ p1.toInt = 7) ∧ (p3.toInt < 0 ∨ 8 < p3.toInt))) → x.toInt = -1 ∧ w0.toInt = zp0.toInt) → (¬ (p1.toInt < 0 ∨ 7 < p1.toInt ∨ ((p1.toInt = 5 ∨ p1.toInt = 6) ∧ (p2.toInt < 0 ∨ 9 < p2.toInt)) ∨ ((p1.toInt = 6 ∨ p1.toInt = 7) ∧ (p3.toInt < 0 ∨ 8 < p3.toInt))) → 20 ≤ zp0.toInt → x.toInt = -3 ∧ w0.toInt = zp0.toInt) → ((p1.toInt < 0 ∨ 7 < p1.toInt ∨ ((p1.toInt = 5 ∨ p1.toInt = 6) ∧ (p2.toInt < 0 ∨ 9 < p2.toInt)) ∨ ((p1.toInt = 6 ∨ p1.toInt = 7) ∧ (p3.toInt < 0 ∨ 8 < p3.toInt))) ∨ 20 ≤ zp0.toInt) → K (some (.int x)) M1) : z_ev (d + 4) 73 0 [some (.ref 4), some (.int p1), some (.int p2), some (.int p3), none, none] [] M0 K := by
  have X : z_X T zw73 M0 M0 := .refl hW
  refine z_xP zt73 0 1 [some (.ref 4), some (.int p1), some (.int p2), some (.int p3), none, none] [.int p1] rfl rfl ?_
  refine z_xZ zt73 1 rfl rfl (fun (h1 : p1.toInt < 0) => ?_) (fun (h1 : 0 ≤ p1.toInt) => ?_)
  · skip
    refine z_xP zt73 6 13 [some (.ref 4), some (.int p1), some (.int p2), some (.int p3), none, none] [.int (-1)] rfl rfl ?_
    have f4 : T[4]? = some (.inl (0, 0, 0, 0, 0)) := X.1.k rfl (by decide)
    have qm1 : (((-1) : Int32)).toInt = (-1) := rfl
    exact z_xri zt73 7 rfl zzr73 (kk (-1) M0 X (by omega) (by omega) zp0 hz0 ⟨by omega, by omega⟩ (by omega) (by omega) (by omega))
  refine z_xP zt73 2 5 [some (.ref 4), some (.int p1), some (.int p2), some (.int p3), none, none] [.int p1] rfl rfl ?_
  refine z_xgs zt73 3 rfl zo73 zg0_185 ?_
  have f3 : T[3]? = some (.inr (3, 0, 8, (-1), 5)) := X.1.k rfl (by decide)
  refine z_xln zt73 4 rfl X f3 (by decide) (by decide) (fun (x2 : Int32) (h3 : x2.toInt = ((8 : Nat) : Int)) => ?_)
  have h4 := z_b32 p1
  refine z_xJ zt73 5 rfl rfl (fun (h5 : p1.toInt < x2.toInt) => ?_) (fun (h5 : x2.toInt ≤ p1.toInt) => ?_)
  · skip
    refine z_xP zt73 8 16 [some (.ref 4), some (.int p1), some (.int p2), some (.int p3), none, none] [.int 5, .int p1] rfl rfl ?_
    refine z_xJ zt73 9 rfl rfl (fun (h6 : p1.toInt = 5) => ?_) (fun (h6 : p1.toInt ≠ 5) => ?_)
    · skip
      refine z_xP zt73 12 30 [some (.ref 4), some (.int p1), some (.int p2), some (.int p3), none, none] [.int 1] rfl rfl ?_
      refine z_xP zt73 14 35 [some (.ref 4), some (.int p1), some (.int p2), some (.int p3), some (.int 1), none] [.int 6, .int p1] rfl rfl ?_
      refine z_xJ zt73 15 rfl rfl (fun (h7 : p1.toInt = 6) => absurd h7 (by omega)) (fun (h7 : p1.toInt ≠ 6) => ?_)
      refine z_xP zt73 16 41 [some (.ref 4), some (.int p1), some (.int p2), some (.int p3), some (.int 1), none] [.int 7, .int p1] rfl rfl ?_
      refine z_xJ zt73 17 rfl rfl (fun (h8 : p1.toInt ≠ 7) => ?_) (fun (h8 : p1.toInt = 7) => absurd h8 (by omega))
      refine z_xP zt73 19 49 [some (.ref 4), some (.int p1), some (.int p2), some (.int p3), some (.int 1), none] [.int 0] rfl rfl ?_
      refine z_xP zt73 20 53 [some (.ref 4), some (.int p1), some (.int p2), some (.int p3), some (.int 1), some (.int 0)] [.int 1] rfl rfl ?_
      refine z_xZ zt73 21 rfl rfl (fun (h9 : (1 : Int) = 0) => absurd h9 (by omega)) (fun (h9 : (1 : Int) ≠ 0) => ?_)
      refine z_xP zt73 22 57 [some (.ref 4), some (.int p1), some (.int p2), some (.int p3), some (.int 1), some (.int 0)] [.int p2] rfl rfl ?_
      refine z_xZ zt73 23 rfl rfl (fun (h10 : p2.toInt < 0) => ?_) (fun (h10 : 0 ≤ p2.toInt) => ?_)
      · skip
        refine z_xP zt73 32 82 [some (.ref 4), some (.int p1), some (.int p2), some (.int p3), some (.int 1), some (.int 0)] [.int (-1)] rfl rfl ?_
        have f4 : T[4]? = some (.inl (0, 0, 0, 0, 0)) := X.1.k rfl (by decide)
        have qm1 : (((-1) : Int32)).toInt = (-1) := rfl
        exact z_xri zt73 33 rfl zzr73 (kk (-1) M0 X (by omega) (by omega) zp0 hz0 ⟨by omega, by omega⟩ (by omega) (by omega) (by omega))
      refine z_xP zt73 24 63 [some (.ref 4), some (.int p1), some (.int p2), some (.int p3), some (.int 1), some (.int 0)] [.int 9, .int p2] rfl rfl ?_
      refine z_xJ zt73 25 rfl rfl (fun (h11 : 9 < p2.toInt) => ?_) (fun (h11 : p2.toInt ≤ 9) => ?_)
      · skip
        refine z_xP zt73 32 82 [some (.ref 4), some (.int p1), some (.int p2), some (.int p3), some (.int 1), some (.int 0)] [.int (-1)] rfl rfl ?_
        have f4 : T[4]? = some (.inl (0, 0, 0, 0, 0)) := X.1.k rfl (by decide)
        have qm1 : (((-1) : Int32)).toInt = (-1) := rfl
        exact z_xri zt73 33 rfl zzr73 (kk (-1) M0 X (by omega) (by omega) zp0 hz0 ⟨by omega, by omega⟩ (by omega) (by omega) (by omega))
      refine z_xP zt73 26 68 [some (.ref 4), some (.int p1), some (.int p2), some (.int p3), some (.int 1), some (.int 0)] [.int 0] rfl rfl ?_
      refine z_xZ zt73 27 rfl rfl (fun (h12 : (0 : Int) = 0) => ?_) (fun (h12 : (0 : Int) ≠ 0) => absurd h12 (by omega))
      refine z_xP zt73 34 84 [some (.ref 4), some (.int p1), some (.int p2), some (.int p3), some (.int 1), some (.int 0)] [.ref 4] rfl rfl ?_
      have f4 : T[4]? = some (.inl (0, 0, 0, 0, 0)) := X.1.k rfl (by decide)
      refine z_xgv zt73 35 rfl zo73 zzf0_188 X f4 (by decide) hz0 ?_
      refine z_xP zt73 36 89 [some (.ref 4), some (.int p1), some (.int p2), some (.int p3), some (.int 1), some (.int 0)] [.int 20, .int zp0] rfl rfl ?_
      refine z_xJ zt73 37 rfl rfl (fun (h13 : zp0.toInt < 20) => ?_) (fun (h13 : 20 ≤ zp0.toInt) => ?_)
      · skip
        have qz1 : ((1 : Int32)).toInt = 1 := rfl
        have qz0 : ((0 : Int32)).toInt = 0 := rfl
        exact hT 1 0 (by omega) (by omega) (by omega)
      refine z_xP zt73 38 94 [some (.ref 4), some (.int p1), some (.int p2), some (.int p3), some (.int 1), some (.int 0)] [.int (-3)] rfl rfl ?_
      have qm3 : (((-3) : Int32)).toInt = (-3) := rfl
      exact z_xri zt73 39 rfl zzr73 (kk (-3) M0 X (by omega) (by omega) zp0 hz0 ⟨by omega, by omega⟩ (by omega) (by omega) (by omega))
    refine z_xP zt73 10 22 [some (.ref 4), some (.int p1), some (.int p2), some (.int p3), none, none] [.int 6, .int p1] rfl rfl ?_
    refine z_xJ zt73 11 rfl rfl (fun (h14 : p1.toInt ≠ 6) => ?_) (fun (h14 : p1.toInt = 6) => ?_)
    · skip
      refine z_xP zt73 13 30 [some (.ref 4), some (.int p1), some (.int p2), some (.int p3), none, none] [.int 0] rfl rfl ?_
      refine z_xP zt73 14 35 [some (.ref 4), some (.int p1), some (.int p2), some (.int p3), some (.int 0), none] [.int 6, .int p1] rfl rfl ?_
      refine z_xJ zt73 15 rfl rfl (fun (h15 : p1.toInt = 6) => ?_) (fun (h15 : p1.toInt ≠ 6) => ?_)
      · skip
        refine z_xP zt73 18 49 [some (.ref 4), some (.int p1), some (.int p2), some (.int p3), some (.int 0), none] [.int 1] rfl rfl ?_
        refine z_xP zt73 20 53 [some (.ref 4), some (.int p1), some (.int p2), some (.int p3), some (.int 0), some (.int 1)] [.int 0] rfl rfl ?_
        refine z_xZ zt73 21 rfl rfl (fun (h16 : (0 : Int) = 0) => ?_) (fun (h16 : (0 : Int) ≠ 0) => absurd h16 (by omega))
        refine z_xP zt73 26 68 [some (.ref 4), some (.int p1), some (.int p2), some (.int p3), some (.int 0), some (.int 1)] [.int 1] rfl rfl ?_
        refine z_xZ zt73 27 rfl rfl (fun (h17 : (1 : Int) = 0) => absurd h17 (by omega)) (fun (h17 : (1 : Int) ≠ 0) => ?_)
        refine z_xP zt73 28 72 [some (.ref 4), some (.int p1), some (.int p2), some (.int p3), some (.int 0), some (.int 1)] [.int p3] rfl rfl ?_
        refine z_xZ zt73 29 rfl rfl (fun (h18 : p3.toInt < 0) => ?_) (fun (h18 : 0 ≤ p3.toInt) => ?_)
        · skip
          refine z_xP zt73 32 82 [some (.ref 4), some (.int p1), some (.int p2), some (.int p3), some (.int 0), some (.int 1)] [.int (-1)] rfl rfl ?_
          have f4 : T[4]? = some (.inl (0, 0, 0, 0, 0)) := X.1.k rfl (by decide)
          have qm1 : (((-1) : Int32)).toInt = (-1) := rfl
          exact z_xri zt73 33 rfl zzr73 (kk (-1) M0 X (by omega) (by omega) zp0 hz0 ⟨by omega, by omega⟩ (by omega) (by omega) (by omega))
        refine z_xP zt73 30 78 [some (.ref 4), some (.int p1), some (.int p2), some (.int p3), some (.int 0), some (.int 1)] [.int 9, .int p3] rfl rfl ?_
        refine z_xJ zt73 31 rfl rfl (fun (h19 : p3.toInt < 9) => ?_) (fun (h19 : 9 ≤ p3.toInt) => ?_)
        · skip
          refine z_xP zt73 34 84 [some (.ref 4), some (.int p1), some (.int p2), some (.int p3), some (.int 0), some (.int 1)] [.ref 4] rfl rfl ?_
          have f4 : T[4]? = some (.inl (0, 0, 0, 0, 0)) := X.1.k rfl (by decide)
          refine z_xgv zt73 35 rfl zo73 zzf0_188 X f4 (by decide) hz0 ?_
          refine z_xP zt73 36 89 [some (.ref 4), some (.int p1), some (.int p2), some (.int p3), some (.int 0), some (.int 1)] [.int 20, .int zp0] rfl rfl ?_
          refine z_xJ zt73 37 rfl rfl (fun (h20 : zp0.toInt < 20) => ?_) (fun (h20 : 20 ≤ zp0.toInt) => ?_)
          · skip
            have qz0 : ((0 : Int32)).toInt = 0 := rfl
            have qz1 : ((1 : Int32)).toInt = 1 := rfl
            exact hT 0 1 (by omega) (by omega) (by omega)
          refine z_xP zt73 38 94 [some (.ref 4), some (.int p1), some (.int p2), some (.int p3), some (.int 0), some (.int 1)] [.int (-3)] rfl rfl ?_
          have qm3 : (((-3) : Int32)).toInt = (-3) := rfl
          exact z_xri zt73 39 rfl zzr73 (kk (-3) M0 X (by omega) (by omega) zp0 hz0 ⟨by omega, by omega⟩ (by omega) (by omega) (by omega))
        refine z_xP zt73 32 82 [some (.ref 4), some (.int p1), some (.int p2), some (.int p3), some (.int 0), some (.int 1)] [.int (-1)] rfl rfl ?_
        have f4 : T[4]? = some (.inl (0, 0, 0, 0, 0)) := X.1.k rfl (by decide)
        have qm1 : (((-1) : Int32)).toInt = (-1) := rfl
        exact z_xri zt73 33 rfl zzr73 (kk (-1) M0 X (by omega) (by omega) zp0 hz0 ⟨by omega, by omega⟩ (by omega) (by omega) (by omega))
      refine z_xP zt73 16 41 [some (.ref 4), some (.int p1), some (.int p2), some (.int p3), some (.int 0), none] [.int 7, .int p1] rfl rfl ?_
      refine z_xJ zt73 17 rfl rfl (fun (h21 : p1.toInt ≠ 7) => ?_) (fun (h21 : p1.toInt = 7) => ?_)
      · skip
        refine z_xP zt73 19 49 [some (.ref 4), some (.int p1), some (.int p2), some (.int p3), some (.int 0), none] [.int 0] rfl rfl ?_
        refine z_xP zt73 20 53 [some (.ref 4), some (.int p1), some (.int p2), some (.int p3), some (.int 0), some (.int 0)] [.int 0] rfl rfl ?_
        refine z_xZ zt73 21 rfl rfl (fun (h22 : (0 : Int) = 0) => ?_) (fun (h22 : (0 : Int) ≠ 0) => absurd h22 (by omega))
        refine z_xP zt73 26 68 [some (.ref 4), some (.int p1), some (.int p2), some (.int p3), some (.int 0), some (.int 0)] [.int 0] rfl rfl ?_
        refine z_xZ zt73 27 rfl rfl (fun (h23 : (0 : Int) = 0) => ?_) (fun (h23 : (0 : Int) ≠ 0) => absurd h23 (by omega))
        refine z_xP zt73 34 84 [some (.ref 4), some (.int p1), some (.int p2), some (.int p3), some (.int 0), some (.int 0)] [.ref 4] rfl rfl ?_
        have f4 : T[4]? = some (.inl (0, 0, 0, 0, 0)) := X.1.k rfl (by decide)
        refine z_xgv zt73 35 rfl zo73 zzf0_188 X f4 (by decide) hz0 ?_
        refine z_xP zt73 36 89 [some (.ref 4), some (.int p1), some (.int p2), some (.int p3), some (.int 0), some (.int 0)] [.int 20, .int zp0] rfl rfl ?_
        refine z_xJ zt73 37 rfl rfl (fun (h24 : zp0.toInt < 20) => ?_) (fun (h24 : 20 ≤ zp0.toInt) => ?_)
        · skip
          have qz0 : ((0 : Int32)).toInt = 0 := rfl
          have qz0 : ((0 : Int32)).toInt = 0 := rfl
          exact hT 0 0 (by omega) (by omega) (by omega)
        refine z_xP zt73 38 94 [some (.ref 4), some (.int p1), some (.int p2), some (.int p3), some (.int 0), some (.int 0)] [.int (-3)] rfl rfl ?_
        have qm3 : (((-3) : Int32)).toInt = (-3) := rfl
        exact z_xri zt73 39 rfl zzr73 (kk (-3) M0 X (by omega) (by omega) zp0 hz0 ⟨by omega, by omega⟩ (by omega) (by omega) (by omega))
      refine z_xP zt73 18 49 [some (.ref 4), some (.int p1), some (.int p2), some (.int p3), some (.int 0), none] [.int 1] rfl rfl ?_
      refine z_xP zt73 20 53 [some (.ref 4), some (.int p1), some (.int p2), some (.int p3), some (.int 0), some (.int 1)] [.int 0] rfl rfl ?_
      refine z_xZ zt73 21 rfl rfl (fun (h25 : (0 : Int) = 0) => ?_) (fun (h25 : (0 : Int) ≠ 0) => absurd h25 (by omega))
      refine z_xP zt73 26 68 [some (.ref 4), some (.int p1), some (.int p2), some (.int p3), some (.int 0), some (.int 1)] [.int 1] rfl rfl ?_
      refine z_xZ zt73 27 rfl rfl (fun (h26 : (1 : Int) = 0) => absurd h26 (by omega)) (fun (h26 : (1 : Int) ≠ 0) => ?_)
      refine z_xP zt73 28 72 [some (.ref 4), some (.int p1), some (.int p2), some (.int p3), some (.int 0), some (.int 1)] [.int p3] rfl rfl ?_
      refine z_xZ zt73 29 rfl rfl (fun (h27 : p3.toInt < 0) => ?_) (fun (h27 : 0 ≤ p3.toInt) => ?_)
      · skip
        refine z_xP zt73 32 82 [some (.ref 4), some (.int p1), some (.int p2), some (.int p3), some (.int 0), some (.int 1)] [.int (-1)] rfl rfl ?_
        have f4 : T[4]? = some (.inl (0, 0, 0, 0, 0)) := X.1.k rfl (by decide)
        have qm1 : (((-1) : Int32)).toInt = (-1) := rfl
        exact z_xri zt73 33 rfl zzr73 (kk (-1) M0 X (by omega) (by omega) zp0 hz0 ⟨by omega, by omega⟩ (by omega) (by omega) (by omega))
      refine z_xP zt73 30 78 [some (.ref 4), some (.int p1), some (.int p2), some (.int p3), some (.int 0), some (.int 1)] [.int 9, .int p3] rfl rfl ?_
      refine z_xJ zt73 31 rfl rfl (fun (h28 : p3.toInt < 9) => ?_) (fun (h28 : 9 ≤ p3.toInt) => ?_)
      · skip
        refine z_xP zt73 34 84 [some (.ref 4), some (.int p1), some (.int p2), some (.int p3), some (.int 0), some (.int 1)] [.ref 4] rfl rfl ?_
        have f4 : T[4]? = some (.inl (0, 0, 0, 0, 0)) := X.1.k rfl (by decide)
        refine z_xgv zt73 35 rfl zo73 zzf0_188 X f4 (by decide) hz0 ?_
        refine z_xP zt73 36 89 [some (.ref 4), some (.int p1), some (.int p2), some (.int p3), some (.int 0), some (.int 1)] [.int 20, .int zp0] rfl rfl ?_
        refine z_xJ zt73 37 rfl rfl (fun (h29 : zp0.toInt < 20) => ?_) (fun (h29 : 20 ≤ zp0.toInt) => ?_)
        · skip
          have qz0 : ((0 : Int32)).toInt = 0 := rfl
          have qz1 : ((1 : Int32)).toInt = 1 := rfl
          exact hT 0 1 (by omega) (by omega) (by omega)
        refine z_xP zt73 38 94 [some (.ref 4), some (.int p1), some (.int p2), some (.int p3), some (.int 0), some (.int 1)] [.int (-3)] rfl rfl ?_
        have qm3 : (((-3) : Int32)).toInt = (-3) := rfl
        exact z_xri zt73 39 rfl zzr73 (kk (-3) M0 X (by omega) (by omega) zp0 hz0 ⟨by omega, by omega⟩ (by omega) (by omega) (by omega))
      refine z_xP zt73 32 82 [some (.ref 4), some (.int p1), some (.int p2), some (.int p3), some (.int 0), some (.int 1)] [.int (-1)] rfl rfl ?_
      have f4 : T[4]? = some (.inl (0, 0, 0, 0, 0)) := X.1.k rfl (by decide)
      have qm1 : (((-1) : Int32)).toInt = (-1) := rfl
      exact z_xri zt73 33 rfl zzr73 (kk (-1) M0 X (by omega) (by omega) zp0 hz0 ⟨by omega, by omega⟩ (by omega) (by omega) (by omega))
    refine z_xP zt73 12 30 [some (.ref 4), some (.int p1), some (.int p2), some (.int p3), none, none] [.int 1] rfl rfl ?_
    refine z_xP zt73 14 35 [some (.ref 4), some (.int p1), some (.int p2), some (.int p3), some (.int 1), none] [.int 6, .int p1] rfl rfl ?_
    refine z_xJ zt73 15 rfl rfl (fun (h30 : p1.toInt = 6) => ?_) (fun (h30 : p1.toInt ≠ 6) => absurd h30 (by omega))
    refine z_xP zt73 18 49 [some (.ref 4), some (.int p1), some (.int p2), some (.int p3), some (.int 1), none] [.int 1] rfl rfl ?_
    refine z_xP zt73 20 53 [some (.ref 4), some (.int p1), some (.int p2), some (.int p3), some (.int 1), some (.int 1)] [.int 1] rfl rfl ?_
    refine z_xZ zt73 21 rfl rfl (fun (h31 : (1 : Int) = 0) => absurd h31 (by omega)) (fun (h31 : (1 : Int) ≠ 0) => ?_)
    refine z_xP zt73 22 57 [some (.ref 4), some (.int p1), some (.int p2), some (.int p3), some (.int 1), some (.int 1)] [.int p2] rfl rfl ?_
    refine z_xZ zt73 23 rfl rfl (fun (h32 : p2.toInt < 0) => ?_) (fun (h32 : 0 ≤ p2.toInt) => ?_)
    · skip
      refine z_xP zt73 32 82 [some (.ref 4), some (.int p1), some (.int p2), some (.int p3), some (.int 1), some (.int 1)] [.int (-1)] rfl rfl ?_
      have f4 : T[4]? = some (.inl (0, 0, 0, 0, 0)) := X.1.k rfl (by decide)
      have qm1 : (((-1) : Int32)).toInt = (-1) := rfl
      exact z_xri zt73 33 rfl zzr73 (kk (-1) M0 X (by omega) (by omega) zp0 hz0 ⟨by omega, by omega⟩ (by omega) (by omega) (by omega))
    refine z_xP zt73 24 63 [some (.ref 4), some (.int p1), some (.int p2), some (.int p3), some (.int 1), some (.int 1)] [.int 9, .int p2] rfl rfl ?_
    refine z_xJ zt73 25 rfl rfl (fun (h33 : 9 < p2.toInt) => ?_) (fun (h33 : p2.toInt ≤ 9) => ?_)
    · skip
      refine z_xP zt73 32 82 [some (.ref 4), some (.int p1), some (.int p2), some (.int p3), some (.int 1), some (.int 1)] [.int (-1)] rfl rfl ?_
      have f4 : T[4]? = some (.inl (0, 0, 0, 0, 0)) := X.1.k rfl (by decide)
      have qm1 : (((-1) : Int32)).toInt = (-1) := rfl
      exact z_xri zt73 33 rfl zzr73 (kk (-1) M0 X (by omega) (by omega) zp0 hz0 ⟨by omega, by omega⟩ (by omega) (by omega) (by omega))
    refine z_xP zt73 26 68 [some (.ref 4), some (.int p1), some (.int p2), some (.int p3), some (.int 1), some (.int 1)] [.int 1] rfl rfl ?_
    refine z_xZ zt73 27 rfl rfl (fun (h34 : (1 : Int) = 0) => absurd h34 (by omega)) (fun (h34 : (1 : Int) ≠ 0) => ?_)
    refine z_xP zt73 28 72 [some (.ref 4), some (.int p1), some (.int p2), some (.int p3), some (.int 1), some (.int 1)] [.int p3] rfl rfl ?_
    refine z_xZ zt73 29 rfl rfl (fun (h35 : p3.toInt < 0) => ?_) (fun (h35 : 0 ≤ p3.toInt) => ?_)
    · skip
      refine z_xP zt73 32 82 [some (.ref 4), some (.int p1), some (.int p2), some (.int p3), some (.int 1), some (.int 1)] [.int (-1)] rfl rfl ?_
      have f4 : T[4]? = some (.inl (0, 0, 0, 0, 0)) := X.1.k rfl (by decide)
      have qm1 : (((-1) : Int32)).toInt = (-1) := rfl
      exact z_xri zt73 33 rfl zzr73 (kk (-1) M0 X (by omega) (by omega) zp0 hz0 ⟨by omega, by omega⟩ (by omega) (by omega) (by omega))
    refine z_xP zt73 30 78 [some (.ref 4), some (.int p1), some (.int p2), some (.int p3), some (.int 1), some (.int 1)] [.int 9, .int p3] rfl rfl ?_
    refine z_xJ zt73 31 rfl rfl (fun (h36 : p3.toInt < 9) => ?_) (fun (h36 : 9 ≤ p3.toInt) => ?_)
    · skip
      refine z_xP zt73 34 84 [some (.ref 4), some (.int p1), some (.int p2), some (.int p3), some (.int 1), some (.int 1)] [.ref 4] rfl rfl ?_
      have f4 : T[4]? = some (.inl (0, 0, 0, 0, 0)) := X.1.k rfl (by decide)
      refine z_xgv zt73 35 rfl zo73 zzf0_188 X f4 (by decide) hz0 ?_
      refine z_xP zt73 36 89 [some (.ref 4), some (.int p1), some (.int p2), some (.int p3), some (.int 1), some (.int 1)] [.int 20, .int zp0] rfl rfl ?_
      refine z_xJ zt73 37 rfl rfl (fun (h37 : zp0.toInt < 20) => ?_) (fun (h37 : 20 ≤ zp0.toInt) => ?_)
      · skip
        have qz1 : ((1 : Int32)).toInt = 1 := rfl
        have qz1 : ((1 : Int32)).toInt = 1 := rfl
        exact hT 1 1 (by omega) (by omega) (by omega)
      refine z_xP zt73 38 94 [some (.ref 4), some (.int p1), some (.int p2), some (.int p3), some (.int 1), some (.int 1)] [.int (-3)] rfl rfl ?_
      have qm3 : (((-3) : Int32)).toInt = (-3) := rfl
      exact z_xri zt73 39 rfl zzr73 (kk (-3) M0 X (by omega) (by omega) zp0 hz0 ⟨by omega, by omega⟩ (by omega) (by omega) (by omega))
    refine z_xP zt73 32 82 [some (.ref 4), some (.int p1), some (.int p2), some (.int p3), some (.int 1), some (.int 1)] [.int (-1)] rfl rfl ?_
    have f4 : T[4]? = some (.inl (0, 0, 0, 0, 0)) := X.1.k rfl (by decide)
    have qm1 : (((-1) : Int32)).toInt = (-1) := rfl
    exact z_xri zt73 33 rfl zzr73 (kk (-1) M0 X (by omega) (by omega) zp0 hz0 ⟨by omega, by omega⟩ (by omega) (by omega) (by omega))
  refine z_xP zt73 6 13 [some (.ref 4), some (.int p1), some (.int p2), some (.int p3), none, none] [.int (-1)] rfl rfl ?_
  have f4 : T[4]? = some (.inl (0, 0, 0, 0, 0)) := X.1.k rfl (by decide)
  have qm1 : (((-1) : Int32)).toInt = (-1) := rfl
  exact z_xri zt73 7 rfl zzr73 (kk (-1) M0 X (by omega) (by omega) zp0 hz0 ⟨by omega, by omega⟩ (by omega) (by omega) (by omega))
theorem zU235 {T : List zK} {d : Nat} {K : Option Value → zH → Prop} {p1 : Int32} {p2 : Int32} {p3 : Int32} {zp0 : Int32} {M0 : zH} (hW : z_W M0 T) (hz0 : z_F M0 19 21 = some (.int zp0)) (bz0 : 0 ≤ zp0.toInt ∧ zp0.toInt ≤ 20) (kk : ∀ (x : Int32) (M1 : zH), z_X T zw235 M0 M1 → (-3) ≤ x.toInt → x.toInt ≤ 19 → ∀ (w0 : Int32), z_F M1 19 21 = some (.int w0) → 0 ≤ w0.toInt ∧ w0.toInt ≤ 20 → ((p1.toInt < 0 ∨ 7 < p1.toInt ∨ ((p1.toInt = 5 ∨ p1.toInt = 6) ∧ (p2.toInt < 0 ∨ 9 < p2.toInt)) ∨ ((p1.toInt = 6 ∨ p1.toInt = 7) ∧ (p3.toInt < 0 ∨ 8 < p3.toInt))) → x.toInt = -1 ∧ w0.toInt = zp0.toInt) → (¬ (p1.toInt < 0 ∨ 7 < p1.toInt ∨ ((p1.toInt = 5 ∨ p1.toInt = 6) ∧ (p2.toInt < 0 ∨ 9 < p2.toInt)) ∨ ((p1.toInt = 6 ∨ p1.toInt = 7) ∧ (p3.toInt < 0 ∨ 8 < p3.toInt))) → 20 ≤ zp0.toInt → x.toInt = -3 ∧ w0.toInt = zp0.toInt) → (¬ (p1.toInt < 0 ∨ 7 < p1.toInt ∨ ((p1.toInt = 5 ∨ p1.toInt = 6) ∧ (p2.toInt < 0 ∨ 9 < p2.toInt)) ∨ ((p1.toInt = 6 ∨ p1.toInt = 7) ∧ (p3.toInt < 0 ∨ 8 < p3.toInt))) → zp0.toInt < 20 → x.toInt = zp0.toInt ∧ w0.toInt = zp0.toInt + 1) → K (some (.int x)) M1) : z_ev (d + 1) 235 0 [some (.ref 19), some (.int p1), some (.int p2), some (.int p3)] [] M0 K := by
  have X : z_X T zw235 M0 M0 := .refl hW
  refine z_xP zt235 0 1 [some (.ref 19), some (.int p1), some (.int p2), some (.int p3)] [.int p1] rfl rfl ?_
  have h1 := z_b32 p1
  refine z_xL zt235 1 rfl rfl (fun (y2 : Int64) (h3 : y2.toInt = p1.toInt) => ?_) (z_qI2L rfl)
  refine z_xP zt235 2 3 [some (.ref 19), some (.int p1), some (.int p2), some (.int p3)] [.long 0, .long y2] rfl rfl ?_
  refine z_xl2 zt235 3 rfl zo235 zkl12_265 ?_
  refine z_xcS (vs := [.long y2, .long 0, .long 7]) (r := []) (L2 := [some (.long y2), none, some (.long 0), none, some (.long 7), none]) zt235 4 rfl zo235 zzcS12_116 (Or.inl rfl) (Nat.le_of_ble_eq_true rfl) rfl rfl (Nat.le_of_ble_eq_true rfl) zzm189 (Nat.le_of_ble_eq_true rfl) rfl ?_
  refine z_xP zt189 0 2 [some (.long y2), none, some (.long 0), none, some (.long 7), none] [.long 0, .long y2] rfl rfl ?_
  refine z_xI zt189 1 rfl rfl (fun (x4 : Int32) (h5 : (x4.toInt < 0 ∧ y2.toInt < 0) ∨ (x4.toInt = 0 ∧ y2.toInt = 0) ∨ (0 < x4.toInt ∧ 0 < y2.toInt)) => ?_) (z_qCmp rfl rfl)
  refine z_xZ zt189 2 rfl rfl (fun (h6 : x4.toInt < 0) => ?_) (fun (h6 : 0 ≤ x4.toInt) => ?_)
  · skip
    refine z_xP zt189 7 18 [some (.long y2), none, some (.long 0), none, some (.long 7), none] [.int 0] rfl rfl ?_
    refine z_xrz zt189 8 rfl zzr189 (by decide) (by decide) ?_
    show z_ev (d + 1) 235 9 [some (.ref 19), some (.int p1), some (.int p2), some (.int p3)] [.int 0] M0 _
    refine z_xZ zt235 5 rfl rfl (fun (h7 : (0 : Int) = 0) => ?_) (fun (h7 : (0 : Int) ≠ 0) => absurd h7 (by omega))
    refine z_xP zt235 26 60 [some (.ref 19), some (.int p1), some (.int p2), some (.int p3)] [.int (-1)] rfl rfl ?_
    have f19 : T[19]? = some (.inl (12, 0, 0, 0, 0)) := X.1.k rfl (by decide)
    have qm1 : (((-1) : Int32)).toInt = (-1) := rfl
    exact z_xri zt235 27 rfl zzr235 (kk (-1) M0 X (by omega) (by omega) zp0 hz0 ⟨by omega, by omega⟩ (by omega) (by omega) (by omega))
  refine z_xP zt189 3 9 [some (.long y2), none, some (.long 0), none, some (.long 7), none] [.long 7, .long y2] rfl rfl ?_
  refine z_xI zt189 4 rfl rfl (fun (x8 : Int32) (h9 : (x8.toInt < 0 ∧ y2.toInt < 7) ∨ (x8.toInt = 0 ∧ y2.toInt = 7) ∨ (0 < x8.toInt ∧ 7 < y2.toInt)) => ?_) (z_qCmp rfl rfl)
  refine z_xZ zt189 5 rfl rfl (fun (h10 : 0 < x8.toInt) => ?_) (fun (h10 : x8.toInt ≤ 0) => ?_)
  · skip
    refine z_xP zt189 7 18 [some (.long y2), none, some (.long 0), none, some (.long 7), none] [.int 0] rfl rfl ?_
    refine z_xrz zt189 8 rfl zzr189 (by decide) (by decide) ?_
    show z_ev (d + 1) 235 9 [some (.ref 19), some (.int p1), some (.int p2), some (.int p3)] [.int 0] M0 _
    refine z_xZ zt235 5 rfl rfl (fun (h11 : (0 : Int) = 0) => ?_) (fun (h11 : (0 : Int) ≠ 0) => absurd h11 (by omega))
    refine z_xP zt235 26 60 [some (.ref 19), some (.int p1), some (.int p2), some (.int p3)] [.int (-1)] rfl rfl ?_
    have f19 : T[19]? = some (.inl (12, 0, 0, 0, 0)) := X.1.k rfl (by decide)
    have qm1 : (((-1) : Int32)).toInt = (-1) := rfl
    exact z_xri zt235 27 rfl zzr235 (kk (-1) M0 X (by omega) (by omega) zp0 hz0 ⟨by omega, by omega⟩ (by omega) (by omega) (by omega))
  refine z_xP zt189 6 18 [some (.long y2), none, some (.long 0), none, some (.long 7), none] [.int 1] rfl rfl ?_
  refine z_xrz zt189 8 rfl zzr189 (by decide) (by decide) ?_
  show z_ev (d + 1) 235 9 [some (.ref 19), some (.int p1), some (.int p2), some (.int p3)] [.int 1] M0 _
  refine z_xZ zt235 5 rfl rfl (fun (h12 : (1 : Int) = 0) => absurd h12 (by omega)) (fun (h12 : (1 : Int) ≠ 0) => ?_)
  refine z_xP zt235 6 14 [some (.ref 19), some (.int p1), some (.int p2), some (.int p3)] [.int 5, .int p1] rfl rfl ?_
  refine z_xJ zt235 7 rfl rfl (fun (h13 : p1.toInt = 5) => ?_) (fun (h13 : p1.toInt ≠ 5) => ?_)
  · skip
    refine z_xP zt235 10 24 [some (.ref 19), some (.int p1), some (.int p2), some (.int p3)] [.int p2] rfl rfl ?_
    have h14 := z_b32 p2
    refine z_xL zt235 11 rfl rfl (fun (y15 : Int64) (h16 : y15.toInt = p2.toInt) => ?_) (z_qI2L rfl)
    refine z_xP zt235 12 26 [some (.ref 19), some (.int p1), some (.int p2), some (.int p3)] [.long 0, .long y15] rfl rfl ?_
    refine z_xl2 zt235 13 rfl zo235 zkl12_232 ?_
    refine z_xcS (vs := [.long y15, .long 0, .long 9]) (r := []) (L2 := [some (.long y15), none, some (.long 0), none, some (.long 9), none]) zt235 14 rfl zo235 zzcS12_116 (Or.inl rfl) (Nat.le_of_ble_eq_true rfl) rfl rfl (Nat.le_of_ble_eq_true rfl) zzm189 (Nat.le_of_ble_eq_true rfl) rfl ?_
    refine z_xP zt189 0 2 [some (.long y15), none, some (.long 0), none, some (.long 9), none] [.long 0, .long y15] rfl rfl ?_
    refine z_xI zt189 1 rfl rfl (fun (x17 : Int32) (h18 : (x17.toInt < 0 ∧ y15.toInt < 0) ∨ (x17.toInt = 0 ∧ y15.toInt = 0) ∨ (0 < x17.toInt ∧ 0 < y15.toInt)) => ?_) (z_qCmp rfl rfl)
    refine z_xZ zt189 2 rfl rfl (fun (h19 : x17.toInt < 0) => ?_) (fun (h19 : 0 ≤ x17.toInt) => ?_)
    · skip
      refine z_xP zt189 7 18 [some (.long y15), none, some (.long 0), none, some (.long 9), none] [.int 0] rfl rfl ?_
      refine z_xrz zt189 8 rfl zzr189 (by decide) (by decide) ?_
      show z_ev (d + 1) 235 32 [some (.ref 19), some (.int p1), some (.int p2), some (.int p3)] [.int 0] M0 _
      refine z_xZ zt235 15 rfl rfl (fun (h20 : (0 : Int) = 0) => ?_) (fun (h20 : (0 : Int) ≠ 0) => absurd h20 (by omega))
      refine z_xP zt235 26 60 [some (.ref 19), some (.int p1), some (.int p2), some (.int p3)] [.int (-1)] rfl rfl ?_
      have f19 : T[19]? = some (.inl (12, 0, 0, 0, 0)) := X.1.k rfl (by decide)
      have qm1 : (((-1) : Int32)).toInt = (-1) := rfl
      exact z_xri zt235 27 rfl zzr235 (kk (-1) M0 X (by omega) (by omega) zp0 hz0 ⟨by omega, by omega⟩ (by omega) (by omega) (by omega))
    refine z_xP zt189 3 9 [some (.long y15), none, some (.long 0), none, some (.long 9), none] [.long 9, .long y15] rfl rfl ?_
    refine z_xI zt189 4 rfl rfl (fun (x21 : Int32) (h22 : (x21.toInt < 0 ∧ y15.toInt < 9) ∨ (x21.toInt = 0 ∧ y15.toInt = 9) ∨ (0 < x21.toInt ∧ 9 < y15.toInt)) => ?_) (z_qCmp rfl rfl)
    refine z_xZ zt189 5 rfl rfl (fun (h23 : 0 < x21.toInt) => ?_) (fun (h23 : x21.toInt ≤ 0) => ?_)
    · skip
      refine z_xP zt189 7 18 [some (.long y15), none, some (.long 0), none, some (.long 9), none] [.int 0] rfl rfl ?_
      refine z_xrz zt189 8 rfl zzr189 (by decide) (by decide) ?_
      show z_ev (d + 1) 235 32 [some (.ref 19), some (.int p1), some (.int p2), some (.int p3)] [.int 0] M0 _
      refine z_xZ zt235 15 rfl rfl (fun (h24 : (0 : Int) = 0) => ?_) (fun (h24 : (0 : Int) ≠ 0) => absurd h24 (by omega))
      refine z_xP zt235 26 60 [some (.ref 19), some (.int p1), some (.int p2), some (.int p3)] [.int (-1)] rfl rfl ?_
      have f19 : T[19]? = some (.inl (12, 0, 0, 0, 0)) := X.1.k rfl (by decide)
      have qm1 : (((-1) : Int32)).toInt = (-1) := rfl
      exact z_xri zt235 27 rfl zzr235 (kk (-1) M0 X (by omega) (by omega) zp0 hz0 ⟨by omega, by omega⟩ (by omega) (by omega) (by omega))
    refine z_xP zt189 6 18 [some (.long y15), none, some (.long 0), none, some (.long 9), none] [.int 1] rfl rfl ?_
    refine z_xrz zt189 8 rfl zzr189 (by decide) (by decide) ?_
    show z_ev (d + 1) 235 32 [some (.ref 19), some (.int p1), some (.int p2), some (.int p3)] [.int 1] M0 _
    refine z_xZ zt235 15 rfl rfl (fun (h25 : (1 : Int) = 0) => absurd h25 (by omega)) (fun (h25 : (1 : Int) ≠ 0) => ?_)
    refine z_xP zt235 16 38 [some (.ref 19), some (.int p1), some (.int p2), some (.int p3)] [.int 6, .int p1] rfl rfl ?_
    refine z_xJ zt235 17 rfl rfl (fun (h26 : p1.toInt = 6) => absurd h26 (by omega)) (fun (h26 : p1.toInt ≠ 6) => ?_)
    refine z_xP zt235 18 44 [some (.ref 19), some (.int p1), some (.int p2), some (.int p3)] [.int 7, .int p1] rfl rfl ?_
    refine z_xJ zt235 19 rfl rfl (fun (h27 : p1.toInt ≠ 7) => ?_) (fun (h27 : p1.toInt = 7) => absurd h27 (by omega))
    refine z_xP zt235 28 62 [some (.ref 19), some (.int p1), some (.int p2), some (.int p3)] [.ref 19] rfl rfl ?_
    have f19 : T[19]? = some (.inl (12, 0, 0, 0, 0)) := X.1.k rfl (by decide)
    refine z_xgv zt235 29 rfl zo235 zzf12_269 X f19 (by decide) hz0 ?_
    refine z_xP zt235 30 67 [some (.ref 19), some (.int p1), some (.int p2), some (.int p3)] [.int 20, .int zp0] rfl rfl ?_
    refine z_xJ zt235 31 rfl rfl (fun (h28 : zp0.toInt ≠ 20) => ?_) (fun (h28 : zp0.toInt = 20) => ?_)
    · skip
      refine z_xP zt235 34 74 [some (.ref 19), some (.int p1), some (.int p2), some (.int p3)] [.ref 19] rfl rfl ?_
      refine z_xgX (b := 36) zt235 35 rfl zo235 zzf12_58 X f19 (by decide) (by decide) rfl ?_
      refine z_xP zt235 36 78 [some (.ref 19), some (.int p1), some (.int p2), some (.int p3)] [.ref 19, .ref 36] rfl rfl ?_
      refine z_xgv zt235 37 rfl zo235 zzf12_269 X f19 (by decide) hz0 ?_
      refine z_xP zt235 38 82 [some (.ref 19), some (.int p1), some (.int p2), some (.int p3)] [.int p1, .int zp0, .ref 36] rfl rfl ?_
      have f36 : T[36]? = some (.inr (36, 0, 20, 0, 7)) := X.1.k rfl (by decide)
      refine z_xis zt235 39 rfl X f36 (by decide) (by decide) (by omega) (by omega) (by omega) (by omega) (by decide) (fun M29 X30 e31 h32 => ?_)
      refine z_xP zt235 40 84 [some (.ref 19), some (.int p1), some (.int p2), some (.int p3)] [.ref 19] rfl rfl ?_
      refine z_xgX (b := 37) zt235 41 rfl zo235 zzf12_61 X30 f19 (by decide) (by decide) rfl ?_
      refine z_xP zt235 42 88 [some (.ref 19), some (.int p1), some (.int p2), some (.int p3)] [.ref 19, .ref 37] rfl rfl ?_
      have h33 := (e31.f f19 (by decide) hz0)
      refine z_xgv zt235 43 rfl zo235 zzf12_269 X30 f19 (by decide) h33 ?_
      refine z_xP zt235 44 93 [some (.ref 19), some (.int p1), some (.int p2), some (.int p3)] [.int 5, .int p1, .int zp0, .ref 37] rfl rfl ?_
      refine z_xJ zt235 45 rfl rfl (fun (h34 : p1.toInt = 5) => ?_) (fun (h34 : p1.toInt ≠ 5) => absurd h34 (by omega))
      refine z_xP zt235 48 107 [some (.ref 19), some (.int p1), some (.int p2), some (.int p3)] [.int p2, .int zp0, .ref 37] rfl rfl ?_
      have f37 : T[37]? = some (.inr (37, 0, 20, 0, 9)) := X30.1.k rfl (by decide)
      refine z_xis zt235 50 rfl X30 f37 (by decide) (by decide) (by omega) (by omega) (by omega) (by omega) (by decide) (fun M35 X36 e37 h38 => ?_)
      refine z_xP zt235 51 109 [some (.ref 19), some (.int p1), some (.int p2), some (.int p3)] [.ref 19] rfl rfl ?_
      refine z_xgX (b := 38) zt235 52 rfl zo235 zzf12_64 X36 f19 (by decide) (by decide) rfl ?_
      refine z_xP zt235 53 113 [some (.ref 19), some (.int p1), some (.int p2), some (.int p3)] [.ref 19, .ref 38] rfl rfl ?_
      have h39 := (e37.f f19 (by decide) h33)
      refine z_xgv zt235 54 rfl zo235 zzf12_269 X36 f19 (by decide) h39 ?_
      refine z_xP zt235 55 119 [some (.ref 19), some (.int p1), some (.int p2), some (.int p3)] [.int 6, .int p1, .int zp0, .ref 38] rfl rfl ?_
      refine z_xJ zt235 56 rfl rfl (fun (h40 : p1.toInt = 6) => absurd h40 (by omega)) (fun (h40 : p1.toInt ≠ 6) => ?_)
      refine z_xP zt235 57 125 [some (.ref 19), some (.int p1), some (.int p2), some (.int p3)] [.int 7, .int p1, .int zp0, .ref 38] rfl rfl ?_
      refine z_xJ zt235 58 rfl rfl (fun (h41 : p1.toInt ≠ 7) => ?_) (fun (h41 : p1.toInt = 7) => absurd h41 (by omega))
      refine z_xP zt235 60 133 [some (.ref 19), some (.int p1), some (.int p2), some (.int p3)] [.int 0, .int zp0, .ref 38] rfl rfl ?_
      have f38 : T[38]? = some (.inr (38, 0, 20, 0, 8)) := X36.1.k rfl (by decide)
      have q0 : ((0 : Int32)).toInt = 0 := rfl
      refine z_xis zt235 61 rfl X36 f38 (by decide) (by decide) (by omega) (by omega) (by omega) (by omega) (by decide) (fun M42 X43 e44 h45 => ?_)
      refine z_xP zt235 62 136 [some (.ref 19), some (.int p1), some (.int p2), some (.int p3)] [.ref 19, .ref 19] rfl rfl ?_
      have h46 := (e44.f f19 (by decide) h39)
      refine z_xgv zt235 63 rfl zo235 zzf12_269 X43 f19 (by decide) h46 ?_
      refine z_xP zt235 64 140 [some (.ref 19), some (.int p1), some (.int p2), some (.int p3)] [.int 1, .int zp0, .ref 19] rfl rfl ?_
      refine z_xI zt235 65 rfl rfl (fun (x47 : Int32) (h48 : x47.toInt = zp0.toInt + 1) => ?_) (z_pAdd rfl rfl (by omega) (by omega))
      refine z_xpf zt235 66 rfl zo235 zzf12_269 X43 f19 (by decide) (by decide) ⟨by omega, by omega⟩ rfl (by decide) zw12_21 (fun M49 X50 e51 h52 => ?_)
      refine z_xP zt235 67 145 [some (.ref 19), some (.int p1), some (.int p2), some (.int p3)] [.ref 19] rfl rfl ?_
      refine z_xgv zt235 68 rfl zo235 zzf12_269 X50 f19 (by decide) h52 ?_
      refine z_xP zt235 69 149 [some (.ref 19), some (.int p1), some (.int p2), some (.int p3)] [.int 1, .int x47] rfl rfl ?_
      refine z_xI zt235 70 rfl rfl (fun (x53 : Int32) (h54 : x53.toInt = x47.toInt - 1) => ?_) (z_pSub rfl rfl (by omega) (by omega))
      exact z_xri zt235 71 rfl zzr235 (kk x53 M49 X50 (by omega) (by omega) x47 h52 ⟨by omega, by omega⟩ (by omega) (by omega) (by omega))
    refine z_xP zt235 32 72 [some (.ref 19), some (.int p1), some (.int p2), some (.int p3)] [.int (-3)] rfl rfl ?_
    have qm3 : (((-3) : Int32)).toInt = (-3) := rfl
    exact z_xri zt235 33 rfl zzr235 (kk (-3) M0 X (by omega) (by omega) zp0 hz0 ⟨by omega, by omega⟩ (by omega) (by omega) (by omega))
  refine z_xP zt235 8 20 [some (.ref 19), some (.int p1), some (.int p2), some (.int p3)] [.int 6, .int p1] rfl rfl ?_
  refine z_xJ zt235 9 rfl rfl (fun (h55 : p1.toInt ≠ 6) => ?_) (fun (h55 : p1.toInt = 6) => ?_)
  · skip
    refine z_xP zt235 16 38 [some (.ref 19), some (.int p1), some (.int p2), some (.int p3)] [.int 6, .int p1] rfl rfl ?_
    refine z_xJ zt235 17 rfl rfl (fun (h56 : p1.toInt = 6) => ?_) (fun (h56 : p1.toInt ≠ 6) => ?_)
    · skip
      refine z_xP zt235 20 48 [some (.ref 19), some (.int p1), some (.int p2), some (.int p3)] [.int p3] rfl rfl ?_
      have h57 := z_b32 p3
      refine z_xL zt235 21 rfl rfl (fun (y58 : Int64) (h59 : y58.toInt = p3.toInt) => ?_) (z_qI2L rfl)
      refine z_xP zt235 22 50 [some (.ref 19), some (.int p1), some (.int p2), some (.int p3)] [.long 0, .long y58] rfl rfl ?_
      refine z_xl2 zt235 23 rfl zo235 zkl12_267 ?_
      refine z_xcS (vs := [.long y58, .long 0, .long 8]) (r := []) (L2 := [some (.long y58), none, some (.long 0), none, some (.long 8), none]) zt235 24 rfl zo235 zzcS12_116 (Or.inl rfl) (Nat.le_of_ble_eq_true rfl) rfl rfl (Nat.le_of_ble_eq_true rfl) zzm189 (Nat.le_of_ble_eq_true rfl) rfl ?_
      refine z_xP zt189 0 2 [some (.long y58), none, some (.long 0), none, some (.long 8), none] [.long 0, .long y58] rfl rfl ?_
      refine z_xI zt189 1 rfl rfl (fun (x60 : Int32) (h61 : (x60.toInt < 0 ∧ y58.toInt < 0) ∨ (x60.toInt = 0 ∧ y58.toInt = 0) ∨ (0 < x60.toInt ∧ 0 < y58.toInt)) => ?_) (z_qCmp rfl rfl)
      refine z_xZ zt189 2 rfl rfl (fun (h62 : x60.toInt < 0) => ?_) (fun (h62 : 0 ≤ x60.toInt) => ?_)
      · skip
        refine z_xP zt189 7 18 [some (.long y58), none, some (.long 0), none, some (.long 8), none] [.int 0] rfl rfl ?_
        refine z_xrz zt189 8 rfl zzr189 (by decide) (by decide) ?_
        show z_ev (d + 1) 235 56 [some (.ref 19), some (.int p1), some (.int p2), some (.int p3)] [.int 0] M0 _
        refine z_xZ zt235 25 rfl rfl (fun (h63 : (0 : Int) ≠ 0) => absurd h63 (by omega)) (fun (h63 : (0 : Int) = 0) => ?_)
        refine z_xP zt235 26 60 [some (.ref 19), some (.int p1), some (.int p2), some (.int p3)] [.int (-1)] rfl rfl ?_
        have f19 : T[19]? = some (.inl (12, 0, 0, 0, 0)) := X.1.k rfl (by decide)
        have qm1 : (((-1) : Int32)).toInt = (-1) := rfl
        exact z_xri zt235 27 rfl zzr235 (kk (-1) M0 X (by omega) (by omega) zp0 hz0 ⟨by omega, by omega⟩ (by omega) (by omega) (by omega))
      refine z_xP zt189 3 9 [some (.long y58), none, some (.long 0), none, some (.long 8), none] [.long 8, .long y58] rfl rfl ?_
      refine z_xI zt189 4 rfl rfl (fun (x64 : Int32) (h65 : (x64.toInt < 0 ∧ y58.toInt < 8) ∨ (x64.toInt = 0 ∧ y58.toInt = 8) ∨ (0 < x64.toInt ∧ 8 < y58.toInt)) => ?_) (z_qCmp rfl rfl)
      refine z_xZ zt189 5 rfl rfl (fun (h66 : 0 < x64.toInt) => ?_) (fun (h66 : x64.toInt ≤ 0) => ?_)
      · skip
        refine z_xP zt189 7 18 [some (.long y58), none, some (.long 0), none, some (.long 8), none] [.int 0] rfl rfl ?_
        refine z_xrz zt189 8 rfl zzr189 (by decide) (by decide) ?_
        show z_ev (d + 1) 235 56 [some (.ref 19), some (.int p1), some (.int p2), some (.int p3)] [.int 0] M0 _
        refine z_xZ zt235 25 rfl rfl (fun (h67 : (0 : Int) ≠ 0) => absurd h67 (by omega)) (fun (h67 : (0 : Int) = 0) => ?_)
        refine z_xP zt235 26 60 [some (.ref 19), some (.int p1), some (.int p2), some (.int p3)] [.int (-1)] rfl rfl ?_
        have f19 : T[19]? = some (.inl (12, 0, 0, 0, 0)) := X.1.k rfl (by decide)
        have qm1 : (((-1) : Int32)).toInt = (-1) := rfl
        exact z_xri zt235 27 rfl zzr235 (kk (-1) M0 X (by omega) (by omega) zp0 hz0 ⟨by omega, by omega⟩ (by omega) (by omega) (by omega))
      refine z_xP zt189 6 18 [some (.long y58), none, some (.long 0), none, some (.long 8), none] [.int 1] rfl rfl ?_
      refine z_xrz zt189 8 rfl zzr189 (by decide) (by decide) ?_
      show z_ev (d + 1) 235 56 [some (.ref 19), some (.int p1), some (.int p2), some (.int p3)] [.int 1] M0 _
      refine z_xZ zt235 25 rfl rfl (fun (h68 : (1 : Int) ≠ 0) => ?_) (fun (h68 : (1 : Int) = 0) => absurd h68 (by omega))
      refine z_xP zt235 28 62 [some (.ref 19), some (.int p1), some (.int p2), some (.int p3)] [.ref 19] rfl rfl ?_
      have f19 : T[19]? = some (.inl (12, 0, 0, 0, 0)) := X.1.k rfl (by decide)
      refine z_xgv zt235 29 rfl zo235 zzf12_269 X f19 (by decide) hz0 ?_
      refine z_xP zt235 30 67 [some (.ref 19), some (.int p1), some (.int p2), some (.int p3)] [.int 20, .int zp0] rfl rfl ?_
      refine z_xJ zt235 31 rfl rfl (fun (h69 : zp0.toInt ≠ 20) => ?_) (fun (h69 : zp0.toInt = 20) => ?_)
      · skip
        refine z_xP zt235 34 74 [some (.ref 19), some (.int p1), some (.int p2), some (.int p3)] [.ref 19] rfl rfl ?_
        refine z_xgX (b := 36) zt235 35 rfl zo235 zzf12_58 X f19 (by decide) (by decide) rfl ?_
        refine z_xP zt235 36 78 [some (.ref 19), some (.int p1), some (.int p2), some (.int p3)] [.ref 19, .ref 36] rfl rfl ?_
        refine z_xgv zt235 37 rfl zo235 zzf12_269 X f19 (by decide) hz0 ?_
        refine z_xP zt235 38 82 [some (.ref 19), some (.int p1), some (.int p2), some (.int p3)] [.int p1, .int zp0, .ref 36] rfl rfl ?_
        have f36 : T[36]? = some (.inr (36, 0, 20, 0, 7)) := X.1.k rfl (by decide)
        refine z_xis zt235 39 rfl X f36 (by decide) (by decide) (by omega) (by omega) (by omega) (by omega) (by decide) (fun M70 X71 e72 h73 => ?_)
        refine z_xP zt235 40 84 [some (.ref 19), some (.int p1), some (.int p2), some (.int p3)] [.ref 19] rfl rfl ?_
        refine z_xgX (b := 37) zt235 41 rfl zo235 zzf12_61 X71 f19 (by decide) (by decide) rfl ?_
        refine z_xP zt235 42 88 [some (.ref 19), some (.int p1), some (.int p2), some (.int p3)] [.ref 19, .ref 37] rfl rfl ?_
        have h74 := (e72.f f19 (by decide) hz0)
        refine z_xgv zt235 43 rfl zo235 zzf12_269 X71 f19 (by decide) h74 ?_
        refine z_xP zt235 44 93 [some (.ref 19), some (.int p1), some (.int p2), some (.int p3)] [.int 5, .int p1, .int zp0, .ref 37] rfl rfl ?_
        refine z_xJ zt235 45 rfl rfl (fun (h75 : p1.toInt = 5) => absurd h75 (by omega)) (fun (h75 : p1.toInt ≠ 5) => ?_)
        refine z_xP zt235 46 99 [some (.ref 19), some (.int p1), some (.int p2), some (.int p3)] [.int 6, .int p1, .int zp0, .ref 37] rfl rfl ?_
        refine z_xJ zt235 47 rfl rfl (fun (h76 : p1.toInt ≠ 6) => absurd h76 (by omega)) (fun (h76 : p1.toInt = 6) => ?_)
        refine z_xP zt235 48 107 [some (.ref 19), some (.int p1), some (.int p2), some (.int p3)] [.int p2, .int zp0, .ref 37] rfl rfl ?_
        have f37 : T[37]? = some (.inr (37, 0, 20, 0, 9)) := X71.1.k rfl (by decide)
        refine z_xis zt235 50 rfl X71 f37 (by decide) (by decide) (by omega) (by omega) (by omega) (by omega) (by decide) (fun M77 X78 e79 h80 => ?_)
        refine z_xP zt235 51 109 [some (.ref 19), some (.int p1), some (.int p2), some (.int p3)] [.ref 19] rfl rfl ?_
        refine z_xgX (b := 38) zt235 52 rfl zo235 zzf12_64 X78 f19 (by decide) (by decide) rfl ?_
        refine z_xP zt235 53 113 [some (.ref 19), some (.int p1), some (.int p2), some (.int p3)] [.ref 19, .ref 38] rfl rfl ?_
        have h81 := (e79.f f19 (by decide) h74)
        refine z_xgv zt235 54 rfl zo235 zzf12_269 X78 f19 (by decide) h81 ?_
        refine z_xP zt235 55 119 [some (.ref 19), some (.int p1), some (.int p2), some (.int p3)] [.int 6, .int p1, .int zp0, .ref 38] rfl rfl ?_
        refine z_xJ zt235 56 rfl rfl (fun (h82 : p1.toInt = 6) => ?_) (fun (h82 : p1.toInt ≠ 6) => absurd h82 (by omega))
        refine z_xP zt235 59 133 [some (.ref 19), some (.int p1), some (.int p2), some (.int p3)] [.int p3, .int zp0, .ref 38] rfl rfl ?_
        have f38 : T[38]? = some (.inr (38, 0, 20, 0, 8)) := X78.1.k rfl (by decide)
        refine z_xis zt235 61 rfl X78 f38 (by decide) (by decide) (by omega) (by omega) (by omega) (by omega) (by decide) (fun M83 X84 e85 h86 => ?_)
        refine z_xP zt235 62 136 [some (.ref 19), some (.int p1), some (.int p2), some (.int p3)] [.ref 19, .ref 19] rfl rfl ?_
        have h87 := (e85.f f19 (by decide) h81)
        refine z_xgv zt235 63 rfl zo235 zzf12_269 X84 f19 (by decide) h87 ?_
        refine z_xP zt235 64 140 [some (.ref 19), some (.int p1), some (.int p2), some (.int p3)] [.int 1, .int zp0, .ref 19] rfl rfl ?_
        refine z_xI zt235 65 rfl rfl (fun (x88 : Int32) (h89 : x88.toInt = zp0.toInt + 1) => ?_) (z_pAdd rfl rfl (by omega) (by omega))
        refine z_xpf zt235 66 rfl zo235 zzf12_269 X84 f19 (by decide) (by decide) ⟨by omega, by omega⟩ rfl (by decide) zw12_21 (fun M90 X91 e92 h93 => ?_)
        refine z_xP zt235 67 145 [some (.ref 19), some (.int p1), some (.int p2), some (.int p3)] [.ref 19] rfl rfl ?_
        refine z_xgv zt235 68 rfl zo235 zzf12_269 X91 f19 (by decide) h93 ?_
        refine z_xP zt235 69 149 [some (.ref 19), some (.int p1), some (.int p2), some (.int p3)] [.int 1, .int x88] rfl rfl ?_
        refine z_xI zt235 70 rfl rfl (fun (x94 : Int32) (h95 : x94.toInt = x88.toInt - 1) => ?_) (z_pSub rfl rfl (by omega) (by omega))
        exact z_xri zt235 71 rfl zzr235 (kk x94 M90 X91 (by omega) (by omega) x88 h93 ⟨by omega, by omega⟩ (by omega) (by omega) (by omega))
      refine z_xP zt235 32 72 [some (.ref 19), some (.int p1), some (.int p2), some (.int p3)] [.int (-3)] rfl rfl ?_
      have qm3 : (((-3) : Int32)).toInt = (-3) := rfl
      exact z_xri zt235 33 rfl zzr235 (kk (-3) M0 X (by omega) (by omega) zp0 hz0 ⟨by omega, by omega⟩ (by omega) (by omega) (by omega))
    refine z_xP zt235 18 44 [some (.ref 19), some (.int p1), some (.int p2), some (.int p3)] [.int 7, .int p1] rfl rfl ?_
    refine z_xJ zt235 19 rfl rfl (fun (h96 : p1.toInt ≠ 7) => ?_) (fun (h96 : p1.toInt = 7) => ?_)
    · skip
      refine z_xP zt235 28 62 [some (.ref 19), some (.int p1), some (.int p2), some (.int p3)] [.ref 19] rfl rfl ?_
      have f19 : T[19]? = some (.inl (12, 0, 0, 0, 0)) := X.1.k rfl (by decide)
      refine z_xgv zt235 29 rfl zo235 zzf12_269 X f19 (by decide) hz0 ?_
      refine z_xP zt235 30 67 [some (.ref 19), some (.int p1), some (.int p2), some (.int p3)] [.int 20, .int zp0] rfl rfl ?_
      refine z_xJ zt235 31 rfl rfl (fun (h97 : zp0.toInt ≠ 20) => ?_) (fun (h97 : zp0.toInt = 20) => ?_)
      · skip
        refine z_xP zt235 34 74 [some (.ref 19), some (.int p1), some (.int p2), some (.int p3)] [.ref 19] rfl rfl ?_
        refine z_xgX (b := 36) zt235 35 rfl zo235 zzf12_58 X f19 (by decide) (by decide) rfl ?_
        refine z_xP zt235 36 78 [some (.ref 19), some (.int p1), some (.int p2), some (.int p3)] [.ref 19, .ref 36] rfl rfl ?_
        refine z_xgv zt235 37 rfl zo235 zzf12_269 X f19 (by decide) hz0 ?_
        refine z_xP zt235 38 82 [some (.ref 19), some (.int p1), some (.int p2), some (.int p3)] [.int p1, .int zp0, .ref 36] rfl rfl ?_
        have f36 : T[36]? = some (.inr (36, 0, 20, 0, 7)) := X.1.k rfl (by decide)
        refine z_xis zt235 39 rfl X f36 (by decide) (by decide) (by omega) (by omega) (by omega) (by omega) (by decide) (fun M98 X99 e100 h101 => ?_)
        refine z_xP zt235 40 84 [some (.ref 19), some (.int p1), some (.int p2), some (.int p3)] [.ref 19] rfl rfl ?_
        refine z_xgX (b := 37) zt235 41 rfl zo235 zzf12_61 X99 f19 (by decide) (by decide) rfl ?_
        refine z_xP zt235 42 88 [some (.ref 19), some (.int p1), some (.int p2), some (.int p3)] [.ref 19, .ref 37] rfl rfl ?_
        have h102 := (e100.f f19 (by decide) hz0)
        refine z_xgv zt235 43 rfl zo235 zzf12_269 X99 f19 (by decide) h102 ?_
        refine z_xP zt235 44 93 [some (.ref 19), some (.int p1), some (.int p2), some (.int p3)] [.int 5, .int p1, .int zp0, .ref 37] rfl rfl ?_
        refine z_xJ zt235 45 rfl rfl (fun (h103 : p1.toInt = 5) => ?_) (fun (h103 : p1.toInt ≠ 5) => ?_)
        · skip
          refine z_xP zt235 48 107 [some (.ref 19), some (.int p1), some (.int p2), some (.int p3)] [.int p2, .int zp0, .ref 37] rfl rfl ?_
          have f37 : T[37]? = some (.inr (37, 0, 20, 0, 9)) := X99.1.k rfl (by decide)
          refine z_xis zt235 50 rfl X99 f37 (by decide) (by decide) (by omega) (by omega) (by omega) (by omega) (by decide) (fun M104 X105 e106 h107 => ?_)
          refine z_xP zt235 51 109 [some (.ref 19), some (.int p1), some (.int p2), some (.int p3)] [.ref 19] rfl rfl ?_
          refine z_xgX (b := 38) zt235 52 rfl zo235 zzf12_64 X105 f19 (by decide) (by decide) rfl ?_
          refine z_xP zt235 53 113 [some (.ref 19), some (.int p1), some (.int p2), some (.int p3)] [.ref 19, .ref 38] rfl rfl ?_
          have h108 := (e106.f f19 (by decide) h102)
          refine z_xgv zt235 54 rfl zo235 zzf12_269 X105 f19 (by decide) h108 ?_
          refine z_xP zt235 55 119 [some (.ref 19), some (.int p1), some (.int p2), some (.int p3)] [.int 6, .int p1, .int zp0, .ref 38] rfl rfl ?_
          refine z_xJ zt235 56 rfl rfl (fun (h109 : p1.toInt = 6) => absurd h109 (by omega)) (fun (h109 : p1.toInt ≠ 6) => ?_)
          refine z_xP zt235 57 125 [some (.ref 19), some (.int p1), some (.int p2), some (.int p3)] [.int 7, .int p1, .int zp0, .ref 38] rfl rfl ?_
          refine z_xJ zt235 58 rfl rfl (fun (h110 : p1.toInt ≠ 7) => ?_) (fun (h110 : p1.toInt = 7) => absurd h110 (by omega))
          refine z_xP zt235 60 133 [some (.ref 19), some (.int p1), some (.int p2), some (.int p3)] [.int 0, .int zp0, .ref 38] rfl rfl ?_
          have f38 : T[38]? = some (.inr (38, 0, 20, 0, 8)) := X105.1.k rfl (by decide)
          have q0 : ((0 : Int32)).toInt = 0 := rfl
          refine z_xis zt235 61 rfl X105 f38 (by decide) (by decide) (by omega) (by omega) (by omega) (by omega) (by decide) (fun M111 X112 e113 h114 => ?_)
          refine z_xP zt235 62 136 [some (.ref 19), some (.int p1), some (.int p2), some (.int p3)] [.ref 19, .ref 19] rfl rfl ?_
          have h115 := (e113.f f19 (by decide) h108)
          refine z_xgv zt235 63 rfl zo235 zzf12_269 X112 f19 (by decide) h115 ?_
          refine z_xP zt235 64 140 [some (.ref 19), some (.int p1), some (.int p2), some (.int p3)] [.int 1, .int zp0, .ref 19] rfl rfl ?_
          refine z_xI zt235 65 rfl rfl (fun (x116 : Int32) (h117 : x116.toInt = zp0.toInt + 1) => ?_) (z_pAdd rfl rfl (by omega) (by omega))
          refine z_xpf zt235 66 rfl zo235 zzf12_269 X112 f19 (by decide) (by decide) ⟨by omega, by omega⟩ rfl (by decide) zw12_21 (fun M118 X119 e120 h121 => ?_)
          refine z_xP zt235 67 145 [some (.ref 19), some (.int p1), some (.int p2), some (.int p3)] [.ref 19] rfl rfl ?_
          refine z_xgv zt235 68 rfl zo235 zzf12_269 X119 f19 (by decide) h121 ?_
          refine z_xP zt235 69 149 [some (.ref 19), some (.int p1), some (.int p2), some (.int p3)] [.int 1, .int x116] rfl rfl ?_
          refine z_xI zt235 70 rfl rfl (fun (x122 : Int32) (h123 : x122.toInt = x116.toInt - 1) => ?_) (z_pSub rfl rfl (by omega) (by omega))
          exact z_xri zt235 71 rfl zzr235 (kk x122 M118 X119 (by omega) (by omega) x116 h121 ⟨by omega, by omega⟩ (by omega) (by omega) (by omega))
        refine z_xP zt235 46 99 [some (.ref 19), some (.int p1), some (.int p2), some (.int p3)] [.int 6, .int p1, .int zp0, .ref 37] rfl rfl ?_
        refine z_xJ zt235 47 rfl rfl (fun (h124 : p1.toInt ≠ 6) => ?_) (fun (h124 : p1.toInt = 6) => ?_)
        · skip
          refine z_xP zt235 49 107 [some (.ref 19), some (.int p1), some (.int p2), some (.int p3)] [.int 0, .int zp0, .ref 37] rfl rfl ?_
          have f37 : T[37]? = some (.inr (37, 0, 20, 0, 9)) := X99.1.k rfl (by decide)
          have q0 : ((0 : Int32)).toInt = 0 := rfl
          refine z_xis zt235 50 rfl X99 f37 (by decide) (by decide) (by omega) (by omega) (by omega) (by omega) (by decide) (fun M125 X126 e127 h128 => ?_)
          refine z_xP zt235 51 109 [some (.ref 19), some (.int p1), some (.int p2), some (.int p3)] [.ref 19] rfl rfl ?_
          refine z_xgX (b := 38) zt235 52 rfl zo235 zzf12_64 X126 f19 (by decide) (by decide) rfl ?_
          refine z_xP zt235 53 113 [some (.ref 19), some (.int p1), some (.int p2), some (.int p3)] [.ref 19, .ref 38] rfl rfl ?_
          have h129 := (e127.f f19 (by decide) h102)
          refine z_xgv zt235 54 rfl zo235 zzf12_269 X126 f19 (by decide) h129 ?_
          refine z_xP zt235 55 119 [some (.ref 19), some (.int p1), some (.int p2), some (.int p3)] [.int 6, .int p1, .int zp0, .ref 38] rfl rfl ?_
          refine z_xJ zt235 56 rfl rfl (fun (h130 : p1.toInt = 6) => absurd h130 (by omega)) (fun (h130 : p1.toInt ≠ 6) => ?_)
          refine z_xP zt235 57 125 [some (.ref 19), some (.int p1), some (.int p2), some (.int p3)] [.int 7, .int p1, .int zp0, .ref 38] rfl rfl ?_
          refine z_xJ zt235 58 rfl rfl (fun (h131 : p1.toInt ≠ 7) => ?_) (fun (h131 : p1.toInt = 7) => absurd h131 (by omega))
          refine z_xP zt235 60 133 [some (.ref 19), some (.int p1), some (.int p2), some (.int p3)] [.int 0, .int zp0, .ref 38] rfl rfl ?_
          have f38 : T[38]? = some (.inr (38, 0, 20, 0, 8)) := X126.1.k rfl (by decide)
          have q0 : ((0 : Int32)).toInt = 0 := rfl
          refine z_xis zt235 61 rfl X126 f38 (by decide) (by decide) (by omega) (by omega) (by omega) (by omega) (by decide) (fun M132 X133 e134 h135 => ?_)
          refine z_xP zt235 62 136 [some (.ref 19), some (.int p1), some (.int p2), some (.int p3)] [.ref 19, .ref 19] rfl rfl ?_
          have h136 := (e134.f f19 (by decide) h129)
          refine z_xgv zt235 63 rfl zo235 zzf12_269 X133 f19 (by decide) h136 ?_
          refine z_xP zt235 64 140 [some (.ref 19), some (.int p1), some (.int p2), some (.int p3)] [.int 1, .int zp0, .ref 19] rfl rfl ?_
          refine z_xI zt235 65 rfl rfl (fun (x137 : Int32) (h138 : x137.toInt = zp0.toInt + 1) => ?_) (z_pAdd rfl rfl (by omega) (by omega))
          refine z_xpf zt235 66 rfl zo235 zzf12_269 X133 f19 (by decide) (by decide) ⟨by omega, by omega⟩ rfl (by decide) zw12_21 (fun M139 X140 e141 h142 => ?_)
          refine z_xP zt235 67 145 [some (.ref 19), some (.int p1), some (.int p2), some (.int p3)] [.ref 19] rfl rfl ?_
          refine z_xgv zt235 68 rfl zo235 zzf12_269 X140 f19 (by decide) h142 ?_
          refine z_xP zt235 69 149 [some (.ref 19), some (.int p1), some (.int p2), some (.int p3)] [.int 1, .int x137] rfl rfl ?_
          refine z_xI zt235 70 rfl rfl (fun (x143 : Int32) (h144 : x143.toInt = x137.toInt - 1) => ?_) (z_pSub rfl rfl (by omega) (by omega))
          exact z_xri zt235 71 rfl zzr235 (kk x143 M139 X140 (by omega) (by omega) x137 h142 ⟨by omega, by omega⟩ (by omega) (by omega) (by omega))
        refine z_xP zt235 48 107 [some (.ref 19), some (.int p1), some (.int p2), some (.int p3)] [.int p2, .int zp0, .ref 37] rfl rfl ?_
        have f37 : T[37]? = some (.inr (37, 0, 20, 0, 9)) := X99.1.k rfl (by decide)
        refine z_xis zt235 50 rfl X99 f37 (by decide) (by decide) (by omega) (by omega) (by omega) (by omega) (by decide) (fun M145 X146 e147 h148 => ?_)
        refine z_xP zt235 51 109 [some (.ref 19), some (.int p1), some (.int p2), some (.int p3)] [.ref 19] rfl rfl ?_
        refine z_xgX (b := 38) zt235 52 rfl zo235 zzf12_64 X146 f19 (by decide) (by decide) rfl ?_
        refine z_xP zt235 53 113 [some (.ref 19), some (.int p1), some (.int p2), some (.int p3)] [.ref 19, .ref 38] rfl rfl ?_
        have h149 := (e147.f f19 (by decide) h102)
        refine z_xgv zt235 54 rfl zo235 zzf12_269 X146 f19 (by decide) h149 ?_
        refine z_xP zt235 55 119 [some (.ref 19), some (.int p1), some (.int p2), some (.int p3)] [.int 6, .int p1, .int zp0, .ref 38] rfl rfl ?_
        refine z_xJ zt235 56 rfl rfl (fun (h150 : p1.toInt = 6) => ?_) (fun (h150 : p1.toInt ≠ 6) => absurd h150 (by omega))
        refine z_xP zt235 59 133 [some (.ref 19), some (.int p1), some (.int p2), some (.int p3)] [.int p3, .int zp0, .ref 38] rfl rfl ?_
        have f38 : T[38]? = some (.inr (38, 0, 20, 0, 8)) := X146.1.k rfl (by decide)
        refine z_xis zt235 61 rfl X146 f38 (by decide) (by decide) (by omega) (by omega) (by omega) (by omega) (by decide) (fun M151 X152 e153 h154 => ?_)
        refine z_xP zt235 62 136 [some (.ref 19), some (.int p1), some (.int p2), some (.int p3)] [.ref 19, .ref 19] rfl rfl ?_
        have h155 := (e153.f f19 (by decide) h149)
        refine z_xgv zt235 63 rfl zo235 zzf12_269 X152 f19 (by decide) h155 ?_
        refine z_xP zt235 64 140 [some (.ref 19), some (.int p1), some (.int p2), some (.int p3)] [.int 1, .int zp0, .ref 19] rfl rfl ?_
        refine z_xI zt235 65 rfl rfl (fun (x156 : Int32) (h157 : x156.toInt = zp0.toInt + 1) => ?_) (z_pAdd rfl rfl (by omega) (by omega))
        refine z_xpf zt235 66 rfl zo235 zzf12_269 X152 f19 (by decide) (by decide) ⟨by omega, by omega⟩ rfl (by decide) zw12_21 (fun M158 X159 e160 h161 => ?_)
        refine z_xP zt235 67 145 [some (.ref 19), some (.int p1), some (.int p2), some (.int p3)] [.ref 19] rfl rfl ?_
        refine z_xgv zt235 68 rfl zo235 zzf12_269 X159 f19 (by decide) h161 ?_
        refine z_xP zt235 69 149 [some (.ref 19), some (.int p1), some (.int p2), some (.int p3)] [.int 1, .int x156] rfl rfl ?_
        refine z_xI zt235 70 rfl rfl (fun (x162 : Int32) (h163 : x162.toInt = x156.toInt - 1) => ?_) (z_pSub rfl rfl (by omega) (by omega))
        exact z_xri zt235 71 rfl zzr235 (kk x162 M158 X159 (by omega) (by omega) x156 h161 ⟨by omega, by omega⟩ (by omega) (by omega) (by omega))
      refine z_xP zt235 32 72 [some (.ref 19), some (.int p1), some (.int p2), some (.int p3)] [.int (-3)] rfl rfl ?_
      have qm3 : (((-3) : Int32)).toInt = (-3) := rfl
      exact z_xri zt235 33 rfl zzr235 (kk (-3) M0 X (by omega) (by omega) zp0 hz0 ⟨by omega, by omega⟩ (by omega) (by omega) (by omega))
    refine z_xP zt235 20 48 [some (.ref 19), some (.int p1), some (.int p2), some (.int p3)] [.int p3] rfl rfl ?_
    have h164 := z_b32 p3
    refine z_xL zt235 21 rfl rfl (fun (y165 : Int64) (h166 : y165.toInt = p3.toInt) => ?_) (z_qI2L rfl)
    refine z_xP zt235 22 50 [some (.ref 19), some (.int p1), some (.int p2), some (.int p3)] [.long 0, .long y165] rfl rfl ?_
    refine z_xl2 zt235 23 rfl zo235 zkl12_267 ?_
    refine z_xcS (vs := [.long y165, .long 0, .long 8]) (r := []) (L2 := [some (.long y165), none, some (.long 0), none, some (.long 8), none]) zt235 24 rfl zo235 zzcS12_116 (Or.inl rfl) (Nat.le_of_ble_eq_true rfl) rfl rfl (Nat.le_of_ble_eq_true rfl) zzm189 (Nat.le_of_ble_eq_true rfl) rfl ?_
    refine z_xP zt189 0 2 [some (.long y165), none, some (.long 0), none, some (.long 8), none] [.long 0, .long y165] rfl rfl ?_
    refine z_xI zt189 1 rfl rfl (fun (x167 : Int32) (h168 : (x167.toInt < 0 ∧ y165.toInt < 0) ∨ (x167.toInt = 0 ∧ y165.toInt = 0) ∨ (0 < x167.toInt ∧ 0 < y165.toInt)) => ?_) (z_qCmp rfl rfl)
    refine z_xZ zt189 2 rfl rfl (fun (h169 : x167.toInt < 0) => ?_) (fun (h169 : 0 ≤ x167.toInt) => ?_)
    · skip
      refine z_xP zt189 7 18 [some (.long y165), none, some (.long 0), none, some (.long 8), none] [.int 0] rfl rfl ?_
      refine z_xrz zt189 8 rfl zzr189 (by decide) (by decide) ?_
      show z_ev (d + 1) 235 56 [some (.ref 19), some (.int p1), some (.int p2), some (.int p3)] [.int 0] M0 _
      refine z_xZ zt235 25 rfl rfl (fun (h170 : (0 : Int) ≠ 0) => absurd h170 (by omega)) (fun (h170 : (0 : Int) = 0) => ?_)
      refine z_xP zt235 26 60 [some (.ref 19), some (.int p1), some (.int p2), some (.int p3)] [.int (-1)] rfl rfl ?_
      have f19 : T[19]? = some (.inl (12, 0, 0, 0, 0)) := X.1.k rfl (by decide)
      have qm1 : (((-1) : Int32)).toInt = (-1) := rfl
      exact z_xri zt235 27 rfl zzr235 (kk (-1) M0 X (by omega) (by omega) zp0 hz0 ⟨by omega, by omega⟩ (by omega) (by omega) (by omega))
    refine z_xP zt189 3 9 [some (.long y165), none, some (.long 0), none, some (.long 8), none] [.long 8, .long y165] rfl rfl ?_
    refine z_xI zt189 4 rfl rfl (fun (x171 : Int32) (h172 : (x171.toInt < 0 ∧ y165.toInt < 8) ∨ (x171.toInt = 0 ∧ y165.toInt = 8) ∨ (0 < x171.toInt ∧ 8 < y165.toInt)) => ?_) (z_qCmp rfl rfl)
    refine z_xZ zt189 5 rfl rfl (fun (h173 : 0 < x171.toInt) => ?_) (fun (h173 : x171.toInt ≤ 0) => ?_)
    · skip
      refine z_xP zt189 7 18 [some (.long y165), none, some (.long 0), none, some (.long 8), none] [.int 0] rfl rfl ?_
      refine z_xrz zt189 8 rfl zzr189 (by decide) (by decide) ?_
      show z_ev (d + 1) 235 56 [some (.ref 19), some (.int p1), some (.int p2), some (.int p3)] [.int 0] M0 _
      refine z_xZ zt235 25 rfl rfl (fun (h174 : (0 : Int) ≠ 0) => absurd h174 (by omega)) (fun (h174 : (0 : Int) = 0) => ?_)
      refine z_xP zt235 26 60 [some (.ref 19), some (.int p1), some (.int p2), some (.int p3)] [.int (-1)] rfl rfl ?_
      have f19 : T[19]? = some (.inl (12, 0, 0, 0, 0)) := X.1.k rfl (by decide)
      have qm1 : (((-1) : Int32)).toInt = (-1) := rfl
      exact z_xri zt235 27 rfl zzr235 (kk (-1) M0 X (by omega) (by omega) zp0 hz0 ⟨by omega, by omega⟩ (by omega) (by omega) (by omega))
    refine z_xP zt189 6 18 [some (.long y165), none, some (.long 0), none, some (.long 8), none] [.int 1] rfl rfl ?_
    refine z_xrz zt189 8 rfl zzr189 (by decide) (by decide) ?_
    show z_ev (d + 1) 235 56 [some (.ref 19), some (.int p1), some (.int p2), some (.int p3)] [.int 1] M0 _
    refine z_xZ zt235 25 rfl rfl (fun (h175 : (1 : Int) ≠ 0) => ?_) (fun (h175 : (1 : Int) = 0) => absurd h175 (by omega))
    refine z_xP zt235 28 62 [some (.ref 19), some (.int p1), some (.int p2), some (.int p3)] [.ref 19] rfl rfl ?_
    have f19 : T[19]? = some (.inl (12, 0, 0, 0, 0)) := X.1.k rfl (by decide)
    refine z_xgv zt235 29 rfl zo235 zzf12_269 X f19 (by decide) hz0 ?_
    refine z_xP zt235 30 67 [some (.ref 19), some (.int p1), some (.int p2), some (.int p3)] [.int 20, .int zp0] rfl rfl ?_
    refine z_xJ zt235 31 rfl rfl (fun (h176 : zp0.toInt ≠ 20) => ?_) (fun (h176 : zp0.toInt = 20) => ?_)
    · skip
      refine z_xP zt235 34 74 [some (.ref 19), some (.int p1), some (.int p2), some (.int p3)] [.ref 19] rfl rfl ?_
      refine z_xgX (b := 36) zt235 35 rfl zo235 zzf12_58 X f19 (by decide) (by decide) rfl ?_
      refine z_xP zt235 36 78 [some (.ref 19), some (.int p1), some (.int p2), some (.int p3)] [.ref 19, .ref 36] rfl rfl ?_
      refine z_xgv zt235 37 rfl zo235 zzf12_269 X f19 (by decide) hz0 ?_
      refine z_xP zt235 38 82 [some (.ref 19), some (.int p1), some (.int p2), some (.int p3)] [.int p1, .int zp0, .ref 36] rfl rfl ?_
      have f36 : T[36]? = some (.inr (36, 0, 20, 0, 7)) := X.1.k rfl (by decide)
      refine z_xis zt235 39 rfl X f36 (by decide) (by decide) (by omega) (by omega) (by omega) (by omega) (by decide) (fun M177 X178 e179 h180 => ?_)
      refine z_xP zt235 40 84 [some (.ref 19), some (.int p1), some (.int p2), some (.int p3)] [.ref 19] rfl rfl ?_
      refine z_xgX (b := 37) zt235 41 rfl zo235 zzf12_61 X178 f19 (by decide) (by decide) rfl ?_
      refine z_xP zt235 42 88 [some (.ref 19), some (.int p1), some (.int p2), some (.int p3)] [.ref 19, .ref 37] rfl rfl ?_
      have h181 := (e179.f f19 (by decide) hz0)
      refine z_xgv zt235 43 rfl zo235 zzf12_269 X178 f19 (by decide) h181 ?_
      refine z_xP zt235 44 93 [some (.ref 19), some (.int p1), some (.int p2), some (.int p3)] [.int 5, .int p1, .int zp0, .ref 37] rfl rfl ?_
      refine z_xJ zt235 45 rfl rfl (fun (h182 : p1.toInt = 5) => absurd h182 (by omega)) (fun (h182 : p1.toInt ≠ 5) => ?_)
      refine z_xP zt235 46 99 [some (.ref 19), some (.int p1), some (.int p2), some (.int p3)] [.int 6, .int p1, .int zp0, .ref 37] rfl rfl ?_
      refine z_xJ zt235 47 rfl rfl (fun (h183 : p1.toInt ≠ 6) => ?_) (fun (h183 : p1.toInt = 6) => absurd h183 (by omega))
      refine z_xP zt235 49 107 [some (.ref 19), some (.int p1), some (.int p2), some (.int p3)] [.int 0, .int zp0, .ref 37] rfl rfl ?_
      have f37 : T[37]? = some (.inr (37, 0, 20, 0, 9)) := X178.1.k rfl (by decide)
      have q0 : ((0 : Int32)).toInt = 0 := rfl
      refine z_xis zt235 50 rfl X178 f37 (by decide) (by decide) (by omega) (by omega) (by omega) (by omega) (by decide) (fun M184 X185 e186 h187 => ?_)
      refine z_xP zt235 51 109 [some (.ref 19), some (.int p1), some (.int p2), some (.int p3)] [.ref 19] rfl rfl ?_
      refine z_xgX (b := 38) zt235 52 rfl zo235 zzf12_64 X185 f19 (by decide) (by decide) rfl ?_
      refine z_xP zt235 53 113 [some (.ref 19), some (.int p1), some (.int p2), some (.int p3)] [.ref 19, .ref 38] rfl rfl ?_
      have h188 := (e186.f f19 (by decide) h181)
      refine z_xgv zt235 54 rfl zo235 zzf12_269 X185 f19 (by decide) h188 ?_
      refine z_xP zt235 55 119 [some (.ref 19), some (.int p1), some (.int p2), some (.int p3)] [.int 6, .int p1, .int zp0, .ref 38] rfl rfl ?_
      refine z_xJ zt235 56 rfl rfl (fun (h189 : p1.toInt = 6) => absurd h189 (by omega)) (fun (h189 : p1.toInt ≠ 6) => ?_)
      refine z_xP zt235 57 125 [some (.ref 19), some (.int p1), some (.int p2), some (.int p3)] [.int 7, .int p1, .int zp0, .ref 38] rfl rfl ?_
      refine z_xJ zt235 58 rfl rfl (fun (h190 : p1.toInt ≠ 7) => absurd h190 (by omega)) (fun (h190 : p1.toInt = 7) => ?_)
      refine z_xP zt235 59 133 [some (.ref 19), some (.int p1), some (.int p2), some (.int p3)] [.int p3, .int zp0, .ref 38] rfl rfl ?_
      have f38 : T[38]? = some (.inr (38, 0, 20, 0, 8)) := X185.1.k rfl (by decide)
      refine z_xis zt235 61 rfl X185 f38 (by decide) (by decide) (by omega) (by omega) (by omega) (by omega) (by decide) (fun M191 X192 e193 h194 => ?_)
      refine z_xP zt235 62 136 [some (.ref 19), some (.int p1), some (.int p2), some (.int p3)] [.ref 19, .ref 19] rfl rfl ?_
      have h195 := (e193.f f19 (by decide) h188)
      refine z_xgv zt235 63 rfl zo235 zzf12_269 X192 f19 (by decide) h195 ?_
      refine z_xP zt235 64 140 [some (.ref 19), some (.int p1), some (.int p2), some (.int p3)] [.int 1, .int zp0, .ref 19] rfl rfl ?_
      refine z_xI zt235 65 rfl rfl (fun (x196 : Int32) (h197 : x196.toInt = zp0.toInt + 1) => ?_) (z_pAdd rfl rfl (by omega) (by omega))
      refine z_xpf zt235 66 rfl zo235 zzf12_269 X192 f19 (by decide) (by decide) ⟨by omega, by omega⟩ rfl (by decide) zw12_21 (fun M198 X199 e200 h201 => ?_)
      refine z_xP zt235 67 145 [some (.ref 19), some (.int p1), some (.int p2), some (.int p3)] [.ref 19] rfl rfl ?_
      refine z_xgv zt235 68 rfl zo235 zzf12_269 X199 f19 (by decide) h201 ?_
      refine z_xP zt235 69 149 [some (.ref 19), some (.int p1), some (.int p2), some (.int p3)] [.int 1, .int x196] rfl rfl ?_
      refine z_xI zt235 70 rfl rfl (fun (x202 : Int32) (h203 : x202.toInt = x196.toInt - 1) => ?_) (z_pSub rfl rfl (by omega) (by omega))
      exact z_xri zt235 71 rfl zzr235 (kk x202 M198 X199 (by omega) (by omega) x196 h201 ⟨by omega, by omega⟩ (by omega) (by omega) (by omega))
    refine z_xP zt235 32 72 [some (.ref 19), some (.int p1), some (.int p2), some (.int p3)] [.int (-3)] rfl rfl ?_
    have qm3 : (((-3) : Int32)).toInt = (-3) := rfl
    exact z_xri zt235 33 rfl zzr235 (kk (-3) M0 X (by omega) (by omega) zp0 hz0 ⟨by omega, by omega⟩ (by omega) (by omega) (by omega))
  refine z_xP zt235 10 24 [some (.ref 19), some (.int p1), some (.int p2), some (.int p3)] [.int p2] rfl rfl ?_
  have h204 := z_b32 p2
  refine z_xL zt235 11 rfl rfl (fun (y205 : Int64) (h206 : y205.toInt = p2.toInt) => ?_) (z_qI2L rfl)
  refine z_xP zt235 12 26 [some (.ref 19), some (.int p1), some (.int p2), some (.int p3)] [.long 0, .long y205] rfl rfl ?_
  refine z_xl2 zt235 13 rfl zo235 zkl12_232 ?_
  refine z_xcS (vs := [.long y205, .long 0, .long 9]) (r := []) (L2 := [some (.long y205), none, some (.long 0), none, some (.long 9), none]) zt235 14 rfl zo235 zzcS12_116 (Or.inl rfl) (Nat.le_of_ble_eq_true rfl) rfl rfl (Nat.le_of_ble_eq_true rfl) zzm189 (Nat.le_of_ble_eq_true rfl) rfl ?_
  refine z_xP zt189 0 2 [some (.long y205), none, some (.long 0), none, some (.long 9), none] [.long 0, .long y205] rfl rfl ?_
  refine z_xI zt189 1 rfl rfl (fun (x207 : Int32) (h208 : (x207.toInt < 0 ∧ y205.toInt < 0) ∨ (x207.toInt = 0 ∧ y205.toInt = 0) ∨ (0 < x207.toInt ∧ 0 < y205.toInt)) => ?_) (z_qCmp rfl rfl)
  refine z_xZ zt189 2 rfl rfl (fun (h209 : x207.toInt < 0) => ?_) (fun (h209 : 0 ≤ x207.toInt) => ?_)
  · skip
    refine z_xP zt189 7 18 [some (.long y205), none, some (.long 0), none, some (.long 9), none] [.int 0] rfl rfl ?_
    refine z_xrz zt189 8 rfl zzr189 (by decide) (by decide) ?_
    show z_ev (d + 1) 235 32 [some (.ref 19), some (.int p1), some (.int p2), some (.int p3)] [.int 0] M0 _
    refine z_xZ zt235 15 rfl rfl (fun (h210 : (0 : Int) = 0) => ?_) (fun (h210 : (0 : Int) ≠ 0) => absurd h210 (by omega))
    refine z_xP zt235 26 60 [some (.ref 19), some (.int p1), some (.int p2), some (.int p3)] [.int (-1)] rfl rfl ?_
    have f19 : T[19]? = some (.inl (12, 0, 0, 0, 0)) := X.1.k rfl (by decide)
    have qm1 : (((-1) : Int32)).toInt = (-1) := rfl
    exact z_xri zt235 27 rfl zzr235 (kk (-1) M0 X (by omega) (by omega) zp0 hz0 ⟨by omega, by omega⟩ (by omega) (by omega) (by omega))
  refine z_xP zt189 3 9 [some (.long y205), none, some (.long 0), none, some (.long 9), none] [.long 9, .long y205] rfl rfl ?_
  refine z_xI zt189 4 rfl rfl (fun (x211 : Int32) (h212 : (x211.toInt < 0 ∧ y205.toInt < 9) ∨ (x211.toInt = 0 ∧ y205.toInt = 9) ∨ (0 < x211.toInt ∧ 9 < y205.toInt)) => ?_) (z_qCmp rfl rfl)
  refine z_xZ zt189 5 rfl rfl (fun (h213 : 0 < x211.toInt) => ?_) (fun (h213 : x211.toInt ≤ 0) => ?_)
  · skip
    refine z_xP zt189 7 18 [some (.long y205), none, some (.long 0), none, some (.long 9), none] [.int 0] rfl rfl ?_
    refine z_xrz zt189 8 rfl zzr189 (by decide) (by decide) ?_
    show z_ev (d + 1) 235 32 [some (.ref 19), some (.int p1), some (.int p2), some (.int p3)] [.int 0] M0 _
    refine z_xZ zt235 15 rfl rfl (fun (h214 : (0 : Int) = 0) => ?_) (fun (h214 : (0 : Int) ≠ 0) => absurd h214 (by omega))
    refine z_xP zt235 26 60 [some (.ref 19), some (.int p1), some (.int p2), some (.int p3)] [.int (-1)] rfl rfl ?_
    have f19 : T[19]? = some (.inl (12, 0, 0, 0, 0)) := X.1.k rfl (by decide)
    have qm1 : (((-1) : Int32)).toInt = (-1) := rfl
    exact z_xri zt235 27 rfl zzr235 (kk (-1) M0 X (by omega) (by omega) zp0 hz0 ⟨by omega, by omega⟩ (by omega) (by omega) (by omega))
  refine z_xP zt189 6 18 [some (.long y205), none, some (.long 0), none, some (.long 9), none] [.int 1] rfl rfl ?_
  refine z_xrz zt189 8 rfl zzr189 (by decide) (by decide) ?_
  show z_ev (d + 1) 235 32 [some (.ref 19), some (.int p1), some (.int p2), some (.int p3)] [.int 1] M0 _
  refine z_xZ zt235 15 rfl rfl (fun (h215 : (1 : Int) = 0) => absurd h215 (by omega)) (fun (h215 : (1 : Int) ≠ 0) => ?_)
  refine z_xP zt235 16 38 [some (.ref 19), some (.int p1), some (.int p2), some (.int p3)] [.int 6, .int p1] rfl rfl ?_
  refine z_xJ zt235 17 rfl rfl (fun (h216 : p1.toInt = 6) => ?_) (fun (h216 : p1.toInt ≠ 6) => absurd h216 (by omega))
  refine z_xP zt235 20 48 [some (.ref 19), some (.int p1), some (.int p2), some (.int p3)] [.int p3] rfl rfl ?_
  have h217 := z_b32 p3
  refine z_xL zt235 21 rfl rfl (fun (y218 : Int64) (h219 : y218.toInt = p3.toInt) => ?_) (z_qI2L rfl)
  refine z_xP zt235 22 50 [some (.ref 19), some (.int p1), some (.int p2), some (.int p3)] [.long 0, .long y218] rfl rfl ?_
  refine z_xl2 zt235 23 rfl zo235 zkl12_267 ?_
  refine z_xcS (vs := [.long y218, .long 0, .long 8]) (r := []) (L2 := [some (.long y218), none, some (.long 0), none, some (.long 8), none]) zt235 24 rfl zo235 zzcS12_116 (Or.inl rfl) (Nat.le_of_ble_eq_true rfl) rfl rfl (Nat.le_of_ble_eq_true rfl) zzm189 (Nat.le_of_ble_eq_true rfl) rfl ?_
  refine z_xP zt189 0 2 [some (.long y218), none, some (.long 0), none, some (.long 8), none] [.long 0, .long y218] rfl rfl ?_
  refine z_xI zt189 1 rfl rfl (fun (x220 : Int32) (h221 : (x220.toInt < 0 ∧ y218.toInt < 0) ∨ (x220.toInt = 0 ∧ y218.toInt = 0) ∨ (0 < x220.toInt ∧ 0 < y218.toInt)) => ?_) (z_qCmp rfl rfl)
  refine z_xZ zt189 2 rfl rfl (fun (h222 : x220.toInt < 0) => ?_) (fun (h222 : 0 ≤ x220.toInt) => ?_)
  · skip
    refine z_xP zt189 7 18 [some (.long y218), none, some (.long 0), none, some (.long 8), none] [.int 0] rfl rfl ?_
    refine z_xrz zt189 8 rfl zzr189 (by decide) (by decide) ?_
    show z_ev (d + 1) 235 56 [some (.ref 19), some (.int p1), some (.int p2), some (.int p3)] [.int 0] M0 _
    refine z_xZ zt235 25 rfl rfl (fun (h223 : (0 : Int) ≠ 0) => absurd h223 (by omega)) (fun (h223 : (0 : Int) = 0) => ?_)
    refine z_xP zt235 26 60 [some (.ref 19), some (.int p1), some (.int p2), some (.int p3)] [.int (-1)] rfl rfl ?_
    have f19 : T[19]? = some (.inl (12, 0, 0, 0, 0)) := X.1.k rfl (by decide)
    have qm1 : (((-1) : Int32)).toInt = (-1) := rfl
    exact z_xri zt235 27 rfl zzr235 (kk (-1) M0 X (by omega) (by omega) zp0 hz0 ⟨by omega, by omega⟩ (by omega) (by omega) (by omega))
  refine z_xP zt189 3 9 [some (.long y218), none, some (.long 0), none, some (.long 8), none] [.long 8, .long y218] rfl rfl ?_
  refine z_xI zt189 4 rfl rfl (fun (x224 : Int32) (h225 : (x224.toInt < 0 ∧ y218.toInt < 8) ∨ (x224.toInt = 0 ∧ y218.toInt = 8) ∨ (0 < x224.toInt ∧ 8 < y218.toInt)) => ?_) (z_qCmp rfl rfl)
  refine z_xZ zt189 5 rfl rfl (fun (h226 : 0 < x224.toInt) => ?_) (fun (h226 : x224.toInt ≤ 0) => ?_)
  · skip
    refine z_xP zt189 7 18 [some (.long y218), none, some (.long 0), none, some (.long 8), none] [.int 0] rfl rfl ?_
    refine z_xrz zt189 8 rfl zzr189 (by decide) (by decide) ?_
    show z_ev (d + 1) 235 56 [some (.ref 19), some (.int p1), some (.int p2), some (.int p3)] [.int 0] M0 _
    refine z_xZ zt235 25 rfl rfl (fun (h227 : (0 : Int) ≠ 0) => absurd h227 (by omega)) (fun (h227 : (0 : Int) = 0) => ?_)
    refine z_xP zt235 26 60 [some (.ref 19), some (.int p1), some (.int p2), some (.int p3)] [.int (-1)] rfl rfl ?_
    have f19 : T[19]? = some (.inl (12, 0, 0, 0, 0)) := X.1.k rfl (by decide)
    have qm1 : (((-1) : Int32)).toInt = (-1) := rfl
    exact z_xri zt235 27 rfl zzr235 (kk (-1) M0 X (by omega) (by omega) zp0 hz0 ⟨by omega, by omega⟩ (by omega) (by omega) (by omega))
  refine z_xP zt189 6 18 [some (.long y218), none, some (.long 0), none, some (.long 8), none] [.int 1] rfl rfl ?_
  refine z_xrz zt189 8 rfl zzr189 (by decide) (by decide) ?_
  show z_ev (d + 1) 235 56 [some (.ref 19), some (.int p1), some (.int p2), some (.int p3)] [.int 1] M0 _
  refine z_xZ zt235 25 rfl rfl (fun (h228 : (1 : Int) ≠ 0) => ?_) (fun (h228 : (1 : Int) = 0) => absurd h228 (by omega))
  refine z_xP zt235 28 62 [some (.ref 19), some (.int p1), some (.int p2), some (.int p3)] [.ref 19] rfl rfl ?_
  have f19 : T[19]? = some (.inl (12, 0, 0, 0, 0)) := X.1.k rfl (by decide)
  refine z_xgv zt235 29 rfl zo235 zzf12_269 X f19 (by decide) hz0 ?_
  refine z_xP zt235 30 67 [some (.ref 19), some (.int p1), some (.int p2), some (.int p3)] [.int 20, .int zp0] rfl rfl ?_
  refine z_xJ zt235 31 rfl rfl (fun (h229 : zp0.toInt ≠ 20) => ?_) (fun (h229 : zp0.toInt = 20) => ?_)
  · skip
    refine z_xP zt235 34 74 [some (.ref 19), some (.int p1), some (.int p2), some (.int p3)] [.ref 19] rfl rfl ?_
    refine z_xgX (b := 36) zt235 35 rfl zo235 zzf12_58 X f19 (by decide) (by decide) rfl ?_
    refine z_xP zt235 36 78 [some (.ref 19), some (.int p1), some (.int p2), some (.int p3)] [.ref 19, .ref 36] rfl rfl ?_
    refine z_xgv zt235 37 rfl zo235 zzf12_269 X f19 (by decide) hz0 ?_
    refine z_xP zt235 38 82 [some (.ref 19), some (.int p1), some (.int p2), some (.int p3)] [.int p1, .int zp0, .ref 36] rfl rfl ?_
    have f36 : T[36]? = some (.inr (36, 0, 20, 0, 7)) := X.1.k rfl (by decide)
    refine z_xis zt235 39 rfl X f36 (by decide) (by decide) (by omega) (by omega) (by omega) (by omega) (by decide) (fun M230 X231 e232 h233 => ?_)
    refine z_xP zt235 40 84 [some (.ref 19), some (.int p1), some (.int p2), some (.int p3)] [.ref 19] rfl rfl ?_
    refine z_xgX (b := 37) zt235 41 rfl zo235 zzf12_61 X231 f19 (by decide) (by decide) rfl ?_
    refine z_xP zt235 42 88 [some (.ref 19), some (.int p1), some (.int p2), some (.int p3)] [.ref 19, .ref 37] rfl rfl ?_
    have h234 := (e232.f f19 (by decide) hz0)
    refine z_xgv zt235 43 rfl zo235 zzf12_269 X231 f19 (by decide) h234 ?_
    refine z_xP zt235 44 93 [some (.ref 19), some (.int p1), some (.int p2), some (.int p3)] [.int 5, .int p1, .int zp0, .ref 37] rfl rfl ?_
    refine z_xJ zt235 45 rfl rfl (fun (h235 : p1.toInt = 5) => absurd h235 (by omega)) (fun (h235 : p1.toInt ≠ 5) => ?_)
    refine z_xP zt235 46 99 [some (.ref 19), some (.int p1), some (.int p2), some (.int p3)] [.int 6, .int p1, .int zp0, .ref 37] rfl rfl ?_
    refine z_xJ zt235 47 rfl rfl (fun (h236 : p1.toInt ≠ 6) => absurd h236 (by omega)) (fun (h236 : p1.toInt = 6) => ?_)
    refine z_xP zt235 48 107 [some (.ref 19), some (.int p1), some (.int p2), some (.int p3)] [.int p2, .int zp0, .ref 37] rfl rfl ?_
    have f37 : T[37]? = some (.inr (37, 0, 20, 0, 9)) := X231.1.k rfl (by decide)
    refine z_xis zt235 50 rfl X231 f37 (by decide) (by decide) (by omega) (by omega) (by omega) (by omega) (by decide) (fun M237 X238 e239 h240 => ?_)
    refine z_xP zt235 51 109 [some (.ref 19), some (.int p1), some (.int p2), some (.int p3)] [.ref 19] rfl rfl ?_
    refine z_xgX (b := 38) zt235 52 rfl zo235 zzf12_64 X238 f19 (by decide) (by decide) rfl ?_
    refine z_xP zt235 53 113 [some (.ref 19), some (.int p1), some (.int p2), some (.int p3)] [.ref 19, .ref 38] rfl rfl ?_
    have h241 := (e239.f f19 (by decide) h234)
    refine z_xgv zt235 54 rfl zo235 zzf12_269 X238 f19 (by decide) h241 ?_
    refine z_xP zt235 55 119 [some (.ref 19), some (.int p1), some (.int p2), some (.int p3)] [.int 6, .int p1, .int zp0, .ref 38] rfl rfl ?_
    refine z_xJ zt235 56 rfl rfl (fun (h242 : p1.toInt = 6) => ?_) (fun (h242 : p1.toInt ≠ 6) => absurd h242 (by omega))
    refine z_xP zt235 59 133 [some (.ref 19), some (.int p1), some (.int p2), some (.int p3)] [.int p3, .int zp0, .ref 38] rfl rfl ?_
    have f38 : T[38]? = some (.inr (38, 0, 20, 0, 8)) := X238.1.k rfl (by decide)
    refine z_xis zt235 61 rfl X238 f38 (by decide) (by decide) (by omega) (by omega) (by omega) (by omega) (by decide) (fun M243 X244 e245 h246 => ?_)
    refine z_xP zt235 62 136 [some (.ref 19), some (.int p1), some (.int p2), some (.int p3)] [.ref 19, .ref 19] rfl rfl ?_
    have h247 := (e245.f f19 (by decide) h241)
    refine z_xgv zt235 63 rfl zo235 zzf12_269 X244 f19 (by decide) h247 ?_
    refine z_xP zt235 64 140 [some (.ref 19), some (.int p1), some (.int p2), some (.int p3)] [.int 1, .int zp0, .ref 19] rfl rfl ?_
    refine z_xI zt235 65 rfl rfl (fun (x248 : Int32) (h249 : x248.toInt = zp0.toInt + 1) => ?_) (z_pAdd rfl rfl (by omega) (by omega))
    refine z_xpf zt235 66 rfl zo235 zzf12_269 X244 f19 (by decide) (by decide) ⟨by omega, by omega⟩ rfl (by decide) zw12_21 (fun M250 X251 e252 h253 => ?_)
    refine z_xP zt235 67 145 [some (.ref 19), some (.int p1), some (.int p2), some (.int p3)] [.ref 19] rfl rfl ?_
    refine z_xgv zt235 68 rfl zo235 zzf12_269 X251 f19 (by decide) h253 ?_
    refine z_xP zt235 69 149 [some (.ref 19), some (.int p1), some (.int p2), some (.int p3)] [.int 1, .int x248] rfl rfl ?_
    refine z_xI zt235 70 rfl rfl (fun (x254 : Int32) (h255 : x254.toInt = x248.toInt - 1) => ?_) (z_pSub rfl rfl (by omega) (by omega))
    exact z_xri zt235 71 rfl zzr235 (kk x254 M250 X251 (by omega) (by omega) x248 h253 ⟨by omega, by omega⟩ (by omega) (by omega) (by omega))
  refine z_xP zt235 32 72 [some (.ref 19), some (.int p1), some (.int p2), some (.int p3)] [.int (-3)] rfl rfl ?_
  have qm3 : (((-3) : Int32)).toInt = (-3) := rfl
  exact z_xri zt235 33 rfl zzr235 (kk (-3) M0 X (by omega) (by omega) zp0 hz0 ⟨by omega, by omega⟩ (by omega) (by omega) (by omega))
