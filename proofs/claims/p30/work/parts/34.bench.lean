/-! a bench is made -/
theorem zzi33 : ((z_name 33).name == "<init>") = true := by decide +kernel
theorem zzn3 : "DoorBench$Bench" = z_cn 3 := by decide +kernel
theorem zzf3_43 : z_fF 3 43 = some ((10, [2]), "DoorBench$Agenda") := by decide +kernel
theorem zzr33 : z_rt 33 = none := by decide +kernel
theorem z_geto {M es : zH} {b : zE} : (M ++ (b :: es))[M.length]? = some b := by rw [List.getElem?_append_right (Nat.le_refl _), Nat.sub_self]; rfl
theorem z_seto {M es : zH} {b x : zE} : (M ++ (b :: es)).set M.length x = M ++ (x :: es) := by rw [List.set_append_right _ _ (Nat.le_refl _), Nat.sub_self]; rfl
theorem z_loo {M es : zH} {a : Nat} {x : zE} (h : M[a]? = some x) : (M ++ es)[a]? = some x := by rw [List.getElem?_append_left (List.getElem?_eq_some_iff.mp h).1]; exact h
/-- cells are made together -/
theorem z_W.block {M : zH} {T : List zK} (h : z_W M T) {es : zH} {κs : List zK} (hl : es.length = κs.length) (he : ∀ (i : Nat) (e : zE) (κ : zK), es[i]? = some e → κs[i]? = some κ → z_wt (T ++ κs) κ e) : z_W (M ++ es) (T ++ κs) := by
  have h53 := h.ge
  have hle : z_le T (T ++ κs) := fun a κ2 h _ => by rw [List.getElem?_append_left (List.getElem?_eq_some_iff.mp h).1]; exact h
  refine ⟨by rw [List.length_append, List.length_append, h.1, hl], fun k hk => by rw [List.getElem?_append_left (by omega)]; exact h.2.1 k hk, fun k e2 κ2 hk hT => ?_⟩
  by_cases hlt : k < M.length
  · rw [List.getElem?_append_left hlt] at hk
    rw [List.getElem?_append_left (by rw [← h.1]; exact hlt)] at hT
    exact hle.wt (h.2.2 k e2 κ2 hk hT)
  · rw [List.getElem?_append_right (by omega)] at hk
    rw [List.getElem?_append_right (by rw [← h.1]; omega), ← h.1] at hT
    exact he _ _ _ hk hT
theorem z_same.block {M : zH} {T : List zK} (h : z_W M T) {es : zH} : z_same T M (M ++ es) := fun a κ hk _ => by
  rw [List.getElem?_append_left (by have := (List.getElem?_eq_some_iff.mp hk).1; rw [h.1]; exact this)]
theorem zA33 {d a sp : Nat} {x : Int32} {fs : List Value} {M : zH} {K : Option Value → zH → Prop} (hN : 4 ≤ M.length) (ha : M[a]? = some (.inr (2, fs))) (ha4 : 4 ≤ a) (hs : fs[10]? = some (.int x)) (hsn : ¬ (x < 0 ∨ 1000000 < x.toNatClampNeg)) (hsk : x.toNatClampNeg = sp) (kk : K none (M ++ [.inr (3, [.ref a, .ref (M.length + 1), .ref (M.length + 2), .ref (M.length + 3), .int 0, .ref (M.length + 4), .ref (M.length + 5), .ref (M.length + 6), .ref (M.length + 7), .ref (M.length + 10), .ref (M.length + 8), .ref (M.length + 9)]), .inl (0, 9, .inl fun _ => 0), .inl (0, 9, .inl fun _ => 0), .inl (0, 9, .inl fun _ => 0), .inl (0, 10, .inl fun _ => 0), .inl (0, 32, .inl fun _ => 0), .inl (0, 32, .inl fun _ => 0), .inl (0, 10, .inl fun _ => 0), .inl (0, 5, .inl fun _ => 0), .inl (0, 80, .inl fun _ => 0), .inl (1, sp, .inr (.inl fun _ => 0))])) : z_ev d 33 0 [some (.ref M.length), some (.ref a)] [] (M ++ [.inr (3, [.null, .null, .null, .null, .int 0, .null, .null, .null, .null, .null, .null, .null])]) K := by
  have hi : ((z_name 33).name == "<init>") = true ∧ "DoorBench$Bench" = z_cn (z_oc 33) := ⟨zzi33, by rw [zo33]; exact zzn3⟩
  refine z_xP zt33 0 1 [some (.ref M.length), some (.ref a)] [.ref M.length] rfl rfl ?_
  refine z_eoi (z_dc1 zt33 (n := 1) rfl) (by rw [zo33]; exact zzcI3_3) (by decide) ?_
  refine z_xP zt33 2 7 [some (.ref M.length), some (.ref a)] [.int 9, .ref M.length] rfl rfl ?_
  refine z_enai (N := M.length + 1) (k := 9) (z_dc1 zt33 (n := 3) rfl) (by decide) rfl (by rw [List.length_append]; rfl) ?_
  rw [List.append_assoc]
  show z_ev d 33 9 [some (.ref M.length), some (.ref a)] [.ref (M.length + 1), .ref M.length] (M ++ [.inr (3, [.null, .null, .null, .null, .int 0, .null, .null, .null, .null, .null, .null, .null]), .inl (0, 9, .inl fun _ => 0)]) K
  refine z_epf (ci := 3) (k := 1) (fs := [.null, .null, .null, .null, .int 0, .null, .null, .null, .null, .null, .null, .null]) (z_dc1 zt33 (n := 4) rfl) (by rw [zo33]; exact zzf3_9) z_geto (by decide) hN rfl (Nat.le_of_ble_eq_true rfl) (Or.inr hi) ?_
  rw [z_seto]
  show z_ev d 33 12 [some (.ref M.length), some (.ref a)] [] (M ++ [.inr (3, [.null, .ref (M.length + 1), .null, .null, .int 0, .null, .null, .null, .null, .null, .null, .null]), .inl (0, 9, .inl fun _ => 0)]) K
  refine z_xP zt33 5 15 [some (.ref M.length), some (.ref a)] [.int 9, .ref M.length] rfl rfl ?_
  refine z_enai (N := M.length + 2) (k := 9) (z_dc1 zt33 (n := 6) rfl) (by decide) rfl (by rw [List.length_append]; rfl) ?_
  rw [List.append_assoc]
  show z_ev d 33 17 [some (.ref M.length), some (.ref a)] [.ref (M.length + 2), .ref M.length] (M ++ [.inr (3, [.null, .ref (M.length + 1), .null, .null, .int 0, .null, .null, .null, .null, .null, .null, .null]), .inl (0, 9, .inl fun _ => 0), .inl (0, 9, .inl fun _ => 0)]) K
  refine z_epf (ci := 3) (k := 2) (fs := [.null, .ref (M.length + 1), .null, .null, .int 0, .null, .null, .null, .null, .null, .null, .null]) (z_dc1 zt33 (n := 7) rfl) (by rw [zo33]; exact zzf3_15) z_geto (by decide) hN rfl (Nat.le_of_ble_eq_true rfl) (Or.inr hi) ?_
  rw [z_seto]
  show z_ev d 33 20 [some (.ref M.length), some (.ref a)] [] (M ++ [.inr (3, [.null, .ref (M.length + 1), .ref (M.length + 2), .null, .int 0, .null, .null, .null, .null, .null, .null, .null]), .inl (0, 9, .inl fun _ => 0), .inl (0, 9, .inl fun _ => 0)]) K
  refine z_xP zt33 8 23 [some (.ref M.length), some (.ref a)] [.int 9, .ref M.length] rfl rfl ?_
  refine z_enai (N := M.length + 3) (k := 9) (z_dc1 zt33 (n := 9) rfl) (by decide) rfl (by rw [List.length_append]; rfl) ?_
  rw [List.append_assoc]
  show z_ev d 33 25 [some (.ref M.length), some (.ref a)] [.ref (M.length + 3), .ref M.length] (M ++ [.inr (3, [.null, .ref (M.length + 1), .ref (M.length + 2), .null, .int 0, .null, .null, .null, .null, .null, .null, .null]), .inl (0, 9, .inl fun _ => 0), .inl (0, 9, .inl fun _ => 0), .inl (0, 9, .inl fun _ => 0)]) K
  refine z_epf (ci := 3) (k := 3) (fs := [.null, .ref (M.length + 1), .ref (M.length + 2), .null, .int 0, .null, .null, .null, .null, .null, .null, .null]) (z_dc1 zt33 (n := 10) rfl) (by rw [zo33]; exact zzf3_18) z_geto (by decide) hN rfl (Nat.le_of_ble_eq_true rfl) (Or.inr hi) ?_
  rw [z_seto]
  show z_ev d 33 28 [some (.ref M.length), some (.ref a)] [] (M ++ [.inr (3, [.null, .ref (M.length + 1), .ref (M.length + 2), .ref (M.length + 3), .int 0, .null, .null, .null, .null, .null, .null, .null]), .inl (0, 9, .inl fun _ => 0), .inl (0, 9, .inl fun _ => 0), .inl (0, 9, .inl fun _ => 0)]) K
  refine z_xP zt33 11 31 [some (.ref M.length), some (.ref a)] [.int 10, .ref M.length] rfl rfl ?_
  refine z_enai (N := M.length + 4) (k := 10) (z_dc1 zt33 (n := 12) rfl) (by decide) rfl (by rw [List.length_append]; rfl) ?_
  rw [List.append_assoc]
  show z_ev d 33 33 [some (.ref M.length), some (.ref a)] [.ref (M.length + 4), .ref M.length] (M ++ [.inr (3, [.null, .ref (M.length + 1), .ref (M.length + 2), .ref (M.length + 3), .int 0, .null, .null, .null, .null, .null, .null, .null]), .inl (0, 9, .inl fun _ => 0), .inl (0, 9, .inl fun _ => 0), .inl (0, 9, .inl fun _ => 0), .inl (0, 10, .inl fun _ => 0)]) K
  refine z_epf (ci := 3) (k := 5) (fs := [.null, .ref (M.length + 1), .ref (M.length + 2), .ref (M.length + 3), .int 0, .null, .null, .null, .null, .null, .null, .null]) (z_dc1 zt33 (n := 13) rfl) (by rw [zo33]; exact zzf3_21) z_geto (by decide) hN rfl (Nat.le_of_ble_eq_true rfl) (Or.inr hi) ?_
  rw [z_seto]
  show z_ev d 33 36 [some (.ref M.length), some (.ref a)] [] (M ++ [.inr (3, [.null, .ref (M.length + 1), .ref (M.length + 2), .ref (M.length + 3), .int 0, .ref (M.length + 4), .null, .null, .null, .null, .null, .null]), .inl (0, 9, .inl fun _ => 0), .inl (0, 9, .inl fun _ => 0), .inl (0, 9, .inl fun _ => 0), .inl (0, 10, .inl fun _ => 0)]) K
  refine z_xP zt33 14 39 [some (.ref M.length), some (.ref a)] [.int 32, .ref M.length] rfl rfl ?_
  refine z_enai (N := M.length + 5) (k := 32) (z_dc1 zt33 (n := 15) rfl) (by decide) rfl (by rw [List.length_append]; rfl) ?_
  rw [List.append_assoc]
  show z_ev d 33 41 [some (.ref M.length), some (.ref a)] [.ref (M.length + 5), .ref M.length] (M ++ [.inr (3, [.null, .ref (M.length + 1), .ref (M.length + 2), .ref (M.length + 3), .int 0, .ref (M.length + 4), .null, .null, .null, .null, .null, .null]), .inl (0, 9, .inl fun _ => 0), .inl (0, 9, .inl fun _ => 0), .inl (0, 9, .inl fun _ => 0), .inl (0, 10, .inl fun _ => 0), .inl (0, 32, .inl fun _ => 0)]) K
  refine z_epf (ci := 3) (k := 6) (fs := [.null, .ref (M.length + 1), .ref (M.length + 2), .ref (M.length + 3), .int 0, .ref (M.length + 4), .null, .null, .null, .null, .null, .null]) (z_dc1 zt33 (n := 16) rfl) (by rw [zo33]; exact zzf3_24) z_geto (by decide) hN rfl (Nat.le_of_ble_eq_true rfl) (Or.inr hi) ?_
  rw [z_seto]
  show z_ev d 33 44 [some (.ref M.length), some (.ref a)] [] (M ++ [.inr (3, [.null, .ref (M.length + 1), .ref (M.length + 2), .ref (M.length + 3), .int 0, .ref (M.length + 4), .ref (M.length + 5), .null, .null, .null, .null, .null]), .inl (0, 9, .inl fun _ => 0), .inl (0, 9, .inl fun _ => 0), .inl (0, 9, .inl fun _ => 0), .inl (0, 10, .inl fun _ => 0), .inl (0, 32, .inl fun _ => 0)]) K
  refine z_xP zt33 17 47 [some (.ref M.length), some (.ref a)] [.int 32, .ref M.length] rfl rfl ?_
  refine z_enai (N := M.length + 6) (k := 32) (z_dc1 zt33 (n := 18) rfl) (by decide) rfl (by rw [List.length_append]; rfl) ?_
  rw [List.append_assoc]
  show z_ev d 33 49 [some (.ref M.length), some (.ref a)] [.ref (M.length + 6), .ref M.length] (M ++ [.inr (3, [.null, .ref (M.length + 1), .ref (M.length + 2), .ref (M.length + 3), .int 0, .ref (M.length + 4), .ref (M.length + 5), .null, .null, .null, .null, .null]), .inl (0, 9, .inl fun _ => 0), .inl (0, 9, .inl fun _ => 0), .inl (0, 9, .inl fun _ => 0), .inl (0, 10, .inl fun _ => 0), .inl (0, 32, .inl fun _ => 0), .inl (0, 32, .inl fun _ => 0)]) K
  refine z_epf (ci := 3) (k := 7) (fs := [.null, .ref (M.length + 1), .ref (M.length + 2), .ref (M.length + 3), .int 0, .ref (M.length + 4), .ref (M.length + 5), .null, .null, .null, .null, .null]) (z_dc1 zt33 (n := 19) rfl) (by rw [zo33]; exact zzf3_27) z_geto (by decide) hN rfl (Nat.le_of_ble_eq_true rfl) (Or.inr hi) ?_
  rw [z_seto]
  show z_ev d 33 52 [some (.ref M.length), some (.ref a)] [] (M ++ [.inr (3, [.null, .ref (M.length + 1), .ref (M.length + 2), .ref (M.length + 3), .int 0, .ref (M.length + 4), .ref (M.length + 5), .ref (M.length + 6), .null, .null, .null, .null]), .inl (0, 9, .inl fun _ => 0), .inl (0, 9, .inl fun _ => 0), .inl (0, 9, .inl fun _ => 0), .inl (0, 10, .inl fun _ => 0), .inl (0, 32, .inl fun _ => 0), .inl (0, 32, .inl fun _ => 0)]) K
  refine z_xP zt33 20 55 [some (.ref M.length), some (.ref a)] [.int 10, .ref M.length] rfl rfl ?_
  refine z_enai (N := M.length + 7) (k := 10) (z_dc1 zt33 (n := 21) rfl) (by decide) rfl (by rw [List.length_append]; rfl) ?_
  rw [List.append_assoc]
  show z_ev d 33 57 [some (.ref M.length), some (.ref a)] [.ref (M.length + 7), .ref M.length] (M ++ [.inr (3, [.null, .ref (M.length + 1), .ref (M.length + 2), .ref (M.length + 3), .int 0, .ref (M.length + 4), .ref (M.length + 5), .ref (M.length + 6), .null, .null, .null, .null]), .inl (0, 9, .inl fun _ => 0), .inl (0, 9, .inl fun _ => 0), .inl (0, 9, .inl fun _ => 0), .inl (0, 10, .inl fun _ => 0), .inl (0, 32, .inl fun _ => 0), .inl (0, 32, .inl fun _ => 0), .inl (0, 10, .inl fun _ => 0)]) K
  refine z_epf (ci := 3) (k := 8) (fs := [.null, .ref (M.length + 1), .ref (M.length + 2), .ref (M.length + 3), .int 0, .ref (M.length + 4), .ref (M.length + 5), .ref (M.length + 6), .null, .null, .null, .null]) (z_dc1 zt33 (n := 22) rfl) (by rw [zo33]; exact zzf3_30) z_geto (by decide) hN rfl (Nat.le_of_ble_eq_true rfl) (Or.inr hi) ?_
  rw [z_seto]
  show z_ev d 33 60 [some (.ref M.length), some (.ref a)] [] (M ++ [.inr (3, [.null, .ref (M.length + 1), .ref (M.length + 2), .ref (M.length + 3), .int 0, .ref (M.length + 4), .ref (M.length + 5), .ref (M.length + 6), .ref (M.length + 7), .null, .null, .null]), .inl (0, 9, .inl fun _ => 0), .inl (0, 9, .inl fun _ => 0), .inl (0, 9, .inl fun _ => 0), .inl (0, 10, .inl fun _ => 0), .inl (0, 32, .inl fun _ => 0), .inl (0, 32, .inl fun _ => 0), .inl (0, 10, .inl fun _ => 0)]) K
  refine z_xP zt33 23 62 [some (.ref M.length), some (.ref a)] [.int 5, .ref M.length] rfl rfl ?_
  refine z_enai (N := M.length + 8) (k := 5) (z_dc1 zt33 (n := 24) rfl) (by decide) rfl (by rw [List.length_append]; rfl) ?_
  rw [List.append_assoc]
  show z_ev d 33 64 [some (.ref M.length), some (.ref a)] [.ref (M.length + 8), .ref M.length] (M ++ [.inr (3, [.null, .ref (M.length + 1), .ref (M.length + 2), .ref (M.length + 3), .int 0, .ref (M.length + 4), .ref (M.length + 5), .ref (M.length + 6), .ref (M.length + 7), .null, .null, .null]), .inl (0, 9, .inl fun _ => 0), .inl (0, 9, .inl fun _ => 0), .inl (0, 9, .inl fun _ => 0), .inl (0, 10, .inl fun _ => 0), .inl (0, 32, .inl fun _ => 0), .inl (0, 32, .inl fun _ => 0), .inl (0, 10, .inl fun _ => 0), .inl (0, 5, .inl fun _ => 0)]) K
  refine z_epf (ci := 3) (k := 10) (fs := [.null, .ref (M.length + 1), .ref (M.length + 2), .ref (M.length + 3), .int 0, .ref (M.length + 4), .ref (M.length + 5), .ref (M.length + 6), .ref (M.length + 7), .null, .null, .null]) (z_dc1 zt33 (n := 25) rfl) (by rw [zo33]; exact zzf3_33) z_geto (by decide) hN rfl (Nat.le_of_ble_eq_true rfl) (Or.inr hi) ?_
  rw [z_seto]
  show z_ev d 33 67 [some (.ref M.length), some (.ref a)] [] (M ++ [.inr (3, [.null, .ref (M.length + 1), .ref (M.length + 2), .ref (M.length + 3), .int 0, .ref (M.length + 4), .ref (M.length + 5), .ref (M.length + 6), .ref (M.length + 7), .null, .ref (M.length + 8), .null]), .inl (0, 9, .inl fun _ => 0), .inl (0, 9, .inl fun _ => 0), .inl (0, 9, .inl fun _ => 0), .inl (0, 10, .inl fun _ => 0), .inl (0, 32, .inl fun _ => 0), .inl (0, 32, .inl fun _ => 0), .inl (0, 10, .inl fun _ => 0), .inl (0, 5, .inl fun _ => 0)]) K
  refine z_xP zt33 26 70 [some (.ref M.length), some (.ref a)] [.int 80, .ref M.length] rfl rfl ?_
  refine z_enai (N := M.length + 9) (k := 80) (z_dc1 zt33 (n := 27) rfl) (by decide) rfl (by rw [List.length_append]; rfl) ?_
  rw [List.append_assoc]
  show z_ev d 33 72 [some (.ref M.length), some (.ref a)] [.ref (M.length + 9), .ref M.length] (M ++ [.inr (3, [.null, .ref (M.length + 1), .ref (M.length + 2), .ref (M.length + 3), .int 0, .ref (M.length + 4), .ref (M.length + 5), .ref (M.length + 6), .ref (M.length + 7), .null, .ref (M.length + 8), .null]), .inl (0, 9, .inl fun _ => 0), .inl (0, 9, .inl fun _ => 0), .inl (0, 9, .inl fun _ => 0), .inl (0, 10, .inl fun _ => 0), .inl (0, 32, .inl fun _ => 0), .inl (0, 32, .inl fun _ => 0), .inl (0, 10, .inl fun _ => 0), .inl (0, 5, .inl fun _ => 0), .inl (0, 80, .inl fun _ => 0)]) K
  refine z_epf (ci := 3) (k := 11) (fs := [.null, .ref (M.length + 1), .ref (M.length + 2), .ref (M.length + 3), .int 0, .ref (M.length + 4), .ref (M.length + 5), .ref (M.length + 6), .ref (M.length + 7), .null, .ref (M.length + 8), .null]) (z_dc1 zt33 (n := 28) rfl) (by rw [zo33]; exact zzf3_36) z_geto (by decide) hN rfl (Nat.le_of_ble_eq_true rfl) (Or.inr hi) ?_
  rw [z_seto]
  show z_ev d 33 75 [some (.ref M.length), some (.ref a)] [] (M ++ [.inr (3, [.null, .ref (M.length + 1), .ref (M.length + 2), .ref (M.length + 3), .int 0, .ref (M.length + 4), .ref (M.length + 5), .ref (M.length + 6), .ref (M.length + 7), .null, .ref (M.length + 8), .ref (M.length + 9)]), .inl (0, 9, .inl fun _ => 0), .inl (0, 9, .inl fun _ => 0), .inl (0, 9, .inl fun _ => 0), .inl (0, 10, .inl fun _ => 0), .inl (0, 32, .inl fun _ => 0), .inl (0, 32, .inl fun _ => 0), .inl (0, 10, .inl fun _ => 0), .inl (0, 5, .inl fun _ => 0), .inl (0, 80, .inl fun _ => 0)]) K
  refine z_xP zt33 29 77 [some (.ref M.length), some (.ref a)] [.ref a, .ref M.length] rfl rfl ?_
  refine z_epf (ci := 3) (k := 0) (fs := [.null, .ref (M.length + 1), .ref (M.length + 2), .ref (M.length + 3), .int 0, .ref (M.length + 4), .ref (M.length + 5), .ref (M.length + 6), .ref (M.length + 7), .null, .ref (M.length + 8), .ref (M.length + 9)]) (z_dc1 zt33 (n := 30) rfl) (by rw [zo33]; exact zzf3_39) z_geto (by decide) hN rfl (Nat.le_of_ble_eq_true rfl) (Or.inr hi) ?_
  rw [z_seto]
  show z_ev d 33 80 [some (.ref M.length), some (.ref a)] [] (M ++ [.inr (3, [.ref a, .ref (M.length + 1), .ref (M.length + 2), .ref (M.length + 3), .int 0, .ref (M.length + 4), .ref (M.length + 5), .ref (M.length + 6), .ref (M.length + 7), .null, .ref (M.length + 8), .ref (M.length + 9)]), .inl (0, 9, .inl fun _ => 0), .inl (0, 9, .inl fun _ => 0), .inl (0, 9, .inl fun _ => 0), .inl (0, 10, .inl fun _ => 0), .inl (0, 32, .inl fun _ => 0), .inl (0, 32, .inl fun _ => 0), .inl (0, 10, .inl fun _ => 0), .inl (0, 5, .inl fun _ => 0), .inl (0, 80, .inl fun _ => 0)]) K
  refine z_xP zt33 31 82 [some (.ref M.length), some (.ref a)] [.ref a, .ref M.length] rfl rfl ?_
  refine z_egf (z_dc1 zt33 (n := 32) rfl) (by rw [zo33]; exact zzf3_43) (z_loo ha) (by decide) ha4 hs ?_
  refine z_enal (N := M.length + 10) (k := sp) (z_dc1 zt33 (n := 33) rfl) hsn hsk (by rw [List.length_append]; rfl) ?_
  rw [List.append_assoc]
  show z_ev d 33 87 [some (.ref M.length), some (.ref a)] [.ref (M.length + 10), .ref M.length] (M ++ [.inr (3, [.ref a, .ref (M.length + 1), .ref (M.length + 2), .ref (M.length + 3), .int 0, .ref (M.length + 4), .ref (M.length + 5), .ref (M.length + 6), .ref (M.length + 7), .null, .ref (M.length + 8), .ref (M.length + 9)]), .inl (0, 9, .inl fun _ => 0), .inl (0, 9, .inl fun _ => 0), .inl (0, 9, .inl fun _ => 0), .inl (0, 10, .inl fun _ => 0), .inl (0, 32, .inl fun _ => 0), .inl (0, 32, .inl fun _ => 0), .inl (0, 10, .inl fun _ => 0), .inl (0, 5, .inl fun _ => 0), .inl (0, 80, .inl fun _ => 0), .inl (1, sp, .inr (.inl fun _ => 0))]) K
  refine z_epf (ci := 3) (k := 9) (fs := [.ref a, .ref (M.length + 1), .ref (M.length + 2), .ref (M.length + 3), .int 0, .ref (M.length + 4), .ref (M.length + 5), .ref (M.length + 6), .ref (M.length + 7), .null, .ref (M.length + 8), .ref (M.length + 9)]) (z_dc1 zt33 (n := 34) rfl) (by rw [zo33]; exact zzf3_49) z_geto (by decide) hN rfl (Nat.le_of_ble_eq_true rfl) (Or.inr hi) ?_
  rw [z_seto]
  show z_ev d 33 90 [some (.ref M.length), some (.ref a)] [] (M ++ [.inr (3, [.ref a, .ref (M.length + 1), .ref (M.length + 2), .ref (M.length + 3), .int 0, .ref (M.length + 4), .ref (M.length + 5), .ref (M.length + 6), .ref (M.length + 7), .ref (M.length + 10), .ref (M.length + 8), .ref (M.length + 9)]), .inl (0, 9, .inl fun _ => 0), .inl (0, 9, .inl fun _ => 0), .inl (0, 9, .inl fun _ => 0), .inl (0, 10, .inl fun _ => 0), .inl (0, 32, .inl fun _ => 0), .inl (0, 32, .inl fun _ => 0), .inl (0, 10, .inl fun _ => 0), .inl (0, 5, .inl fun _ => 0), .inl (0, 80, .inl fun _ => 0), .inl (1, sp, .inr (.inl fun _ => 0))]) K
  exact z_erv (z_dc1 zt33 (n := 35) rfl) zzr33 kk
