/-! the end of an agenda's constructor, told -/
theorem z_nof {T0 : List zK} {n : Nat} (h : ∀ κ : zK, T0[n]? ≠ some κ) : T0[n]? = none := by
  cases e : T0[n]? with
  | none => rfl
  | some κ => exact absurd e (h κ)
theorem zF23 {T : List zK} {d q t N kp lb : Nat} {B : Nat → Nat} {p1 p2 p3 p4 many b : Int32} {M : zH} {K : Option Value → zH → Prop} (hW : z_W M T) (hN : 53 ≤ N) (kN : T[N]? = some (.inl (2, q, t, 0, 1))) (n5 : z_F M N 5 = some .null) (n11 : z_F M N 11 = some .null) (n9 : z_F M N 9 = some (.ref lb)) (k9 : T[lb]? = some (.inr (109, 1, z_bl q, 0, 0))) (hl : ∀ s, s < 64 * z_bl q → ((z_Lg M lb (s / 64)).toBitVec.getLsbD (s % 64) = true ↔ s < z_po q ∧ B s = 0)) (hmB : many.toInt.toNat = z_lc B (z_po q)) (hq : p1.toInt = (q : Int)) (q1 : q ≤ 10) (m0 : 0 ≤ many.toInt) (m1 : many.toInt ≤ 1024) {T0 : List zK} (hp : ∀ (a : Nat) (κ : zK), T0[a]? = some κ → T[a]? = some κ ∧ N ≠ a) (kk : ∀ (T3 : List zK) (M3 : zH), z_W M3 T3 → T3[N]? = some (.inl (2, q, t, many.toInt.toNat, 0)) → (∀ (a : Nat) (κ : zK), T0[a]? = some κ → T3[a]? = some κ) → z_ke T0 [] M M3 → (∀ k, k ≠ 5 → k ≠ 10 → k ≠ 11 → z_F M3 N k = z_F M N k) → (∀ (a r : Nat) (x : Nat × Nat × Int × Int), T[a]? = some (.inr (r, x)) → r ≠ 102 → r ≠ 111 → M3[a]? = M[a]? ∧ T3[a]? = some (.inr (r, x))) → z_F M3 N 5 = some (.ref M.length) → z_F M3 N 11 = some (.ref (M.length + 1)) → z_LS B (z_po q) (z_Ar M3 M.length) → z_YO B (z_po q) 0 q (z_sp (many.toInt.toNat)) (z_Lg M3 (M.length + 1)) → M3.length = M.length + 2 → T3[M.length]? = some (z_ai 102 (many.toInt.toNat) 0 1023) → T3[M.length + 1]? = some (z_al 111 (q * z_sp (many.toInt.toNat))) → K none M3) : z_ev (d + 3) 23 161 [some (.ref N), some (.int p1), some (.int p2), some (.int p3), some (.int p4), some (.ref kp), some (.int many), some (.int b)] [] M K := by
  have hi : ((z_name 23).name == "<init>") = true ∧ "DoorBench$Agenda" = z_cn (z_oc 23) := ⟨zzi23, by rw [zo23]; exact zzn2⟩
  have o0 : T0[N]? = none := z_nof fun κ h => (hp N κ h).2 rfl
  have oL : ∀ n, M.length ≤ n → T0[n]? = none := fun n hn => z_nof fun κ h => by
    have h1 := (List.getElem?_eq_some_iff.mp (hp n κ h).1).1
    have := hW.1
    omega
  obtain ⟨hW1, hle1⟩ := z_rek (m2 := many.toInt.toNat) hW hN kN n5 n11 (by omega)
  have kN1 := z_setN (κ1 := .inl (2, q, t, many.toInt.toNat, 1)) kN
  have w1 : ∀ (a : Nat) (κ : zK), T0[a]? = some κ → (T.set N (.inl (2, q, t, many.toInt.toNat, 1)))[a]? = some κ := fun a κ h => by rw [List.getElem?_set_ne (hp a κ h).2]; exact (hp a κ h).1
  have v1 : ∀ (a r : Nat) (x : Nat × Nat × Int × Int), T[a]? = some (.inr (r, x)) → (T.set N (.inl (2, q, t, many.toInt.toNat, 1)))[a]? = some (.inr (r, x)) := fun a r x h => by
    rw [List.getElem?_set_ne (fun e => by rw [← e, kN] at h; cases h)]
    exact h
  generalize T.set N (.inl (2, q, t, many.toInt.toNat, 1)) = T1 at *
  refine z_xP zt23 64 164 [some (.ref N), some (.int p1), some (.int p2), some (.int p3), some (.int p4), some (.ref kp), some (.int many), some (.int b)] [.int many, .ref N] rfl rfl ?_
  refine z_enai (N := M.length) (k := many.toInt.toNat) (z_dc1 zt23 (n := 65) rfl) (z_nlo (by omega) (by omega)) rfl rfl ?_
  have z0 : (0 : Int32).toInt = 0 := rfl
  have hW2 : z_W (M ++ [.inl (0, many.toInt.toNat, .inl fun _ => 0)]) (T1 ++ [z_ai 102 (many.toInt.toNat) 0 1023]) := hW1.push (Or.inr ⟨rfl, rfl, rfl, fun i _ => ⟨by show _ ≤ (0 : Int32).toInt; rw [z0]; decide, by show (0 : Int32).toInt ≤ _; rw [z0]; decide⟩⟩)
  have kA : (T1 ++ [z_ai 102 (many.toInt.toNat) 0 1023])[M.length]? = some (z_ai 102 (many.toInt.toNat) 0 1023) := by rw [hW1.1, List.getElem?_append_right (Nat.le_refl _), Nat.sub_self]; rfl
  have kN2 := z_pfx (κs := [z_ai 102 (many.toInt.toNat) 0 1023]) _ _ kN1
  have b2 : z_ke T1 [] M (M ++ [(.inl (0, many.toInt.toNat, .inl fun _ => 0) : zE)]) := z_ke.block hW1
  have u2 : z_ke T0 [] M (M ++ [(.inl (0, many.toInt.toNat, .inl fun _ => 0) : zE)]) := b2.sub w1
  have l2 : (M ++ [(.inl (0, many.toInt.toNat, .inl fun _ => 0) : zE)]).length = M.length + 1 := List.length_append ..
  have w2 : ∀ (a : Nat) (κ : zK), T0[a]? = some κ → (T1 ++ [z_ai 102 (many.toInt.toNat) 0 1023])[a]? = some κ := fun a κ h => z_pfx _ _ (w1 a κ h)
  have v2 : ∀ (a r : Nat) (x : Nat × Nat × Int × Int), T[a]? = some (.inr (r, x)) → (T1 ++ [z_ai 102 (many.toInt.toNat) 0 1023])[a]? = some (.inr (r, x)) := fun a r x h => z_pfx _ _ (v1 a r x h)
  have f2 : ∀ k, z_F (M ++ [(.inl (0, many.toInt.toNat, .inl fun _ => 0) : zE)]) N k = z_F M N k := fun k => b2.1 N 2 q t _ 1 k kN1 (fun h => by cases h)
  have g2 : ∀ (a r : Nat) (x : Nat × Nat × Int × Int), T[a]? = some (.inr (r, x)) → (M ++ [(.inl (0, many.toInt.toNat, .inl fun _ => 0) : zE)])[a]? = M[a]? := fun a r x h => b2.2 a r x (v1 a r x h) (fun h => by cases h)
  generalize hM2 : M ++ [.inl (0, many.toInt.toNat, .inl fun _ => 0)] = M2 at *
  generalize T1 ++ [z_ai 102 (many.toInt.toNat) 0 1023] = T2 at *
  have X2 : z_X T2 [1205, 1210] M2 M2 := .refl hW2
  refine z_xpfn zt23 66 rfl zo23 zzf2_60 X2 kN2 (by decide) (by decide) (show T2[M.length]? = _ from kA) rfl (by decide) hi (fun M3 X3 ke3 h5 hne3 => ?_)
  refine z_xP zt23 67 174 [some (.ref N), some (.int p1), some (.int p2), some (.int p3), some (.int p4), some (.ref kp), some (.int many), some (.int b)] [.int 63, .int many, .ref N] rfl rfl ?_
  have q63 : (63 : Int32).toInt = 63 := rfl
  refine z_xI zt23 68 rfl rfl (fun (x : Int32) (hx : x.toInt = many.toInt + 63) => ?_) (z_pAdd rfl rfl (by omega) (by omega))
  refine z_xP zt23 69 177 [some (.ref N), some (.int p1), some (.int p2), some (.int p3), some (.int p4), some (.ref kp), some (.int many), some (.int b)] [.int 6, .int x, .ref N] rfl rfl ?_
  refine z_xI zt23 70 rfl rfl (fun (s : Int32) (hs : s.toInt = x.toInt / 64) => ?_) (z_pShr (c := 64) 6 rfl rfl (by decide))
  have hs2 : s.toInt = (z_sp (many.toInt.toNat) : Int) := by unfold z_sp; omega
  refine z_xpfn zt23 71 rfl zo23 zzf2_63 X3 kN2 (by decide) (by decide) (z_full s) rfl (by decide) hi (fun M4 X4 ke4 h10 hne4 => ?_)
  have h5b := ke4.f kN2 (by decide) h5
  refine z_xP zt23 72 184 [some (.ref N), some (.int p1), some (.int p2), some (.int p3), some (.int p4), some (.ref kp), some (.int many), some (.int b)] [.ref N, .int p1, .ref N] rfl rfl ?_
  refine z_xgv zt23 73 rfl zo23 zzf2_63 X4 kN2 (by decide) h10 ?_
  refine z_xI zt23 74 rfl rfl (fun (z : Int32) (hz : z.toInt = p1.toInt * s.toInt ∧ 0 ≤ z.toInt ∧ z.toInt ≤ 170) => ?_) (z_pMulB (a := 10) (b := 17) rfl rfl (by omega) (by omega) (by omega) (by omega) (by decide) (by decide))
  have hzk : z.toNatClampNeg = q * z_sp (many.toInt.toNat) := by
    have h1 : z.toInt = ((q * z_sp (many.toInt.toNat) : Nat) : Int) := by rw [hz.1, hq, hs2]; exact (Int.natCast_mul _ _).symm
    unfold Int32.toNatClampNeg; omega
  refine z_enal (N := M4.length) (k := q * z_sp (many.toInt.toNat)) (z_dc1 zt23 (n := 75) rfl) (z_nlo (by omega) (by omega)) hzk rfl ?_
  have hW5 : z_W (M4 ++ [.inl (1, q * z_sp (many.toInt.toNat), .inr (.inl fun _ => 0))]) (T2 ++ [z_al 111 (q * z_sp (many.toInt.toNat))]) := X4.1.push (Or.inr ⟨rfl, rfl, rfl⟩)
  have kB : (T2 ++ [z_al 111 (q * z_sp (many.toInt.toNat))])[M4.length]? = some (z_al 111 (q * z_sp (many.toInt.toNat))) := by rw [X4.1.1, List.getElem?_append_right (Nat.le_refl _), Nat.sub_self]; rfl
  have w5 : ∀ (a : Nat) (κ : zK), T0[a]? = some κ → (T2 ++ [z_al 111 (q * z_sp (many.toInt.toNat))])[a]? = some κ := fun a κ h => z_pfx _ _ (w2 a κ h)
  have v5 : ∀ (a r : Nat) (x : Nat × Nat × Int × Int), T[a]? = some (.inr (r, x)) → (T2 ++ [z_al 111 (q * z_sp (many.toInt.toNat))])[a]? = some (.inr (r, x)) := fun a r x h => z_pfx _ _ (v2 a r x h)
  have u4 : z_ke T0 [] M M4 := (u2.trans (z_ke.ne hne3 o0) (fun _ h => h)).trans (z_ke.ne hne4 o0) (fun _ h => h)
  have l4 : M4.length = M2.length := X4.1.1.trans hW2.1.symm
  have l5 : (M4 ++ [(.inl (1, q * z_sp (many.toInt.toNat), .inr (.inl fun _ => 0)) : zE)]).length = M4.length + 1 := List.length_append ..
  have kA5 := z_pfx (κs := [z_al 111 (q * z_sp (many.toInt.toNat))]) _ _ kA
  have kN5 := z_pfx (κs := [z_al 111 (q * z_sp (many.toInt.toNat))]) _ _ kN2
  have kb5 : z_ke T2 [] M4 (M4 ++ [.inl (1, q * z_sp (many.toInt.toNat), .inr (.inl fun _ => 0))]) := z_ke.block X4.1
  have u5 := u4.trans (kb5.sub w2) (fun _ h => h)
  have h5c := kb5.f kN2 (by decide) h5b
  have h10c := kb5.f kN2 (by decide) h10
  have yz : z_Lg (M4 ++ [(.inl (1, q * z_sp (many.toInt.toNat), .inr (.inl fun _ => 0)) : zE)]) M4.length = fun _ => 0 := z_Lgo (n := q * z_sp (many.toInt.toNat)) (by rw [List.getElem?_append_right (Nat.le_refl _), Nat.sub_self]; rfl)
  have f5 : ∀ k, k ≠ 5 → k ≠ 10 → k ≠ 11 → z_F (M4 ++ [(.inl (1, q * z_sp (many.toInt.toNat), .inr (.inl fun _ => 0)) : zE)]) N k = z_F M N k := fun k c5 c10 c11 => (kb5.1 N 2 q t _ 1 k kN2 (fun h => by cases h)).trans ((X4.2.1 N 2 q t _ 1 k kN2 (fun h => by
    simp only [List.mem_cons, List.not_mem_nil, or_false] at h
    omega)).trans (f2 k))
  have g5 : ∀ (a r : Nat) (x : Nat × Nat × Int × Int), T[a]? = some (.inr (r, x)) → r ≠ 102 → r ≠ 111 → (M4 ++ [(.inl (1, q * z_sp (many.toInt.toNat), .inr (.inl fun _ => 0)) : zE)])[a]? = M[a]? := fun a r x h c1 c2 => (kb5.2 a r x (v2 a r x h) (fun h => by cases h)).trans (by
    have e : a ≠ N := fun e => by rw [e, kN] at h; cases h
    rw [hne4 a e, hne3 a e]
    exact g2 a r x h)
  generalize M4 ++ [.inl (1, q * z_sp (many.toInt.toNat), .inr (.inl fun _ => 0))] = M5 at *
  generalize T2 ++ [z_al 111 (q * z_sp (many.toInt.toNat))] = T5 at *
  have X5 : z_X T5 [1211] M5 M5 := .refl hW5
  refine z_xpfn zt23 76 rfl zo23 zzf2_66 X5 kN5 (by decide) (by decide) (show T5[M4.length]? = _ from kB) rfl (by decide) hi (fun M6 X6 ke6 h11 hne6 => ?_)
  have h5d := ke6.f kN5 (by decide) h5c
  obtain ⟨hW6, hle6⟩ := z_rek0 X6.1 hN kN5 h5d (ke6.f kN5 (by decide) h10c) hs2 h11
  have kN6 := z_setN (κ1 := .inl (2, q, t, many.toInt.toNat, 0)) kN5
  have w6 : ∀ (a : Nat) (κ : zK), T0[a]? = some κ → (T5.set N (.inl (2, q, t, many.toInt.toNat, 0)))[a]? = some κ := fun a κ h => by rw [List.getElem?_set_ne (hp a κ h).2]; exact w5 a κ h
  have u6 := u5.trans (z_ke.ne hne6 o0) (fun _ h => h)
  have nlt : N < M.length := by rw [hW.1]; exact (List.getElem?_eq_some_iff.mp kN).1
  have l45 : M.length + 1 = M4.length := by omega
  have kA6 : (T5.set N (.inl (2, q, t, many.toInt.toNat, 0)))[M.length]? = some (z_ai 102 (many.toInt.toNat) 0 1023) := by rw [List.getElem?_set_ne (by omega)]; exact kA5
  have kB6 : (T5.set N (.inl (2, q, t, many.toInt.toNat, 0)))[M.length + 1]? = some (z_al 111 (q * z_sp (many.toInt.toNat))) := by rw [l45, List.getElem?_set_ne (by omega)]; exact kB
  have v6 : ∀ (a r : Nat) (x : Nat × Nat × Int × Int), T[a]? = some (.inr (r, x)) → (T5.set N (.inl (2, q, t, many.toInt.toNat, 0)))[a]? = some (.inr (r, x)) := fun a r x h => by
    rw [List.getElem?_set_ne (fun e => by rw [← e, kN] at h; cases h)]
    exact v5 a r x h
  have f6 : ∀ k, k ≠ 5 → k ≠ 10 → k ≠ 11 → z_F M6 N k = z_F M N k := fun k c5 c10 c11 => (ke6.1 N 2 q t _ 1 k kN5 (fun h => by
    simp only [List.mem_cons, List.not_mem_nil, or_false] at h
    omega)).trans (f5 k c5 c10 c11)
  have g6 : ∀ (a r : Nat) (x : Nat × Nat × Int × Int), T[a]? = some (.inr (r, x)) → r ≠ 102 → r ≠ 111 → M6[a]? = M[a]? := fun a r x h c1 c2 => by
    rw [hne6 a (fun e => by rw [e, kN] at h; cases h)]
    exact g5 a r x h c1 c2
  have y6 : z_Lg M6 M4.length = fun _ => 0 := (ke6.lg kB (by decide)).trans yz
  generalize T5.set N (.inl (2, q, t, many.toInt.toNat, 0)) = T6 at *
  refine z_xP zt23 77 194 [some (.ref N), some (.int p1), some (.int p2), some (.int p3), some (.int p4), some (.ref kp), some (.int many), some (.int b)] [.ref N] rfl rfl ?_
  refine z_xcV (vs := [.ref N]) (r := []) (L2 := [some (.ref N), none, none, none]) zt23 78 rfl zo23 zzcV2_69 (Or.inl rfl) rfl (z_X.refl (rs := []) hW6) kN6 rfl rfl rfl (Nat.le_of_ble_eq_true rfl) zzm26 (Nat.le_of_ble_eq_true rfl) rfl ?_
  have e9 := (g6 lb 109 _ k9 (by decide) (by decide))
  have eL : z_Lg M6 lb = z_Lg M lb := by unfold z_Lg; rw [e9]
  refine zLC26 (d := d) (T0 := T0) (B := B) (sa := M.length) (lb := lb) (ya := M4.length) hW6 kN6 h5d kA6 ((f6 9 (by decide) (by decide) (by decide)).trans n9) (v6 _ _ _ k9) h11 (by rw [← l45]; exact kB6) (oL _ (Nat.le_refl _)) (oL _ (by omega)) (by rw [eL]; exact hl) hmB y6 (fun M7 X7 u7 hS hY => ?_)
  show z_ev (d + 3) 23 197 [some (.ref N), some (.int p1), some (.int p2), some (.int p3), some (.int p4), some (.ref kp), some (.int many), some (.int b)] [] M7 K
  refine z_xrv zt23 79 rfl zzr23 (kk T6 M7 X7.1 kN6 w6 (u6.trans u7 (fun _ h => h)) (fun k c5 c10 c11 => (X7.2.1 N 2 q t _ 0 k kN6 (fun h => ?_)).trans (f6 k c5 c10 c11)) (fun a r x h c1 c2 => ⟨(X7.2.2 a r x (v6 a r x h) (fun hh => ?_)).trans (g6 a r x h c1 c2), v6 a r x h⟩) (X7.2.f kN6 (by decide) h5d) (by rw [l45]; exact X7.2.f kN6 (by decide) h11) hS (by rw [l45]; exact hY) (by have := X7.1.1; have := hW6.1; have := X6.1.1; have := hW5.1; omega) kA6 kB6)
  · have h : 1000 + 100 * 2 + k ∈ [102, 111] := h
    simp only [List.mem_cons, List.not_mem_nil, or_false] at h
    omega
  · have hh : r ∈ [102, 111] := hh
    simp only [List.mem_cons, List.not_mem_nil, or_false] at hh
    omega
