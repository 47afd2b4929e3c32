/-! the end of an agenda's constructor -/
theorem zzcV2_69 : (z_find z_cV 2 69).map (·.1) = some (1, 0, [(2, 26)]) := by decide +kernel
theorem zzm26 : z_ml 26 = 4 := by decide +kernel
theorem zzr23 : z_rt 23 = none := by decide +kernel
theorem z_xpfi {d j pc a ci q t m J : Nat} {segs : List (List (Nat × Instr × Nat))} {L : zL} {r : zS} {M M0 : zH} {T : List zK} {rs : List Nat} {K : Option Value → zH → Prop} {idx k : Nat} {cis : List Nat} {dc : String} {v : Value} (ht : z_dcs j segs = true) (n : Nat) (hk : segs[n]? = some [(pc, .putfield idx, 3)]) {oc : Nat} (ho : z_oc j = oc) (hq : z_fF oc idx = some ((k, cis), dc)) (hX : z_X T rs M0 M) (ha : T[a]? = some (.inl (ci, q, t, m, J))) (hc : ci ∈ cis) (hf : k < z_nf ci) (hov : z_okv T (z_fsp ci q t m J k) v) (hft : z_fit (z_fty ci k) v = true) (hr : (1000 + 100 * ci + k) ∈ rs) (hw : ((z_name j).name == "<init>") = true ∧ dc = z_cn (z_oc j)) (kk : ∀ M1, z_X T rs M0 M1 → z_ke T [1000 + 100 * ci + k] M M1 → z_F M1 a k = some v → z_ev d j (pc + 3) L r M1 K) : z_ev d j pc L (v :: .ref a :: r) M K := by
  subst ho
  obtain ⟨fs, h1, h2, h3, h4, h5⟩ := hX.1.ob ha
  have hl : k < fs.length := by rw [h2]; exact hf
  have hkp := z_kpF (i := k) (v := v) ha h1
  refine z_epf (z_dc1 ht hk) hq h1 hc h5 hft hl (Or.inr hw) (kk _ ⟨hX.1.set ha ⟨rfl, ?_, h3, fun i w hi => ?_⟩, hX.2.trans hkp fun x hx => ?_⟩ hkp (z_Fown h1 hl))
  · rw [List.length_set]; exact h2
  · rw [List.getElem?_set] at hi
    split at hi
    · rename_i hki
      subst hki
      cases hi
      exact hov
    · exact h4 i w hi
  · rw [List.mem_singleton.mp hx]; exact hr
/-- arrays -/
theorem zE23 {T : List zK} {d q t N kp : Nat} {p1 p2 p3 p4 many b : Int32} {M : zH} {K : Option Value → zH → Prop} (hW : z_W M T) (hN : 53 ≤ N) (kN : T[N]? = some (.inl (2, q, t, 0, 1))) (n5 : z_F M N 5 = some .null) (n11 : z_F M N 11 = some .null) (hq : p1.toInt = (q : Int)) (q1 : q ≤ 10) (m0 : 0 ≤ many.toInt) (m1 : many.toInt ≤ 1024) {T0 : List zK} (hp : ∀ (a : Nat) (κ : zK), T0[a]? = some κ → T[a]? = some κ ∧ N ≠ a) (kk : ∀ (T3 : List zK) (M3 : zH), z_W M3 T3 → T3[N]? = some (.inl (2, q, t, many.toInt.toNat, 0)) → (∀ (a : Nat) (κ : zK), T0[a]? = some κ → T3[a]? = some κ) → z_ke T0 [102, 111, 1205, 1210, 1211] M M3 → M3.length = M.length + 2 → T3[M.length]? = some (z_ai 102 (many.toInt.toNat) 0 1023) → T3[M.length + 1]? = some (z_al 111 (q * z_sp (many.toInt.toNat))) → K none M3) : z_ev (d + 3) 23 161 [some (.ref N), some (.int p1), some (.int p2), some (.int p3), some (.int p4), some (.ref kp), some (.int many), some (.int b)] [] M K := by
  have hi : ((z_name 23).name == "<init>") = true ∧ "DoorBench$Agenda" = z_cn (z_oc 23) := ⟨zzi23, by rw [zo23]; exact zzn2⟩
  obtain ⟨hW1, hle1⟩ := z_rek (m2 := many.toInt.toNat) hW hN kN n5 n11 (by omega)
  have kN1 := z_setN (κ1 := .inl (2, q, t, many.toInt.toNat, 1)) kN
  have w1 : ∀ (a : Nat) (κ : zK), T0[a]? = some κ → (T.set N (.inl (2, q, t, many.toInt.toNat, 1)))[a]? = some κ := fun a κ h => by rw [List.getElem?_set_ne (hp a κ h).2]; exact (hp a κ h).1
  generalize T.set N (.inl (2, q, t, many.toInt.toNat, 1)) = T1 at *
  refine z_xP zt23 64 164 [some (.ref N), some (.int p1), some (.int p2), some (.int p3), some (.int p4), some (.ref kp), some (.int many), some (.int b)] [.int many, .ref N] rfl rfl ?_
  refine z_enai (N := M.length) (k := many.toInt.toNat) (z_dc1 zt23 (n := 65) rfl) (z_nlo (by omega) (by omega)) rfl rfl ?_
  have z0 : (0 : Int32).toInt = 0 := rfl
  have hW2 : z_W (M ++ [.inl (0, many.toInt.toNat, .inl fun _ => 0)]) (T1 ++ [z_ai 102 (many.toInt.toNat) 0 1023]) := hW1.push (Or.inr ⟨rfl, rfl, rfl, fun i _ => ⟨by show _ ≤ (0 : Int32).toInt; rw [z0]; decide, by show (0 : Int32).toInt ≤ _; rw [z0]; decide⟩⟩)
  have kA : (T1 ++ [z_ai 102 (many.toInt.toNat) 0 1023])[M.length]? = some (z_ai 102 (many.toInt.toNat) 0 1023) := by rw [hW1.1, List.getElem?_append_right (Nat.le_refl _), Nat.sub_self]; rfl
  have kN2 := z_pfx (κs := [z_ai 102 (many.toInt.toNat) 0 1023]) _ _ kN1
  have u2 : z_ke T0 [102, 111, 1205, 1210, 1211] M (M ++ [(.inl (0, many.toInt.toNat, .inl fun _ => 0) : zE)]) := (z_ke.block hW1).sub w1
  have l2 : (M ++ [(.inl (0, many.toInt.toNat, .inl fun _ => 0) : zE)]).length = M.length + 1 := List.length_append ..
  have w2 : ∀ (a : Nat) (κ : zK), T0[a]? = some κ → (T1 ++ [z_ai 102 (many.toInt.toNat) 0 1023])[a]? = some κ := fun a κ h => z_pfx _ _ (w1 a κ h)
  generalize hM2 : M ++ [.inl (0, many.toInt.toNat, .inl fun _ => 0)] = M2 at *
  generalize T1 ++ [z_ai 102 (many.toInt.toNat) 0 1023] = T2 at *
  have X2 : z_X T2 [1205, 1210] M2 M2 := .refl hW2
  refine z_xpfi zt23 66 rfl zo23 zzf2_60 X2 kN2 (by decide) (by decide) (show T2[M.length]? = _ from kA) rfl (by decide) hi (fun M3 X3 ke3 h5 => ?_)
  refine z_xP zt23 67 174 [some (.ref N), some (.int p1), some (.int p2), some (.int p3), some (.int p4), some (.ref kp), some (.int many), some (.int b)] [.int 63, .int many, .ref N] rfl rfl ?_
  have q63 : (63 : Int32).toInt = 63 := rfl
  refine z_xI zt23 68 rfl rfl (fun (x : Int32) (hx : x.toInt = many.toInt + 63) => ?_) (z_pAdd rfl rfl (by omega) (by omega))
  refine z_xP zt23 69 177 [some (.ref N), some (.int p1), some (.int p2), some (.int p3), some (.int p4), some (.ref kp), some (.int many), some (.int b)] [.int 6, .int x, .ref N] rfl rfl ?_
  refine z_xI zt23 70 rfl rfl (fun (s : Int32) (hs : s.toInt = x.toInt / 64) => ?_) (z_pShr (c := 64) 6 rfl rfl (by decide))
  have hs2 : s.toInt = (z_sp (many.toInt.toNat) : Int) := by unfold z_sp; omega
  refine z_xpfi zt23 71 rfl zo23 zzf2_63 X3 kN2 (by decide) (by decide) (z_full s) rfl (by decide) hi (fun M4 X4 ke4 h10 => ?_)
  have h5b := ke4.f kN2 (by decide) h5
  refine z_xP zt23 72 184 [some (.ref N), some (.int p1), some (.int p2), some (.int p3), some (.int p4), some (.ref kp), some (.int many), some (.int b)] [.ref N, .int p1, .ref N] rfl rfl ?_
  refine z_xgv zt23 73 rfl zo23 zzf2_63 X4 kN2 (by decide) h10 ?_
  refine z_xI zt23 74 rfl rfl (fun (z : Int32) (hz : z.toInt = p1.toInt * s.toInt ∧ 0 ≤ z.toInt ∧ z.toInt ≤ 170) => ?_) (z_pMulB (a := 10) (b := 17) rfl rfl (by omega) (by omega) (by omega) (by omega) (by decide) (by decide))
  have hzk : z.toNatClampNeg = q * z_sp (many.toInt.toNat) := by
    have h1 : z.toInt = ((q * z_sp (many.toInt.toNat) : Nat) : Int) := by rw [hz.1, hq, hs2]; exact (Int.natCast_mul _ _).symm
    unfold Int32.toNatClampNeg; omega
  refine z_enal (N := M4.length) (k := q * z_sp (many.toInt.toNat)) (z_dc1 zt23 (n := 75) rfl) (z_nlo (by omega) (by omega)) hzk rfl ?_
  have hW5 : z_W (M4 ++ [.inl (1, q * z_sp (many.toInt.toNat), .inr (.inl fun _ => 0))]) (T2 ++ [z_al 111 (q * z_sp (many.toInt.toNat))]) := X4.1.push (Or.inr ⟨rfl, rfl, rfl⟩)
  have kB : (T2 ++ [z_al 111 (q * z_sp (many.toInt.toNat))])[M4.length]? = some (z_al 111 (q * z_sp (many.toInt.toNat))) := by rw [X4.1.1, List.getElem?_append_right (Nat.le_refl _), Nat.sub_self]; rfl
  have w5 : ∀ (a : Nat) (κ : zK), T0[a]? = some κ → (T2 ++ [z_al 111 (q * z_sp (many.toInt.toNat))])[a]? = some κ := fun a κ h => z_pfx _ _ (w2 a κ h)
  have u4 : z_ke T0 [102, 111, 1205, 1210, 1211] M M4 := u2.trans (X4.2.sub w2) (z_sb (by decide))
  have l4 : M4.length = M2.length := X4.1.1.trans hW2.1.symm
  have l5 : (M4 ++ [(.inl (1, q * z_sp (many.toInt.toNat), .inr (.inl fun _ => 0)) : zE)]).length = M4.length + 1 := List.length_append ..
  have kA5 := z_pfx (κs := [z_al 111 (q * z_sp (many.toInt.toNat))]) _ _ kA
  have kN5 := z_pfx (κs := [z_al 111 (q * z_sp (many.toInt.toNat))]) _ _ kN2
  have kb5 : z_ke T2 [] M4 (M4 ++ [.inl (1, q * z_sp (many.toInt.toNat), .inr (.inl fun _ => 0))]) := z_ke.block X4.1
  have u5 := u4.trans (kb5.sub w2) (z_sb (by decide))
  have h5c := kb5.f kN2 (by decide) h5b
  have h10c := kb5.f kN2 (by decide) h10
  generalize M4 ++ [.inl (1, q * z_sp (many.toInt.toNat), .inr (.inl fun _ => 0))] = M5 at *
  generalize T2 ++ [z_al 111 (q * z_sp (many.toInt.toNat))] = T5 at *
  have X5 : z_X T5 [1211] M5 M5 := .refl hW5
  refine z_xpfi zt23 76 rfl zo23 zzf2_66 X5 kN5 (by decide) (by decide) (show T5[M4.length]? = _ from kB) rfl (by decide) hi (fun M6 X6 ke6 h11 => ?_)
  obtain ⟨hW6, hle6⟩ := z_rek0 X6.1 hN kN5 (ke6.f kN5 (by decide) h5c) (ke6.f kN5 (by decide) h10c) hs2 h11
  have kN6 := z_setN (κ1 := .inl (2, q, t, many.toInt.toNat, 0)) kN5
  have w6 : ∀ (a : Nat) (κ : zK), T0[a]? = some κ → (T5.set N (.inl (2, q, t, many.toInt.toNat, 0)))[a]? = some κ := fun a κ h => by rw [List.getElem?_set_ne (hp a κ h).2]; exact w5 a κ h
  have u6 := u5.trans (X6.2.sub w5) (z_sb (by decide))
  have nlt : N < M.length := by rw [hW.1]; exact (List.getElem?_eq_some_iff.mp kN).1
  have l45 : M.length + 1 = M4.length := by omega
  have kA6 : (T5.set N (.inl (2, q, t, many.toInt.toNat, 0)))[M.length]? = some (z_ai 102 (many.toInt.toNat) 0 1023) := by rw [List.getElem?_set_ne (by omega)]; exact kA5
  have kB6 : (T5.set N (.inl (2, q, t, many.toInt.toNat, 0)))[M.length + 1]? = some (z_al 111 (q * z_sp (many.toInt.toNat))) := by rw [l45, List.getElem?_set_ne (by omega)]; exact kB
  generalize T5.set N (.inl (2, q, t, many.toInt.toNat, 0)) = T6 at *
  refine z_xP zt23 77 194 [some (.ref N), some (.int p1), some (.int p2), some (.int p3), some (.int p4), some (.ref kp), some (.int many), some (.int b)] [.ref N] rfl rfl ?_
  refine z_xcV (vs := [.ref N]) (r := []) (L2 := [some (.ref N), none, none, none]) zt23 78 rfl zo23 zzcV2_69 (Or.inl rfl) rfl (z_X.refl (rs := []) hW6) kN6 rfl rfl rfl (Nat.le_of_ble_eq_true rfl) zzm26 (Nat.le_of_ble_eq_true rfl) rfl ?_
  refine zC26 hW6 kN6 (fun M7 X7 => ?_)
  show z_ev (d + 3) 23 197 [some (.ref N), some (.int p1), some (.int p2), some (.int p3), some (.int p4), some (.ref kp), some (.int many), some (.int b)] [] M7 K
  exact z_xrv zt23 79 rfl zzr23 (kk T6 M7 X7.1 kN6 w6 (u6.trans (X7.2.sub w6) (z_sb (by decide))) (by have := X7.1.1; have := hW6.1; have := X6.1.1; have := hW5.1; omega) kA6 kB6)
