/-! the calls that leave the shelves as they are -/
theorem zRA74 {d : Nat} {k s c p : Int32} {M : zH} {fs : List Value} {K : Option Value → zH → Prop} (hl : 53 ≤ M.length) (h4 : M[4]? = some (.inr (0, fs))) (f5 : fs[5]? = some (.int p)) (f6 : fs[6]? = some (.ref 13)) (hz : 1 ≤ k.toInt → k.toInt ≤ 4 → s = 0 ∧ c = 0) (hk7 : 0 ≤ k.toInt ∧ k.toInt ≤ 7) (kk : ∀ ci : Nat, (ci : Int) = 4 + k.toInt → K (some (.ref M.length)) (M ++ [.inr (ci, [.int k, .int s, .int c, .int p, .ref 13])])) : z_ev (d + 3) 74 0 [some (.ref 4), some (.int k), some (.int s), some (.int c)] [] M K := by
  refine z_xP zt74 0 1 [some (.ref 4), some (.int k), some (.int s), some (.int c)] [.int k] rfl rfl ?_
  by_cases hk1 : k.toInt = 1
  · obtain ⟨rfl, rfl⟩ := hz (by omega) (by omega)
    obtain rfl := z_sub (k := 1) hk1 rfl
    refine z_xSC zt74 1 rfl 44 rfl rfl ?_
    refine z_enew (N := M.length) (fs := [.int 0, .int 0, .int 0, .int 0, .null]) (z_dc1 zt74 (n := 2) rfl) (by rw [zo74]; exact zzw0_195) rfl rfl ?_
    have g4 : (M ++ [.inr (5, [.int 0, .int 0, .int 0, .int 0, .null])])[4]? = some (.inr (0, fs)) := by rw [List.getElem?_append_left (by omega)]; exact h4
    have gN : (M ++ [.inr (5, [.int 0, .int 0, .int 0, .int 0, .null])])[M.length]? = some (.inr (5, [.int 0, .int 0, .int 0, .int 0, .null])) := by rw [List.getElem?_append_right (Nat.le_refl _), Nat.sub_self]; rfl
    refine z_xP zt74 3 50 [some (.ref 4), some (.int 1), some (.int 0), some (.int 0)] [.ref 4, .int 1, .ref M.length, .ref M.length] rfl rfl ?_
    refine z_egf (z_dc1 zt74 (n := 4) rfl) (by rw [zo74]; exact zzf0_188) g4 (by decide) (by decide) f5 ?_
    refine z_xP zt74 5 54 [some (.ref 4), some (.int 1), some (.int 0), some (.int 0)] [.ref 4, .int p, .int 1, .ref M.length, .ref M.length] rfl rfl ?_
    refine z_egf (z_dc1 zt74 (n := 6) rfl) (by rw [zo74]; exact zzf0_31) g4 (by decide) (by decide) f6 ?_
    refine z_ecI (vs := [.ref M.length, .int 1, .int p, .ref 13]) (r := [.ref M.length]) (L2 := [some (.ref M.length), some (.int 1), some (.int p), some (.ref 13)]) (z_dc1 zt74 (n := 7) rfl) (by rw [zo74]; exact zzcI0_197) (by decide) rfl gN (by omega) rfl rfl (Nat.le_of_ble_eq_true rfl) zzm75 (Nat.le_of_ble_eq_true rfl) rfl ?_
    refine zA75 (by omega) (by decide) gN ?_
    show z_ev (d + 3) 74 60 [some (.ref 4), some (.int 1), some (.int 0), some (.int 0)] [.ref M.length] _ K
    rw [z_seta]
    exact z_era (z_dc1 zt74 (n := 8) rfl) zzr74 (kk 5 rfl)
  by_cases hk2 : k.toInt = 2
  · obtain ⟨rfl, rfl⟩ := hz (by omega) (by omega)
    obtain rfl := z_sub (k := 2) hk2 rfl
    refine z_xSC zt74 1 rfl 61 rfl rfl ?_
    refine z_enew (N := M.length) (fs := [.int 0, .int 0, .int 0, .int 0, .null]) (z_dc1 zt74 (n := 9) rfl) (by rw [zo74]; exact zzw0_200) rfl rfl ?_
    have g4 : (M ++ [.inr (6, [.int 0, .int 0, .int 0, .int 0, .null])])[4]? = some (.inr (0, fs)) := by rw [List.getElem?_append_left (by omega)]; exact h4
    have gN : (M ++ [.inr (6, [.int 0, .int 0, .int 0, .int 0, .null])])[M.length]? = some (.inr (6, [.int 0, .int 0, .int 0, .int 0, .null])) := by rw [List.getElem?_append_right (Nat.le_refl _), Nat.sub_self]; rfl
    refine z_xP zt74 10 67 [some (.ref 4), some (.int 2), some (.int 0), some (.int 0)] [.ref 4, .int 2, .ref M.length, .ref M.length] rfl rfl ?_
    refine z_egf (z_dc1 zt74 (n := 11) rfl) (by rw [zo74]; exact zzf0_188) g4 (by decide) (by decide) f5 ?_
    refine z_xP zt74 12 71 [some (.ref 4), some (.int 2), some (.int 0), some (.int 0)] [.ref 4, .int p, .int 2, .ref M.length, .ref M.length] rfl rfl ?_
    refine z_egf (z_dc1 zt74 (n := 13) rfl) (by rw [zo74]; exact zzf0_31) g4 (by decide) (by decide) f6 ?_
    refine z_ecI (vs := [.ref M.length, .int 2, .int p, .ref 13]) (r := [.ref M.length]) (L2 := [some (.ref M.length), some (.int 2), some (.int p), some (.ref 13)]) (z_dc1 zt74 (n := 14) rfl) (by rw [zo74]; exact zzcI0_202) (by decide) rfl gN (by omega) rfl rfl (Nat.le_of_ble_eq_true rfl) zzm77 (Nat.le_of_ble_eq_true rfl) rfl ?_
    refine zA77 (by omega) (by decide) gN ?_
    show z_ev (d + 3) 74 77 [some (.ref 4), some (.int 2), some (.int 0), some (.int 0)] [.ref M.length] _ K
    rw [z_seta]
    exact z_era (z_dc1 zt74 (n := 15) rfl) zzr74 (kk 6 rfl)
  by_cases hk3 : k.toInt = 3
  · obtain ⟨rfl, rfl⟩ := hz (by omega) (by omega)
    obtain rfl := z_sub (k := 3) hk3 rfl
    refine z_xSC zt74 1 rfl 78 rfl rfl ?_
    refine z_enew (N := M.length) (fs := [.int 0, .int 0, .int 0, .int 0, .null]) (z_dc1 zt74 (n := 16) rfl) (by rw [zo74]; exact zzw0_203) rfl rfl ?_
    have g4 : (M ++ [.inr (7, [.int 0, .int 0, .int 0, .int 0, .null])])[4]? = some (.inr (0, fs)) := by rw [List.getElem?_append_left (by omega)]; exact h4
    have gN : (M ++ [.inr (7, [.int 0, .int 0, .int 0, .int 0, .null])])[M.length]? = some (.inr (7, [.int 0, .int 0, .int 0, .int 0, .null])) := by rw [List.getElem?_append_right (Nat.le_refl _), Nat.sub_self]; rfl
    refine z_xP zt74 17 84 [some (.ref 4), some (.int 3), some (.int 0), some (.int 0)] [.ref 4, .int 3, .ref M.length, .ref M.length] rfl rfl ?_
    refine z_egf (z_dc1 zt74 (n := 18) rfl) (by rw [zo74]; exact zzf0_188) g4 (by decide) (by decide) f5 ?_
    refine z_xP zt74 19 88 [some (.ref 4), some (.int 3), some (.int 0), some (.int 0)] [.ref 4, .int p, .int 3, .ref M.length, .ref M.length] rfl rfl ?_
    refine z_egf (z_dc1 zt74 (n := 20) rfl) (by rw [zo74]; exact zzf0_31) g4 (by decide) (by decide) f6 ?_
    refine z_ecI (vs := [.ref M.length, .int 3, .int p, .ref 13]) (r := [.ref M.length]) (L2 := [some (.ref M.length), some (.int 3), some (.int p), some (.ref 13)]) (z_dc1 zt74 (n := 21) rfl) (by rw [zo74]; exact zzcI0_205) (by decide) rfl gN (by omega) rfl rfl (Nat.le_of_ble_eq_true rfl) zzm78 (Nat.le_of_ble_eq_true rfl) rfl ?_
    refine zA78 (by omega) (by decide) gN ?_
    show z_ev (d + 3) 74 94 [some (.ref 4), some (.int 3), some (.int 0), some (.int 0)] [.ref M.length] _ K
    rw [z_seta]
    exact z_era (z_dc1 zt74 (n := 22) rfl) zzr74 (kk 7 rfl)
  by_cases hk4 : k.toInt = 4
  · obtain ⟨rfl, rfl⟩ := hz (by omega) (by omega)
    obtain rfl := z_sub (k := 4) hk4 rfl
    refine z_xSC zt74 1 rfl 95 rfl rfl ?_
    refine z_enew (N := M.length) (fs := [.int 0, .int 0, .int 0, .int 0, .null]) (z_dc1 zt74 (n := 23) rfl) (by rw [zo74]; exact zzw0_206) rfl rfl ?_
    have g4 : (M ++ [.inr (8, [.int 0, .int 0, .int 0, .int 0, .null])])[4]? = some (.inr (0, fs)) := by rw [List.getElem?_append_left (by omega)]; exact h4
    have gN : (M ++ [.inr (8, [.int 0, .int 0, .int 0, .int 0, .null])])[M.length]? = some (.inr (8, [.int 0, .int 0, .int 0, .int 0, .null])) := by rw [List.getElem?_append_right (Nat.le_refl _), Nat.sub_self]; rfl
    refine z_xP zt74 24 101 [some (.ref 4), some (.int 4), some (.int 0), some (.int 0)] [.ref 4, .int 4, .ref M.length, .ref M.length] rfl rfl ?_
    refine z_egf (z_dc1 zt74 (n := 25) rfl) (by rw [zo74]; exact zzf0_188) g4 (by decide) (by decide) f5 ?_
    refine z_xP zt74 26 105 [some (.ref 4), some (.int 4), some (.int 0), some (.int 0)] [.ref 4, .int p, .int 4, .ref M.length, .ref M.length] rfl rfl ?_
    refine z_egf (z_dc1 zt74 (n := 27) rfl) (by rw [zo74]; exact zzf0_31) g4 (by decide) (by decide) f6 ?_
    refine z_ecI (vs := [.ref M.length, .int 4, .int p, .ref 13]) (r := [.ref M.length]) (L2 := [some (.ref M.length), some (.int 4), some (.int p), some (.ref 13)]) (z_dc1 zt74 (n := 28) rfl) (by rw [zo74]; exact zzcI0_208) (by decide) rfl gN (by omega) rfl rfl (Nat.le_of_ble_eq_true rfl) zzm79 (Nat.le_of_ble_eq_true rfl) rfl ?_
    refine zA79 (by omega) (by decide) gN ?_
    show z_ev (d + 3) 74 111 [some (.ref 4), some (.int 4), some (.int 0), some (.int 0)] [.ref M.length] _ K
    rw [z_seta]
    exact z_era (z_dc1 zt74 (n := 29) rfl) zzr74 (kk 8 rfl)
  by_cases hk5 : k.toInt = 5
  · obtain rfl := z_sub (k := 5) hk5 rfl
    refine z_xSC zt74 1 rfl 112 rfl rfl ?_
    refine z_enew (N := M.length) (fs := [.int 0, .int 0, .int 0, .int 0, .null]) (z_dc1 zt74 (n := 30) rfl) (by rw [zo74]; exact zzw0_209) rfl rfl ?_
    have g4 : (M ++ [.inr (9, [.int 0, .int 0, .int 0, .int 0, .null])])[4]? = some (.inr (0, fs)) := by rw [List.getElem?_append_left (by omega)]; exact h4
    have gN : (M ++ [.inr (9, [.int 0, .int 0, .int 0, .int 0, .null])])[M.length]? = some (.inr (9, [.int 0, .int 0, .int 0, .int 0, .null])) := by rw [List.getElem?_append_right (Nat.le_refl _), Nat.sub_self]; rfl
    refine z_xP zt74 31 118 [some (.ref 4), some (.int 5), some (.int s), some (.int c)] [.ref 4, .int 5, .ref M.length, .ref M.length] rfl rfl ?_
    refine z_egf (z_dc1 zt74 (n := 32) rfl) (by rw [zo74]; exact zzf0_188) g4 (by decide) (by decide) f5 ?_
    refine z_xP zt74 33 122 [some (.ref 4), some (.int 5), some (.int s), some (.int c)] [.ref 4, .int p, .int 5, .ref M.length, .ref M.length] rfl rfl ?_
    refine z_egf (z_dc1 zt74 (n := 34) rfl) (by rw [zo74]; exact zzf0_31) g4 (by decide) (by decide) f6 ?_
    refine z_xP zt74 35 127 [some (.ref 4), some (.int 5), some (.int s), some (.int c)] [.int c, .int s, .ref 13, .int p, .int 5, .ref M.length, .ref M.length] rfl rfl ?_
    refine z_ecI (vs := [.ref M.length, .int 5, .int p, .ref 13, .int s, .int c]) (r := [.ref M.length]) (L2 := [some (.ref M.length), some (.int 5), some (.int p), some (.ref 13), some (.int s), some (.int c)]) (z_dc1 zt74 (n := 36) rfl) (by rw [zo74]; exact zzcI0_211) (by decide) rfl gN (by omega) rfl rfl (Nat.le_of_ble_eq_true rfl) zzm80 (Nat.le_of_ble_eq_true rfl) rfl ?_
    refine zA80 (by omega) (by decide) gN ?_
    show z_ev (d + 3) 74 130 [some (.ref 4), some (.int 5), some (.int s), some (.int c)] [.ref M.length] _ K
    rw [z_seta]
    exact z_era (z_dc1 zt74 (n := 37) rfl) zzr74 (kk 9 rfl)
  by_cases hk6 : k.toInt = 6
  · obtain rfl := z_sub (k := 6) hk6 rfl
    refine z_xSC zt74 1 rfl 131 rfl rfl ?_
    refine z_enew (N := M.length) (fs := [.int 0, .int 0, .int 0, .int 0, .null]) (z_dc1 zt74 (n := 38) rfl) (by rw [zo74]; exact zzw0_214) rfl rfl ?_
    have g4 : (M ++ [.inr (10, [.int 0, .int 0, .int 0, .int 0, .null])])[4]? = some (.inr (0, fs)) := by rw [List.getElem?_append_left (by omega)]; exact h4
    have gN : (M ++ [.inr (10, [.int 0, .int 0, .int 0, .int 0, .null])])[M.length]? = some (.inr (10, [.int 0, .int 0, .int 0, .int 0, .null])) := by rw [List.getElem?_append_right (Nat.le_refl _), Nat.sub_self]; rfl
    refine z_xP zt74 39 137 [some (.ref 4), some (.int 6), some (.int s), some (.int c)] [.ref 4, .int 6, .ref M.length, .ref M.length] rfl rfl ?_
    refine z_egf (z_dc1 zt74 (n := 40) rfl) (by rw [zo74]; exact zzf0_188) g4 (by decide) (by decide) f5 ?_
    refine z_xP zt74 41 141 [some (.ref 4), some (.int 6), some (.int s), some (.int c)] [.ref 4, .int p, .int 6, .ref M.length, .ref M.length] rfl rfl ?_
    refine z_egf (z_dc1 zt74 (n := 42) rfl) (by rw [zo74]; exact zzf0_31) g4 (by decide) (by decide) f6 ?_
    refine z_xP zt74 43 146 [some (.ref 4), some (.int 6), some (.int s), some (.int c)] [.int c, .int s, .ref 13, .int p, .int 6, .ref M.length, .ref M.length] rfl rfl ?_
    refine z_ecI (vs := [.ref M.length, .int 6, .int p, .ref 13, .int s, .int c]) (r := [.ref M.length]) (L2 := [some (.ref M.length), some (.int 6), some (.int p), some (.ref 13), some (.int s), some (.int c)]) (z_dc1 zt74 (n := 44) rfl) (by rw [zo74]; exact zzcI0_216) (by decide) rfl gN (by omega) rfl rfl (Nat.le_of_ble_eq_true rfl) zzm81 (Nat.le_of_ble_eq_true rfl) rfl ?_
    refine zA81 (by omega) (by decide) gN ?_
    show z_ev (d + 3) 74 149 [some (.ref 4), some (.int 6), some (.int s), some (.int c)] [.ref M.length] _ K
    rw [z_seta]
    exact z_era (z_dc1 zt74 (n := 45) rfl) zzr74 (kk 10 rfl)
  by_cases hk7 : k.toInt = 7
  · obtain rfl := z_sub (k := 7) hk7 rfl
    refine z_xSC zt74 1 rfl 150 rfl rfl ?_
    refine z_enew (N := M.length) (fs := [.int 0, .int 0, .int 0, .int 0, .null]) (z_dc1 zt74 (n := 46) rfl) (by rw [zo74]; exact zzw0_217) rfl rfl ?_
    have g4 : (M ++ [.inr (11, [.int 0, .int 0, .int 0, .int 0, .null])])[4]? = some (.inr (0, fs)) := by rw [List.getElem?_append_left (by omega)]; exact h4
    have gN : (M ++ [.inr (11, [.int 0, .int 0, .int 0, .int 0, .null])])[M.length]? = some (.inr (11, [.int 0, .int 0, .int 0, .int 0, .null])) := by rw [List.getElem?_append_right (Nat.le_refl _), Nat.sub_self]; rfl
    refine z_xP zt74 47 156 [some (.ref 4), some (.int 7), some (.int s), some (.int c)] [.ref 4, .int 7, .ref M.length, .ref M.length] rfl rfl ?_
    refine z_egf (z_dc1 zt74 (n := 48) rfl) (by rw [zo74]; exact zzf0_188) g4 (by decide) (by decide) f5 ?_
    refine z_xP zt74 49 160 [some (.ref 4), some (.int 7), some (.int s), some (.int c)] [.ref 4, .int p, .int 7, .ref M.length, .ref M.length] rfl rfl ?_
    refine z_egf (z_dc1 zt74 (n := 50) rfl) (by rw [zo74]; exact zzf0_31) g4 (by decide) (by decide) f6 ?_
    refine z_xP zt74 51 165 [some (.ref 4), some (.int 7), some (.int s), some (.int c)] [.int c, .int s, .ref 13, .int p, .int 7, .ref M.length, .ref M.length] rfl rfl ?_
    refine z_ecI (vs := [.ref M.length, .int 7, .int p, .ref 13, .int s, .int c]) (r := [.ref M.length]) (L2 := [some (.ref M.length), some (.int 7), some (.int p), some (.ref 13), some (.int s), some (.int c)]) (z_dc1 zt74 (n := 52) rfl) (by rw [zo74]; exact zzcI0_219) (by decide) rfl gN (by omega) rfl rfl (Nat.le_of_ble_eq_true rfl) zzm82 (Nat.le_of_ble_eq_true rfl) rfl ?_
    refine zA82 (by omega) (by decide) gN ?_
    show z_ev (d + 3) 74 168 [some (.ref 4), some (.int 7), some (.int s), some (.int c)] [.ref M.length] _ K
    rw [z_seta]
    exact z_era (z_dc1 zt74 (n := 53) rfl) zzr74 (kk 11 rfl)
  refine z_xSD (t := 169) zt74 1 rfl rfl (by omega) ?_
  refine z_enew (N := M.length) (fs := [.int 0, .int 0, .int 0, .int 0, .null]) (z_dc1 zt74 (n := 54) rfl) (by rw [zo74]; exact zzw0_25) rfl rfl ?_
  have g4 : (M ++ [.inr (4, [.int 0, .int 0, .int 0, .int 0, .null])])[4]? = some (.inr (0, fs)) := by rw [List.getElem?_append_left (by omega)]; exact h4
  have gN : (M ++ [.inr (4, [.int 0, .int 0, .int 0, .int 0, .null])])[M.length]? = some (.inr (4, [.int 0, .int 0, .int 0, .int 0, .null])) := by rw [List.getElem?_append_right (Nat.le_refl _), Nat.sub_self]; rfl
  refine z_xP zt74 55 175 [some (.ref 4), some (.int k), some (.int s), some (.int c)] [.ref 4, .int k, .ref M.length, .ref M.length] rfl rfl ?_
  refine z_egf (z_dc1 zt74 (n := 56) rfl) (by rw [zo74]; exact zzf0_188) g4 (by decide) (by decide) f5 ?_
  refine z_xP zt74 57 179 [some (.ref 4), some (.int k), some (.int s), some (.int c)] [.ref 4, .int p, .int k, .ref M.length, .ref M.length] rfl rfl ?_
  refine z_egf (z_dc1 zt74 (n := 58) rfl) (by rw [zo74]; exact zzf0_31) g4 (by decide) (by decide) f6 ?_
  refine z_xP zt74 59 184 [some (.ref 4), some (.int k), some (.int s), some (.int c)] [.int c, .int s, .ref 13, .int p, .int k, .ref M.length, .ref M.length] rfl rfl ?_
  refine z_ecI (vs := [.ref M.length, .int k, .int p, .ref 13, .int s, .int c]) (r := [.ref M.length]) (L2 := [some (.ref M.length), some (.int k), some (.int p), some (.ref 13), some (.int s), some (.int c)]) (z_dc1 zt74 (n := 60) rfl) (by rw [zo74]; exact zzcI0_220) (by decide) rfl gN (by omega) rfl rfl (Nat.le_of_ble_eq_true rfl) zzm76 (Nat.le_of_ble_eq_true rfl) rfl ?_
  refine zA76 (by omega) (by decide) gN ?_
  show z_ev (d + 3) 74 187 [some (.ref 4), some (.int k), some (.int s), some (.int c)] [.ref M.length] _ K
  rw [z_seta]
  exact z_era (z_dc1 zt74 (n := 61) rfl) zzr74 (kk 4 (by omega))
theorem zRT73b {T : List zK} {d : Nat} {K : Option Value → zH → Prop} {p1 p2 p3 s4 s5 s c w : Int32} {M : zH} (hA : z_GG T M ∧ z_GL M ∧ z_G4 M ∧ z_F M 4 5 = z_F M 19 21) (hw : z_F M 4 5 = some (.int w)) (w0 : 0 ≤ w.toInt) (w1 : w.toInt < 20) (hk : 0 ≤ p1.toInt ∧ p1.toInt ≤ 7) (hs : 0 ≤ s.toInt ∧ s.toInt ≤ 9) (hc : 0 ≤ c.toInt ∧ c.toInt ≤ 8) (hz : 1 ≤ p1.toInt → p1.toInt ≤ 4 → s = 0 ∧ c = 0) (kk : ∀ (y u : Int32) (T1 : List zK) (M3 : zH), y.toInt = w.toInt → z_F M3 4 5 = some (.int u) → u.toInt = w.toInt + 1 → z_F M3 19 21 = z_F M 19 21 → z_GG T1 M3 ∧ z_GL M3 ∧ z_G4 M3 → (∀ (a : Nat) (κ : zK), T[a]? = some κ → T1[a]? = some κ) → z_ke T [12, 1005] M M3 → z_O M3 12 = z_updR (z_O M 12) w.toNatClampNeg (some M.length) → T1[M.length]? = some (.inl (4 + p1.toInt.toNat, 0, 0, 0, 0)) → z_F M3 M.length 0 = some (.int p1) → z_F M3 M.length 1 = some (.int s) → z_F M3 M.length 2 = some (.int c) → z_F M3 M.length 3 = some (.int w) → M3.length = M.length + 1 → z_sz M3 = z_sz M + 5 → z_pot M3 = z_pot M → K (some (.int y)) M3) : z_ev (d + 4) 73 125 [some (.ref 4), some (.int p1), some (.int p2), some (.int p3), some (.int s4), some (.int s5)] [.int c, .int s, .int p1, .ref 4, .int w, .ref 12] M K := by
  have hW := hA.1.1
  have k4 : T[4]? = some (.inl (0, 0, 0, 0, 0)) := hW.k rfl (by decide)
  have k19 : T[19]? = some (.inl (12, 0, 0, 0, 0)) := hW.k rfl (by decide)
  have k10 : T[10]? = some (.inr (10, 2, 8, 9, 0)) := hW.k rfl (by decide)
  have k11 : T[11]? = some (.inr (11, 2, 8, 5, 0)) := hW.k rfl (by decide)
  have k12 : T[12]? = some (.inr (12, 3, 20, 0, 0)) := hW.k rfl (by decide)
  obtain ⟨fs, m4, m5, m6, m7, m8⟩ := hW.ob k4
  have f5 : fs[5]? = some (.int w) := by have := hw; unfold z_F at this; rw [m4] at this; exact this
  have f6 : fs[6]? = some (.ref 13) := by
    obtain ⟨v, q1, q2⟩ := hW.fld k4 (k := 6) (by decide)
    unfold z_F at q1
    rw [m4] at q1
    match v, q2 with
    | .ref a, q2 => have : a = 13 := q2; rw [← this]; exact q1
  have X0 : z_X T [] M M := .refl hW
  refine z_xcV (vs := [.ref 4, .int p1, .int s, .int c]) (r := [.int w, .ref 12]) (L2 := [some (.ref 4), some (.int p1), some (.int s), some (.int c)]) zt73 52 rfl zo73 zzcV0_191 (by decide) rfl X0 k4 rfl rfl rfl (Nat.le_of_ble_eq_true rfl) zzm74 (Nat.le_of_ble_eq_true rfl) rfl ?_
  refine zRA74 (by rw [hW.1]; exact hW.ge) m4 f5 f6 hz hk (fun ci hce => ?_)
  have hci : 4 ≤ ci ∧ ci ≤ 11 := by omega
  have hcn : ci = 4 + p1.toInt.toNat := by omega
  show z_ev (d + 4) 73 128 [some (.ref 4), some (.int p1), some (.int p2), some (.int p3), some (.int s4), some (.int s5)] [.ref M.length, .int w, .ref 12] (M ++ [(.inr (ci, [.int p1, .int s, .int c, .int w, .ref 13]))]) _
  have hfs : ∀ k, z_fsp ci 0 0 0 0 k = z_fsW k := fun k => z_w8 (fun x => z_fsp x 0 0 0 0 k = z_fsW k) rfl rfl rfl rfl rfl rfl rfl rfl hci
  have hnf : z_nf ci = 5 := z_w8 (fun x => z_nf x = 5) (by decide) (by decide) (by decide) (by decide) (by decide) (by decide) (by decide) (by decide) hci
  have hwt : z_wt (T ++ [(.inl (ci, 0, 0, 0, 0) : zK)]) (.inl (ci, 0, 0, 0, 0)) (.inr (ci, [.int p1, .int s, .int c, .int w, .ref 13])) := by
    refine ⟨rfl, hnf.symm, ⟨by omega, fun z => by omega, fun z => by omega⟩, fun k v hv => ?_⟩
    rw [hfs]
    match k, v, hv with
    | 0, _, hv => cases hv; exact hk
    | 1, _, hv => cases hv; exact hs
    | 2, _, hv => cases hv; exact hc
    | 3, _, hv => cases hv; exact ⟨w0, by omega⟩
    | 4, _, hv => cases hv; rfl
  have hW1 : z_W (M ++ [(.inr (ci, [.int p1, .int s, .int c, .int w, .ref 13]))]) (T ++ [(.inl (ci, 0, 0, 0, 0) : zK)]) := hW.push hwt
  have hsm : z_same T M (M ++ [(.inr (ci, [.int p1, .int s, .int c, .int w, .ref 13]))]) := z_same.push hW
  have hB := z_new4 hA hsm hW1
  have X : z_X (T ++ [(.inl (ci, 0, 0, 0, 0) : zK)]) [12, 1005] (M ++ [(.inr (ci, [.int p1, .int s, .int c, .int w, .ref 13]))]) (M ++ [(.inr (ci, [.int p1, .int s, .int c, .int w, .ref 13]))]) := .refl hW1
  have f4 : (T ++ [(.inl (ci, 0, 0, 0, 0) : zK)])[4]? = some (.inl (0, 0, 0, 0, 0)) := X.1.k rfl (by decide)
  have f19 : (T ++ [(.inl (ci, 0, 0, 0, 0) : zK)])[19]? = some (.inl (12, 0, 0, 0, 0)) := X.1.k rfl (by decide)
  have f10 : (T ++ [(.inl (ci, 0, 0, 0, 0) : zK)])[10]? = some (.inr (10, 2, 8, 9, 0)) := X.1.k rfl (by decide)
  have f11 : (T ++ [(.inl (ci, 0, 0, 0, 0) : zK)])[11]? = some (.inr (11, 2, 8, 5, 0)) := X.1.k rfl (by decide)
  have f12 : (T ++ [(.inl (ci, 0, 0, 0, 0) : zK)])[12]? = some (.inr (12, 3, 20, 0, 0)) := X.1.k rfl (by decide)
  have fN : (T ++ [(.inl (ci, 0, 0, 0, 0) : zK)])[M.length]? = some (.inl (ci, 0, 0, 0, 0)) := by rw [hW.1, List.getElem?_append_right (Nat.le_refl _), Nat.sub_self]; rfl
  have hw1 : z_F (M ++ [(.inr (ci, [.int p1, .int s, .int c, .int w, .ref 13]))]) 4 5 = some (.int w) := (hsm.f k4 (by decide)).trans hw
  refine z_ev.mono (z_ev.grow (K := fun v M3 => ∃ y u : Int32, v = some (.int y) ∧ y.toInt = w.toInt ∧ z_F M3 4 5 = some (.int u) ∧ u.toInt = w.toInt + 1 ∧ z_X (T ++ [(.inl (ci, 0, 0, 0, 0) : zK)]) [12, 1005] (M ++ [(.inr (ci, [.int p1, .int s, .int c, .int w, .ref 13]))]) M3 ∧ z_O M3 12 = z_updR (z_O (M ++ [(.inr (ci, [.int p1, .int s, .int c, .int w, .ref 13]))]) 12) w.toNatClampNeg (some M.length)) ?_) (fun v M3 ⟨⟨y, u, hv, hy, hu, hu1, X3, hO⟩, hg, _⟩ => ?_)
  · refine z_xasB (c := ci) zt73 53 rfl X f12 w0 w1 fN hci (by decide) (fun M2 X2 ke2 hO => ?_)
    have hw2 : z_F M2 4 5 = some (.int w) := ke2.f f4 (by decide) hw1
    refine z_xP zt73 54 131 [some (.ref 4), some (.int p1), some (.int p2), some (.int p3), some (.int s4), some (.int s5)] [.ref 4, .ref 4] rfl rfl ?_
    refine z_xgv zt73 55 rfl zo73 zzf0_188 X2 f4 (by decide) hw2 ?_
    refine z_xP zt73 56 135 [some (.ref 4), some (.int p1), some (.int p2), some (.int p3), some (.int s4), some (.int s5)] [.int 1, .int w, .ref 4] rfl rfl ?_
    refine z_xI zt73 57 rfl rfl (fun (u : Int32) (hu : u.toInt = w.toInt + 1) => ?_) (z_pAdd rfl rfl (by omega) (by omega))
    refine z_xpf zt73 58 rfl zo73 zzf0_188 X2 f4 (by decide) (by decide) (show 0 ≤ u.toInt ∧ u.toInt ≤ 20 from ⟨by omega, by omega⟩) rfl (by decide) zw0_5 (fun M3 X3 ke3 h3 => ?_)
    refine z_xP zt73 59 140 [some (.ref 4), some (.int p1), some (.int p2), some (.int p3), some (.int s4), some (.int s5)] [.ref 4] rfl rfl ?_
    refine z_xgv zt73 60 rfl zo73 zzf0_188 X3 f4 (by decide) h3 ?_
    refine z_xP zt73 61 144 [some (.ref 4), some (.int p1), some (.int p2), some (.int p3), some (.int s4), some (.int s5)] [.int 1, .int u] rfl rfl ?_
    refine z_xI zt73 62 rfl rfl (fun (y : Int32) (hy : y.toInt = u.toInt - 1) => ?_) (z_pSub rfl rfl (by omega) (by omega))
    exact z_xri zt73 63 rfl zzr73 ⟨y, u, rfl, by omega, h3, hu, X3, (ke3.o f12 (by decide)).trans hO⟩
  · subst hv
    have hgf : ∀ k : Nat, z_F M3 M.length k = z_F (M ++ [(.inr (ci, [.int p1, .int s, .int c, .int w, .ref 13]))]) M.length k := fun k => X3.2.1 M.length ci 0 0 0 0 k fN (fun h => by
      rcases List.mem_cons.mp h with h | h
      · omega
      · have := List.mem_singleton.mp h
        omega)
    have hg0 : z_F (M ++ [(.inr (ci, [.int p1, .int s, .int c, .int w, .ref 13]))]) M.length 0 = some (.int p1) := by unfold z_F; rw [z_geto]; rfl
    have hg1 : z_F (M ++ [(.inr (ci, [.int p1, .int s, .int c, .int w, .ref 13]))]) M.length 1 = some (.int s) := by unfold z_F; rw [z_geto]; rfl
    have hg2 : z_F (M ++ [(.inr (ci, [.int p1, .int s, .int c, .int w, .ref 13]))]) M.length 2 = some (.int c) := by unfold z_F; rw [z_geto]; rfl
    have hg3 : z_F (M ++ [(.inr (ci, [.int p1, .int s, .int c, .int w, .ref 13]))]) M.length 3 = some (.int w) := by unfold z_F; rw [z_geto]; rfl
    refine kk y u _ M3 hy hu hu1 ?_ ⟨⟨X3.1, ⟨?_, ?_⟩, ?_⟩, hB.2.1.go X3 (by decide), hB.2.2.1.go X3 (by decide)⟩ z_pfx ((z_ke.block hW).trans (X3.2.sub z_pfx) (z_sb (by decide))) ?_ (by rw [← hcn]; exact fN) ((hgf 0).trans hg0) ((hgf 1).trans hg1) ((hgf 2).trans hg2) ((hgf 3).trans hg3) ?_ ?_ ?_
    · exact (X3.2.1 19 12 0 0 0 0 21 f19 (by decide)).trans (hsm.f k19 (by decide))
    · rw [X3.2.1 4 0 0 0 0 0 3 f4 (by decide), X3.2.o f10 (by decide), X3.2.o f11 (by decide)]
      exact hB.1.2.1.1
    · intro A hA2 i i0 i1
      rw [hu] at hA2
      cases hA2
      rw [hO]
      unfold z_updR
      by_cases hi : i.toNatClampNeg = w.toNatClampNeg
      · rw [if_pos hi]; intro h; cases h
      · rw [if_neg hi]
        refine hB.1.2.1.2 w hw1 i i0 ?_
        unfold Int32.toNatClampNeg at hi
        omega
    · exact hB.1.2.2.go X3 hB.1.1 (by decide)
    · rw [hO, z_kbo hW k12]
    · rw [X3.1.1, List.length_append, ← hW.1]; rfl
    · rw [z_szg hg (X3.1.1.trans hW1.1.symm), z_sz_push]; show _ + z_nf ci = _; rw [hnf]
    · exact (z_kep X3 (by decide)).trans (z_potF (hsm.f k4 (by decide)))
theorem zRT73 {T : List zK} {d : Nat} {K : Option Value → zH → Prop} {p1 p2 p3 s4 s5 w : Int32} {M : zH} (hA : z_GG T M ∧ z_GL M ∧ z_G4 M ∧ z_F M 4 5 = z_F M 19 21) (hw : z_F M 4 5 = some (.int w)) (w0 : 0 ≤ w.toInt) (w1 : w.toInt < 20) (hk : 0 ≤ p1.toInt ∧ p1.toInt ≤ 7) (h4 : ((s4.toInt = 1 ∧ (p1.toInt = 5 ∨ p1.toInt = 6) ∧ 0 ≤ p2.toInt ∧ p2.toInt ≤ 9) ∨ (s4.toInt = 0 ∧ p1.toInt ≠ 5 ∧ p1.toInt ≠ 6))) (h5 : ((s5.toInt = 1 ∧ (p1.toInt = 6 ∨ p1.toInt = 7) ∧ 0 ≤ p3.toInt ∧ p3.toInt ≤ 8) ∨ (s5.toInt = 0 ∧ p1.toInt ≠ 6 ∧ p1.toInt ≠ 7))) (kk : ∀ (y u s c : Int32) (T1 : List zK) (M3 : zH), (((p1.toInt = 5 ∨ p1.toInt = 6) ∧ s = p2) ∨ (p1.toInt ≠ 5 ∧ p1.toInt ≠ 6 ∧ s = 0)) → (((p1.toInt = 6 ∨ p1.toInt = 7) ∧ c = p3) ∨ (p1.toInt ≠ 6 ∧ p1.toInt ≠ 7 ∧ c = 0)) → y.toInt = w.toInt → z_F M3 4 5 = some (.int u) → u.toInt = w.toInt + 1 → z_F M3 19 21 = z_F M 19 21 → z_GG T1 M3 ∧ z_GL M3 ∧ z_G4 M3 → (∀ (a : Nat) (κ : zK), T[a]? = some κ → T1[a]? = some κ) → z_ke T [12, 1005] M M3 → z_O M3 12 = z_updR (z_O M 12) w.toNatClampNeg (some M.length) → T1[M.length]? = some (.inl (4 + p1.toInt.toNat, 0, 0, 0, 0)) → z_F M3 M.length 0 = some (.int p1) → z_F M3 M.length 1 = some (.int s) → z_F M3 M.length 2 = some (.int c) → z_F M3 M.length 3 = some (.int w) → M3.length = M.length + 1 → z_sz M3 = z_sz M + 5 → z_pot M3 = z_pot M → K (some (.int y)) M3) : z_ev (d + 4) 73 95 [some (.ref 4), some (.int p1), some (.int p2), some (.int p3), some (.int s4), some (.int s5)] [] M K := by
  have X : z_X T [] M M := .refl hA.1.1
  have f4 : T[4]? = some (.inl (0, 0, 0, 0, 0)) := X.1.k rfl (by decide)
  have z0 : (0 : Int32).toInt = 0 := rfl
  refine z_xP zt73 40 96 [some (.ref 4), some (.int p1), some (.int p2), some (.int p3), some (.int s4), some (.int s5)] [.ref 4] rfl rfl ?_
  refine z_xgX (b := 12) zt73 41 rfl zo73 zzf0_27 X f4 (by decide) (by decide) rfl ?_
  refine z_xP zt73 42 100 [some (.ref 4), some (.int p1), some (.int p2), some (.int p3), some (.int s4), some (.int s5)] [.ref 4, .ref 12] rfl rfl ?_
  refine z_xgv zt73 43 rfl zo73 zzf0_188 X f4 (by decide) hw ?_
  refine z_xP zt73 44 107 [some (.ref 4), some (.int p1), some (.int p2), some (.int p3), some (.int s4), some (.int s5)] [.int s4, .int p1, .ref 4, .int w, .ref 12] rfl rfl ?_
  refine z_xZ zt73 45 rfl rfl (fun (h6 : s4.toInt = 0) => ?_) (fun (h6 : s4.toInt ≠ 0) => ?_)
  · refine z_xP zt73 47 115 [some (.ref 4), some (.int p1), some (.int p2), some (.int p3), some (.int s4), some (.int s5)] [.int 0, .int p1, .ref 4, .int w, .ref 12] rfl rfl ?_
    refine z_xP zt73 48 117 [some (.ref 4), some (.int p1), some (.int p2), some (.int p3), some (.int s4), some (.int s5)] [.int s5, .int 0, .int p1, .ref 4, .int w, .ref 12] rfl rfl ?_
    refine z_xZ zt73 49 rfl rfl (fun (h7 : s5.toInt = 0) => ?_) (fun (h7 : s5.toInt ≠ 0) => ?_)
    · refine z_xP zt73 51 125 [some (.ref 4), some (.int p1), some (.int p2), some (.int p3), some (.int s4), some (.int s5)] [.int 0, .int 0, .int p1, .ref 4, .int w, .ref 12] rfl rfl ?_
      exact zRT73b hA hw w0 w1 hk ⟨by omega, by omega⟩ ⟨by omega, by omega⟩ (fun _ _ => ⟨rfl, rfl⟩) (fun y u T1 M3 => kk y u 0 0 T1 M3 (Or.inr ⟨by omega, by omega, rfl⟩) (Or.inr ⟨by omega, by omega, rfl⟩))
    · refine z_xP zt73 50 125 [some (.ref 4), some (.int p1), some (.int p2), some (.int p3), some (.int s4), some (.int s5)] [.int p3, .int 0, .int p1, .ref 4, .int w, .ref 12] rfl rfl ?_
      exact zRT73b hA hw w0 w1 hk ⟨by omega, by omega⟩ ⟨by omega, by omega⟩ (fun z1 z2 => by omega) (fun y u T1 M3 => kk y u 0 p3 T1 M3 (Or.inr ⟨by omega, by omega, rfl⟩) (Or.inl ⟨by omega, rfl⟩))
  · refine z_xP zt73 46 115 [some (.ref 4), some (.int p1), some (.int p2), some (.int p3), some (.int s4), some (.int s5)] [.int p2, .int p1, .ref 4, .int w, .ref 12] rfl rfl ?_
    refine z_xP zt73 48 117 [some (.ref 4), some (.int p1), some (.int p2), some (.int p3), some (.int s4), some (.int s5)] [.int s5, .int p2, .int p1, .ref 4, .int w, .ref 12] rfl rfl ?_
    refine z_xZ zt73 49 rfl rfl (fun (h7 : s5.toInt = 0) => ?_) (fun (h7 : s5.toInt ≠ 0) => ?_)
    · refine z_xP zt73 51 125 [some (.ref 4), some (.int p1), some (.int p2), some (.int p3), some (.int s4), some (.int s5)] [.int 0, .int p2, .int p1, .ref 4, .int w, .ref 12] rfl rfl ?_
      exact zRT73b hA hw w0 w1 hk ⟨by omega, by omega⟩ ⟨by omega, by omega⟩ (fun z1 z2 => by omega) (fun y u T1 M3 => kk y u p2 0 T1 M3 (Or.inl ⟨by omega, rfl⟩) (Or.inr ⟨by omega, by omega, rfl⟩))
    · refine z_xP zt73 50 125 [some (.ref 4), some (.int p1), some (.int p2), some (.int p3), some (.int s4), some (.int s5)] [.int p3, .int p2, .int p1, .ref 4, .int w, .ref 12] rfl rfl ?_
      exact zRT73b hA hw w0 w1 hk ⟨by omega, by omega⟩ ⟨by omega, by omega⟩ (fun z1 z2 => by omega) (fun y u T1 M3 => kk y u p2 p3 T1 M3 (Or.inl ⟨by omega, rfl⟩) (Or.inl ⟨by omega, rfl⟩))
theorem zRC235 {T : List zK} {d : Nat} {K : Option Value → zH → Prop} {p1 : Int32} {p2 : Int32} {p3 : Int32} {zp0 : Int32} {M0 : zH} (hW : z_W M0 T) (hz0 : z_F M0 19 21 = some (.int zp0)) (bz0 : 0 ≤ zp0.toInt ∧ zp0.toInt ≤ 20) (kk : ∀ (x : Int32) (M1 : zH), z_X T zw235 M0 M1 → (-3) ≤ x.toInt → x.toInt ≤ 19 → (0 ≤ x.toInt → ∃ v : Int32, (v = p1) ∧ z_Ar M1 36 = upd (z_Ar M0 36) zp0.toNatClampNeg v) → (x.toInt < 0 → z_Ar M1 36 = z_Ar M0 36) → (0 ≤ x.toInt → ∃ v : Int32, (((p1.toInt = 5 ∨ p1.toInt = 6) ∧ v = p2) ∨ (p1.toInt ≠ 5 ∧ p1.toInt ≠ 6 ∧ v = 0)) ∧ z_Ar M1 37 = upd (z_Ar M0 37) zp0.toNatClampNeg v) → (x.toInt < 0 → z_Ar M1 37 = z_Ar M0 37) → (0 ≤ x.toInt → ∃ v : Int32, (((p1.toInt = 6 ∨ p1.toInt = 7) ∧ v = p3) ∨ (p1.toInt ≠ 6 ∧ p1.toInt ≠ 7 ∧ v = 0)) ∧ z_Ar M1 38 = upd (z_Ar M0 38) zp0.toNatClampNeg v) → (x.toInt < 0 → z_Ar M1 38 = z_Ar M0 38) → ∀ (w0 : Int32), z_F M1 19 21 = some (.int w0) → 0 ≤ w0.toInt ∧ w0.toInt ≤ 20 → ((p1.toInt < 0 ∨ 7 < p1.toInt ∨ ((p1.toInt = 5 ∨ p1.toInt = 6) ∧ (p2.toInt < 0 ∨ 9 < p2.toInt)) ∨ ((p1.toInt = 6 ∨ p1.toInt = 7) ∧ (p3.toInt < 0 ∨ 8 < p3.toInt))) → x.toInt = -1 ∧ w0.toInt = zp0.toInt) → (¬ (p1.toInt < 0 ∨ 7 < p1.toInt ∨ ((p1.toInt = 5 ∨ p1.toInt = 6) ∧ (p2.toInt < 0 ∨ 9 < p2.toInt)) ∨ ((p1.toInt = 6 ∨ p1.toInt = 7) ∧ (p3.toInt < 0 ∨ 8 < p3.toInt))) → 20 ≤ zp0.toInt → x.toInt = -3 ∧ w0.toInt = zp0.toInt) → (¬ (p1.toInt < 0 ∨ 7 < p1.toInt ∨ ((p1.toInt = 5 ∨ p1.toInt = 6) ∧ (p2.toInt < 0 ∨ 9 < p2.toInt)) ∨ ((p1.toInt = 6 ∨ p1.toInt = 7) ∧ (p3.toInt < 0 ∨ 8 < p3.toInt))) → zp0.toInt < 20 → x.toInt = zp0.toInt ∧ w0.toInt = zp0.toInt + 1) → K (some (.int x)) M1) : z_ev (d + 1) 235 0 [some (.ref 19), some (.int p1), some (.int p2), some (.int p3)] [] M0 K := by
  have X : z_X T zw235 M0 M0 := .refl hW
  refine z_xP zt235 0 1 [some (.ref 19), some (.int p1), some (.int p2), some (.int p3)] [.int p1] rfl rfl ?_
  have h1 := z_b32 p1
  refine z_xL zt235 1 rfl rfl (fun (y2 : Int64) (h3 : y2.toInt = p1.toInt) => ?_) (z_qI2L rfl)
  refine z_xP zt235 2 3 [some (.ref 19), some (.int p1), some (.int p2), some (.int p3)] [.long 0, .long y2] rfl rfl ?_
  refine z_xl2 zt235 3 rfl zo235 zkl12_265 ?_
  refine z_xcS (vs := [.long y2, .long 0, .long 7]) (r := []) (L2 := [some (.long y2), none, some (.long 0), none, some (.long 7), none]) zt235 4 rfl zo235 zzcS12_116 (Or.inl rfl) (Nat.le_of_ble_eq_true rfl) rfl rfl (Nat.le_of_ble_eq_true rfl) zzm189 (Nat.le_of_ble_eq_true rfl) rfl ?_
  refine z_xP zt189 0 2 [some (.long y2), none, some (.long 0), none, some (.long 7), none] [.long 0, .long y2] rfl rfl ?_
  refine z_xI zt189 1 rfl rfl (fun (x4 : Int32) (h5 : (x4.toInt < 0 ∧ y2.toInt < 0) ∨ (x4.toInt = 0 ∧ y2.toInt = 0) ∨ (0 < x4.toInt ∧ 0 < y2.toInt)) => ?_) (z_qCmp rfl rfl)
  refine z_xZ zt189 2 rfl rfl (fun (h6 : x4.toInt < 0) => ?_) (fun (h6 : 0 ≤ x4.toInt) => ?_)
  · skip
    refine z_xP zt189 7 18 [some (.long y2), none, some (.long 0), none, some (.long 7), none] [.int 0] rfl rfl ?_
    refine z_xrz zt189 8 rfl zzr189 (by decide) (by decide) ?_
    show z_ev (d + 1) 235 9 [some (.ref 19), some (.int p1), some (.int p2), some (.int p3)] [.int 0] M0 _
    refine z_xZ zt235 5 rfl rfl (fun (h7 : (0 : Int) = 0) => ?_) (fun (h7 : (0 : Int) ≠ 0) => absurd h7 (by omega))
    refine z_xP zt235 26 60 [some (.ref 19), some (.int p1), some (.int p2), some (.int p3)] [.int (-1)] rfl rfl ?_
    have qm1 : (((-1) : Int32)).toInt = (-1) := rfl
    have qm1 : (((-1) : Int32)).toInt = (-1) := rfl
    have qm1 : (((-1) : Int32)).toInt = (-1) := rfl
    have qm1 : (((-1) : Int32)).toInt = (-1) := rfl
    have qm1 : (((-1) : Int32)).toInt = (-1) := rfl
    have qm1 : (((-1) : Int32)).toInt = (-1) := rfl
    have f19 : T[19]? = some (.inl (12, 0, 0, 0, 0)) := X.1.k rfl (by decide)
    have qm1 : (((-1) : Int32)).toInt = (-1) := rfl
    exact z_xri zt235 27 rfl zzr235 (kk (-1) M0 X (by omega) (by omega) (fun hx => absurd hx (by omega)) (fun _ => rfl) (fun hx => absurd hx (by omega)) (fun _ => rfl) (fun hx => absurd hx (by omega)) (fun _ => rfl) zp0 hz0 ⟨by omega, by omega⟩ (by omega) (by omega) (by omega))
  refine z_xP zt189 3 9 [some (.long y2), none, some (.long 0), none, some (.long 7), none] [.long 7, .long y2] rfl rfl ?_
  refine z_xI zt189 4 rfl rfl (fun (x8 : Int32) (h9 : (x8.toInt < 0 ∧ y2.toInt < 7) ∨ (x8.toInt = 0 ∧ y2.toInt = 7) ∨ (0 < x8.toInt ∧ 7 < y2.toInt)) => ?_) (z_qCmp rfl rfl)
  refine z_xZ zt189 5 rfl rfl (fun (h10 : 0 < x8.toInt) => ?_) (fun (h10 : x8.toInt ≤ 0) => ?_)
  · skip
    refine z_xP zt189 7 18 [some (.long y2), none, some (.long 0), none, some (.long 7), none] [.int 0] rfl rfl ?_
    refine z_xrz zt189 8 rfl zzr189 (by decide) (by decide) ?_
    show z_ev (d + 1) 235 9 [some (.ref 19), some (.int p1), some (.int p2), some (.int p3)] [.int 0] M0 _
    refine z_xZ zt235 5 rfl rfl (fun (h11 : (0 : Int) = 0) => ?_) (fun (h11 : (0 : Int) ≠ 0) => absurd h11 (by omega))
    refine z_xP zt235 26 60 [some (.ref 19), some (.int p1), some (.int p2), some (.int p3)] [.int (-1)] rfl rfl ?_
    have qm1 : (((-1) : Int32)).toInt = (-1) := rfl
    have qm1 : (((-1) : Int32)).toInt = (-1) := rfl
    have qm1 : (((-1) : Int32)).toInt = (-1) := rfl
    have qm1 : (((-1) : Int32)).toInt = (-1) := rfl
    have qm1 : (((-1) : Int32)).toInt = (-1) := rfl
    have qm1 : (((-1) : Int32)).toInt = (-1) := rfl
    have f19 : T[19]? = some (.inl (12, 0, 0, 0, 0)) := X.1.k rfl (by decide)
    have qm1 : (((-1) : Int32)).toInt = (-1) := rfl
    exact z_xri zt235 27 rfl zzr235 (kk (-1) M0 X (by omega) (by omega) (fun hx => absurd hx (by omega)) (fun _ => rfl) (fun hx => absurd hx (by omega)) (fun _ => rfl) (fun hx => absurd hx (by omega)) (fun _ => rfl) zp0 hz0 ⟨by omega, by omega⟩ (by omega) (by omega) (by omega))
  refine z_xP zt189 6 18 [some (.long y2), none, some (.long 0), none, some (.long 7), none] [.int 1] rfl rfl ?_
  refine z_xrz zt189 8 rfl zzr189 (by decide) (by decide) ?_
  show z_ev (d + 1) 235 9 [some (.ref 19), some (.int p1), some (.int p2), some (.int p3)] [.int 1] M0 _
  refine z_xZ zt235 5 rfl rfl (fun (h12 : (1 : Int) = 0) => absurd h12 (by omega)) (fun (h12 : (1 : Int) ≠ 0) => ?_)
  refine z_xP zt235 6 14 [some (.ref 19), some (.int p1), some (.int p2), some (.int p3)] [.int 5, .int p1] rfl rfl ?_
  refine z_xJ zt235 7 rfl rfl (fun (h13 : p1.toInt = 5) => ?_) (fun (h13 : p1.toInt ≠ 5) => ?_)
  · skip
    refine z_xP zt235 10 24 [some (.ref 19), some (.int p1), some (.int p2), some (.int p3)] [.int p2] rfl rfl ?_
    have h14 := z_b32 p2
    refine z_xL zt235 11 rfl rfl (fun (y15 : Int64) (h16 : y15.toInt = p2.toInt) => ?_) (z_qI2L rfl)
    refine z_xP zt235 12 26 [some (.ref 19), some (.int p1), some (.int p2), some (.int p3)] [.long 0, .long y15] rfl rfl ?_
    refine z_xl2 zt235 13 rfl zo235 zkl12_232 ?_
    refine z_xcS (vs := [.long y15, .long 0, .long 9]) (r := []) (L2 := [some (.long y15), none, some (.long 0), none, some (.long 9), none]) zt235 14 rfl zo235 zzcS12_116 (Or.inl rfl) (Nat.le_of_ble_eq_true rfl) rfl rfl (Nat.le_of_ble_eq_true rfl) zzm189 (Nat.le_of_ble_eq_true rfl) rfl ?_
    refine z_xP zt189 0 2 [some (.long y15), none, some (.long 0), none, some (.long 9), none] [.long 0, .long y15] rfl rfl ?_
    refine z_xI zt189 1 rfl rfl (fun (x17 : Int32) (h18 : (x17.toInt < 0 ∧ y15.toInt < 0) ∨ (x17.toInt = 0 ∧ y15.toInt = 0) ∨ (0 < x17.toInt ∧ 0 < y15.toInt)) => ?_) (z_qCmp rfl rfl)
    refine z_xZ zt189 2 rfl rfl (fun (h19 : x17.toInt < 0) => ?_) (fun (h19 : 0 ≤ x17.toInt) => ?_)
    · skip
      refine z_xP zt189 7 18 [some (.long y15), none, some (.long 0), none, some (.long 9), none] [.int 0] rfl rfl ?_
      refine z_xrz zt189 8 rfl zzr189 (by decide) (by decide) ?_
      show z_ev (d + 1) 235 32 [some (.ref 19), some (.int p1), some (.int p2), some (.int p3)] [.int 0] M0 _
      refine z_xZ zt235 15 rfl rfl (fun (h20 : (0 : Int) = 0) => ?_) (fun (h20 : (0 : Int) ≠ 0) => absurd h20 (by omega))
      refine z_xP zt235 26 60 [some (.ref 19), some (.int p1), some (.int p2), some (.int p3)] [.int (-1)] rfl rfl ?_
      have qm1 : (((-1) : Int32)).toInt = (-1) := rfl
      have qm1 : (((-1) : Int32)).toInt = (-1) := rfl
      have qm1 : (((-1) : Int32)).toInt = (-1) := rfl
      have qm1 : (((-1) : Int32)).toInt = (-1) := rfl
      have qm1 : (((-1) : Int32)).toInt = (-1) := rfl
      have qm1 : (((-1) : Int32)).toInt = (-1) := rfl
      have f19 : T[19]? = some (.inl (12, 0, 0, 0, 0)) := X.1.k rfl (by decide)
      have qm1 : (((-1) : Int32)).toInt = (-1) := rfl
      exact z_xri zt235 27 rfl zzr235 (kk (-1) M0 X (by omega) (by omega) (fun hx => absurd hx (by omega)) (fun _ => rfl) (fun hx => absurd hx (by omega)) (fun _ => rfl) (fun hx => absurd hx (by omega)) (fun _ => rfl) zp0 hz0 ⟨by omega, by omega⟩ (by omega) (by omega) (by omega))
    refine z_xP zt189 3 9 [some (.long y15), none, some (.long 0), none, some (.long 9), none] [.long 9, .long y15] rfl rfl ?_
    refine z_xI zt189 4 rfl rfl (fun (x21 : Int32) (h22 : (x21.toInt < 0 ∧ y15.toInt < 9) ∨ (x21.toInt = 0 ∧ y15.toInt = 9) ∨ (0 < x21.toInt ∧ 9 < y15.toInt)) => ?_) (z_qCmp rfl rfl)
    refine z_xZ zt189 5 rfl rfl (fun (h23 : 0 < x21.toInt) => ?_) (fun (h23 : x21.toInt ≤ 0) => ?_)
    · skip
      refine z_xP zt189 7 18 [some (.long y15), none, some (.long 0), none, some (.long 9), none] [.int 0] rfl rfl ?_
      refine z_xrz zt189 8 rfl zzr189 (by decide) (by decide) ?_
      show z_ev (d + 1) 235 32 [some (.ref 19), some (.int p1), some (.int p2), some (.int p3)] [.int 0] M0 _
      refine z_xZ zt235 15 rfl rfl (fun (h24 : (0 : Int) = 0) => ?_) (fun (h24 : (0 : Int) ≠ 0) => absurd h24 (by omega))
      refine z_xP zt235 26 60 [some (.ref 19), some (.int p1), some (.int p2), some (.int p3)] [.int (-1)] rfl rfl ?_
      have qm1 : (((-1) : Int32)).toInt = (-1) := rfl
      have qm1 : (((-1) : Int32)).toInt = (-1) := rfl
      have qm1 : (((-1) : Int32)).toInt = (-1) := rfl
      have qm1 : (((-1) : Int32)).toInt = (-1) := rfl
      have qm1 : (((-1) : Int32)).toInt = (-1) := rfl
      have qm1 : (((-1) : Int32)).toInt = (-1) := rfl
      have f19 : T[19]? = some (.inl (12, 0, 0, 0, 0)) := X.1.k rfl (by decide)
      have qm1 : (((-1) : Int32)).toInt = (-1) := rfl
      exact z_xri zt235 27 rfl zzr235 (kk (-1) M0 X (by omega) (by omega) (fun hx => absurd hx (by omega)) (fun _ => rfl) (fun hx => absurd hx (by omega)) (fun _ => rfl) (fun hx => absurd hx (by omega)) (fun _ => rfl) zp0 hz0 ⟨by omega, by omega⟩ (by omega) (by omega) (by omega))
    refine z_xP zt189 6 18 [some (.long y15), none, some (.long 0), none, some (.long 9), none] [.int 1] rfl rfl ?_
    refine z_xrz zt189 8 rfl zzr189 (by decide) (by decide) ?_
    show z_ev (d + 1) 235 32 [some (.ref 19), some (.int p1), some (.int p2), some (.int p3)] [.int 1] M0 _
    refine z_xZ zt235 15 rfl rfl (fun (h25 : (1 : Int) = 0) => absurd h25 (by omega)) (fun (h25 : (1 : Int) ≠ 0) => ?_)
    refine z_xP zt235 16 38 [some (.ref 19), some (.int p1), some (.int p2), some (.int p3)] [.int 6, .int p1] rfl rfl ?_
    refine z_xJ zt235 17 rfl rfl (fun (h26 : p1.toInt = 6) => absurd h26 (by omega)) (fun (h26 : p1.toInt ≠ 6) => ?_)
    refine z_xP zt235 18 44 [some (.ref 19), some (.int p1), some (.int p2), some (.int p3)] [.int 7, .int p1] rfl rfl ?_
    refine z_xJ zt235 19 rfl rfl (fun (h27 : p1.toInt ≠ 7) => ?_) (fun (h27 : p1.toInt = 7) => absurd h27 (by omega))
    refine z_xP zt235 28 62 [some (.ref 19), some (.int p1), some (.int p2), some (.int p3)] [.ref 19] rfl rfl ?_
    have f19 : T[19]? = some (.inl (12, 0, 0, 0, 0)) := X.1.k rfl (by decide)
    refine z_xgv zt235 29 rfl zo235 zzf12_269 X f19 (by decide) hz0 ?_
    refine z_xP zt235 30 67 [some (.ref 19), some (.int p1), some (.int p2), some (.int p3)] [.int 20, .int zp0] rfl rfl ?_
    refine z_xJ zt235 31 rfl rfl (fun (h28 : zp0.toInt ≠ 20) => ?_) (fun (h28 : zp0.toInt = 20) => ?_)
    · skip
      refine z_xP zt235 34 74 [some (.ref 19), some (.int p1), some (.int p2), some (.int p3)] [.ref 19] rfl rfl ?_
      refine z_xgX (b := 36) zt235 35 rfl zo235 zzf12_58 X f19 (by decide) (by decide) rfl ?_
      refine z_xP zt235 36 78 [some (.ref 19), some (.int p1), some (.int p2), some (.int p3)] [.ref 19, .ref 36] rfl rfl ?_
      refine z_xgv zt235 37 rfl zo235 zzf12_269 X f19 (by decide) hz0 ?_
      refine z_xP zt235 38 82 [some (.ref 19), some (.int p1), some (.int p2), some (.int p3)] [.int p1, .int zp0, .ref 36] rfl rfl ?_
      have f36 : T[36]? = some (.inr (36, 0, 20, 0, 7)) := X.1.k rfl (by decide)
      refine z_xis zt235 39 rfl X f36 (by decide) (by decide) (by omega) (by omega) (by omega) (by omega) (by decide) (fun M29 X30 e31 h32 => ?_)
      have h33 := h32
      refine z_xP zt235 40 84 [some (.ref 19), some (.int p1), some (.int p2), some (.int p3)] [.ref 19] rfl rfl ?_
      refine z_xgX (b := 37) zt235 41 rfl zo235 zzf12_61 X30 f19 (by decide) (by decide) rfl ?_
      refine z_xP zt235 42 88 [some (.ref 19), some (.int p1), some (.int p2), some (.int p3)] [.ref 19, .ref 37] rfl rfl ?_
      have h34 := (e31.f f19 (by decide) hz0)
      refine z_xgv zt235 43 rfl zo235 zzf12_269 X30 f19 (by decide) h34 ?_
      refine z_xP zt235 44 93 [some (.ref 19), some (.int p1), some (.int p2), some (.int p3)] [.int 5, .int p1, .int zp0, .ref 37] rfl rfl ?_
      refine z_xJ zt235 45 rfl rfl (fun (h35 : p1.toInt = 5) => ?_) (fun (h35 : p1.toInt ≠ 5) => absurd h35 (by omega))
      refine z_xP zt235 48 107 [some (.ref 19), some (.int p1), some (.int p2), some (.int p3)] [.int p2, .int zp0, .ref 37] rfl rfl ?_
      have f37 : T[37]? = some (.inr (37, 0, 20, 0, 9)) := X30.1.k rfl (by decide)
      refine z_xis zt235 50 rfl X30 f37 (by decide) (by decide) (by omega) (by omega) (by omega) (by omega) (by decide) (fun M36 X37 e38 h39 => ?_)
      have h40 := (h39).trans (congrArg (fun f => upd f (zp0).toNatClampNeg (p2)) (e31.a f37 (by decide)))
      refine z_xP zt235 51 109 [some (.ref 19), some (.int p1), some (.int p2), some (.int p3)] [.ref 19] rfl rfl ?_
      refine z_xgX (b := 38) zt235 52 rfl zo235 zzf12_64 X37 f19 (by decide) (by decide) rfl ?_
      refine z_xP zt235 53 113 [some (.ref 19), some (.int p1), some (.int p2), some (.int p3)] [.ref 19, .ref 38] rfl rfl ?_
      have h41 := (e38.f f19 (by decide) h34)
      refine z_xgv zt235 54 rfl zo235 zzf12_269 X37 f19 (by decide) h41 ?_
      refine z_xP zt235 55 119 [some (.ref 19), some (.int p1), some (.int p2), some (.int p3)] [.int 6, .int p1, .int zp0, .ref 38] rfl rfl ?_
      refine z_xJ zt235 56 rfl rfl (fun (h42 : p1.toInt = 6) => absurd h42 (by omega)) (fun (h42 : p1.toInt ≠ 6) => ?_)
      refine z_xP zt235 57 125 [some (.ref 19), some (.int p1), some (.int p2), some (.int p3)] [.int 7, .int p1, .int zp0, .ref 38] rfl rfl ?_
      refine z_xJ zt235 58 rfl rfl (fun (h43 : p1.toInt ≠ 7) => ?_) (fun (h43 : p1.toInt = 7) => absurd h43 (by omega))
      refine z_xP zt235 60 133 [some (.ref 19), some (.int p1), some (.int p2), some (.int p3)] [.int 0, .int zp0, .ref 38] rfl rfl ?_
      have f38 : T[38]? = some (.inr (38, 0, 20, 0, 8)) := X37.1.k rfl (by decide)
      have q0 : ((0 : Int32)).toInt = 0 := rfl
      refine z_xis zt235 61 rfl X37 f38 (by decide) (by decide) (by omega) (by omega) (by omega) (by omega) (by decide) (fun M44 X45 e46 h47 => ?_)
      have h48 := (h47).trans (congrArg (fun f => upd f (zp0).toNatClampNeg (0)) ((e38.a f38 (by decide)).trans (e31.a f38 (by decide))))
      refine z_xP zt235 62 136 [some (.ref 19), some (.int p1), some (.int p2), some (.int p3)] [.ref 19, .ref 19] rfl rfl ?_
      have h49 := (e46.f f19 (by decide) h41)
      refine z_xgv zt235 63 rfl zo235 zzf12_269 X45 f19 (by decide) h49 ?_
      refine z_xP zt235 64 140 [some (.ref 19), some (.int p1), some (.int p2), some (.int p3)] [.int 1, .int zp0, .ref 19] rfl rfl ?_
      refine z_xI zt235 65 rfl rfl (fun (x50 : Int32) (h51 : x50.toInt = zp0.toInt + 1) => ?_) (z_pAdd rfl rfl (by omega) (by omega))
      refine z_xpf zt235 66 rfl zo235 zzf12_269 X45 f19 (by decide) (by decide) ⟨by omega, by omega⟩ rfl (by decide) zw12_21 (fun M52 X53 e54 h55 => ?_)
      refine z_xP zt235 67 145 [some (.ref 19), some (.int p1), some (.int p2), some (.int p3)] [.ref 19] rfl rfl ?_
      refine z_xgv zt235 68 rfl zo235 zzf12_269 X53 f19 (by decide) h55 ?_
      refine z_xP zt235 69 149 [some (.ref 19), some (.int p1), some (.int p2), some (.int p3)] [.int 1, .int x50] rfl rfl ?_
      refine z_xI zt235 70 rfl rfl (fun (x56 : Int32) (h57 : x56.toInt = x50.toInt - 1) => ?_) (z_pSub rfl rfl (by omega) (by omega))
      exact z_xri zt235 71 rfl zzr235 (kk x56 M52 X53 (by omega) (by omega) (fun _ => ⟨_, rfl, (((e54.a f36 (by decide)).trans ((e46.a f36 (by decide)).trans (e38.a f36 (by decide)))).trans h33)⟩) (fun hx => absurd hx (by omega)) (fun _ => ⟨_, Or.inl ⟨by omega, rfl⟩, (((e54.a f37 (by decide)).trans (e46.a f37 (by decide))).trans h40)⟩) (fun hx => absurd hx (by omega)) (fun _ => ⟨_, Or.inr ⟨by omega, by omega, rfl⟩, ((e54.a f38 (by decide)).trans h48)⟩) (fun hx => absurd hx (by omega)) x50 h55 ⟨by omega, by omega⟩ (by omega) (by omega) (by omega))
    refine z_xP zt235 32 72 [some (.ref 19), some (.int p1), some (.int p2), some (.int p3)] [.int (-3)] rfl rfl ?_
    have qm3 : (((-3) : Int32)).toInt = (-3) := rfl
    have qm3 : (((-3) : Int32)).toInt = (-3) := rfl
    have qm3 : (((-3) : Int32)).toInt = (-3) := rfl
    have qm3 : (((-3) : Int32)).toInt = (-3) := rfl
    have qm3 : (((-3) : Int32)).toInt = (-3) := rfl
    have qm3 : (((-3) : Int32)).toInt = (-3) := rfl
    have qm3 : (((-3) : Int32)).toInt = (-3) := rfl
    exact z_xri zt235 33 rfl zzr235 (kk (-3) M0 X (by omega) (by omega) (fun hx => absurd hx (by omega)) (fun _ => rfl) (fun hx => absurd hx (by omega)) (fun _ => rfl) (fun hx => absurd hx (by omega)) (fun _ => rfl) zp0 hz0 ⟨by omega, by omega⟩ (by omega) (by omega) (by omega))
  refine z_xP zt235 8 20 [some (.ref 19), some (.int p1), some (.int p2), some (.int p3)] [.int 6, .int p1] rfl rfl ?_
  refine z_xJ zt235 9 rfl rfl (fun (h58 : p1.toInt ≠ 6) => ?_) (fun (h58 : p1.toInt = 6) => ?_)
  · skip
    refine z_xP zt235 16 38 [some (.ref 19), some (.int p1), some (.int p2), some (.int p3)] [.int 6, .int p1] rfl rfl ?_
    refine z_xJ zt235 17 rfl rfl (fun (h59 : p1.toInt = 6) => ?_) (fun (h59 : p1.toInt ≠ 6) => ?_)
    · skip
      refine z_xP zt235 20 48 [some (.ref 19), some (.int p1), some (.int p2), some (.int p3)] [.int p3] rfl rfl ?_
      have h60 := z_b32 p3
      refine z_xL zt235 21 rfl rfl (fun (y61 : Int64) (h62 : y61.toInt = p3.toInt) => ?_) (z_qI2L rfl)
      refine z_xP zt235 22 50 [some (.ref 19), some (.int p1), some (.int p2), some (.int p3)] [.long 0, .long y61] rfl rfl ?_
      refine z_xl2 zt235 23 rfl zo235 zkl12_267 ?_
      refine z_xcS (vs := [.long y61, .long 0, .long 8]) (r := []) (L2 := [some (.long y61), none, some (.long 0), none, some (.long 8), none]) zt235 24 rfl zo235 zzcS12_116 (Or.inl rfl) (Nat.le_of_ble_eq_true rfl) rfl rfl (Nat.le_of_ble_eq_true rfl) zzm189 (Nat.le_of_ble_eq_true rfl) rfl ?_
      refine z_xP zt189 0 2 [some (.long y61), none, some (.long 0), none, some (.long 8), none] [.long 0, .long y61] rfl rfl ?_
      refine z_xI zt189 1 rfl rfl (fun (x63 : Int32) (h64 : (x63.toInt < 0 ∧ y61.toInt < 0) ∨ (x63.toInt = 0 ∧ y61.toInt = 0) ∨ (0 < x63.toInt ∧ 0 < y61.toInt)) => ?_) (z_qCmp rfl rfl)
      refine z_xZ zt189 2 rfl rfl (fun (h65 : x63.toInt < 0) => ?_) (fun (h65 : 0 ≤ x63.toInt) => ?_)
      · skip
        refine z_xP zt189 7 18 [some (.long y61), none, some (.long 0), none, some (.long 8), none] [.int 0] rfl rfl ?_
        refine z_xrz zt189 8 rfl zzr189 (by decide) (by decide) ?_
        show z_ev (d + 1) 235 56 [some (.ref 19), some (.int p1), some (.int p2), some (.int p3)] [.int 0] M0 _
        refine z_xZ zt235 25 rfl rfl (fun (h66 : (0 : Int) ≠ 0) => absurd h66 (by omega)) (fun (h66 : (0 : Int) = 0) => ?_)
        refine z_xP zt235 26 60 [some (.ref 19), some (.int p1), some (.int p2), some (.int p3)] [.int (-1)] rfl rfl ?_
        have qm1 : (((-1) : Int32)).toInt = (-1) := rfl
        have qm1 : (((-1) : Int32)).toInt = (-1) := rfl
        have qm1 : (((-1) : Int32)).toInt = (-1) := rfl
        have qm1 : (((-1) : Int32)).toInt = (-1) := rfl
        have qm1 : (((-1) : Int32)).toInt = (-1) := rfl
        have qm1 : (((-1) : Int32)).toInt = (-1) := rfl
        have f19 : T[19]? = some (.inl (12, 0, 0, 0, 0)) := X.1.k rfl (by decide)
        have qm1 : (((-1) : Int32)).toInt = (-1) := rfl
        exact z_xri zt235 27 rfl zzr235 (kk (-1) M0 X (by omega) (by omega) (fun hx => absurd hx (by omega)) (fun _ => rfl) (fun hx => absurd hx (by omega)) (fun _ => rfl) (fun hx => absurd hx (by omega)) (fun _ => rfl) zp0 hz0 ⟨by omega, by omega⟩ (by omega) (by omega) (by omega))
      refine z_xP zt189 3 9 [some (.long y61), none, some (.long 0), none, some (.long 8), none] [.long 8, .long y61] rfl rfl ?_
      refine z_xI zt189 4 rfl rfl (fun (x67 : Int32) (h68 : (x67.toInt < 0 ∧ y61.toInt < 8) ∨ (x67.toInt = 0 ∧ y61.toInt = 8) ∨ (0 < x67.toInt ∧ 8 < y61.toInt)) => ?_) (z_qCmp rfl rfl)
      refine z_xZ zt189 5 rfl rfl (fun (h69 : 0 < x67.toInt) => ?_) (fun (h69 : x67.toInt ≤ 0) => ?_)
      · skip
        refine z_xP zt189 7 18 [some (.long y61), none, some (.long 0), none, some (.long 8), none] [.int 0] rfl rfl ?_
        refine z_xrz zt189 8 rfl zzr189 (by decide) (by decide) ?_
        show z_ev (d + 1) 235 56 [some (.ref 19), some (.int p1), some (.int p2), some (.int p3)] [.int 0] M0 _
        refine z_xZ zt235 25 rfl rfl (fun (h70 : (0 : Int) ≠ 0) => absurd h70 (by omega)) (fun (h70 : (0 : Int) = 0) => ?_)
        refine z_xP zt235 26 60 [some (.ref 19), some (.int p1), some (.int p2), some (.int p3)] [.int (-1)] rfl rfl ?_
        have qm1 : (((-1) : Int32)).toInt = (-1) := rfl
        have qm1 : (((-1) : Int32)).toInt = (-1) := rfl
        have qm1 : (((-1) : Int32)).toInt = (-1) := rfl
        have qm1 : (((-1) : Int32)).toInt = (-1) := rfl
        have qm1 : (((-1) : Int32)).toInt = (-1) := rfl
        have qm1 : (((-1) : Int32)).toInt = (-1) := rfl
        have f19 : T[19]? = some (.inl (12, 0, 0, 0, 0)) := X.1.k rfl (by decide)
        have qm1 : (((-1) : Int32)).toInt = (-1) := rfl
        exact z_xri zt235 27 rfl zzr235 (kk (-1) M0 X (by omega) (by omega) (fun hx => absurd hx (by omega)) (fun _ => rfl) (fun hx => absurd hx (by omega)) (fun _ => rfl) (fun hx => absurd hx (by omega)) (fun _ => rfl) zp0 hz0 ⟨by omega, by omega⟩ (by omega) (by omega) (by omega))
      refine z_xP zt189 6 18 [some (.long y61), none, some (.long 0), none, some (.long 8), none] [.int 1] rfl rfl ?_
      refine z_xrz zt189 8 rfl zzr189 (by decide) (by decide) ?_
      show z_ev (d + 1) 235 56 [some (.ref 19), some (.int p1), some (.int p2), some (.int p3)] [.int 1] M0 _
      refine z_xZ zt235 25 rfl rfl (fun (h71 : (1 : Int) ≠ 0) => ?_) (fun (h71 : (1 : Int) = 0) => absurd h71 (by omega))
      refine z_xP zt235 28 62 [some (.ref 19), some (.int p1), some (.int p2), some (.int p3)] [.ref 19] rfl rfl ?_
      have f19 : T[19]? = some (.inl (12, 0, 0, 0, 0)) := X.1.k rfl (by decide)
      refine z_xgv zt235 29 rfl zo235 zzf12_269 X f19 (by decide) hz0 ?_
      refine z_xP zt235 30 67 [some (.ref 19), some (.int p1), some (.int p2), some (.int p3)] [.int 20, .int zp0] rfl rfl ?_
      refine z_xJ zt235 31 rfl rfl (fun (h72 : zp0.toInt ≠ 20) => ?_) (fun (h72 : zp0.toInt = 20) => ?_)
      · skip
        refine z_xP zt235 34 74 [some (.ref 19), some (.int p1), some (.int p2), some (.int p3)] [.ref 19] rfl rfl ?_
        refine z_xgX (b := 36) zt235 35 rfl zo235 zzf12_58 X f19 (by decide) (by decide) rfl ?_
        refine z_xP zt235 36 78 [some (.ref 19), some (.int p1), some (.int p2), some (.int p3)] [.ref 19, .ref 36] rfl rfl ?_
        refine z_xgv zt235 37 rfl zo235 zzf12_269 X f19 (by decide) hz0 ?_
        refine z_xP zt235 38 82 [some (.ref 19), some (.int p1), some (.int p2), some (.int p3)] [.int p1, .int zp0, .ref 36] rfl rfl ?_
        have f36 : T[36]? = some (.inr (36, 0, 20, 0, 7)) := X.1.k rfl (by decide)
        refine z_xis zt235 39 rfl X f36 (by decide) (by decide) (by omega) (by omega) (by omega) (by omega) (by decide) (fun M73 X74 e75 h76 => ?_)
        have h77 := h76
        refine z_xP zt235 40 84 [some (.ref 19), some (.int p1), some (.int p2), some (.int p3)] [.ref 19] rfl rfl ?_
        refine z_xgX (b := 37) zt235 41 rfl zo235 zzf12_61 X74 f19 (by decide) (by decide) rfl ?_
        refine z_xP zt235 42 88 [some (.ref 19), some (.int p1), some (.int p2), some (.int p3)] [.ref 19, .ref 37] rfl rfl ?_
        have h78 := (e75.f f19 (by decide) hz0)
        refine z_xgv zt235 43 rfl zo235 zzf12_269 X74 f19 (by decide) h78 ?_
        refine z_xP zt235 44 93 [some (.ref 19), some (.int p1), some (.int p2), some (.int p3)] [.int 5, .int p1, .int zp0, .ref 37] rfl rfl ?_
        refine z_xJ zt235 45 rfl rfl (fun (h79 : p1.toInt = 5) => absurd h79 (by omega)) (fun (h79 : p1.toInt ≠ 5) => ?_)
        refine z_xP zt235 46 99 [some (.ref 19), some (.int p1), some (.int p2), some (.int p3)] [.int 6, .int p1, .int zp0, .ref 37] rfl rfl ?_
        refine z_xJ zt235 47 rfl rfl (fun (h80 : p1.toInt ≠ 6) => absurd h80 (by omega)) (fun (h80 : p1.toInt = 6) => ?_)
        refine z_xP zt235 48 107 [some (.ref 19), some (.int p1), some (.int p2), some (.int p3)] [.int p2, .int zp0, .ref 37] rfl rfl ?_
        have f37 : T[37]? = some (.inr (37, 0, 20, 0, 9)) := X74.1.k rfl (by decide)
        refine z_xis zt235 50 rfl X74 f37 (by decide) (by decide) (by omega) (by omega) (by omega) (by omega) (by decide) (fun M81 X82 e83 h84 => ?_)
        have h85 := (h84).trans (congrArg (fun f => upd f (zp0).toNatClampNeg (p2)) (e75.a f37 (by decide)))
        refine z_xP zt235 51 109 [some (.ref 19), some (.int p1), some (.int p2), some (.int p3)] [.ref 19] rfl rfl ?_
        refine z_xgX (b := 38) zt235 52 rfl zo235 zzf12_64 X82 f19 (by decide) (by decide) rfl ?_
        refine z_xP zt235 53 113 [some (.ref 19), some (.int p1), some (.int p2), some (.int p3)] [.ref 19, .ref 38] rfl rfl ?_
        have h86 := (e83.f f19 (by decide) h78)
        refine z_xgv zt235 54 rfl zo235 zzf12_269 X82 f19 (by decide) h86 ?_
        refine z_xP zt235 55 119 [some (.ref 19), some (.int p1), some (.int p2), some (.int p3)] [.int 6, .int p1, .int zp0, .ref 38] rfl rfl ?_
        refine z_xJ zt235 56 rfl rfl (fun (h87 : p1.toInt = 6) => ?_) (fun (h87 : p1.toInt ≠ 6) => absurd h87 (by omega))
        refine z_xP zt235 59 133 [some (.ref 19), some (.int p1), some (.int p2), some (.int p3)] [.int p3, .int zp0, .ref 38] rfl rfl ?_
        have f38 : T[38]? = some (.inr (38, 0, 20, 0, 8)) := X82.1.k rfl (by decide)
        refine z_xis zt235 61 rfl X82 f38 (by decide) (by decide) (by omega) (by omega) (by omega) (by omega) (by decide) (fun M88 X89 e90 h91 => ?_)
        have h92 := (h91).trans (congrArg (fun f => upd f (zp0).toNatClampNeg (p3)) ((e83.a f38 (by decide)).trans (e75.a f38 (by decide))))
        refine z_xP zt235 62 136 [some (.ref 19), some (.int p1), some (.int p2), some (.int p3)] [.ref 19, .ref 19] rfl rfl ?_
        have h93 := (e90.f f19 (by decide) h86)
        refine z_xgv zt235 63 rfl zo235 zzf12_269 X89 f19 (by decide) h93 ?_
        refine z_xP zt235 64 140 [some (.ref 19), some (.int p1), some (.int p2), some (.int p3)] [.int 1, .int zp0, .ref 19] rfl rfl ?_
        refine z_xI zt235 65 rfl rfl (fun (x94 : Int32) (h95 : x94.toInt = zp0.toInt + 1) => ?_) (z_pAdd rfl rfl (by omega) (by omega))
        refine z_xpf zt235 66 rfl zo235 zzf12_269 X89 f19 (by decide) (by decide) ⟨by omega, by omega⟩ rfl (by decide) zw12_21 (fun M96 X97 e98 h99 => ?_)
        refine z_xP zt235 67 145 [some (.ref 19), some (.int p1), some (.int p2), some (.int p3)] [.ref 19] rfl rfl ?_
        refine z_xgv zt235 68 rfl zo235 zzf12_269 X97 f19 (by decide) h99 ?_
        refine z_xP zt235 69 149 [some (.ref 19), some (.int p1), some (.int p2), some (.int p3)] [.int 1, .int x94] rfl rfl ?_
        refine z_xI zt235 70 rfl rfl (fun (x100 : Int32) (h101 : x100.toInt = x94.toInt - 1) => ?_) (z_pSub rfl rfl (by omega) (by omega))
        exact z_xri zt235 71 rfl zzr235 (kk x100 M96 X97 (by omega) (by omega) (fun _ => ⟨_, rfl, (((e98.a f36 (by decide)).trans ((e90.a f36 (by decide)).trans (e83.a f36 (by decide)))).trans h77)⟩) (fun hx => absurd hx (by omega)) (fun _ => ⟨_, Or.inl ⟨by omega, rfl⟩, (((e98.a f37 (by decide)).trans (e90.a f37 (by decide))).trans h85)⟩) (fun hx => absurd hx (by omega)) (fun _ => ⟨_, Or.inl ⟨by omega, rfl⟩, ((e98.a f38 (by decide)).trans h92)⟩) (fun hx => absurd hx (by omega)) x94 h99 ⟨by omega, by omega⟩ (by omega) (by omega) (by omega))
      refine z_xP zt235 32 72 [some (.ref 19), some (.int p1), some (.int p2), some (.int p3)] [.int (-3)] rfl rfl ?_
      have qm3 : (((-3) : Int32)).toInt = (-3) := rfl
      have qm3 : (((-3) : Int32)).toInt = (-3) := rfl
      have qm3 : (((-3) : Int32)).toInt = (-3) := rfl
      have qm3 : (((-3) : Int32)).toInt = (-3) := rfl
      have qm3 : (((-3) : Int32)).toInt = (-3) := rfl
      have qm3 : (((-3) : Int32)).toInt = (-3) := rfl
      have qm3 : (((-3) : Int32)).toInt = (-3) := rfl
      exact z_xri zt235 33 rfl zzr235 (kk (-3) M0 X (by omega) (by omega) (fun hx => absurd hx (by omega)) (fun _ => rfl) (fun hx => absurd hx (by omega)) (fun _ => rfl) (fun hx => absurd hx (by omega)) (fun _ => rfl) zp0 hz0 ⟨by omega, by omega⟩ (by omega) (by omega) (by omega))
    refine z_xP zt235 18 44 [some (.ref 19), some (.int p1), some (.int p2), some (.int p3)] [.int 7, .int p1] rfl rfl ?_
    refine z_xJ zt235 19 rfl rfl (fun (h102 : p1.toInt ≠ 7) => ?_) (fun (h102 : p1.toInt = 7) => ?_)
    · skip
      refine z_xP zt235 28 62 [some (.ref 19), some (.int p1), some (.int p2), some (.int p3)] [.ref 19] rfl rfl ?_
      have f19 : T[19]? = some (.inl (12, 0, 0, 0, 0)) := X.1.k rfl (by decide)
      refine z_xgv zt235 29 rfl zo235 zzf12_269 X f19 (by decide) hz0 ?_
      refine z_xP zt235 30 67 [some (.ref 19), some (.int p1), some (.int p2), some (.int p3)] [.int 20, .int zp0] rfl rfl ?_
      refine z_xJ zt235 31 rfl rfl (fun (h103 : zp0.toInt ≠ 20) => ?_) (fun (h103 : zp0.toInt = 20) => ?_)
      · skip
        refine z_xP zt235 34 74 [some (.ref 19), some (.int p1), some (.int p2), some (.int p3)] [.ref 19] rfl rfl ?_
        refine z_xgX (b := 36) zt235 35 rfl zo235 zzf12_58 X f19 (by decide) (by decide) rfl ?_
        refine z_xP zt235 36 78 [some (.ref 19), some (.int p1), some (.int p2), some (.int p3)] [.ref 19, .ref 36] rfl rfl ?_
        refine z_xgv zt235 37 rfl zo235 zzf12_269 X f19 (by decide) hz0 ?_
        refine z_xP zt235 38 82 [some (.ref 19), some (.int p1), some (.int p2), some (.int p3)] [.int p1, .int zp0, .ref 36] rfl rfl ?_
        have f36 : T[36]? = some (.inr (36, 0, 20, 0, 7)) := X.1.k rfl (by decide)
        refine z_xis zt235 39 rfl X f36 (by decide) (by decide) (by omega) (by omega) (by omega) (by omega) (by decide) (fun M104 X105 e106 h107 => ?_)
        have h108 := h107
        refine z_xP zt235 40 84 [some (.ref 19), some (.int p1), some (.int p2), some (.int p3)] [.ref 19] rfl rfl ?_
        refine z_xgX (b := 37) zt235 41 rfl zo235 zzf12_61 X105 f19 (by decide) (by decide) rfl ?_
        refine z_xP zt235 42 88 [some (.ref 19), some (.int p1), some (.int p2), some (.int p3)] [.ref 19, .ref 37] rfl rfl ?_
        have h109 := (e106.f f19 (by decide) hz0)
        refine z_xgv zt235 43 rfl zo235 zzf12_269 X105 f19 (by decide) h109 ?_
        refine z_xP zt235 44 93 [some (.ref 19), some (.int p1), some (.int p2), some (.int p3)] [.int 5, .int p1, .int zp0, .ref 37] rfl rfl ?_
        refine z_xJ zt235 45 rfl rfl (fun (h110 : p1.toInt = 5) => ?_) (fun (h110 : p1.toInt ≠ 5) => ?_)
        · skip
          refine z_xP zt235 48 107 [some (.ref 19), some (.int p1), some (.int p2), some (.int p3)] [.int p2, .int zp0, .ref 37] rfl rfl ?_
          have f37 : T[37]? = some (.inr (37, 0, 20, 0, 9)) := X105.1.k rfl (by decide)
          refine z_xis zt235 50 rfl X105 f37 (by decide) (by decide) (by omega) (by omega) (by omega) (by omega) (by decide) (fun M111 X112 e113 h114 => ?_)
          have h115 := (h114).trans (congrArg (fun f => upd f (zp0).toNatClampNeg (p2)) (e106.a f37 (by decide)))
          refine z_xP zt235 51 109 [some (.ref 19), some (.int p1), some (.int p2), some (.int p3)] [.ref 19] rfl rfl ?_
          refine z_xgX (b := 38) zt235 52 rfl zo235 zzf12_64 X112 f19 (by decide) (by decide) rfl ?_
          refine z_xP zt235 53 113 [some (.ref 19), some (.int p1), some (.int p2), some (.int p3)] [.ref 19, .ref 38] rfl rfl ?_
          have h116 := (e113.f f19 (by decide) h109)
          refine z_xgv zt235 54 rfl zo235 zzf12_269 X112 f19 (by decide) h116 ?_
          refine z_xP zt235 55 119 [some (.ref 19), some (.int p1), some (.int p2), some (.int p3)] [.int 6, .int p1, .int zp0, .ref 38] rfl rfl ?_
          refine z_xJ zt235 56 rfl rfl (fun (h117 : p1.toInt = 6) => absurd h117 (by omega)) (fun (h117 : p1.toInt ≠ 6) => ?_)
          refine z_xP zt235 57 125 [some (.ref 19), some (.int p1), some (.int p2), some (.int p3)] [.int 7, .int p1, .int zp0, .ref 38] rfl rfl ?_
          refine z_xJ zt235 58 rfl rfl (fun (h118 : p1.toInt ≠ 7) => ?_) (fun (h118 : p1.toInt = 7) => absurd h118 (by omega))
          refine z_xP zt235 60 133 [some (.ref 19), some (.int p1), some (.int p2), some (.int p3)] [.int 0, .int zp0, .ref 38] rfl rfl ?_
          have f38 : T[38]? = some (.inr (38, 0, 20, 0, 8)) := X112.1.k rfl (by decide)
          have q0 : ((0 : Int32)).toInt = 0 := rfl
          refine z_xis zt235 61 rfl X112 f38 (by decide) (by decide) (by omega) (by omega) (by omega) (by omega) (by decide) (fun M119 X120 e121 h122 => ?_)
          have h123 := (h122).trans (congrArg (fun f => upd f (zp0).toNatClampNeg (0)) ((e113.a f38 (by decide)).trans (e106.a f38 (by decide))))
          refine z_xP zt235 62 136 [some (.ref 19), some (.int p1), some (.int p2), some (.int p3)] [.ref 19, .ref 19] rfl rfl ?_
          have h124 := (e121.f f19 (by decide) h116)
          refine z_xgv zt235 63 rfl zo235 zzf12_269 X120 f19 (by decide) h124 ?_
          refine z_xP zt235 64 140 [some (.ref 19), some (.int p1), some (.int p2), some (.int p3)] [.int 1, .int zp0, .ref 19] rfl rfl ?_
          refine z_xI zt235 65 rfl rfl (fun (x125 : Int32) (h126 : x125.toInt = zp0.toInt + 1) => ?_) (z_pAdd rfl rfl (by omega) (by omega))
          refine z_xpf zt235 66 rfl zo235 zzf12_269 X120 f19 (by decide) (by decide) ⟨by omega, by omega⟩ rfl (by decide) zw12_21 (fun M127 X128 e129 h130 => ?_)
          refine z_xP zt235 67 145 [some (.ref 19), some (.int p1), some (.int p2), some (.int p3)] [.ref 19] rfl rfl ?_
          refine z_xgv zt235 68 rfl zo235 zzf12_269 X128 f19 (by decide) h130 ?_
          refine z_xP zt235 69 149 [some (.ref 19), some (.int p1), some (.int p2), some (.int p3)] [.int 1, .int x125] rfl rfl ?_
          refine z_xI zt235 70 rfl rfl (fun (x131 : Int32) (h132 : x131.toInt = x125.toInt - 1) => ?_) (z_pSub rfl rfl (by omega) (by omega))
          exact z_xri zt235 71 rfl zzr235 (kk x131 M127 X128 (by omega) (by omega) (fun _ => ⟨_, rfl, (((e129.a f36 (by decide)).trans ((e121.a f36 (by decide)).trans (e113.a f36 (by decide)))).trans h108)⟩) (fun hx => absurd hx (by omega)) (fun _ => ⟨_, Or.inl ⟨by omega, rfl⟩, (((e129.a f37 (by decide)).trans (e121.a f37 (by decide))).trans h115)⟩) (fun hx => absurd hx (by omega)) (fun _ => ⟨_, Or.inr ⟨by omega, by omega, rfl⟩, ((e129.a f38 (by decide)).trans h123)⟩) (fun hx => absurd hx (by omega)) x125 h130 ⟨by omega, by omega⟩ (by omega) (by omega) (by omega))
        refine z_xP zt235 46 99 [some (.ref 19), some (.int p1), some (.int p2), some (.int p3)] [.int 6, .int p1, .int zp0, .ref 37] rfl rfl ?_
        refine z_xJ zt235 47 rfl rfl (fun (h133 : p1.toInt ≠ 6) => ?_) (fun (h133 : p1.toInt = 6) => ?_)
        · skip
          refine z_xP zt235 49 107 [some (.ref 19), some (.int p1), some (.int p2), some (.int p3)] [.int 0, .int zp0, .ref 37] rfl rfl ?_
          have f37 : T[37]? = some (.inr (37, 0, 20, 0, 9)) := X105.1.k rfl (by decide)
          have q0 : ((0 : Int32)).toInt = 0 := rfl
          refine z_xis zt235 50 rfl X105 f37 (by decide) (by decide) (by omega) (by omega) (by omega) (by omega) (by decide) (fun M134 X135 e136 h137 => ?_)
          have h138 := (h137).trans (congrArg (fun f => upd f (zp0).toNatClampNeg (0)) (e106.a f37 (by decide)))
          refine z_xP zt235 51 109 [some (.ref 19), some (.int p1), some (.int p2), some (.int p3)] [.ref 19] rfl rfl ?_
          refine z_xgX (b := 38) zt235 52 rfl zo235 zzf12_64 X135 f19 (by decide) (by decide) rfl ?_
          refine z_xP zt235 53 113 [some (.ref 19), some (.int p1), some (.int p2), some (.int p3)] [.ref 19, .ref 38] rfl rfl ?_
          have h139 := (e136.f f19 (by decide) h109)
          refine z_xgv zt235 54 rfl zo235 zzf12_269 X135 f19 (by decide) h139 ?_
          refine z_xP zt235 55 119 [some (.ref 19), some (.int p1), some (.int p2), some (.int p3)] [.int 6, .int p1, .int zp0, .ref 38] rfl rfl ?_
          refine z_xJ zt235 56 rfl rfl (fun (h140 : p1.toInt = 6) => absurd h140 (by omega)) (fun (h140 : p1.toInt ≠ 6) => ?_)
          refine z_xP zt235 57 125 [some (.ref 19), some (.int p1), some (.int p2), some (.int p3)] [.int 7, .int p1, .int zp0, .ref 38] rfl rfl ?_
          refine z_xJ zt235 58 rfl rfl (fun (h141 : p1.toInt ≠ 7) => ?_) (fun (h141 : p1.toInt = 7) => absurd h141 (by omega))
          refine z_xP zt235 60 133 [some (.ref 19), some (.int p1), some (.int p2), some (.int p3)] [.int 0, .int zp0, .ref 38] rfl rfl ?_
          have f38 : T[38]? = some (.inr (38, 0, 20, 0, 8)) := X135.1.k rfl (by decide)
          have q0 : ((0 : Int32)).toInt = 0 := rfl
          refine z_xis zt235 61 rfl X135 f38 (by decide) (by decide) (by omega) (by omega) (by omega) (by omega) (by decide) (fun M142 X143 e144 h145 => ?_)
          have h146 := (h145).trans (congrArg (fun f => upd f (zp0).toNatClampNeg (0)) ((e136.a f38 (by decide)).trans (e106.a f38 (by decide))))
          refine z_xP zt235 62 136 [some (.ref 19), some (.int p1), some (.int p2), some (.int p3)] [.ref 19, .ref 19] rfl rfl ?_
          have h147 := (e144.f f19 (by decide) h139)
          refine z_xgv zt235 63 rfl zo235 zzf12_269 X143 f19 (by decide) h147 ?_
          refine z_xP zt235 64 140 [some (.ref 19), some (.int p1), some (.int p2), some (.int p3)] [.int 1, .int zp0, .ref 19] rfl rfl ?_
          refine z_xI zt235 65 rfl rfl (fun (x148 : Int32) (h149 : x148.toInt = zp0.toInt + 1) => ?_) (z_pAdd rfl rfl (by omega) (by omega))
          refine z_xpf zt235 66 rfl zo235 zzf12_269 X143 f19 (by decide) (by decide) ⟨by omega, by omega⟩ rfl (by decide) zw12_21 (fun M150 X151 e152 h153 => ?_)
          refine z_xP zt235 67 145 [some (.ref 19), some (.int p1), some (.int p2), some (.int p3)] [.ref 19] rfl rfl ?_
          refine z_xgv zt235 68 rfl zo235 zzf12_269 X151 f19 (by decide) h153 ?_
          refine z_xP zt235 69 149 [some (.ref 19), some (.int p1), some (.int p2), some (.int p3)] [.int 1, .int x148] rfl rfl ?_
          refine z_xI zt235 70 rfl rfl (fun (x154 : Int32) (h155 : x154.toInt = x148.toInt - 1) => ?_) (z_pSub rfl rfl (by omega) (by omega))
          exact z_xri zt235 71 rfl zzr235 (kk x154 M150 X151 (by omega) (by omega) (fun _ => ⟨_, rfl, (((e152.a f36 (by decide)).trans ((e144.a f36 (by decide)).trans (e136.a f36 (by decide)))).trans h108)⟩) (fun hx => absurd hx (by omega)) (fun _ => ⟨_, Or.inr ⟨by omega, by omega, rfl⟩, (((e152.a f37 (by decide)).trans (e144.a f37 (by decide))).trans h138)⟩) (fun hx => absurd hx (by omega)) (fun _ => ⟨_, Or.inr ⟨by omega, by omega, rfl⟩, ((e152.a f38 (by decide)).trans h146)⟩) (fun hx => absurd hx (by omega)) x148 h153 ⟨by omega, by omega⟩ (by omega) (by omega) (by omega))
        refine z_xP zt235 48 107 [some (.ref 19), some (.int p1), some (.int p2), some (.int p3)] [.int p2, .int zp0, .ref 37] rfl rfl ?_
        have f37 : T[37]? = some (.inr (37, 0, 20, 0, 9)) := X105.1.k rfl (by decide)
        refine z_xis zt235 50 rfl X105 f37 (by decide) (by decide) (by omega) (by omega) (by omega) (by omega) (by decide) (fun M156 X157 e158 h159 => ?_)
        have h160 := (h159).trans (congrArg (fun f => upd f (zp0).toNatClampNeg (p2)) (e106.a f37 (by decide)))
        refine z_xP zt235 51 109 [some (.ref 19), some (.int p1), some (.int p2), some (.int p3)] [.ref 19] rfl rfl ?_
        refine z_xgX (b := 38) zt235 52 rfl zo235 zzf12_64 X157 f19 (by decide) (by decide) rfl ?_
        refine z_xP zt235 53 113 [some (.ref 19), some (.int p1), some (.int p2), some (.int p3)] [.ref 19, .ref 38] rfl rfl ?_
        have h161 := (e158.f f19 (by decide) h109)
        refine z_xgv zt235 54 rfl zo235 zzf12_269 X157 f19 (by decide) h161 ?_
        refine z_xP zt235 55 119 [some (.ref 19), some (.int p1), some (.int p2), some (.int p3)] [.int 6, .int p1, .int zp0, .ref 38] rfl rfl ?_
        refine z_xJ zt235 56 rfl rfl (fun (h162 : p1.toInt = 6) => ?_) (fun (h162 : p1.toInt ≠ 6) => absurd h162 (by omega))
        refine z_xP zt235 59 133 [some (.ref 19), some (.int p1), some (.int p2), some (.int p3)] [.int p3, .int zp0, .ref 38] rfl rfl ?_
        have f38 : T[38]? = some (.inr (38, 0, 20, 0, 8)) := X157.1.k rfl (by decide)
        refine z_xis zt235 61 rfl X157 f38 (by decide) (by decide) (by omega) (by omega) (by omega) (by omega) (by decide) (fun M163 X164 e165 h166 => ?_)
        have h167 := (h166).trans (congrArg (fun f => upd f (zp0).toNatClampNeg (p3)) ((e158.a f38 (by decide)).trans (e106.a f38 (by decide))))
        refine z_xP zt235 62 136 [some (.ref 19), some (.int p1), some (.int p2), some (.int p3)] [.ref 19, .ref 19] rfl rfl ?_
        have h168 := (e165.f f19 (by decide) h161)
        refine z_xgv zt235 63 rfl zo235 zzf12_269 X164 f19 (by decide) h168 ?_
        refine z_xP zt235 64 140 [some (.ref 19), some (.int p1), some (.int p2), some (.int p3)] [.int 1, .int zp0, .ref 19] rfl rfl ?_
        refine z_xI zt235 65 rfl rfl (fun (x169 : Int32) (h170 : x169.toInt = zp0.toInt + 1) => ?_) (z_pAdd rfl rfl (by omega) (by omega))
        refine z_xpf zt235 66 rfl zo235 zzf12_269 X164 f19 (by decide) (by decide) ⟨by omega, by omega⟩ rfl (by decide) zw12_21 (fun M171 X172 e173 h174 => ?_)
        refine z_xP zt235 67 145 [some (.ref 19), some (.int p1), some (.int p2), some (.int p3)] [.ref 19] rfl rfl ?_
        refine z_xgv zt235 68 rfl zo235 zzf12_269 X172 f19 (by decide) h174 ?_
        refine z_xP zt235 69 149 [some (.ref 19), some (.int p1), some (.int p2), some (.int p3)] [.int 1, .int x169] rfl rfl ?_
        refine z_xI zt235 70 rfl rfl (fun (x175 : Int32) (h176 : x175.toInt = x169.toInt - 1) => ?_) (z_pSub rfl rfl (by omega) (by omega))
        exact z_xri zt235 71 rfl zzr235 (kk x175 M171 X172 (by omega) (by omega) (fun _ => ⟨_, rfl, (((e173.a f36 (by decide)).trans ((e165.a f36 (by decide)).trans (e158.a f36 (by decide)))).trans h108)⟩) (fun hx => absurd hx (by omega)) (fun _ => ⟨_, Or.inl ⟨by omega, rfl⟩, (((e173.a f37 (by decide)).trans (e165.a f37 (by decide))).trans h160)⟩) (fun hx => absurd hx (by omega)) (fun _ => ⟨_, Or.inl ⟨by omega, rfl⟩, ((e173.a f38 (by decide)).trans h167)⟩) (fun hx => absurd hx (by omega)) x169 h174 ⟨by omega, by omega⟩ (by omega) (by omega) (by omega))
      refine z_xP zt235 32 72 [some (.ref 19), some (.int p1), some (.int p2), some (.int p3)] [.int (-3)] rfl rfl ?_
      have qm3 : (((-3) : Int32)).toInt = (-3) := rfl
      have qm3 : (((-3) : Int32)).toInt = (-3) := rfl
      have qm3 : (((-3) : Int32)).toInt = (-3) := rfl
      have qm3 : (((-3) : Int32)).toInt = (-3) := rfl
      have qm3 : (((-3) : Int32)).toInt = (-3) := rfl
      have qm3 : (((-3) : Int32)).toInt = (-3) := rfl
      have qm3 : (((-3) : Int32)).toInt = (-3) := rfl
      exact z_xri zt235 33 rfl zzr235 (kk (-3) M0 X (by omega) (by omega) (fun hx => absurd hx (by omega)) (fun _ => rfl) (fun hx => absurd hx (by omega)) (fun _ => rfl) (fun hx => absurd hx (by omega)) (fun _ => rfl) zp0 hz0 ⟨by omega, by omega⟩ (by omega) (by omega) (by omega))
    refine z_xP zt235 20 48 [some (.ref 19), some (.int p1), some (.int p2), some (.int p3)] [.int p3] rfl rfl ?_
    have h177 := z_b32 p3
    refine z_xL zt235 21 rfl rfl (fun (y178 : Int64) (h179 : y178.toInt = p3.toInt) => ?_) (z_qI2L rfl)
    refine z_xP zt235 22 50 [some (.ref 19), some (.int p1), some (.int p2), some (.int p3)] [.long 0, .long y178] rfl rfl ?_
    refine z_xl2 zt235 23 rfl zo235 zkl12_267 ?_
    refine z_xcS (vs := [.long y178, .long 0, .long 8]) (r := []) (L2 := [some (.long y178), none, some (.long 0), none, some (.long 8), none]) zt235 24 rfl zo235 zzcS12_116 (Or.inl rfl) (Nat.le_of_ble_eq_true rfl) rfl rfl (Nat.le_of_ble_eq_true rfl) zzm189 (Nat.le_of_ble_eq_true rfl) rfl ?_
    refine z_xP zt189 0 2 [some (.long y178), none, some (.long 0), none, some (.long 8), none] [.long 0, .long y178] rfl rfl ?_
    refine z_xI zt189 1 rfl rfl (fun (x180 : Int32) (h181 : (x180.toInt < 0 ∧ y178.toInt < 0) ∨ (x180.toInt = 0 ∧ y178.toInt = 0) ∨ (0 < x180.toInt ∧ 0 < y178.toInt)) => ?_) (z_qCmp rfl rfl)
    refine z_xZ zt189 2 rfl rfl (fun (h182 : x180.toInt < 0) => ?_) (fun (h182 : 0 ≤ x180.toInt) => ?_)
    · skip
      refine z_xP zt189 7 18 [some (.long y178), none, some (.long 0), none, some (.long 8), none] [.int 0] rfl rfl ?_
      refine z_xrz zt189 8 rfl zzr189 (by decide) (by decide) ?_
      show z_ev (d + 1) 235 56 [some (.ref 19), some (.int p1), some (.int p2), some (.int p3)] [.int 0] M0 _
      refine z_xZ zt235 25 rfl rfl (fun (h183 : (0 : Int) ≠ 0) => absurd h183 (by omega)) (fun (h183 : (0 : Int) = 0) => ?_)
      refine z_xP zt235 26 60 [some (.ref 19), some (.int p1), some (.int p2), some (.int p3)] [.int (-1)] rfl rfl ?_
      have qm1 : (((-1) : Int32)).toInt = (-1) := rfl
      have qm1 : (((-1) : Int32)).toInt = (-1) := rfl
      have qm1 : (((-1) : Int32)).toInt = (-1) := rfl
      have qm1 : (((-1) : Int32)).toInt = (-1) := rfl
      have qm1 : (((-1) : Int32)).toInt = (-1) := rfl
      have qm1 : (((-1) : Int32)).toInt = (-1) := rfl
      have f19 : T[19]? = some (.inl (12, 0, 0, 0, 0)) := X.1.k rfl (by decide)
      have qm1 : (((-1) : Int32)).toInt = (-1) := rfl
      exact z_xri zt235 27 rfl zzr235 (kk (-1) M0 X (by omega) (by omega) (fun hx => absurd hx (by omega)) (fun _ => rfl) (fun hx => absurd hx (by omega)) (fun _ => rfl) (fun hx => absurd hx (by omega)) (fun _ => rfl) zp0 hz0 ⟨by omega, by omega⟩ (by omega) (by omega) (by omega))
    refine z_xP zt189 3 9 [some (.long y178), none, some (.long 0), none, some (.long 8), none] [.long 8, .long y178] rfl rfl ?_
    refine z_xI zt189 4 rfl rfl (fun (x184 : Int32) (h185 : (x184.toInt < 0 ∧ y178.toInt < 8) ∨ (x184.toInt = 0 ∧ y178.toInt = 8) ∨ (0 < x184.toInt ∧ 8 < y178.toInt)) => ?_) (z_qCmp rfl rfl)
    refine z_xZ zt189 5 rfl rfl (fun (h186 : 0 < x184.toInt) => ?_) (fun (h186 : x184.toInt ≤ 0) => ?_)
    · skip
      refine z_xP zt189 7 18 [some (.long y178), none, some (.long 0), none, some (.long 8), none] [.int 0] rfl rfl ?_
      refine z_xrz zt189 8 rfl zzr189 (by decide) (by decide) ?_
      show z_ev (d + 1) 235 56 [some (.ref 19), some (.int p1), some (.int p2), some (.int p3)] [.int 0] M0 _
      refine z_xZ zt235 25 rfl rfl (fun (h187 : (0 : Int) ≠ 0) => absurd h187 (by omega)) (fun (h187 : (0 : Int) = 0) => ?_)
      refine z_xP zt235 26 60 [some (.ref 19), some (.int p1), some (.int p2), some (.int p3)] [.int (-1)] rfl rfl ?_
      have qm1 : (((-1) : Int32)).toInt = (-1) := rfl
      have qm1 : (((-1) : Int32)).toInt = (-1) := rfl
      have qm1 : (((-1) : Int32)).toInt = (-1) := rfl
      have qm1 : (((-1) : Int32)).toInt = (-1) := rfl
      have qm1 : (((-1) : Int32)).toInt = (-1) := rfl
      have qm1 : (((-1) : Int32)).toInt = (-1) := rfl
      have f19 : T[19]? = some (.inl (12, 0, 0, 0, 0)) := X.1.k rfl (by decide)
      have qm1 : (((-1) : Int32)).toInt = (-1) := rfl
      exact z_xri zt235 27 rfl zzr235 (kk (-1) M0 X (by omega) (by omega) (fun hx => absurd hx (by omega)) (fun _ => rfl) (fun hx => absurd hx (by omega)) (fun _ => rfl) (fun hx => absurd hx (by omega)) (fun _ => rfl) zp0 hz0 ⟨by omega, by omega⟩ (by omega) (by omega) (by omega))
    refine z_xP zt189 6 18 [some (.long y178), none, some (.long 0), none, some (.long 8), none] [.int 1] rfl rfl ?_
    refine z_xrz zt189 8 rfl zzr189 (by decide) (by decide) ?_
    show z_ev (d + 1) 235 56 [some (.ref 19), some (.int p1), some (.int p2), some (.int p3)] [.int 1] M0 _
    refine z_xZ zt235 25 rfl rfl (fun (h188 : (1 : Int) ≠ 0) => ?_) (fun (h188 : (1 : Int) = 0) => absurd h188 (by omega))
    refine z_xP zt235 28 62 [some (.ref 19), some (.int p1), some (.int p2), some (.int p3)] [.ref 19] rfl rfl ?_
    have f19 : T[19]? = some (.inl (12, 0, 0, 0, 0)) := X.1.k rfl (by decide)
    refine z_xgv zt235 29 rfl zo235 zzf12_269 X f19 (by decide) hz0 ?_
    refine z_xP zt235 30 67 [some (.ref 19), some (.int p1), some (.int p2), some (.int p3)] [.int 20, .int zp0] rfl rfl ?_
    refine z_xJ zt235 31 rfl rfl (fun (h189 : zp0.toInt ≠ 20) => ?_) (fun (h189 : zp0.toInt = 20) => ?_)
    · skip
      refine z_xP zt235 34 74 [some (.ref 19), some (.int p1), some (.int p2), some (.int p3)] [.ref 19] rfl rfl ?_
      refine z_xgX (b := 36) zt235 35 rfl zo235 zzf12_58 X f19 (by decide) (by decide) rfl ?_
      refine z_xP zt235 36 78 [some (.ref 19), some (.int p1), some (.int p2), some (.int p3)] [.ref 19, .ref 36] rfl rfl ?_
      refine z_xgv zt235 37 rfl zo235 zzf12_269 X f19 (by decide) hz0 ?_
      refine z_xP zt235 38 82 [some (.ref 19), some (.int p1), some (.int p2), some (.int p3)] [.int p1, .int zp0, .ref 36] rfl rfl ?_
      have f36 : T[36]? = some (.inr (36, 0, 20, 0, 7)) := X.1.k rfl (by decide)
      refine z_xis zt235 39 rfl X f36 (by decide) (by decide) (by omega) (by omega) (by omega) (by omega) (by decide) (fun M190 X191 e192 h193 => ?_)
      have h194 := h193
      refine z_xP zt235 40 84 [some (.ref 19), some (.int p1), some (.int p2), some (.int p3)] [.ref 19] rfl rfl ?_
      refine z_xgX (b := 37) zt235 41 rfl zo235 zzf12_61 X191 f19 (by decide) (by decide) rfl ?_
      refine z_xP zt235 42 88 [some (.ref 19), some (.int p1), some (.int p2), some (.int p3)] [.ref 19, .ref 37] rfl rfl ?_
      have h195 := (e192.f f19 (by decide) hz0)
      refine z_xgv zt235 43 rfl zo235 zzf12_269 X191 f19 (by decide) h195 ?_
      refine z_xP zt235 44 93 [some (.ref 19), some (.int p1), some (.int p2), some (.int p3)] [.int 5, .int p1, .int zp0, .ref 37] rfl rfl ?_
      refine z_xJ zt235 45 rfl rfl (fun (h196 : p1.toInt = 5) => absurd h196 (by omega)) (fun (h196 : p1.toInt ≠ 5) => ?_)
      refine z_xP zt235 46 99 [some (.ref 19), some (.int p1), some (.int p2), some (.int p3)] [.int 6, .int p1, .int zp0, .ref 37] rfl rfl ?_
      refine z_xJ zt235 47 rfl rfl (fun (h197 : p1.toInt ≠ 6) => ?_) (fun (h197 : p1.toInt = 6) => absurd h197 (by omega))
      refine z_xP zt235 49 107 [some (.ref 19), some (.int p1), some (.int p2), some (.int p3)] [.int 0, .int zp0, .ref 37] rfl rfl ?_
      have f37 : T[37]? = some (.inr (37, 0, 20, 0, 9)) := X191.1.k rfl (by decide)
      have q0 : ((0 : Int32)).toInt = 0 := rfl
      refine z_xis zt235 50 rfl X191 f37 (by decide) (by decide) (by omega) (by omega) (by omega) (by omega) (by decide) (fun M198 X199 e200 h201 => ?_)
      have h202 := (h201).trans (congrArg (fun f => upd f (zp0).toNatClampNeg (0)) (e192.a f37 (by decide)))
      refine z_xP zt235 51 109 [some (.ref 19), some (.int p1), some (.int p2), some (.int p3)] [.ref 19] rfl rfl ?_
      refine z_xgX (b := 38) zt235 52 rfl zo235 zzf12_64 X199 f19 (by decide) (by decide) rfl ?_
      refine z_xP zt235 53 113 [some (.ref 19), some (.int p1), some (.int p2), some (.int p3)] [.ref 19, .ref 38] rfl rfl ?_
      have h203 := (e200.f f19 (by decide) h195)
      refine z_xgv zt235 54 rfl zo235 zzf12_269 X199 f19 (by decide) h203 ?_
      refine z_xP zt235 55 119 [some (.ref 19), some (.int p1), some (.int p2), some (.int p3)] [.int 6, .int p1, .int zp0, .ref 38] rfl rfl ?_
      refine z_xJ zt235 56 rfl rfl (fun (h204 : p1.toInt = 6) => absurd h204 (by omega)) (fun (h204 : p1.toInt ≠ 6) => ?_)
      refine z_xP zt235 57 125 [some (.ref 19), some (.int p1), some (.int p2), some (.int p3)] [.int 7, .int p1, .int zp0, .ref 38] rfl rfl ?_
      refine z_xJ zt235 58 rfl rfl (fun (h205 : p1.toInt ≠ 7) => absurd h205 (by omega)) (fun (h205 : p1.toInt = 7) => ?_)
      refine z_xP zt235 59 133 [some (.ref 19), some (.int p1), some (.int p2), some (.int p3)] [.int p3, .int zp0, .ref 38] rfl rfl ?_
      have f38 : T[38]? = some (.inr (38, 0, 20, 0, 8)) := X199.1.k rfl (by decide)
      refine z_xis zt235 61 rfl X199 f38 (by decide) (by decide) (by omega) (by omega) (by omega) (by omega) (by decide) (fun M206 X207 e208 h209 => ?_)
      have h210 := (h209).trans (congrArg (fun f => upd f (zp0).toNatClampNeg (p3)) ((e200.a f38 (by decide)).trans (e192.a f38 (by decide))))
      refine z_xP zt235 62 136 [some (.ref 19), some (.int p1), some (.int p2), some (.int p3)] [.ref 19, .ref 19] rfl rfl ?_
      have h211 := (e208.f f19 (by decide) h203)
      refine z_xgv zt235 63 rfl zo235 zzf12_269 X207 f19 (by decide) h211 ?_
      refine z_xP zt235 64 140 [some (.ref 19), some (.int p1), some (.int p2), some (.int p3)] [.int 1, .int zp0, .ref 19] rfl rfl ?_
      refine z_xI zt235 65 rfl rfl (fun (x212 : Int32) (h213 : x212.toInt = zp0.toInt + 1) => ?_) (z_pAdd rfl rfl (by omega) (by omega))
      refine z_xpf zt235 66 rfl zo235 zzf12_269 X207 f19 (by decide) (by decide) ⟨by omega, by omega⟩ rfl (by decide) zw12_21 (fun M214 X215 e216 h217 => ?_)
      refine z_xP zt235 67 145 [some (.ref 19), some (.int p1), some (.int p2), some (.int p3)] [.ref 19] rfl rfl ?_
      refine z_xgv zt235 68 rfl zo235 zzf12_269 X215 f19 (by decide) h217 ?_
      refine z_xP zt235 69 149 [some (.ref 19), some (.int p1), some (.int p2), some (.int p3)] [.int 1, .int x212] rfl rfl ?_
      refine z_xI zt235 70 rfl rfl (fun (x218 : Int32) (h219 : x218.toInt = x212.toInt - 1) => ?_) (z_pSub rfl rfl (by omega) (by omega))
      exact z_xri zt235 71 rfl zzr235 (kk x218 M214 X215 (by omega) (by omega) (fun _ => ⟨_, rfl, (((e216.a f36 (by decide)).trans ((e208.a f36 (by decide)).trans (e200.a f36 (by decide)))).trans h194)⟩) (fun hx => absurd hx (by omega)) (fun _ => ⟨_, Or.inr ⟨by omega, by omega, rfl⟩, (((e216.a f37 (by decide)).trans (e208.a f37 (by decide))).trans h202)⟩) (fun hx => absurd hx (by omega)) (fun _ => ⟨_, Or.inl ⟨by omega, rfl⟩, ((e216.a f38 (by decide)).trans h210)⟩) (fun hx => absurd hx (by omega)) x212 h217 ⟨by omega, by omega⟩ (by omega) (by omega) (by omega))
    refine z_xP zt235 32 72 [some (.ref 19), some (.int p1), some (.int p2), some (.int p3)] [.int (-3)] rfl rfl ?_
    have qm3 : (((-3) : Int32)).toInt = (-3) := rfl
    have qm3 : (((-3) : Int32)).toInt = (-3) := rfl
    have qm3 : (((-3) : Int32)).toInt = (-3) := rfl
    have qm3 : (((-3) : Int32)).toInt = (-3) := rfl
    have qm3 : (((-3) : Int32)).toInt = (-3) := rfl
    have qm3 : (((-3) : Int32)).toInt = (-3) := rfl
    have qm3 : (((-3) : Int32)).toInt = (-3) := rfl
    exact z_xri zt235 33 rfl zzr235 (kk (-3) M0 X (by omega) (by omega) (fun hx => absurd hx (by omega)) (fun _ => rfl) (fun hx => absurd hx (by omega)) (fun _ => rfl) (fun hx => absurd hx (by omega)) (fun _ => rfl) zp0 hz0 ⟨by omega, by omega⟩ (by omega) (by omega) (by omega))
  refine z_xP zt235 10 24 [some (.ref 19), some (.int p1), some (.int p2), some (.int p3)] [.int p2] rfl rfl ?_
  have h220 := z_b32 p2
  refine z_xL zt235 11 rfl rfl (fun (y221 : Int64) (h222 : y221.toInt = p2.toInt) => ?_) (z_qI2L rfl)
  refine z_xP zt235 12 26 [some (.ref 19), some (.int p1), some (.int p2), some (.int p3)] [.long 0, .long y221] rfl rfl ?_
  refine z_xl2 zt235 13 rfl zo235 zkl12_232 ?_
  refine z_xcS (vs := [.long y221, .long 0, .long 9]) (r := []) (L2 := [some (.long y221), none, some (.long 0), none, some (.long 9), none]) zt235 14 rfl zo235 zzcS12_116 (Or.inl rfl) (Nat.le_of_ble_eq_true rfl) rfl rfl (Nat.le_of_ble_eq_true rfl) zzm189 (Nat.le_of_ble_eq_true rfl) rfl ?_
  refine z_xP zt189 0 2 [some (.long y221), none, some (.long 0), none, some (.long 9), none] [.long 0, .long y221] rfl rfl ?_
  refine z_xI zt189 1 rfl rfl (fun (x223 : Int32) (h224 : (x223.toInt < 0 ∧ y221.toInt < 0) ∨ (x223.toInt = 0 ∧ y221.toInt = 0) ∨ (0 < x223.toInt ∧ 0 < y221.toInt)) => ?_) (z_qCmp rfl rfl)
  refine z_xZ zt189 2 rfl rfl (fun (h225 : x223.toInt < 0) => ?_) (fun (h225 : 0 ≤ x223.toInt) => ?_)
  · skip
    refine z_xP zt189 7 18 [some (.long y221), none, some (.long 0), none, some (.long 9), none] [.int 0] rfl rfl ?_
    refine z_xrz zt189 8 rfl zzr189 (by decide) (by decide) ?_
    show z_ev (d + 1) 235 32 [some (.ref 19), some (.int p1), some (.int p2), some (.int p3)] [.int 0] M0 _
    refine z_xZ zt235 15 rfl rfl (fun (h226 : (0 : Int) = 0) => ?_) (fun (h226 : (0 : Int) ≠ 0) => absurd h226 (by omega))
    refine z_xP zt235 26 60 [some (.ref 19), some (.int p1), some (.int p2), some (.int p3)] [.int (-1)] rfl rfl ?_
    have qm1 : (((-1) : Int32)).toInt = (-1) := rfl
    have qm1 : (((-1) : Int32)).toInt = (-1) := rfl
    have qm1 : (((-1) : Int32)).toInt = (-1) := rfl
    have qm1 : (((-1) : Int32)).toInt = (-1) := rfl
    have qm1 : (((-1) : Int32)).toInt = (-1) := rfl
    have qm1 : (((-1) : Int32)).toInt = (-1) := rfl
    have f19 : T[19]? = some (.inl (12, 0, 0, 0, 0)) := X.1.k rfl (by decide)
    have qm1 : (((-1) : Int32)).toInt = (-1) := rfl
    exact z_xri zt235 27 rfl zzr235 (kk (-1) M0 X (by omega) (by omega) (fun hx => absurd hx (by omega)) (fun _ => rfl) (fun hx => absurd hx (by omega)) (fun _ => rfl) (fun hx => absurd hx (by omega)) (fun _ => rfl) zp0 hz0 ⟨by omega, by omega⟩ (by omega) (by omega) (by omega))
  refine z_xP zt189 3 9 [some (.long y221), none, some (.long 0), none, some (.long 9), none] [.long 9, .long y221] rfl rfl ?_
  refine z_xI zt189 4 rfl rfl (fun (x227 : Int32) (h228 : (x227.toInt < 0 ∧ y221.toInt < 9) ∨ (x227.toInt = 0 ∧ y221.toInt = 9) ∨ (0 < x227.toInt ∧ 9 < y221.toInt)) => ?_) (z_qCmp rfl rfl)
  refine z_xZ zt189 5 rfl rfl (fun (h229 : 0 < x227.toInt) => ?_) (fun (h229 : x227.toInt ≤ 0) => ?_)
  · skip
    refine z_xP zt189 7 18 [some (.long y221), none, some (.long 0), none, some (.long 9), none] [.int 0] rfl rfl ?_
    refine z_xrz zt189 8 rfl zzr189 (by decide) (by decide) ?_
    show z_ev (d + 1) 235 32 [some (.ref 19), some (.int p1), some (.int p2), some (.int p3)] [.int 0] M0 _
    refine z_xZ zt235 15 rfl rfl (fun (h230 : (0 : Int) = 0) => ?_) (fun (h230 : (0 : Int) ≠ 0) => absurd h230 (by omega))
    refine z_xP zt235 26 60 [some (.ref 19), some (.int p1), some (.int p2), some (.int p3)] [.int (-1)] rfl rfl ?_
    have qm1 : (((-1) : Int32)).toInt = (-1) := rfl
    have qm1 : (((-1) : Int32)).toInt = (-1) := rfl
    have qm1 : (((-1) : Int32)).toInt = (-1) := rfl
    have qm1 : (((-1) : Int32)).toInt = (-1) := rfl
    have qm1 : (((-1) : Int32)).toInt = (-1) := rfl
    have qm1 : (((-1) : Int32)).toInt = (-1) := rfl
    have f19 : T[19]? = some (.inl (12, 0, 0, 0, 0)) := X.1.k rfl (by decide)
    have qm1 : (((-1) : Int32)).toInt = (-1) := rfl
    exact z_xri zt235 27 rfl zzr235 (kk (-1) M0 X (by omega) (by omega) (fun hx => absurd hx (by omega)) (fun _ => rfl) (fun hx => absurd hx (by omega)) (fun _ => rfl) (fun hx => absurd hx (by omega)) (fun _ => rfl) zp0 hz0 ⟨by omega, by omega⟩ (by omega) (by omega) (by omega))
  refine z_xP zt189 6 18 [some (.long y221), none, some (.long 0), none, some (.long 9), none] [.int 1] rfl rfl ?_
  refine z_xrz zt189 8 rfl zzr189 (by decide) (by decide) ?_
  show z_ev (d + 1) 235 32 [some (.ref 19), some (.int p1), some (.int p2), some (.int p3)] [.int 1] M0 _
  refine z_xZ zt235 15 rfl rfl (fun (h231 : (1 : Int) = 0) => absurd h231 (by omega)) (fun (h231 : (1 : Int) ≠ 0) => ?_)
  refine z_xP zt235 16 38 [some (.ref 19), some (.int p1), some (.int p2), some (.int p3)] [.int 6, .int p1] rfl rfl ?_
  refine z_xJ zt235 17 rfl rfl (fun (h232 : p1.toInt = 6) => ?_) (fun (h232 : p1.toInt ≠ 6) => absurd h232 (by omega))
  refine z_xP zt235 20 48 [some (.ref 19), some (.int p1), some (.int p2), some (.int p3)] [.int p3] rfl rfl ?_
  have h233 := z_b32 p3
  refine z_xL zt235 21 rfl rfl (fun (y234 : Int64) (h235 : y234.toInt = p3.toInt) => ?_) (z_qI2L rfl)
  refine z_xP zt235 22 50 [some (.ref 19), some (.int p1), some (.int p2), some (.int p3)] [.long 0, .long y234] rfl rfl ?_
  refine z_xl2 zt235 23 rfl zo235 zkl12_267 ?_
  refine z_xcS (vs := [.long y234, .long 0, .long 8]) (r := []) (L2 := [some (.long y234), none, some (.long 0), none, some (.long 8), none]) zt235 24 rfl zo235 zzcS12_116 (Or.inl rfl) (Nat.le_of_ble_eq_true rfl) rfl rfl (Nat.le_of_ble_eq_true rfl) zzm189 (Nat.le_of_ble_eq_true rfl) rfl ?_
  refine z_xP zt189 0 2 [some (.long y234), none, some (.long 0), none, some (.long 8), none] [.long 0, .long y234] rfl rfl ?_
  refine z_xI zt189 1 rfl rfl (fun (x236 : Int32) (h237 : (x236.toInt < 0 ∧ y234.toInt < 0) ∨ (x236.toInt = 0 ∧ y234.toInt = 0) ∨ (0 < x236.toInt ∧ 0 < y234.toInt)) => ?_) (z_qCmp rfl rfl)
  refine z_xZ zt189 2 rfl rfl (fun (h238 : x236.toInt < 0) => ?_) (fun (h238 : 0 ≤ x236.toInt) => ?_)
  · skip
    refine z_xP zt189 7 18 [some (.long y234), none, some (.long 0), none, some (.long 8), none] [.int 0] rfl rfl ?_
    refine z_xrz zt189 8 rfl zzr189 (by decide) (by decide) ?_
    show z_ev (d + 1) 235 56 [some (.ref 19), some (.int p1), some (.int p2), some (.int p3)] [.int 0] M0 _
    refine z_xZ zt235 25 rfl rfl (fun (h239 : (0 : Int) ≠ 0) => absurd h239 (by omega)) (fun (h239 : (0 : Int) = 0) => ?_)
    refine z_xP zt235 26 60 [some (.ref 19), some (.int p1), some (.int p2), some (.int p3)] [.int (-1)] rfl rfl ?_
    have qm1 : (((-1) : Int32)).toInt = (-1) := rfl
    have qm1 : (((-1) : Int32)).toInt = (-1) := rfl
    have qm1 : (((-1) : Int32)).toInt = (-1) := rfl
    have qm1 : (((-1) : Int32)).toInt = (-1) := rfl
    have qm1 : (((-1) : Int32)).toInt = (-1) := rfl
    have qm1 : (((-1) : Int32)).toInt = (-1) := rfl
    have f19 : T[19]? = some (.inl (12, 0, 0, 0, 0)) := X.1.k rfl (by decide)
    have qm1 : (((-1) : Int32)).toInt = (-1) := rfl
    exact z_xri zt235 27 rfl zzr235 (kk (-1) M0 X (by omega) (by omega) (fun hx => absurd hx (by omega)) (fun _ => rfl) (fun hx => absurd hx (by omega)) (fun _ => rfl) (fun hx => absurd hx (by omega)) (fun _ => rfl) zp0 hz0 ⟨by omega, by omega⟩ (by omega) (by omega) (by omega))
  refine z_xP zt189 3 9 [some (.long y234), none, some (.long 0), none, some (.long 8), none] [.long 8, .long y234] rfl rfl ?_
  refine z_xI zt189 4 rfl rfl (fun (x240 : Int32) (h241 : (x240.toInt < 0 ∧ y234.toInt < 8) ∨ (x240.toInt = 0 ∧ y234.toInt = 8) ∨ (0 < x240.toInt ∧ 8 < y234.toInt)) => ?_) (z_qCmp rfl rfl)
  refine z_xZ zt189 5 rfl rfl (fun (h242 : 0 < x240.toInt) => ?_) (fun (h242 : x240.toInt ≤ 0) => ?_)
  · skip
    refine z_xP zt189 7 18 [some (.long y234), none, some (.long 0), none, some (.long 8), none] [.int 0] rfl rfl ?_
    refine z_xrz zt189 8 rfl zzr189 (by decide) (by decide) ?_
    show z_ev (d + 1) 235 56 [some (.ref 19), some (.int p1), some (.int p2), some (.int p3)] [.int 0] M0 _
    refine z_xZ zt235 25 rfl rfl (fun (h243 : (0 : Int) ≠ 0) => absurd h243 (by omega)) (fun (h243 : (0 : Int) = 0) => ?_)
    refine z_xP zt235 26 60 [some (.ref 19), some (.int p1), some (.int p2), some (.int p3)] [.int (-1)] rfl rfl ?_
    have qm1 : (((-1) : Int32)).toInt = (-1) := rfl
    have qm1 : (((-1) : Int32)).toInt = (-1) := rfl
    have qm1 : (((-1) : Int32)).toInt = (-1) := rfl
    have qm1 : (((-1) : Int32)).toInt = (-1) := rfl
    have qm1 : (((-1) : Int32)).toInt = (-1) := rfl
    have qm1 : (((-1) : Int32)).toInt = (-1) := rfl
    have f19 : T[19]? = some (.inl (12, 0, 0, 0, 0)) := X.1.k rfl (by decide)
    have qm1 : (((-1) : Int32)).toInt = (-1) := rfl
    exact z_xri zt235 27 rfl zzr235 (kk (-1) M0 X (by omega) (by omega) (fun hx => absurd hx (by omega)) (fun _ => rfl) (fun hx => absurd hx (by omega)) (fun _ => rfl) (fun hx => absurd hx (by omega)) (fun _ => rfl) zp0 hz0 ⟨by omega, by omega⟩ (by omega) (by omega) (by omega))
  refine z_xP zt189 6 18 [some (.long y234), none, some (.long 0), none, some (.long 8), none] [.int 1] rfl rfl ?_
  refine z_xrz zt189 8 rfl zzr189 (by decide) (by decide) ?_
  show z_ev (d + 1) 235 56 [some (.ref 19), some (.int p1), some (.int p2), some (.int p3)] [.int 1] M0 _
  refine z_xZ zt235 25 rfl rfl (fun (h244 : (1 : Int) ≠ 0) => ?_) (fun (h244 : (1 : Int) = 0) => absurd h244 (by omega))
  refine z_xP zt235 28 62 [some (.ref 19), some (.int p1), some (.int p2), some (.int p3)] [.ref 19] rfl rfl ?_
  have f19 : T[19]? = some (.inl (12, 0, 0, 0, 0)) := X.1.k rfl (by decide)
  refine z_xgv zt235 29 rfl zo235 zzf12_269 X f19 (by decide) hz0 ?_
  refine z_xP zt235 30 67 [some (.ref 19), some (.int p1), some (.int p2), some (.int p3)] [.int 20, .int zp0] rfl rfl ?_
  refine z_xJ zt235 31 rfl rfl (fun (h245 : zp0.toInt ≠ 20) => ?_) (fun (h245 : zp0.toInt = 20) => ?_)
  · skip
    refine z_xP zt235 34 74 [some (.ref 19), some (.int p1), some (.int p2), some (.int p3)] [.ref 19] rfl rfl ?_
    refine z_xgX (b := 36) zt235 35 rfl zo235 zzf12_58 X f19 (by decide) (by decide) rfl ?_
    refine z_xP zt235 36 78 [some (.ref 19), some (.int p1), some (.int p2), some (.int p3)] [.ref 19, .ref 36] rfl rfl ?_
    refine z_xgv zt235 37 rfl zo235 zzf12_269 X f19 (by decide) hz0 ?_
    refine z_xP zt235 38 82 [some (.ref 19), some (.int p1), some (.int p2), some (.int p3)] [.int p1, .int zp0, .ref 36] rfl rfl ?_
    have f36 : T[36]? = some (.inr (36, 0, 20, 0, 7)) := X.1.k rfl (by decide)
    refine z_xis zt235 39 rfl X f36 (by decide) (by decide) (by omega) (by omega) (by omega) (by omega) (by decide) (fun M246 X247 e248 h249 => ?_)
    have h250 := h249
    refine z_xP zt235 40 84 [some (.ref 19), some (.int p1), some (.int p2), some (.int p3)] [.ref 19] rfl rfl ?_
    refine z_xgX (b := 37) zt235 41 rfl zo235 zzf12_61 X247 f19 (by decide) (by decide) rfl ?_
    refine z_xP zt235 42 88 [some (.ref 19), some (.int p1), some (.int p2), some (.int p3)] [.ref 19, .ref 37] rfl rfl ?_
    have h251 := (e248.f f19 (by decide) hz0)
    refine z_xgv zt235 43 rfl zo235 zzf12_269 X247 f19 (by decide) h251 ?_
    refine z_xP zt235 44 93 [some (.ref 19), some (.int p1), some (.int p2), some (.int p3)] [.int 5, .int p1, .int zp0, .ref 37] rfl rfl ?_
    refine z_xJ zt235 45 rfl rfl (fun (h252 : p1.toInt = 5) => absurd h252 (by omega)) (fun (h252 : p1.toInt ≠ 5) => ?_)
    refine z_xP zt235 46 99 [some (.ref 19), some (.int p1), some (.int p2), some (.int p3)] [.int 6, .int p1, .int zp0, .ref 37] rfl rfl ?_
    refine z_xJ zt235 47 rfl rfl (fun (h253 : p1.toInt ≠ 6) => absurd h253 (by omega)) (fun (h253 : p1.toInt = 6) => ?_)
    refine z_xP zt235 48 107 [some (.ref 19), some (.int p1), some (.int p2), some (.int p3)] [.int p2, .int zp0, .ref 37] rfl rfl ?_
    have f37 : T[37]? = some (.inr (37, 0, 20, 0, 9)) := X247.1.k rfl (by decide)
    refine z_xis zt235 50 rfl X247 f37 (by decide) (by decide) (by omega) (by omega) (by omega) (by omega) (by decide) (fun M254 X255 e256 h257 => ?_)
    have h258 := (h257).trans (congrArg (fun f => upd f (zp0).toNatClampNeg (p2)) (e248.a f37 (by decide)))
    refine z_xP zt235 51 109 [some (.ref 19), some (.int p1), some (.int p2), some (.int p3)] [.ref 19] rfl rfl ?_
    refine z_xgX (b := 38) zt235 52 rfl zo235 zzf12_64 X255 f19 (by decide) (by decide) rfl ?_
    refine z_xP zt235 53 113 [some (.ref 19), some (.int p1), some (.int p2), some (.int p3)] [.ref 19, .ref 38] rfl rfl ?_
    have h259 := (e256.f f19 (by decide) h251)
    refine z_xgv zt235 54 rfl zo235 zzf12_269 X255 f19 (by decide) h259 ?_
    refine z_xP zt235 55 119 [some (.ref 19), some (.int p1), some (.int p2), some (.int p3)] [.int 6, .int p1, .int zp0, .ref 38] rfl rfl ?_
    refine z_xJ zt235 56 rfl rfl (fun (h260 : p1.toInt = 6) => ?_) (fun (h260 : p1.toInt ≠ 6) => absurd h260 (by omega))
    refine z_xP zt235 59 133 [some (.ref 19), some (.int p1), some (.int p2), some (.int p3)] [.int p3, .int zp0, .ref 38] rfl rfl ?_
    have f38 : T[38]? = some (.inr (38, 0, 20, 0, 8)) := X255.1.k rfl (by decide)
    refine z_xis zt235 61 rfl X255 f38 (by decide) (by decide) (by omega) (by omega) (by omega) (by omega) (by decide) (fun M261 X262 e263 h264 => ?_)
    have h265 := (h264).trans (congrArg (fun f => upd f (zp0).toNatClampNeg (p3)) ((e256.a f38 (by decide)).trans (e248.a f38 (by decide))))
    refine z_xP zt235 62 136 [some (.ref 19), some (.int p1), some (.int p2), some (.int p3)] [.ref 19, .ref 19] rfl rfl ?_
    have h266 := (e263.f f19 (by decide) h259)
    refine z_xgv zt235 63 rfl zo235 zzf12_269 X262 f19 (by decide) h266 ?_
    refine z_xP zt235 64 140 [some (.ref 19), some (.int p1), some (.int p2), some (.int p3)] [.int 1, .int zp0, .ref 19] rfl rfl ?_
    refine z_xI zt235 65 rfl rfl (fun (x267 : Int32) (h268 : x267.toInt = zp0.toInt + 1) => ?_) (z_pAdd rfl rfl (by omega) (by omega))
    refine z_xpf zt235 66 rfl zo235 zzf12_269 X262 f19 (by decide) (by decide) ⟨by omega, by omega⟩ rfl (by decide) zw12_21 (fun M269 X270 e271 h272 => ?_)
    refine z_xP zt235 67 145 [some (.ref 19), some (.int p1), some (.int p2), some (.int p3)] [.ref 19] rfl rfl ?_
    refine z_xgv zt235 68 rfl zo235 zzf12_269 X270 f19 (by decide) h272 ?_
    refine z_xP zt235 69 149 [some (.ref 19), some (.int p1), some (.int p2), some (.int p3)] [.int 1, .int x267] rfl rfl ?_
    refine z_xI zt235 70 rfl rfl (fun (x273 : Int32) (h274 : x273.toInt = x267.toInt - 1) => ?_) (z_pSub rfl rfl (by omega) (by omega))
    exact z_xri zt235 71 rfl zzr235 (kk x273 M269 X270 (by omega) (by omega) (fun _ => ⟨_, rfl, (((e271.a f36 (by decide)).trans ((e263.a f36 (by decide)).trans (e256.a f36 (by decide)))).trans h250)⟩) (fun hx => absurd hx (by omega)) (fun _ => ⟨_, Or.inl ⟨by omega, rfl⟩, (((e271.a f37 (by decide)).trans (e263.a f37 (by decide))).trans h258)⟩) (fun hx => absurd hx (by omega)) (fun _ => ⟨_, Or.inl ⟨by omega, rfl⟩, ((e271.a f38 (by decide)).trans h265)⟩) (fun hx => absurd hx (by omega)) x267 h272 ⟨by omega, by omega⟩ (by omega) (by omega) (by omega))
  refine z_xP zt235 32 72 [some (.ref 19), some (.int p1), some (.int p2), some (.int p3)] [.int (-3)] rfl rfl ?_
  have qm3 : (((-3) : Int32)).toInt = (-3) := rfl
  have qm3 : (((-3) : Int32)).toInt = (-3) := rfl
  have qm3 : (((-3) : Int32)).toInt = (-3) := rfl
  have qm3 : (((-3) : Int32)).toInt = (-3) := rfl
  have qm3 : (((-3) : Int32)).toInt = (-3) := rfl
  have qm3 : (((-3) : Int32)).toInt = (-3) := rfl
  have qm3 : (((-3) : Int32)).toInt = (-3) := rfl
  exact z_xri zt235 33 rfl zzr235 (kk (-3) M0 X (by omega) (by omega) (fun hx => absurd hx (by omega)) (fun _ => rfl) (fun hx => absurd hx (by omega)) (fun _ => rfl) (fun hx => absurd hx (by omega)) (fun _ => rfl) zp0 hz0 ⟨by omega, by omega⟩ (by omega) (by omega) (by omega))
theorem z_Rw1.gen {M M2 : zH} {T T1 : List zK} (h : z_Rw1 T M) (hp : ∀ (a : Nat) (κ : zK), T[a]? = some κ → T1[a]? = some κ) (e45 : z_F M2 4 5 = z_F M 4 5) (e12 : z_O M2 12 = z_O M 12) (e36 : z_Ar M2 36 = z_Ar M 36) (e37 : z_Ar M2 37 = z_Ar M 37) (e38 : z_Ar M2 38 = z_Ar M 38) (fF : ∀ b kd k : Nat, kd ≤ 7 → k < 4 → T[b]? = some (.inl (4 + kd, 0, 0, 0, 0)) → z_F M2 b k = z_F M b k) : z_Rw1 T1 M2 := by
  intro W hF i hi
  rw [e45] at hF
  obtain ⟨b, kd, h1, h2, h3, h4, h5, h6, h7, p, h8, h9⟩ := h W hF i hi
  refine ⟨b, kd, by rw [e12]; exact h1, h2, hp _ _ h3, by rw [e36]; exact h4, ?_, ?_, ?_, p, ?_, h9⟩
  · rw [e36, fF b kd 0 h2 (by decide) h3]; exact h5
  · rw [e37, fF b kd 1 h2 (by decide) h3]; exact h6
  · rw [e38, fF b kd 2 h2 (by decide) h3]; exact h7
  · rw [fF b kd 3 h2 (by decide) h3]; exact h8
theorem z_rn {rs : List Nat} (hr : ∀ x ∈ rs, x < 1400 ∨ 2104 ≤ x) {kd k : Nat} (hd : kd ≤ 7) (hk : k < 4) : ¬ (1000 + 100 * (4 + kd) + k) ∈ rs := fun h => by
  rcases hr _ h with h | h
  · omega
  · omega
theorem zJA16 : z_P16 z_JA := by
  intro x1 x2 x3 M ⟨T, hA, hR⟩
  have hW := hA.1.1
  have k4 : T[4]? = some (.inl (0, 0, 0, 0, 0)) := hW.k rfl (by decide)
  have k12 := hW.k (k := 12) (κ := .inr (12, 3, 20, 0, 0)) rfl (by decide)
  have k14 := hW.k (k := 14) (κ := z_ai 14 6 (-1) 5) rfl (by decide)
  have k15 := hW.k (k := 15) (κ := z_ai 15 6 0 60) rfl (by decide)
  have k17 := hW.k (k := 17) (κ := .inr (17, 3, 6, 0, 0)) rfl (by decide)
  have k19 : T[19]? = some (.inl (12, 0, 0, 0, 0)) := hW.k rfl (by decide)
  have k36 := hW.k (k := 36) (κ := z_ai 36 20 0 7) rfl (by decide)
  have k37 := hW.k (k := 37) (κ := z_ai 37 20 0 9) rfl (by decide)
  have k38 := hW.k (k := 38) (κ := z_ai 38 20 0 8) rfl (by decide)
  have k49 := hW.k (k := 49) (κ := z_ai 49 6 (-1) 24) rfl (by decide)
  have k50 := hW.k (k := 50) (κ := z_ai 50 6 0 60) rfl (by decide)
  obtain ⟨w, hw, w0, w1⟩ : ∃ w : Int32, z_F M 4 5 = some (.int w) ∧ 0 ≤ w.toInt ∧ w.toInt ≤ 20 := hW.fi k4 (by decide) rfl
  have hz := hA.2.2.2.symm.trans hw
  refine z_twoG (C := fun _ _ => True) ?_
  rw [zzm73]
  show z_ev 2046 73 0 [some (.ref 4), some (.int x1), some (.int x2), some (.int x3), none, none] [] M _
  refine zC73 hW hw ⟨w0, w1⟩ (fun s4 s5 h1 h2 h3 => ?_) (fun y M1 X1 _ _ u hu _ r1 r2 r3 => ?_)
  · refine zRT73 (p1 := x1) (p2 := x2) (p3 := x3) hA hw w0 h1.2.2 ⟨h1.1, h1.2.1⟩ h2 h3 (fun y u s c T1 M3 hs hc hy hu hu1 h19 hB p1 ke o12 tN f0 f1 f2 f3 l1 l2 l3 => ?_)
    refine ⟨⟨y, rfl⟩, Or.inr ⟨by omega, by unfold z_szr; omega⟩, ?_⟩
    rw [zzm235]
    show z_ev 2046 235 0 [some (.ref 19), some (.int x1), some (.int x2), some (.int x3)] [] M3 _
    have hW3 := hB.1.1
    have q4 := p1 _ _ k4
    have q12 := p1 _ _ k12
    refine zRC235 hW3 (h19.trans hz) ⟨w0, w1⟩ (fun x M2 X2 _ _ a36 b36 a37 b37 a38 b38 u2 hu2 _ t1 t2 t3 => ?_)
    have e1 : x.toInt = y.toInt := by
      clear a36 a37 a38
      omega
    have e2 : u2.toInt = u.toInt := by
      clear a36 a37 a38
      omega
    have e3 : z_F M2 4 5 = z_F M2 19 21 := by rw [X2.2.1 4 0 0 0 0 0 5 q4 (by decide), hu, hu2, Int32.toInt_inj.mp e2]
    have x0 : 0 ≤ x.toInt := by
      clear a36 a37 a38
      omega
    obtain ⟨v36, q36, g36⟩ := a36 x0
    obtain ⟨v37, q37, g37⟩ := a37 x0
    obtain ⟨v38, q38, g38⟩ := a38 x0
    clear a36 a37 a38
    have es : v37 = s := by
      rcases hs with ⟨a, h⟩ | ⟨a, b, h⟩ <;> rcases q37 with ⟨a2, h2⟩ | ⟨a2, b2, h2⟩ <;> first | (rw [h, h2]; done) | (exfalso; omega)
    have ec : v38 = c := by
      rcases hc with ⟨a, h⟩ | ⟨a, b, h⟩ <;> rcases q38 with ⟨a2, h2⟩ | ⟨a2, b2, h2⟩ <;> first | (rw [h, h2]; done) | (exfalso; omega)
    subst es ec q36
    have e45 : z_F M2 4 5 = some (.int u) := (X2.2.1 4 0 0 0 0 0 5 q4 (by decide)).trans hu
    have e12 : z_O M2 12 = z_updR (z_O M 12) w.toNatClampNeg (some M.length) := (X2.2.o q12 (by decide)).trans o12
    have n36 : z_Ar M3 36 = z_Ar M 36 := ke.a k36 (by decide)
    have n37 : z_Ar M3 37 = z_Ar M 37 := ke.a k37 (by decide)
    have n38 : z_Ar M3 38 = z_Ar M 38 := ke.a k38 (by decide)
    have fb : ∀ b kd k : Nat, kd ≤ 7 → k < 4 → T[b]? = some (.inl (4 + kd, 0, 0, 0, 0)) → z_F M2 b k = z_F M b k := fun b kd k hd hk ht => by
      rw [X2.2.1 b _ 0 0 0 0 k (p1 _ _ ht) (z_rn (by decide) hd hk), ke.1 b _ 0 0 0 0 k ht (z_rn (by decide) hd hk)]
    have hkd : v36.toInt.toNat ≤ 7 := by omega
    refine ⟨⟨x, rfl⟩, trivial, ⟨T1, ⟨hB.1.go X2 (by decide), hB.2.1.go X2 (by decide), hB.2.2.go X2 (by decide), e3⟩, ?_, (hR.2.ke hW ke rfl).ke hW3 X2.2 rfl⟩, X2.1.1.trans hW3.1.symm, z_kep X2 (by decide)⟩
    · intro W hF i hi
      rw [e45] at hF
      cases hF
      by_cases hiw : i = w.toNatClampNeg
      · subst hiw
        have fN : ∀ k, k < 4 → z_F M2 M.length k = z_F M3 M.length k := fun k hk => X2.2.1 M.length _ 0 0 0 0 k tN (z_rn (by decide) hkd hk)
        refine ⟨M.length, v36.toInt.toNat, z_updRs e12, hkd, tN, ?_, ?_, ?_, ?_, w, ?_, ?_⟩
        · rw [z_upds g36]; omega
        · rw [z_upds g36, fN 0 (by decide)]; exact f0
        · rw [z_upds g37, fN 1 (by decide)]; exact f1
        · rw [z_upds g38, fN 2 (by decide)]; exact f2
        · rw [fN 3 (by decide)]; exact f3
        · unfold Int32.toNatClampNeg; omega
      · have hlt : (i : Int) < w.toInt := by
          unfold Int32.toNatClampNeg at hiw
          omega
        obtain ⟨b, kd, h1, h2, h3, h4, h5, h6, h7, p, h8, h9⟩ := hR.1 w hw i hlt
        refine ⟨b, kd, (z_updRn e12 hiw).trans h1, h2, p1 _ _ h3, ?_, ?_, ?_, ?_, p, ?_, h9⟩
        · rw [z_updn g36 hiw, n36]; exact h4
        · rw [z_updn g36 hiw, n36, fb b kd 0 h2 (by decide) h3]; exact h5
        · rw [z_updn g37 hiw, n37, fb b kd 1 h2 (by decide) h3]; exact h6
        · rw [z_updn g38 hiw, n38, fb b kd 2 h2 (by decide) h3]; exact h7
        · rw [fb b kd 3 h2 (by decide) h3]; exact h8
  · refine ⟨⟨y, rfl⟩, Or.inl ⟨X1.1.1.trans hW.1.symm, z_kep X1 (by decide)⟩, ?_⟩
    rw [zzm235]
    show z_ev 2046 235 0 [some (.ref 19), some (.int x1), some (.int x2), some (.int x3)] [] M1 _
    refine zRC235 X1.1 ((X1.2.1 19 12 0 0 0 0 21 k19 (by decide)).trans hz) ⟨w0, w1⟩ (fun x M2 X2 _ _ a36 b36 a37 b37 a38 b38 u2 hu2 _ t1 t2 t3 => ?_)
    have e1 : x.toInt = y.toInt := by
      clear a36 a37 a38
      omega
    have e2 : u2.toInt = u.toInt := by
      clear a36 a37 a38
      omega
    have x0 : x.toInt < 0 := by
      clear a36 a37 a38
      omega
    have e3 : z_F M2 4 5 = z_F M2 19 21 := by rw [X2.2.1 4 0 0 0 0 0 5 k4 (by decide), hu, hu2, Int32.toInt_inj.mp e2]
    have e45 : z_F M2 4 5 = z_F M 4 5 := (X2.2.1 4 0 0 0 0 0 5 k4 (by decide)).trans (X1.2.1 4 0 0 0 0 0 5 k4 (by decide))
    have hR1 := hR.go hW X1 rfl
    have e45b : z_F M2 4 5 = z_F M1 4 5 := X2.2.1 4 0 0 0 0 0 5 k4 (by decide)
    refine ⟨⟨x, rfl⟩, trivial, ⟨T, ⟨(hA.1.go X1 (by decide)).go X2 (by decide), (hA.2.1.go X1 (by decide)).go X2 (by decide), (hA.2.2.1.go X1 (by decide)).go X2 (by decide), e3⟩, ?_, hR1.2.ke X1.1 X2.2 rfl⟩, X2.1.1.trans X1.1.1.symm, z_kep X2 (by decide)⟩
    exact hR1.1.gen (fun _ _ h => h) e45b (X2.2.o k12 (by decide)) (b36 x0) (b37 x0) (b38 x0) (fun b kd k hd hk ht => X2.2.1 b _ 0 0 0 0 k ht (z_rn (by decide) hd hk))
theorem zJA17 : z_P17 z_JA := by
  intro x1 x2 M ⟨T, hA, hR⟩
  refine z_JA.two (r1 := zw83) (r2 := zw236) (C := fun _ _ => True) hA hR rfl rfl ?_
  rw [zzm83]
  show z_ev 2046 83 0 [some (.ref 4), some (.int x1), some (.int x2), none] [] M _
  refine zC83 hA.1.1 hA.1 fun y M1 X1 _ _ => ?_
  have hB := z_kee hA X1 (by decide)
  refine ⟨⟨y, rfl⟩, X1, ?_⟩
  rw [zzm236]
  show z_ev 2046 236 0 [some (.ref 19), some (.int x1), some (.int x2)] [] M1 _
  refine zC236 hB.1.1  fun z M2 X2 _ _ => ?_
  exact ⟨⟨z, rfl⟩, trivial, X2⟩
theorem zJA29 : z_P29 z_JA := by
  intro x1 x2 x3 M ⟨T, hA, hR⟩
  refine z_JA.two (r1 := zw159) (r2 := zw276) (C := fun _ _ => True) hA hR rfl rfl ?_
  rw [zzm159]
  show z_ev 2046 159 0 [some (.ref 4), some (.int x1), some (.int x2), some (.int x3), none] [] M _
  refine zC159 hA.1.1 hA.1 fun y M1 X1  => ?_
  have hB := z_kee hA X1 (by decide)
  refine ⟨⟨y, rfl⟩, X1, ?_⟩
  rw [zzm276]
  show z_ev 2046 276 0 [some (.ref 19), some (.int x1), some (.int x2), some (.int x3)] [] M1 _
  refine zC276 hB.1.1  fun z M2 X2  => ?_
  exact ⟨⟨z, rfl⟩, trivial, X2⟩
theorem zJA30 : z_P30 z_JA := by
  intro x1 M ⟨T, hA, hR⟩
  refine z_JA.two (r1 := zw174) (r2 := zw283) (C := fun _ _ => True) hA hR rfl rfl ?_
  rw [zzm174]
  show z_ev 2046 174 0 [some (.ref 4), some (.int x1)] [] M _
  refine zC174 hA.1.1  fun y M1 X1  => ?_
  have hB := z_kee hA X1 (by decide)
  refine ⟨⟨y, rfl⟩, X1, ?_⟩
  rw [zzm283]
  show z_ev 2046 283 0 [some (.ref 19), some (.int x1)] [] M1 _
  refine zC283 hB.1.1  fun z M2 X2  => ?_
  exact ⟨⟨z, rfl⟩, trivial, X2⟩
theorem zJA34 : z_P34 z_JA := by
  intro x1 x2 M ⟨T, hA, hR⟩
  refine z_JA.two (r1 := zw180) (r2 := zw289) (C := fun _ _ => True) hA hR rfl rfl ?_
  rw [zzm180]
  show z_ev 2046 180 0 [some (.ref 4), some (.int x1), some (.int x2)] [] M _
  refine zC180 hA.1.1  fun y M1 X1  => ?_
  have hB := z_kee hA X1 (by decide)
  refine ⟨⟨y, rfl⟩, X1, ?_⟩
  rw [zzm289]
  show z_ev 2046 289 0 [some (.ref 19), some (.int x1), some (.int x2)] [] M1 _
  refine zC289 hB.1.1  fun z M2 X2  => ?_
  exact ⟨⟨z, rfl⟩, trivial, X2⟩
theorem zJA36 : z_P36 z_JA := by
  intro x1 x2 M ⟨T, hA, hR⟩
  refine z_JA.two (r1 := zw183) (r2 := zw291) (C := fun _ _ => True) hA hR rfl rfl ?_
  rw [zzm183]
  show z_ev 2046 183 0 [some (.ref 4), some (.int x1), some (.int x2), none] [] M _
  refine zC183 hA.1.1 hA.1 fun y M1 X1 _ _ => ?_
  have hB := z_kee hA X1 (by decide)
  refine ⟨⟨y, rfl⟩, X1, ?_⟩
  rw [zzm291]
  show z_ev 2046 291 0 [some (.ref 19), some (.int x1), some (.int x2), none] [] M1 _
  refine zC291 hB.1.1  fun z M2 X2 _ _ => ?_
  exact ⟨⟨z, rfl⟩, trivial, X2⟩
