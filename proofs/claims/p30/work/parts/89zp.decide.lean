/-! decide of each class, told -/
theorem z_DP.ke {T : List zK} {M M1 : zH} {w b N q t m J pr en c : Nat} {B : Nat → Nat} {sh jv ch : Int32} {rs : List Nat} (h : z_DP T M w b N q t m J pr en B sh jv ch) (X : z_X T rs M M1) (kw : T[w]? = some (.inl (c, 0, 0, 0, 0))) (hr : ((z_agf ++ z_bkf ++ [201, 202, 203, 205, 206, 207, 1304, 1300, 1401, 1402, 1501, 1502, 1601, 1602, 1701, 1702, 1801, 1802, 1901, 1902, 2001, 2002, 2101, 2102]).all fun x => !rs.elem x) = true) (hc : 4 ≤ c ∧ c ≤ 11 := by decide) : z_DP T M1 w b N q t m J pr en B sh jv ch := by
  obtain ⟨⟨hW, hbk⟩, k1, hN, hag, hpe, hz, hlb, ⟨fj, jb, ha⟩, fs, fc⟩ := h
  have sub : ∀ l : List Nat, (l.all fun x => (z_agf ++ z_bkf ++ [201, 202, 203, 205, 206, 207, 1304, 1300, 1401, 1402, 1501, 1502, 1601, 1602, 1701, 1702, 1801, 1802, 1901, 1902, 2001, 2002, 2101, 2102]).elem x) = true → (l.all fun x => !rs.elem x) = true := fun l hl => List.all_eq_true.mpr fun x hx => List.all_eq_true.mp hr x (List.elem_iff.mp (List.all_eq_true.mp hl x hx))
  have nn := z_nin hr
  have n1 : ∀ k, (z_agf ++ z_bkf ++ [201, 202, 203, 205, 206, 207, 1304, 1300, 1401, 1402, 1501, 1502, 1601, 1602, 1701, 1702, 1801, 1802, 1901, 1902, 2001, 2002, 2101, 2102]).elem (1000 + 100 * c + k) = true → ¬ (1000 + 100 * c + k) ∈ rs := fun k hk => nn _ hk
  have hd : c = 4 ∨ c = 5 ∨ c = 6 ∨ c = 7 ∨ c = 8 ∨ c = 9 ∨ c = 10 ∨ c = 11 := by omega
  have e1 : (z_agf ++ z_bkf ++ [201, 202, 203, 205, 206, 207, 1304, 1300, 1401, 1402, 1501, 1502, 1601, 1602, 1701, 1702, 1801, 1802, 1901, 1902, 2001, 2002, 2101, 2102]).elem (1000 + 100 * c + 1) = true ∧ (z_agf ++ z_bkf ++ [201, 202, 203, 205, 206, 207, 1304, 1300, 1401, 1402, 1501, 1502, 1601, 1602, 1701, 1702, 1801, 1802, 1901, 1902, 2001, 2002, 2101, 2102]).elem (1000 + 100 * c + 2) = true := by
    rcases hd with rfl | rfl | rfl | rfl | rfl | rfl | rfl | rfl <;> exact ⟨rfl, rfl⟩
  refine ⟨⟨X.1, hbk.ke X.2 (sub _ rfl)⟩, k1, X.2.f k1 (nn _ rfl) hN, hag.ke (fun _ _ h => h) X.2 (sub _ rfl), hpe, hz.ke hbk hW k1 X.2 (sub _ rfl), ?_, ⟨X.2.f k1 (nn _ rfl) fj, jb, ?_⟩, X.2.f kw (n1 1 e1.1) fs, X.2.f kw (n1 2 e1.2) fc⟩
  · rw [X.2.a (hbk.k4 hW k1) (nn _ rfl)]
    exact hlb
  · rw [X.2.a (hbk.k2 hW k1) (nn _ rfl), X.2.a (hbk.k3 hW k1) (nn _ rfl)]
    exact ha
theorem zUC101 {T : List zK} {d : Nat} {K : Option Value → zH → Prop} {a0 a1 N q t m J pr en : Nat} {B : Nat → Nat} {sh jv ch : Int32} {M0 : zH} (hD : z_DP T M0 a0 a1 N q t m J pr en B sh jv ch) (kk : ∀ (x : Int32) (M1 : zH), z_X T zw101 M0 M1 → z_dq 4 M0 a1 B q pr en sh.toInt.toNat jv.toInt.toNat ch.toInt.toNat x.toInt → z_lz M1 a1 → K (some (.int x)) M1) : z_ev d 101 0 [some (.ref a0), some (.ref a1)] [] M0 K := by
  have X : z_X T zw101 M0 M0 := .refl hD.1.1
  have hW := hD.1.1
  have hbk := hD.1.2
  have k1 := hD.2.1
  have hN0 := hD.2.2.1
  have hag := hD.2.2.2.1
  have hpe := hD.2.2.2.2.1
  have hz := hD.2.2.2.2.2.1
  have hlb := hD.2.2.2.2.2.2.1
  have g1 := X.1.p3 k1
  have q10 : q ≤ 10 := by omega
  refine z_xP zt101 0 1 [some (.ref a0), some (.ref a1)] [.int 0] rfl rfl ?_
  have q0 : ((0 : Int32)).toInt = 0 := rfl
  exact z_xri zt101 1 rfl zzr101 (kk 0 M0 X z_dq4 hz)
theorem zUC97 {T : List zK} {d : Nat} {K : Option Value → zH → Prop} {a0 a1 N q t m J pr en : Nat} {B : Nat → Nat} {sh jv ch : Int32} {M0 : zH} (hD : z_DP T M0 a0 a1 N q t m J pr en B sh jv ch) (kk : ∀ (x : Int32) (M1 : zH), z_X T zw97 M0 M1 → z_dq 5 M0 a1 B q pr en sh.toInt.toNat jv.toInt.toNat ch.toInt.toNat x.toInt → z_lz M1 a1 → K (some (.int x)) M1) : z_ev (d + 1) 97 0 [some (.ref a0), some (.ref a1)] [] M0 K := by
  have X : z_X T zw97 M0 M0 := .refl hD.1.1
  have hW := hD.1.1
  have hbk := hD.1.2
  have k1 := hD.2.1
  have hN0 := hD.2.2.1
  have hag := hD.2.2.2.1
  have hpe := hD.2.2.2.2.1
  have hz := hD.2.2.2.2.2.1
  have hlb := hD.2.2.2.2.2.2.1
  have g1 := X.1.p3 k1
  have q10 : q ≤ 10 := by omega
  refine z_xP zt97 0 1 [some (.ref a0), some (.ref a1)] [.ref a1] rfl rfl ?_
  refine z_xcV (vs := [.ref a1]) (r := []) (L2 := [some (.ref a1), none, none]) zt97 1 rfl zo97 zzcV5_7 (Or.inl rfl) rfl X k1 rfl rfl rfl (Nat.le_of_ble_eq_true rfl) zzm95 (Nat.le_of_ble_eq_true rfl) rfl ?_
  refine zUC95 X.1 k1 hW hbk (fun x3 M1 X2 h4 h5 h6 => ?_)
  have X6 := X.go X2 (z_sb (by decide))
  show z_ev (d + 1) 97 4 [some (.ref a0), some (.ref a1)] [.int x3] M1 _
  exact z_xri zt97 2 rfl zzr97 (kk x3 M1 X6 (z_dq5 h6) (hz.ke hbk hW k1 X2.2 (by decide)))
theorem zUC100 {T : List zK} {d : Nat} {K : Option Value → zH → Prop} {a0 a1 N q t m J pr en : Nat} {B : Nat → Nat} {sh jv ch : Int32} {M0 : zH} (hD : z_DP T M0 a0 a1 N q t m J pr en B sh jv ch) (kk : ∀ (x : Int32) (M1 : zH), z_X T zw100 M0 M1 → z_dq 6 M0 a1 B q pr en sh.toInt.toNat jv.toInt.toNat ch.toInt.toNat x.toInt → z_lz M1 a1 → K (some (.int x)) M1) : z_ev (d + 3) 100 0 [some (.ref a0), some (.ref a1), none, none, none] [] M0 K := by
  have X : z_X T zw100 M0 M0 := .refl hD.1.1
  have hW := hD.1.1
  have hbk := hD.1.2
  have k1 := hD.2.1
  have hN0 := hD.2.2.1
  have hag := hD.2.2.2.1
  have hpe := hD.2.2.2.2.1
  have hz := hD.2.2.2.2.2.1
  have hlb := hD.2.2.2.2.2.2.1
  have g1 := X.1.p3 k1
  have q10 : q ≤ 10 := by omega
  refine z_xP zt100 0 1 [some (.ref a0), some (.ref a1), none, none, none] [.ref a1] rfl rfl ?_
  refine z_xgR (κ := .inl (2, q, t, m, 0)) zt100 1 rfl zo100 zzf6_7 X k1 (by decide) (by decide) rfl (fun (a2 : Nat) h1 k3 => ?_)
  obtain rfl : a2 = N := z_rfe h1 hN0
  have g4 := X.1.p2 k3
  refine z_xgI zt100 2 rfl zo100 zzf6_13 X k3 (by decide) (by decide) rfl (fun (x6 : Int32) h5 (h7 : (-2147483648) ≤ x6.toInt) (h8 : x6.toInt ≤ 2147483647) => ?_)
  have e6 : x6.toInt = ((pr : Nat) : Int) := by
    obtain ⟨-, -, -, ⟨u2, f2, e2⟩, ⟨u3, f3, e3⟩, -⟩ := hag
    rw [z_ive h5 f2]
    exact e2
  refine z_xcS (vs := [.int x6]) (r := []) (L2 := [some (.int x6)]) zt100 3 rfl zo100 zzcS6_19 (Or.inl rfl) (Nat.le_of_ble_eq_true rfl) rfl rfl (Nat.le_of_ble_eq_true rfl) zzm94 (Nat.le_of_ble_eq_true rfl) rfl ?_
  refine z_xP zt94 0 4 [some (.int x6)] [.int 10, .int x6, .int x6] rfl rfl ?_
  refine z_xI zt94 1 rfl rfl (fun (x9 : Int32) (h10 : x9 = x6 <<< ((10 : Int32) &&& 31)) => ?_) rfl
  refine z_xI zt94 2 rfl rfl (fun (x11 : Int32) (h12 : x11 = x6 ||| x9) => ?_) rfl
  have hm := z_both e6 hpe.1 h10 h12
  refine z_xri zt94 3 rfl zzr94 ?_
  show z_ev (d + 3) 100 10 [some (.ref a0), some (.ref a1), none, none, none] [.int x11] M0 _
  refine z_xP zt100 4 12 [some (.ref a0), some (.ref a1), some (.int x11), none, none] [.ref a1] rfl rfl ?_
  refine z_xcV (vs := [.ref a1]) (r := []) (L2 := [some (.ref a1), none, none]) zt100 5 rfl zo100 zzcV6_23 (Or.inl rfl) rfl X k1 rfl rfl rfl (Nat.le_of_ble_eq_true rfl) zzm95 (Nat.le_of_ble_eq_true rfl) rfl ?_
  refine zUC95 X.1 k1 hW hbk (fun x15 M13 X14 h16 h17 h15 => ?_)
  have X18 := X.go X14 (z_sb (by decide))
  show z_ev (d + 3) 100 15 [some (.ref a0), some (.ref a1), some (.int x11), none, none] [.int x15] M13 _
  refine z_xP zt100 6 16 [some (.ref a0), some (.ref a1), some (.int x11), none, none] [.int x11, .int x15] rfl rfl ?_
  refine z_xI zt100 7 rfl rfl (fun (x20 : Int32) (h20 : x20 = x15 &&& x11) => ?_) rfl
  have hto := z_w2M h15 hm h20
  have hlt := z_w2L hto
  have hto0 := hto.1
  refine z_xP zt100 8 19 [some (.ref a0), some (.ref a1), some (.int x11), some (.int x20), none] [.ref a1] rfl rfl ?_
  have h22 := (X14.2.f k1 (by decide) h1)
  refine z_xgv zt100 9 rfl zo100 zzf6_7 X18 k1 (by decide) h22 ?_
  refine z_xP zt100 10 23 [some (.ref a0), some (.ref a1), some (.int x11), some (.int x20), none] [.int x20, .ref a2] rfl rfl ?_
  refine z_xcV (vs := [.ref a2, .int x20]) (r := []) (L2 := [some (.ref a2), some (.int x20), none, none, none, none, none, none, none, none]) zt100 11 rfl zo100 zzcV6_27 (Or.inl rfl) rfl X18 k3 rfl rfl rfl (Nat.le_of_ble_eq_true rfl) zzm49 (Nat.le_of_ble_eq_true rfl) rfl ?_
  refine zUC49 X18.1 k3 (hag.ke (fun _ _ h => h) X18.2 (by decide)) (show x20.toInt = ((x20.toInt.toNat % 1024 : Nat) : Int) + 1024 * ((x20.toInt.toNat / 1024 : Nat) : Int) ∧ x20.toInt.toNat % 1024 < 1024 ∧ x20.toInt.toNat / 1024 < 1024 from ⟨by omega, by omega, by omega⟩) hlt (fun x25 M23 X24 h26 h27 h25 => ?_)
  have X28 := X18.go X24 (z_sb (by decide))
  have hzl := hz.ke hbk hW k1 X28.2 (by decide)
  show z_ev (d + 3) 100 26 [some (.ref a0), some (.ref a1), some (.int x11), some (.int x20), none] [.int x25] M23 _
  refine z_xP zt100 12 30 [some (.ref a0), some (.ref a1), some (.int x11), some (.int x20), some (.int x25)] [.int x25] rfl rfl ?_
  refine z_xZ zt100 13 rfl rfl (fun (h30 : 0 ≤ x25.toInt) => ?_) (fun (h30 : x25.toInt < 0) => ?_)
  · skip
    refine z_xP zt100 15 42 [some (.ref a0), some (.ref a1), some (.int x11), some (.int x20), some (.int x25)] [.int (-1), .int x11, .int x25, .int x20] rfl rfl ?_
    refine z_xI zt100 16 rfl rfl (fun (x31 : Int32) (h31 : x31 = x11 ^^^ (-1 : Int32)) => ?_) rfl
    refine z_xI zt100 17 rfl rfl (fun (x33 : Int32) (h33 : x33 = x25 &&& x31) => ?_) rfl
    refine z_xI zt100 18 rfl rfl (fun (x35 : Int32) (h35 : x35 = x20 ||| x33) => ?_) rfl
    exact z_xri zt100 19 rfl zzr100 (kk x35 M23 X28 (z_dq6b hto h25 h30 hm h31 h33 h35) hzl)
  refine z_xP zt100 14 45 [some (.ref a0), some (.ref a1), some (.int x11), some (.int x20), some (.int x25)] [.int x20] rfl rfl ?_
  exact z_xri zt100 19 rfl zzr100 (kk x20 M23 X28 (z_dq6a hto h25 h30) hzl)
theorem zUC93 {T : List zK} {d : Nat} {K : Option Value → zH → Prop} {a0 a1 N q t m J pr en : Nat} {B : Nat → Nat} {sh jv ch : Int32} {M0 : zH} (hD : z_DP T M0 a0 a1 N q t m J pr en B sh jv ch) (kk : ∀ (x : Int32) (M1 : zH), z_X T zw93 M0 M1 → z_dq 7 M0 a1 B q pr en sh.toInt.toNat jv.toInt.toNat ch.toInt.toNat x.toInt → z_lz M1 a1 → K (some (.int x)) M1) : z_ev (d + 3) 93 0 [some (.ref a0), some (.ref a1), none, none, none] [] M0 K := by
  have X : z_X T zw93 M0 M0 := .refl hD.1.1
  have hW := hD.1.1
  have hbk := hD.1.2
  have k1 := hD.2.1
  have hN0 := hD.2.2.1
  have hag := hD.2.2.2.1
  have hpe := hD.2.2.2.2.1
  have hz := hD.2.2.2.2.2.1
  have hlb := hD.2.2.2.2.2.2.1
  have g1 := X.1.p3 k1
  have q10 : q ≤ 10 := by omega
  obtain ⟨sa, f5, ksa, hSs⟩ := hag.2.2.2.2.2.2.1
  refine z_xP zt93 0 1 [some (.ref a0), some (.ref a1), none, none, none] [.ref a1] rfl rfl ?_
  refine z_xgR (κ := .inl (2, q, t, m, 0)) zt93 1 rfl zo93 zzf7_7 X k1 (by decide) (by decide) rfl (fun (a2 : Nat) h1 k3 => ?_)
  obtain rfl : a2 = N := z_rfe h1 hN0
  have g4 := X.1.p2 k3
  refine z_xgI zt93 2 rfl zo93 zzf7_13 X k3 (by decide) (by decide) rfl (fun (x6 : Int32) h5 (h7 : (-2147483648) ≤ x6.toInt) (h8 : x6.toInt ≤ 2147483647) => ?_)
  have e6 : x6.toInt = ((en : Nat) : Int) := by
    obtain ⟨-, -, -, ⟨u2, f2, e2⟩, ⟨u3, f3, e3⟩, -⟩ := hag
    rw [z_ive h5 f3]
    exact e3
  refine z_xcS (vs := [.int x6]) (r := []) (L2 := [some (.int x6)]) zt93 3 rfl zo93 zzcS7_19 (Or.inl rfl) (Nat.le_of_ble_eq_true rfl) rfl rfl (Nat.le_of_ble_eq_true rfl) zzm94 (Nat.le_of_ble_eq_true rfl) rfl ?_
  refine z_xP zt94 0 4 [some (.int x6)] [.int 10, .int x6, .int x6] rfl rfl ?_
  refine z_xI zt94 1 rfl rfl (fun (x9 : Int32) (h10 : x9 = x6 <<< ((10 : Int32) &&& 31)) => ?_) rfl
  refine z_xI zt94 2 rfl rfl (fun (x11 : Int32) (h12 : x11 = x6 ||| x9) => ?_) rfl
  have hm := z_both e6 hpe.2 h10 h12
  refine z_xri zt94 3 rfl zzr94 ?_
  show z_ev (d + 3) 93 10 [some (.ref a0), some (.ref a1), none, none, none] [.int x11] M0 _
  refine z_xP zt93 4 12 [some (.ref a0), some (.ref a1), some (.int x11), none, none] [.ref a1] rfl rfl ?_
  refine z_xcV (vs := [.ref a1]) (r := []) (L2 := [some (.ref a1), none, none]) zt93 5 rfl zo93 zzcV7_23 (Or.inl rfl) rfl X k1 rfl rfl rfl (Nat.le_of_ble_eq_true rfl) zzm95 (Nat.le_of_ble_eq_true rfl) rfl ?_
  refine zUC95 X.1 k1 hW hbk (fun x15 M13 X14 h16 h17 h15 => ?_)
  have X18 := X.go X14 (z_sb (by decide))
  show z_ev (d + 3) 93 15 [some (.ref a0), some (.ref a1), some (.int x11), none, none] [.int x15] M13 _
  refine z_xP zt93 6 16 [some (.ref a0), some (.ref a1), some (.int x11), none, none] [.int x11, .int x15] rfl rfl ?_
  refine z_xI zt93 7 rfl rfl (fun (x20 : Int32) (h20 : x20 = x15 &&& x11) => ?_) rfl
  have hto := z_w2M h15 hm h20
  have hlt := z_w2L hto
  have hto0 := hto.1
  refine z_xP zt93 8 20 [some (.ref a0), some (.ref a1), some (.int x11), some (.int x20), none] [.int x20, .ref a1] rfl rfl ?_
  refine z_xcV (vs := [.ref a1, .int x20]) (r := []) (L2 := [some (.ref a1), some (.int x20), none, none, none, none, none, none, none, none]) zt93 9 rfl zo93 zzcV7_27 (Or.inl rfl) rfl X18 k1 rfl rfl rfl (Nat.le_of_ble_eq_true rfl) zzm96 (Nat.le_of_ble_eq_true rfl) rfl ?_
  refine zUC96 X18.1 k1 ⟨by omega, by omega⟩ X18.1 (hbk.ke X18.2 (by decide)) (X18.2.f k1 (by decide) hN0) (hag.ke (fun _ _ h => h) X18.2 (by decide)) (X18.2.f hag.1 (by decide) f5) ksa (by rw [X14.2.a (hbk.k5 hW k1) (by decide)]; exact hz.1) (by rw [X14.2.a (hbk.k6 hW k1) (by decide)]; exact hz.2) (by rw [X18.2.a (hbk.k4 hW k1) (by decide)]; exact hto.tos) (by rw [X18.2.a (hbk.k4 hW k1) (by decide)]; exact hlb) (fun x24 M22 X23 h25 h26 ⟨h24, hzl⟩ => ?_)
  have h24b := z_cnr (hag.ke (fun _ _ h => h) X18.2 (by decide)) (X18.2.f hag.1 (by decide) f5) q10 (by rw [X18.2.a (hbk.k4 hW k1) (by decide)]; exact hlb) (by rw [X18.2.a (hbk.k4 hW k1) (by decide)]; exact hto.tos) h24
  rw [X18.2.a (hbk.k4 hW k1) (by decide)] at h24b
  have X27 := X18.go X23 (z_sb (by decide))
  show z_ev (d + 3) 93 23 [some (.ref a0), some (.ref a1), some (.int x11), some (.int x20), none] [.int x24] M22 _
  refine z_xP zt93 10 27 [some (.ref a0), some (.ref a1), some (.int x11), some (.int x20), some (.int x24)] [.int x24] rfl rfl ?_
  refine z_xZ zt93 11 rfl rfl (fun (h29 : 0 ≤ x24.toInt) => ?_) (fun (h29 : x24.toInt < 0) => ?_)
  · skip
    have hv0 := h29
    have hv1 : x24.toInt < ((2 ^ q : Nat) : Int) := by
      rcases h24b with ⟨h, _⟩ | ⟨_, h⟩
      · omega
      · have := h.1
        generalize 2 ^ q = Pq at *
        omega
    refine z_xP zt93 13 36 [some (.ref a0), some (.ref a1), some (.int x11), some (.int x20), some (.int x24)] [.ref a1, .int x20] rfl rfl ?_
    have h30 := (X23.2.f k1 (by decide) (X14.2.f k1 (by decide) h1))
    refine z_xgv zt93 14 rfl zo93 zzf7_7 X27 k1 (by decide) h30 ?_
    refine z_xP zt93 15 41 [some (.ref a0), some (.ref a1), some (.int x11), some (.int x20), some (.int x24)] [.int x24, .ref a2, .int x20] rfl rfl ?_
    refine z_xcV (vs := [.ref a2, .int x24]) (r := [.int x20]) (L2 := [some (.ref a2), some (.int x24)]) zt93 16 rfl zo93 zzcV7_30 (Or.inl rfl) rfl X27 k3 rfl rfl rfl (Nat.le_of_ble_eq_true rfl) zzm39 (Nat.le_of_ble_eq_true rfl) rfl ?_
    refine z_xP zt39 0 2 [some (.ref a2), some (.int x24)] [.ref a2, .int x24] rfl rfl ?_
    refine z_xgI zt39 1 rfl zo39 zzf2_32 X27 k3 (by decide) (by decide) rfl (fun (x32 : Int32) h31 (h33 : ((z_po q : Nat) : Int) - 1 ≤ x32.toInt) (h34 : x32.toInt ≤ ((z_po q : Nat) : Int) - 1) => ?_)
    refine z_xP zt39 2 7 [some (.ref a2), some (.int x24)] [.int (-1), .int x24, .int x32, .int x24] rfl rfl ?_
    refine z_xI zt39 3 rfl rfl (fun (x35 : Int32) (h35 : x35 = x24 ^^^ (-1 : Int32)) => ?_) rfl
    refine z_xI zt39 4 rfl rfl (fun (x37 : Int32) (h37 : x37 = x32 &&& x35) => ?_) rfl
    refine z_xP zt39 5 11 [some (.ref a2), some (.int x24)] [.int 10, .int x37, .int x24] rfl rfl ?_
    refine z_xI zt39 6 rfl rfl (fun (x39 : Int32) (h39 : x39 = x37 <<< ((10 : Int32) &&& 31)) => ?_) rfl
    refine z_xI zt39 7 rfl rfl (fun (x41 : Int32) (h41 : x41 = x24 ||| x39) => ?_) rfl
    have hA : x32.toInt = ((2 ^ q : Nat) : Int) - 1 := by
      have e : z_po q = 2 ^ q := rfl
      rw [← e]
      omega
    have hu := z_answo hA q10 hv0 hv1 h35 h37 h39 h41
    refine z_xri zt39 8 rfl zzr39 ?_
    show z_ev (d + 3) 93 44 [some (.ref a0), some (.ref a1), some (.int x11), some (.int x20), some (.int x24)] [.int x41, .int x20] M22 _
    refine z_xP zt93 17 46 [some (.ref a0), some (.ref a1), some (.int x11), some (.int x20), some (.int x24)] [.int (-1), .int x11, .int x41, .int x20] rfl rfl ?_
    refine z_xI zt93 18 rfl rfl (fun (x43 : Int32) (h43 : x43 = x11 ^^^ (-1 : Int32)) => ?_) rfl
    refine z_xI zt93 19 rfl rfl (fun (x45 : Int32) (h45 : x45 = x41 &&& x43) => ?_) rfl
    refine z_xI zt93 20 rfl rfl (fun (x47 : Int32) (h47 : x47 = x20 ||| x45) => ?_) rfl
    exact z_xri zt93 21 rfl zzr93 (kk x47 M22 X27 (z_dq7b hto h24b h29 hu hm h43 h45 h47) hzl)
  refine z_xP zt93 12 49 [some (.ref a0), some (.ref a1), some (.int x11), some (.int x20), some (.int x24)] [.int x20] rfl rfl ?_
  exact z_xri zt93 21 rfl zzr93 (kk x20 M22 X27 (z_dq7a hto h24b h29) hzl)
theorem zUC99 {T : List zK} {d : Nat} {K : Option Value → zH → Prop} {a0 a1 N q t m J pr en : Nat} {B : Nat → Nat} {sh jv ch : Int32} {M0 : zH} (hD : z_DP T M0 a0 a1 N q t m J pr en B sh jv ch) (kk : ∀ (x : Int32) (M1 : zH), z_X T zw99 M0 M1 → z_dq 8 M0 a1 B q pr en sh.toInt.toNat jv.toInt.toNat ch.toInt.toNat x.toInt → z_lz M1 a1 → K (some (.int x)) M1) : z_ev (d + 3) 99 0 [some (.ref a0), some (.ref a1)] [] M0 K := by
  have X : z_X T zw99 M0 M0 := .refl hD.1.1
  have hW := hD.1.1
  have hbk := hD.1.2
  have k1 := hD.2.1
  have hN0 := hD.2.2.1
  have hag := hD.2.2.2.1
  have hpe := hD.2.2.2.2.1
  have hz := hD.2.2.2.2.2.1
  have hlb := hD.2.2.2.2.2.2.1
  have g1 := X.1.p3 k1
  have q10 : q ≤ 10 := by omega
  obtain ⟨sa, f5, ksa, hSs⟩ := hag.2.2.2.2.2.2.1
  refine z_xP zt99 0 1 [some (.ref a0), some (.ref a1)] [.ref a1] rfl rfl ?_
  refine z_xgR (κ := .inl (2, q, t, m, 0)) zt99 1 rfl zo99 zzf8_7 X k1 (by decide) (by decide) rfl (fun (a2 : Nat) h1 k3 => ?_)
  obtain rfl : a2 = N := z_rfe h1 hN0
  have g4 := X.1.p2 k3
  refine z_xP zt99 2 6 [some (.ref a0), some (.ref a1)] [.int 0, .ref a1, .ref a2] rfl rfl ?_
  refine z_xcV (vs := [.ref a1, .int 0]) (r := [.ref a2]) (L2 := [some (.ref a1), some (.int 0), none, none, none, none, none, none, none, none]) zt99 3 rfl zo99 zzcV8_13 (Or.inl rfl) rfl X k1 rfl rfl rfl (Nat.le_of_ble_eq_true rfl) zzm96 (Nat.le_of_ble_eq_true rfl) rfl ?_
  have q0 : ((0 : Int32)).toInt = 0 := rfl
  refine zUC96 X.1 k1 (by decide) X.1 (hbk.ke X.2 (by decide)) (X.2.f k1 (by decide) hN0) (hag.ke (fun _ _ h => h) X.2 (by decide)) (X.2.f hag.1 (by decide) f5) ksa hz.1 hz.2 (by rw [X.2.a (hbk.k4 hW k1) (by decide)]; exact z_tos0) (by rw [X.2.a (hbk.k4 hW k1) (by decide)]; exact hlb) (fun x7 M5 X6 h8 h9 ⟨h7, hzl⟩ => ?_)
  have h7b := z_cnr hag f5 q10 hlb z_tos0 h7
  have X10 := X.go X6 (z_sb (by decide))
  have h7c : z_nrst B q (fun s => z_sbi (fun k => (z_Ar M0 (a1 + 4) k).toInt) s 10) 0 0 x7.toInt.toNat ∧ 0 ≤ x7.toInt := by
    rcases h7b with ⟨_, h⟩ | ⟨h2, h⟩
    · obtain ⟨s, s1, s2, s3⟩ := z_lc_ex (B := B) (2 ^ q) 0 (by have := hag.2.2.1; omega)
      exact absurd (fun k _ => ⟨fun a => (by
        have e : (0 : Int32).toInt.toNat % 1024 = 0 := rfl
        rw [e, Nat.zero_div] at a
        cases a), fun a => (by
        have e : (0 : Int32).toInt.toNat / 1024 = 0 := rfl
        rw [e, Nat.zero_div] at a
        cases a)⟩) (h s s1 s2)
    · exact ⟨h, h2⟩
  show z_ev (d + 3) 99 9 [some (.ref a0), some (.ref a1)] [.int x7, .ref a2] M5 _
  refine z_xP zt99 4 10 [some (.ref a0), some (.ref a1)] [.int 0, .int x7, .ref a2] rfl rfl ?_
  refine z_xmx zt99 5 rfl zo99 zzcS8_17 (Nat.le_of_ble_eq_true rfl) (fun (x12 : Int32) h13 => ?_)
  have e12 : x12 = x7 := Int32.toInt_inj.mp (by have := h7c.2; omega)
  subst e12
  have hv0 := h7c.2
  have hv1 : x12.toInt < ((2 ^ q : Nat) : Int) := by
    have := h7c.1.1
    generalize 2 ^ q = Pq at *
    omega
  refine z_xcV (vs := [.ref a2, .int x12]) (r := []) (L2 := [some (.ref a2), some (.int x12)]) zt99 6 rfl zo99 zzcV8_23 (Or.inl rfl) rfl X10 k3 rfl rfl rfl (Nat.le_of_ble_eq_true rfl) zzm39 (Nat.le_of_ble_eq_true rfl) rfl ?_
  refine z_xP zt39 0 2 [some (.ref a2), some (.int x12)] [.ref a2, .int x12] rfl rfl ?_
  refine z_xgI zt39 1 rfl zo39 zzf2_32 X10 k3 (by decide) (by decide) rfl (fun (x32 : Int32) h31 (h33 : ((z_po q : Nat) : Int) - 1 ≤ x32.toInt) (h34 : x32.toInt ≤ ((z_po q : Nat) : Int) - 1) => ?_)
  refine z_xP zt39 2 7 [some (.ref a2), some (.int x12)] [.int (-1), .int x12, .int x32, .int x12] rfl rfl ?_
  refine z_xI zt39 3 rfl rfl (fun (x35 : Int32) (h35 : x35 = x12 ^^^ (-1 : Int32)) => ?_) rfl
  refine z_xI zt39 4 rfl rfl (fun (x37 : Int32) (h37 : x37 = x32 &&& x35) => ?_) rfl
  refine z_xP zt39 5 11 [some (.ref a2), some (.int x12)] [.int 10, .int x37, .int x12] rfl rfl ?_
  refine z_xI zt39 6 rfl rfl (fun (x39 : Int32) (h39 : x39 = x37 <<< ((10 : Int32) &&& 31)) => ?_) rfl
  refine z_xI zt39 7 rfl rfl (fun (x41 : Int32) (h41 : x41 = x12 ||| x39) => ?_) rfl
  have hA : x32.toInt = ((2 ^ q : Nat) : Int) - 1 := by
    have e : z_po q = 2 ^ q := rfl
    rw [← e]
    omega
  have hu := z_answo hA q10 hv0 hv1 h35 h37 h39 h41
  refine z_xri zt39 8 rfl zzr39 ?_
  show z_ev (d + 3) 99 16 [some (.ref a0), some (.ref a1)] [.int x41] M5 _
  exact z_xri zt99 7 rfl zzr99 (kk x41 M5 X10 (z_dq8 h7c.1 hu) hzl)
theorem zUB87 {T : List zK} {d : Nat} {K : Option Value → zH → Prop} {a0 q t m J : Nat} {p1 : Int32} {M0 : zH} (hW : z_W M0 T) (hbk : z_blk T M0) (k0 : T[a0]? = some (.inl (3, q, t, m, J))) (u1 : 0 ≤ p1.toInt ∧ p1.toInt ≤ 9) (kk : ∀ (M1 : zH), z_X T zw87 M0 M1 → (∀ i, i < q → (z_Ar M1 (a0 + 7) i).toInt = (((p1.toInt.toNat + i) % q : Nat) : Int)) → K none M1) : ∀ n : Nat, (∀ (M : zH) (b2 : Int32) (b3 : Int32), z_X T zw87 M0 M → 1 ≤ b2.toInt ∧ b2.toInt ≤ 10 → 0 ≤ b3.toInt ∧ b3.toInt ≤ 10 → b2.toInt = (q : Int) → (∀ i, i < b3.toInt.toNat → (z_Ar M (a0 + 7) i).toInt = (((p1.toInt.toNat + i) % q : Nat) : Int)) → ((0) * 2 + 0) * 11 + (10 - b3.toInt) < (n : Int) → z_ev d 87 16 [some (.ref a0), some (.int p1), some (.int b2), some (.int b3)] [] M K) := by
  intro n
  induction n with
  | zero => exact by intros; exfalso; omega
  | succ n ih =>
    intro M b2 b3 X hh0 hh1 hh2 hI hE
    have g0 := X.1.p3 k0
    refine z_xP zt87 7 18 [some (.ref a0), some (.int p1), some (.int b2), some (.int b3)] [.int b2, .int b3] rfl rfl ?_
    refine z_xJ zt87 8 rfl rfl (fun (h1 : b2.toInt ≤ b3.toInt) => ?_) (fun (h1 : b3.toInt < b2.toInt) => ?_)
    · skip
      exact z_xrv zt87 18 rfl zzr87 (kk M X fun i hi => hI i (by omega))
    refine z_xP zt87 9 22 [some (.ref a0), some (.int p1), some (.int b2), some (.int b3)] [.ref a0] rfl rfl ?_
    refine z_xgR (κ := .inr (208, 0, 10, 0, ((q : Nat) : Int) - 1)) zt87 10 rfl zo87 zzf3_30 X k0 (by decide) (by decide) rfl (fun (a3 : Nat) h2 k4 => ?_)
    have e3 : a3 = a0 + 7 := z_rfe h2 (X.2.f k0 (by decide) (hbk _ _ _ _ _ k0).2.2.2.2.2.2.1)
    refine z_xP zt87 11 28 [some (.ref a0), some (.int p1), some (.int b2), some (.int b3)] [.int b3, .int p1, .int b3, .ref a3] rfl rfl ?_
    refine z_xI zt87 12 rfl rfl (fun (x5 : Int32) (h6 : x5.toInt = p1.toInt + b3.toInt) => ?_) (z_pAdd rfl rfl (by omega) (by omega))
    refine z_xP zt87 13 30 [some (.ref a0), some (.int p1), some (.int b2), some (.int b3)] [.int b2, .int x5, .int b3, .ref a3] rfl rfl ?_
    refine z_xM zt87 14 rfl (by omega) (fun (x7 : Int32) (h8 : x7.toInt = x5.toInt % b2.toInt ∧ 0 ≤ x7.toInt ∧ x7.toInt < b2.toInt ∧ x7.toInt ≤ x5.toInt) => ?_) (z_pRem rfl rfl (by omega) (by omega))
    refine z_xis zt87 15 rfl X k4 (by decide) (X.1.g4 k4 (by decide)) (by omega) (by omega) (by omega) (by omega) (by decide) (fun M9 X10 e11 h12 => ?_)
    refine z_xN zt87 16 rfl rfl (fun (x13 : Int32) (h14 : x13.toInt = b3.toInt + 1) => ?_) (z_pAdd rfl rfl (by omega) (by omega))
    show z_ev d 87 35 [some (.ref a0), some (.int p1), some (.int b2), some (.int x13)] [] M9 _
    refine z_xP zt87 17 16 [some (.ref a0), some (.int p1), some (.int b2), some (.int x13)] [] rfl rfl ?_
    refine ih M9 b2 x13 X10 ⟨by omega, by omega⟩ ⟨by omega, by omega⟩ (by omega) (fun i hi => ?_) (by omega)
    rw [e3] at h12
    rw [h12]
    show (if i = b3.toInt.toNat then x7 else z_Ar M (a0 + 7) i).toInt = _
    by_cases c : i = b3.toInt.toNat
    · rw [if_pos c, h8.1, h6, c, hh2]
      have e : p1.toInt + b3.toInt = ((p1.toInt.toNat + b3.toInt.toNat : Nat) : Int) := by omega
      rw [e]
      rfl
    · rw [if_neg c]
      exact hI i (by omega)
theorem zUC87 {T : List zK} {d : Nat} {K : Option Value → zH → Prop} {a0 q t m J : Nat} {p1 : Int32} {M0 : zH} (hW : z_W M0 T) (hbk : z_blk T M0) (k0 : T[a0]? = some (.inl (3, q, t, m, J))) (u1 : 0 ≤ p1.toInt ∧ p1.toInt ≤ 9) (kk : ∀ (M1 : zH), z_X T zw87 M0 M1 → (∀ i, i < q → (z_Ar M1 (a0 + 7) i).toInt = (((p1.toInt.toNat + i) % q : Nat) : Int)) → K none M1) : z_ev d 87 0 [some (.ref a0), some (.int p1), none, none] [] M0 K := by
  have X : z_X T zw87 M0 M0 := .refl hW
  have g0 := X.1.p3 k0
  refine z_xP zt87 0 1 [some (.ref a0), some (.int p1), none, none] [.ref a0] rfl rfl ?_
  refine z_xgR (κ := .inl (2, q, t, m, 0)) zt87 1 rfl zo87 zzf3_39 X k0 (by decide) (by decide) rfl (fun (a2 : Nat) h1 k3 => ?_)
  have g4 := X.1.p2 k3
  refine z_xgI zt87 2 rfl zo87 zzf3_63 X k3 (by decide) (by decide) rfl (fun (x6 : Int32) h5 (h7 : (q : Int) ≤ x6.toInt) (h8 : x6.toInt ≤ (q : Int)) => ?_)
  refine z_xP zt87 3 10 [some (.ref a0), some (.int p1), some (.int x6), none] [.int 1, .int x6] rfl rfl ?_
  refine z_xJ zt87 4 rfl rfl (fun (h9 : 1 ≤ x6.toInt) => ?_) (fun (h9 : x6.toInt < 1) => absurd h9 (by omega))
  refine z_xP zt87 6 16 [some (.ref a0), some (.int p1), some (.int x6), some (.int 0)] [] rfl rfl ?_
  have q0 : ((0 : Int32)).toInt = 0 := rfl
  exact (zUB87 hW hbk k0 u1 kk 22) M0 x6 (0) X ⟨by omega, by omega⟩ (by decide) (by omega) (fun i hi => absurd hi (by rw [q0]; exact Nat.not_lt_zero i)) (by omega)
theorem zUC88 {T : List zK} {d : Nat} {K : Option Value → zH → Prop} {a0 a1 N q t m J pr en : Nat} {B : Nat → Nat} {sh jv ch : Int32} {M0 : zH} (hD : z_DP T M0 a0 a1 N q t m J pr en B sh jv ch) (k0 : T[a0]? = some (.inl (10, 0, 0, 0, 0))) (kk : ∀ (x : Int32) (M1 : zH), z_X T zw88 M0 M1 → (ch.toInt.toNat < jv.toInt.toNat ∧ z_Ar M0 (a1 + 2) ch.toInt.toNat = x) ∨ (¬ ch.toInt.toNat < jv.toInt.toNat ∧ x.toInt = 0) → K (some (.int x)) M1) : z_ev (d + 1) 88 0 [some (.ref a0), some (.ref a1)] [] M0 K := by
  have X : z_X T zw88 M0 M0 := .refl hD.1.1
  have hW := hD.1.1
  have hbk := hD.1.2
  have k1 := hD.2.1
  have hN0 := hD.2.2.1
  have hag := hD.2.2.2.1
  have hpe := hD.2.2.2.2.1
  have hz := hD.2.2.2.2.2.1
  have hlb := hD.2.2.2.2.2.2.1
  have g1 := X.1.p3 k1
  have q10 : q ≤ 10 := by omega
  obtain ⟨fj, jb, hans⟩ := hD.2.2.2.2.2.2.2.1
  have fc := hD.2.2.2.2.2.2.2.2.2
  refine z_xP zt88 0 2 [some (.ref a0), some (.ref a1)] [.ref a0, .ref a1] rfl rfl ?_
  refine z_xgI zt88 1 rfl zo88 zzf10_7 X k0 (by decide) (by decide) rfl (fun (x2 : Int32) h1 (h3 : 0 ≤ x2.toInt) (h4 : x2.toInt ≤ 8) => ?_)
  obtain rfl : x2 = ch := z_ive h1 fc
  refine z_xcV (vs := [.ref a1, .int x2]) (r := []) (L2 := [some (.ref a1), some (.int x2)]) zt88 2 rfl zo88 zzcV10_13 (Or.inl rfl) rfl X k1 rfl rfl rfl (Nat.le_of_ble_eq_true rfl) zzm56 (Nat.le_of_ble_eq_true rfl) rfl ?_
  refine z_xP zt56 0 1 [some (.ref a1), some (.int x2)] [.int x2] rfl rfl ?_
  refine z_xZ zt56 1 rfl rfl (fun (h5 : x2.toInt < 0) => absurd h5 (by omega)) (fun (h5 : 0 ≤ x2.toInt) => ?_)
  refine z_xP zt56 2 6 [some (.ref a1), some (.int x2)] [.ref a1, .int x2] rfl rfl ?_
  refine z_xgI zt56 3 rfl zo56 zzf3_53 X k1 (by decide) (by decide) rfl (fun (x7 : Int32) h6 (h8 : 0 ≤ x7.toInt) (h9 : x7.toInt ≤ (J : Int)) => ?_)
  obtain rfl : x7 = jv := z_ive h6 fj
  refine z_xJ zt56 4 rfl rfl (fun (h10 : x7.toInt ≤ x2.toInt) => ?_) (fun (h10 : x2.toInt < x7.toInt) => ?_)
  · skip
    refine z_xP zt56 6 17 [some (.ref a1), some (.int x2)] [.int 0] rfl rfl ?_
    refine z_xrz zt56 7 rfl zzr56 (by decide) (by decide) ?_
    show z_ev (d + 1) 88 8 [some (.ref a0), some (.ref a1)] [.int 0] M0 _
    refine z_xZ zt88 3 rfl rfl (fun (h11 : (0 : Int) = 0) => ?_) (fun (h11 : (0 : Int) ≠ 0) => absurd h11 (by omega))
    refine z_xP zt88 10 24 [some (.ref a0), some (.ref a1)] [.int 0] rfl rfl ?_
    have q0 : ((0 : Int32)).toInt = 0 := rfl
    exact z_xri zt88 11 rfl zzr88 (kk 0 M0 X (Or.inr ⟨by omega, rfl⟩))
  refine z_xP zt56 5 17 [some (.ref a1), some (.int x2)] [.int 1] rfl rfl ?_
  refine z_xrz zt56 7 rfl zzr56 (by decide) (by decide) ?_
  show z_ev (d + 1) 88 8 [some (.ref a0), some (.ref a1)] [.int 1] M0 _
  refine z_xZ zt88 3 rfl rfl (fun (h12 : (1 : Int) = 0) => absurd h12 (by omega)) (fun (h12 : (1 : Int) ≠ 0) => ?_)
  refine z_xP zt88 4 12 [some (.ref a0), some (.ref a1)] [.ref a1] rfl rfl ?_
  refine z_xgR (κ := .inr (202, 0, 9, (-2147483648), 2147483647)) zt88 5 rfl zo88 zzf10_19 X k1 (by decide) (by decide) rfl (fun (a14 : Nat) h13 k15 => ?_)
  obtain rfl : a14 = a1 + 2 := z_rfe h13 (hbk _ _ _ _ _ k1).2.1
  refine z_xP zt88 6 16 [some (.ref a0), some (.ref a1)] [.ref a0, .ref (a1 + 2)] rfl rfl ?_
  refine z_xgv zt88 7 rfl zo88 zzf10_7 X k0 (by decide) h1 ?_
  refine z_xil zt88 8 rfl X k15 (by decide) (by omega) (by omega) (fun (x16 : Int32) h17 (h18 : (-2147483648) ≤ x16.toInt) (h19 : x16.toInt ≤ 2147483647) => ?_)
  refine z_xP zt88 9 24 [some (.ref a0), some (.ref a1)] [.int x16] rfl rfl ?_
  exact z_xri zt88 11 rfl zzr88 (kk x16 M0 X (Or.inl ⟨by omega, h17⟩))
theorem zUC98 {T : List zK} {d : Nat} {K : Option Value → zH → Prop} {a0 a1 N q t m J pr en : Nat} {B : Nat → Nat} {sh jv ch : Int32} {M0 : zH} (hD : z_DP T M0 a0 a1 N q t m J pr en B sh jv ch) (k0 : T[a0]? = some (.inl (11, 0, 0, 0, 0))) (kk : ∀ (x : Int32) (M1 : zH), z_X T zw98 M0 M1 → z_dq 11 M0 a1 B q pr en sh.toInt.toNat jv.toInt.toNat ch.toInt.toNat x.toInt → z_lz M1 a1 → K (some (.int x)) M1) : z_ev (d + 3) 98 0 [some (.ref a0), some (.ref a1), none, none] [] M0 K := by
  have X : z_X T zw98 M0 M0 := .refl hD.1.1
  have hW := hD.1.1
  have hbk := hD.1.2
  have k1 := hD.2.1
  have hN0 := hD.2.2.1
  have hag := hD.2.2.2.1
  have hpe := hD.2.2.2.2.1
  have hz := hD.2.2.2.2.2.1
  have hlb := hD.2.2.2.2.2.2.1
  have g1 := X.1.p3 k1
  have q10 : q ≤ 10 := by omega
  obtain ⟨fj, jb, hans⟩ := hD.2.2.2.2.2.2.2.1
  have fc := hD.2.2.2.2.2.2.2.2.2
  refine z_xP zt98 0 2 [some (.ref a0), some (.ref a1), none, none] [.ref a0, .ref a1] rfl rfl ?_
  refine z_xgI zt98 1 rfl zo98 zzf11_9 X k0 (by decide) (by decide) rfl (fun (x2 : Int32) h1 (h3 : 0 ≤ x2.toInt) (h4 : x2.toInt ≤ 8) => ?_)
  obtain rfl : x2 = ch := z_ive h1 fc
  refine z_xcV (vs := [.ref a1, .int x2]) (r := []) (L2 := [some (.ref a1), some (.int x2)]) zt98 2 rfl zo98 zzcV11_15 (Or.inl rfl) rfl X k1 rfl rfl rfl (Nat.le_of_ble_eq_true rfl) zzm56 (Nat.le_of_ble_eq_true rfl) rfl ?_
  refine z_xP zt56 0 1 [some (.ref a1), some (.int x2)] [.int x2] rfl rfl ?_
  refine z_xZ zt56 1 rfl rfl (fun (h5 : x2.toInt < 0) => absurd h5 (by omega)) (fun (h5 : 0 ≤ x2.toInt) => ?_)
  refine z_xP zt56 2 6 [some (.ref a1), some (.int x2)] [.ref a1, .int x2] rfl rfl ?_
  refine z_xgI zt56 3 rfl zo56 zzf3_53 X k1 (by decide) (by decide) rfl (fun (x7 : Int32) h6 (h8 : 0 ≤ x7.toInt) (h9 : x7.toInt ≤ (J : Int)) => ?_)
  obtain rfl : x7 = jv := z_ive h6 fj
  refine z_xJ zt56 4 rfl rfl (fun (h10 : x7.toInt ≤ x2.toInt) => ?_) (fun (h10 : x2.toInt < x7.toInt) => ?_)
  · skip
    refine z_xP zt56 6 17 [some (.ref a1), some (.int x2)] [.int 0] rfl rfl ?_
    refine z_xrz zt56 7 rfl zzr56 (by decide) (by decide) ?_
    show z_ev (d + 3) 98 8 [some (.ref a0), some (.ref a1), none, none] [.int 0] M0 _
    refine z_xZ zt98 3 rfl rfl (fun (h11 : (0 : Int) ≠ 0) => absurd h11 (by omega)) (fun (h11 : (0 : Int) = 0) => ?_)
    refine z_xP zt98 4 12 [some (.ref a0), some (.ref a1), none, none] [.int 0] rfl rfl ?_
    have q0 : ((0 : Int32)).toInt = 0 := rfl
    exact z_xri zt98 5 rfl zzr98 (kk 0 M0 X (z_dq11n (by omega)) hz)
  have hc : x2.toInt.toNat < x7.toInt.toNat := by omega
  have ha := hans x2.toInt.toNat hc
  refine z_xP zt56 5 17 [some (.ref a1), some (.int x2)] [.int 1] rfl rfl ?_
  refine z_xrz zt56 7 rfl zzr56 (by decide) (by decide) ?_
  show z_ev (d + 3) 98 8 [some (.ref a0), some (.ref a1), none, none] [.int 1] M0 _
  refine z_xZ zt98 3 rfl rfl (fun (h12 : (1 : Int) ≠ 0) => ?_) (fun (h12 : (1 : Int) = 0) => absurd h12 (by omega))
  refine z_xP zt98 6 14 [some (.ref a0), some (.ref a1), none, none] [.ref a1] rfl rfl ?_
  refine z_xgR (κ := .inr (202, 0, 9, (-2147483648), 2147483647)) zt98 7 rfl zo98 zzf11_21 X k1 (by decide) (by decide) rfl (fun (a14 : Nat) h13 k15 => ?_)
  obtain rfl : a14 = a1 + 2 := z_rfe h13 (hbk _ _ _ _ _ k1).2.1
  refine z_xP zt98 8 18 [some (.ref a0), some (.ref a1), none, none] [.ref a0, .ref (a1 + 2)] rfl rfl ?_
  refine z_xgv zt98 9 rfl zo98 zzf11_9 X k0 (by decide) h1 ?_
  refine z_xil zt98 10 rfl X k15 (by decide) (by omega) (by omega) (fun (x16 : Int32) h17 (h18 : (-2147483648) ≤ x16.toInt) (h19 : x16.toInt ≤ 2147483647) => ?_)
  refine z_xP zt98 11 23 [some (.ref a0), some (.ref a1), none, none] [.ref a1, .int x16] rfl rfl ?_
  refine z_xgR (κ := .inr (203, 0, 9, (-2147483648), 2147483647)) zt98 12 rfl zo98 zzf11_25 X k1 (by decide) (by decide) rfl (fun (a21 : Nat) h20 k22 => ?_)
  obtain rfl : a21 = a1 + 3 := z_rfe h20 (hbk _ _ _ _ _ k1).2.2.1
  refine z_xP zt98 13 27 [some (.ref a0), some (.ref a1), none, none] [.ref a0, .ref (a1 + 3), .int x16] rfl rfl ?_
  refine z_xgv zt98 14 rfl zo98 zzf11_9 X k0 (by decide) h1 ?_
  refine z_xil zt98 15 rfl X k22 (by decide) (by omega) (by omega) (fun (x23 : Int32) h24 (h25 : (-2147483648) ≤ x23.toInt) (h26 : x23.toInt ≤ 2147483647) => ?_)
  have h17n : z_Ar M0 (a1 + 2) x2.toInt.toNat = x16 := h17
  have h24n : z_Ar M0 (a1 + 3) x2.toInt.toNat = x23 := h24
  rw [h17n, h24n] at ha
  refine z_xP zt98 16 33 [some (.ref a0), some (.ref a1), none, none] [.int 10, .int x23, .int x16] rfl rfl ?_
  refine z_xI zt98 17 rfl rfl (fun (x27 : Int32) (h27 : x27 = x23 <<< ((10 : Int32) &&& 31)) => ?_) rfl
  refine z_xI zt98 18 rfl rfl (fun (x29 : Int32) (h29 : x29 = x16 ||| x27) => ?_) rfl
  obtain ⟨hx0, eY, eN⟩ := z_ldw ha q10 h27 h29
  refine z_xP zt98 19 37 [some (.ref a0), some (.ref a1), some (.int x29), none] [.ref a1] rfl rfl ?_
  refine z_xgR (κ := .inl (2, q, t, m, 0)) zt98 20 rfl zo98 zzf11_28 X k1 (by decide) (by decide) rfl (fun (a32 : Nat) h31 k33 => ?_)
  obtain rfl : a32 = N := z_rfe h31 hN0
  have g34 := X.1.p2 k33
  refine z_xP zt98 21 41 [some (.ref a0), some (.ref a1), some (.int x29), none] [.int x29, .ref a32] rfl rfl ?_
  refine z_xcV (vs := [.ref a32, .int x29]) (r := []) (L2 := [some (.ref a32), some (.int x29), none, none, none, none, none, none, none, none]) zt98 22 rfl zo98 zzcV11_32 (Or.inl rfl) rfl X k33 rfl rfl rfl (Nat.le_of_ble_eq_true rfl) zzm49 (Nat.le_of_ble_eq_true rfl) rfl ?_
  refine zUC49 X.1 k33 hag (show x29.toInt = ((x29.toInt.toNat % 1024 : Nat) : Int) + 1024 * ((x29.toInt.toNat / 1024 : Nat) : Int) ∧ x29.toInt.toNat % 1024 < 1024 ∧ x29.toInt.toNat / 1024 < 1024 from ⟨by omega, by omega, by omega⟩) (by
    obtain ⟨⟨u1, u2⟩, ⟨u3, u4⟩, _⟩ := ha
    rw [eY, eN]
    generalize 2 ^ q = Pq at *
    exact ⟨by omega, by omega⟩) (fun x37 M35 X36 h38 h39 h37 => ?_)
  have X40 := X.go X36 (z_sb (by decide))
  have hzl := hz.ke hbk hW k1 X40.2 (by decide)
  show z_ev (d + 3) 98 44 [some (.ref a0), some (.ref a1), some (.int x29), none] [.int x37] M35 _
  refine z_xP zt98 23 46 [some (.ref a0), some (.ref a1), some (.int x29), some (.int x37)] [.int x37] rfl rfl ?_
  refine z_xZ zt98 24 rfl rfl (fun (h42 : 0 ≤ x37.toInt) => ?_) (fun (h42 : x37.toInt < 0) => ?_)
  · skip
    refine z_xP zt98 26 54 [some (.ref a0), some (.ref a1), some (.int x29), some (.int x37)] [.int x37] rfl rfl ?_
    exact z_xri zt98 27 rfl zzr98 (kk x37 M35 X40 (z_dq11 hc h17n h24n ha q10 h27 h29 h37 (Or.inl ⟨h42, rfl⟩)) hzl)
  refine z_xP zt98 25 54 [some (.ref a0), some (.ref a1), some (.int x29), some (.int x37)] [.int x29] rfl rfl ?_
  exact z_xri zt98 27 rfl zzr98 (kk x29 M35 X40 (z_dq11 hc h17n h24n ha q10 h27 h29 h37 (Or.inr ⟨h42, rfl⟩)) hzl)
theorem zUC86_9 {T : List zK} {d : Nat} {K : Option Value → zH → Prop} {a0 a1 N q t m J pr en : Nat} {B : Nat → Nat} {sh jv ch : Int32} {M0 : zH} (hD : z_DP T M0 a0 a1 N q t m J pr en B sh jv ch) (k0 : T[a0]? = some (.inl (9, 0, 0, 0, 0))) (kk : ∀ (x : Int32) (M1 : zH), z_X T zw86 M0 M1 → z_dq 9 M0 a1 B q pr en sh.toInt.toNat jv.toInt.toNat ch.toInt.toNat x.toInt → z_lz M1 a1 → K (some (.int x)) M1) : z_ev (d + 3) 86 0 [some (.ref a0), some (.ref a1)] [] M0 K := by
  have X : z_X T zw86 M0 M0 := .refl hD.1.1
  have hW := hD.1.1
  have hbk := hD.1.2
  have k1 := hD.2.1
  have hN0 := hD.2.2.1
  have hag := hD.2.2.2.1
  have hpe := hD.2.2.2.2.1
  have hz := hD.2.2.2.2.2.1
  have hlb := hD.2.2.2.2.2.2.1
  have g1 := X.1.p3 k1
  have q10 : q ≤ 10 := by omega
  have w0 : 9 = 9 ∨ 9 = 10 := by decide
  have w0r : 4 ≤ 9 ∧ 9 ≤ 11 := by decide
  have fs := hD.2.2.2.2.2.2.2.2.1
  refine z_xP zt86 0 2 [some (.ref a0), some (.ref a1)] [.ref a0, .ref a1] rfl rfl ?_
  refine z_xgI zt86 1 rfl zo86 zzf9_7 X k0 (z_wE2 (fun c => c ∈ ([4, 5, 6, 7, 8, 9, 10, 11] : List Nat)) (by decide) (by decide) w0) (z_nf8 w0r (by decide)) (z_fs8 w0r) (fun (x2 : Int32) h1 (h3 : 0 ≤ x2.toInt) (h4 : x2.toInt ≤ 9) => ?_)
  obtain rfl : x2 = sh := z_ive h1 fs
  refine z_xcV (vs := [.ref a1, .int x2]) (r := []) (L2 := [some (.ref a1), some (.int x2), none, none]) zt86 2 rfl zo86 zzcV9_13 (Or.inl rfl) rfl X k1 rfl rfl rfl (Nat.le_of_ble_eq_true rfl) zzm87 (Nat.le_of_ble_eq_true rfl) rfl ?_
  refine zUC87 X.1 hbk k1 ⟨h3, h4⟩ (fun M5 X6 h5 => ?_)
  have X7 := X.go X6 (z_sb (by decide))
  show z_ev (d + 3) 86 8 [some (.ref a0), some (.ref a1)] [] M5 _
  refine z_xP zt86 3 11 [some (.ref a0), some (.ref a1)] [.ref a1, .ref a0, .ref a1] rfl rfl ?_
  refine z_xcV (vs := [.ref a0, .ref a1]) (r := [.ref a1]) (L2 := [some (.ref a0), some (.ref a1)]) zt86 4 rfl zo86 zzcV9_19 (Or.inr rfl) rfl X7 k0 rfl rfl rfl (Nat.le_of_ble_eq_true rfl) zzm89 (Nat.le_of_ble_eq_true rfl) rfl ?_
  refine z_xP zt89 0 1 [some (.ref a0), some (.ref a1)] [.int 0] rfl rfl ?_
  refine z_xri zt89 1 rfl zzr89 ?_
  show z_ev (d + 3) 86 14 [some (.ref a0), some (.ref a1)] [.int 0, .ref a1] M5 _
  refine z_xcV (vs := [.ref a1, .int 0]) (r := []) (L2 := [some (.ref a1), some (.int 0), none, none, none, none, none]) zt86 5 rfl zo86 zzcV9_23 (Or.inl rfl) rfl X7 k1 rfl rfl rfl (Nat.le_of_ble_eq_true rfl) zzm90 (Nat.le_of_ble_eq_true rfl) rfl ?_
  refine zUC90 X7.1 k1 X7.1 (hbk.ke X7.2 (by decide)) (X7.2.f k1 (by decide) hN0) (hag.ke (fun _ _ h => h) X7.2 (by decide)) (by decide) (fun x16 M14 X15 h17 h18 h16 => ?_)
  have X19 := X7.go X15 (z_sb (by decide))
  have eo : ∀ i, i < q → (z_Ar M5 (a1 + 7) i).toInt.toNat = (x2.toInt.toNat + i) % q := fun i hi => by rw [h5 i hi]; exact Int.toNat_natCast _
  rw [X7.2.a (hbk.k4 hW k1) (by decide)] at h16
  have h16b : z_twI B q (fun k => (z_Ar M0 (a1 + 4) k).toInt) (fun k => (0 : Int32).toInt.toNat / 2 ^ k % 2 = 1) (fun i => (x2.toInt.toNat + i) % q) q x16.toInt := ⟨h16.1, z_tuC q _ _ eo (fun _ _ => Iff.rfl) h16.2⟩
  show z_ev (d + 3) 86 17 [some (.ref a0), some (.ref a1)] [.int x16] M14 _
  exact z_xri zt86 6 rfl zzr86 (kk x16 M14 X19 (z_dq9 h16b) (hz.ke hbk hW k1 X19.2 (by decide)))
theorem zUC86_10 {T : List zK} {d : Nat} {K : Option Value → zH → Prop} {a0 a1 N q t m J pr en : Nat} {B : Nat → Nat} {sh jv ch : Int32} {M0 : zH} (hD : z_DP T M0 a0 a1 N q t m J pr en B sh jv ch) (k0 : T[a0]? = some (.inl (10, 0, 0, 0, 0))) (kk : ∀ (x : Int32) (M1 : zH), z_X T zw86 M0 M1 → z_dq 10 M0 a1 B q pr en sh.toInt.toNat jv.toInt.toNat ch.toInt.toNat x.toInt → z_lz M1 a1 → K (some (.int x)) M1) : z_ev (d + 3) 86 0 [some (.ref a0), some (.ref a1)] [] M0 K := by
  have X : z_X T zw86 M0 M0 := .refl hD.1.1
  have hW := hD.1.1
  have hbk := hD.1.2
  have k1 := hD.2.1
  have hN0 := hD.2.2.1
  have hag := hD.2.2.2.1
  have hpe := hD.2.2.2.2.1
  have hz := hD.2.2.2.2.2.1
  have hlb := hD.2.2.2.2.2.2.1
  have g1 := X.1.p3 k1
  have q10 : q ≤ 10 := by omega
  have w0 : 10 = 9 ∨ 10 = 10 := by decide
  have w0r : 4 ≤ 10 ∧ 10 ≤ 11 := by decide
  have fs := hD.2.2.2.2.2.2.2.2.1
  refine z_xP zt86 0 2 [some (.ref a0), some (.ref a1)] [.ref a0, .ref a1] rfl rfl ?_
  refine z_xgI zt86 1 rfl zo86 zzf9_7 X k0 (z_wE2 (fun c => c ∈ ([4, 5, 6, 7, 8, 9, 10, 11] : List Nat)) (by decide) (by decide) w0) (z_nf8 w0r (by decide)) (z_fs8 w0r) (fun (x2 : Int32) h1 (h3 : 0 ≤ x2.toInt) (h4 : x2.toInt ≤ 9) => ?_)
  obtain rfl : x2 = sh := z_ive h1 fs
  refine z_xcV (vs := [.ref a1, .int x2]) (r := []) (L2 := [some (.ref a1), some (.int x2), none, none]) zt86 2 rfl zo86 zzcV9_13 (Or.inl rfl) rfl X k1 rfl rfl rfl (Nat.le_of_ble_eq_true rfl) zzm87 (Nat.le_of_ble_eq_true rfl) rfl ?_
  refine zUC87 X.1 hbk k1 ⟨h3, h4⟩ (fun M5 X6 h5 => ?_)
  have X7 := X.go X6 (z_sb (by decide))
  show z_ev (d + 3) 86 8 [some (.ref a0), some (.ref a1)] [] M5 _
  refine z_xP zt86 3 11 [some (.ref a0), some (.ref a1)] [.ref a1, .ref a0, .ref a1] rfl rfl ?_
  refine z_xcV (vs := [.ref a0, .ref a1]) (r := [.ref a1]) (L2 := [some (.ref a0), some (.ref a1)]) zt86 4 rfl zo86 zzcV9_19 (Or.inr rfl) rfl X7 k0 rfl rfl rfl (Nat.le_of_ble_eq_true rfl) zzm88 (Nat.le_of_ble_eq_true rfl) rfl ?_
  refine zUC88 (hD.ke X7 k0 (by decide)) k0 (fun x11 M9 X10 h11 => ?_)
  rw [X7.2.a (hbk.k2 hW k1) (by decide)] at h11
  have X12 := X7.go X10 (z_sb (by decide))
  show z_ev (d + 3) 86 14 [some (.ref a0), some (.ref a1)] [.int x11, .ref a1] M9 _
  refine z_xcV (vs := [.ref a1, .int x11]) (r := []) (L2 := [some (.ref a1), some (.int x11), none, none, none, none, none]) zt86 5 rfl zo86 zzcV9_23 (Or.inl rfl) rfl X12 k1 rfl rfl rfl (Nat.le_of_ble_eq_true rfl) zzm90 (Nat.le_of_ble_eq_true rfl) rfl ?_
  have hp11 : 0 ≤ x11.toInt := by
    rcases h11 with ⟨c1, c2⟩ | ⟨_, c2⟩
    · rw [← c2]
      exact (hD.2.2.2.2.2.2.2.1.2.2 _ c1).1.1
    · omega
  refine zUC90 X12.1 k1 X12.1 (hbk.ke X12.2 (by decide)) (X12.2.f k1 (by decide) hN0) (hag.ke (fun _ _ h => h) X12.2 (by decide)) hp11 (fun x16 M14 X15 h17 h18 h16 => ?_)
  have X19 := X12.go X15 (z_sb (by decide))
  have eo : ∀ i, i < q → (z_Ar M9 (a1 + 7) i).toInt.toNat = (x2.toInt.toNat + i) % q := fun i hi => by
    rw [X10.2.a ((hbk.ke X7.2 (by decide)).k7 X7.1 k1) (by decide), h5 i hi]
    exact Int.toNat_natCast _
  rw [X12.2.a (hbk.k4 hW k1) (by decide)] at h16
  have h16b : z_twI B q (fun k => (z_Ar M0 (a1 + 4) k).toInt) (fun k => x11.toInt.toNat / 2 ^ k % 2 = 1) (fun i => (x2.toInt.toNat + i) % q) q x16.toInt := ⟨h16.1, z_tuC q _ _ eo (fun _ _ => Iff.rfl) h16.2⟩
  show z_ev (d + 3) 86 17 [some (.ref a0), some (.ref a1)] [.int x16] M14 _
  exact z_xri zt86 6 rfl zzr86 (kk x16 M14 X19 (z_dq10 h16b h11) (hz.ke hbk hW k1 X19.2 (by decide)))
theorem zWdecide {j pc : Nat} {segs : List (List (Nat × Instr × Nat))} {idx : Nat} {d : Nat} {T : List zK} {rs : List Nat} {M0 M : zH} {L : zL} {r : zS} {K : Option Value → zH → Prop} {w c oc : Nat} {b0 N q t m J pr en : Nat} {B : Nat → Nat} {sh jv ch : Int32} (ht : z_dcs j segs = true) (n : Nat) (hk : segs[n]? = some [(pc, .invokevirtual idx, 3)]) (ho : z_oc j = oc) (hq : (z_find z_cV oc idx).map (·.1) = some (2, 1, [(4, 101), (10, 86), (7, 93), (5, 97), (11, 98), (8, 99), (6, 100), (9, 86)])) (hX : z_X T rs M0 M) (hw : T[w]? = some (.inl (c, 0, 0, 0, 0))) (hc : 4 ≤ c ∧ c ≤ 11) (hr : z_ws r ≤ 8) (hD : z_DP T M w b0 N q t m J pr en B sh jv ch) (kk : ∀ (x : Int32) (M1 : zH), z_X T zwVdecide M M1 → z_dq c M b0 B q pr en sh.toInt.toNat jv.toInt.toNat ch.toInt.toNat x.toInt → z_lz M1 b0 → z_oth T (fun u => u = b0) M M1 → z_ev (d + 1 + 3) j (pc + 3) L (.int x :: r) M1 K) : z_ev (d + 1 + 3) j pc L (.ref b0 :: .ref w :: r) M K := by
  refine z_w8 (fun c => T[w]? = some (.inl (c, 0, 0, 0, 0)) → (∀ (x : Int32) (M1 : zH), z_X T zwVdecide M M1 → z_dq c M b0 B q pr en sh.toInt.toNat jv.toInt.toNat ch.toInt.toNat x.toInt → z_lz M1 b0 → z_oth T (fun u => u = b0) M M1 → z_ev (d + 1 + 3) j (pc + 3) L (.int x :: r) M1 K) → z_ev (d + 1 + 3) j pc L (.ref b0 :: .ref w :: r) M K) ?_ ?_ ?_ ?_ ?_ ?_ ?_ ?_ hc hw kk
  · intro hw kk
    refine z_xcV (vs := [.ref w, .ref b0]) (r := r) (L2 := [some (.ref w), some (.ref b0)]) ht n hk ho hq (Or.inr rfl) rfl hX hw rfl rfl rfl hr zzm101 (Nat.le_of_ble_eq_true rfl) rfl ?_
    refine z_ev.told (fun u => u = b0) hD.1.2 hD.1.1 (z_qLc (z_rvr (z_pb.way (by decide) hw)) (z_qLc (z_rvr (z_pb.ben hD.2.1 rfl)) z_qL0)) z_qS0 ?_
    refine zUC101 hD (fun x M1 X1 h2 h3 => ?_)
    intro ho
    exact kk x M1 ((z_X.refl hX.1).go X1 (z_sb (by decide))) h2 h3 ho
  · intro hw kk
    refine z_xcV (vs := [.ref w, .ref b0]) (r := r) (L2 := [some (.ref w), some (.ref b0)]) ht n hk ho hq (Or.inr rfl) rfl hX hw rfl rfl rfl hr zzm97 (Nat.le_of_ble_eq_true rfl) rfl ?_
    refine z_ev.told (fun u => u = b0) hD.1.2 hD.1.1 (z_qLc (z_rvr (z_pb.way (by decide) hw)) (z_qLc (z_rvr (z_pb.ben hD.2.1 rfl)) z_qL0)) z_qS0 ?_
    refine zUC97 hD (fun x M1 X1 h2 h3 => ?_)
    intro ho
    exact kk x M1 ((z_X.refl hX.1).go X1 (z_sb (by decide))) h2 h3 ho
  · intro hw kk
    refine z_xcV (vs := [.ref w, .ref b0]) (r := r) (L2 := [some (.ref w), some (.ref b0), none, none, none]) ht n hk ho hq (Or.inr rfl) rfl hX hw rfl rfl rfl hr zzm100 (Nat.le_of_ble_eq_true rfl) rfl ?_
    refine z_ev.told (fun u => u = b0) hD.1.2 hD.1.1 (z_qLc (z_rvr (z_pb.way (by decide) hw)) (z_qLc (z_rvr (z_pb.ben hD.2.1 rfl)) (z_qLn (z_qLn (z_qLn z_qL0))))) z_qS0 ?_
    refine zUC100 hD (fun x M1 X1 h2 h3 => ?_)
    intro ho
    exact kk x M1 ((z_X.refl hX.1).go X1 (z_sb (by decide))) h2 h3 ho
  · intro hw kk
    refine z_xcV (vs := [.ref w, .ref b0]) (r := r) (L2 := [some (.ref w), some (.ref b0), none, none, none]) ht n hk ho hq (Or.inr rfl) rfl hX hw rfl rfl rfl hr zzm93 (Nat.le_of_ble_eq_true rfl) rfl ?_
    refine z_ev.told (fun u => u = b0) hD.1.2 hD.1.1 (z_qLc (z_rvr (z_pb.way (by decide) hw)) (z_qLc (z_rvr (z_pb.ben hD.2.1 rfl)) (z_qLn (z_qLn (z_qLn z_qL0))))) z_qS0 ?_
    refine zUC93 hD (fun x M1 X1 h2 h3 => ?_)
    intro ho
    exact kk x M1 ((z_X.refl hX.1).go X1 (z_sb (by decide))) h2 h3 ho
  · intro hw kk
    refine z_xcV (vs := [.ref w, .ref b0]) (r := r) (L2 := [some (.ref w), some (.ref b0)]) ht n hk ho hq (Or.inr rfl) rfl hX hw rfl rfl rfl hr zzm99 (Nat.le_of_ble_eq_true rfl) rfl ?_
    refine z_ev.told (fun u => u = b0) hD.1.2 hD.1.1 (z_qLc (z_rvr (z_pb.way (by decide) hw)) (z_qLc (z_rvr (z_pb.ben hD.2.1 rfl)) z_qL0)) z_qS0 ?_
    refine zUC99 hD (fun x M1 X1 h2 h3 => ?_)
    intro ho
    exact kk x M1 ((z_X.refl hX.1).go X1 (z_sb (by decide))) h2 h3 ho
  · intro hw kk
    refine z_xcV (vs := [.ref w, .ref b0]) (r := r) (L2 := [some (.ref w), some (.ref b0)]) ht n hk ho hq (Or.inr rfl) rfl hX hw rfl rfl rfl hr zzm86 (Nat.le_of_ble_eq_true rfl) rfl ?_
    refine z_ev.told (fun u => u = b0) hD.1.2 hD.1.1 (z_qLc (z_rvr (z_pb.way (by decide) hw)) (z_qLc (z_rvr (z_pb.ben hD.2.1 rfl)) z_qL0)) z_qS0 ?_
    refine zUC86_9 hD hw (fun x M1 X1 h2 h3 => ?_)
    intro ho
    exact kk x M1 ((z_X.refl hX.1).go X1 (z_sb (by decide))) h2 h3 ho
  · intro hw kk
    refine z_xcV (vs := [.ref w, .ref b0]) (r := r) (L2 := [some (.ref w), some (.ref b0)]) ht n hk ho hq (Or.inr rfl) rfl hX hw rfl rfl rfl hr zzm86 (Nat.le_of_ble_eq_true rfl) rfl ?_
    refine z_ev.told (fun u => u = b0) hD.1.2 hD.1.1 (z_qLc (z_rvr (z_pb.way (by decide) hw)) (z_qLc (z_rvr (z_pb.ben hD.2.1 rfl)) z_qL0)) z_qS0 ?_
    refine zUC86_10 hD hw (fun x M1 X1 h2 h3 => ?_)
    intro ho
    exact kk x M1 ((z_X.refl hX.1).go X1 (z_sb (by decide))) h2 h3 ho
  · intro hw kk
    refine z_xcV (vs := [.ref w, .ref b0]) (r := r) (L2 := [some (.ref w), some (.ref b0), none, none]) ht n hk ho hq (Or.inr rfl) rfl hX hw rfl rfl rfl hr zzm98 (Nat.le_of_ble_eq_true rfl) rfl ?_
    refine z_ev.told (fun u => u = b0) hD.1.2 hD.1.1 (z_qLc (z_rvr (z_pb.way (by decide) hw)) (z_qLc (z_rvr (z_pb.ben hD.2.1 rfl)) (z_qLn (z_qLn z_qL0)))) z_qS0 ?_
    refine zUC98 hD hw (fun x M1 X1 h2 h3 => ?_)
    intro ho
    exact kk x M1 ((z_X.refl hX.1).go X1 (z_sb (by decide))) h2 h3 ho
