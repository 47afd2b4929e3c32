/-! contracts of the methods (printed by wip/gen/vparts.py) -/
def zw6 : List Nat := [7, 8, 9, 1102, 1103, 1104, 1105, 1106, 1107, 1110]
def zw24 : List Nat := []
theorem zB24 {T : List zK} {d : Nat} {K : Option Value → zH → Prop} {a0 : Nat} {q : Nat} {t : Nat} {m : Nat} {p1 : Int32} {p2 : Int32} {M0 : zH} (k0 : T[a0]? = some (.inl (2, q, t, m, 0))) (u2 : 0 ≤ p2.toInt ∧ p2.toInt ≤ 15) (hb0 : p2.toInt < ((z_bl q : Nat) : Int)) (kk : ∀ (x : Int64) (M1 : zH), z_X T zw24 M0 M1 → K (some (.long x)) M1) : ∀ n : Nat, (∀ (M : zH) (b3 : Int64) (b5 : Int32), z_X T zw24 M0 M → 0 ≤ b5.toInt ∧ b5.toInt ≤ 8 → ((0) * 2 + 0) * 9 + (8 - b5.toInt) < (n : Int) → z_ev d 24 8 [some (.ref a0), some (.int p1), some (.int p2), some (.long b3), none, some (.int b5)] [] M K) := by
  intro n
  induction n with
  | zero => exact by intros; exfalso; omega
  | succ n ih =>
    intro M b3 b5 X hh0 hE
    have g0 := X.1.p2 k0
    refine z_xP zt24 3 11 [some (.ref a0), some (.int p1), some (.int p2), some (.long b3), none, some (.int b5)] [.ref a0, .int b5] rfl rfl ?_
    refine z_xgI zt24 4 rfl zo24 zzf2_25 X k0 (by decide) (by decide) rfl (fun (x2 : Int32) h1 (h3 : (t : Int) ≤ x2.toInt) (h4 : x2.toInt ≤ (t : Int)) => ?_)
    refine z_xJ zt24 5 rfl rfl (fun (h5 : x2.toInt ≤ b5.toInt) => ?_) (fun (h5 : b5.toInt < x2.toInt) => ?_)
    · skip
      refine z_xP zt24 26 56 [some (.ref a0), some (.int p1), some (.int p2), some (.long b3), none, some (.int b5)] [.long b3] rfl rfl ?_
      exact z_xrl zt24 27 rfl zzr24 (kk b3 M X)
    refine z_xP zt24 6 19 [some (.ref a0), some (.int p1), some (.int p2), some (.long b3), none, some (.int b5)] [.long 0, .long b3] rfl rfl ?_
    refine z_xI zt24 7 rfl rfl (fun (x6 : Int32) (h7 : (x6.toInt < 0 ∧ b3.toInt < 0) ∨ (x6.toInt = 0 ∧ b3.toInt = 0) ∨ (0 < x6.toInt ∧ 0 < b3.toInt)) => ?_) (z_qCmp rfl rfl)
    refine z_xZ zt24 8 rfl rfl (fun (h8 : x6.toInt = 0) => ?_) (fun (h8 : x6.toInt ≠ 0) => ?_)
    · skip
      refine z_xP zt24 26 56 [some (.ref a0), some (.int p1), some (.int p2), some (.long b3), none, some (.int b5)] [.long b3] rfl rfl ?_
      exact z_xrl zt24 27 rfl zzr24 (kk b3 M X)
    refine z_xP zt24 9 26 [some (.ref a0), some (.int p1), some (.int p2), some (.long b3), none, some (.int b5)] [.int b5, .int p1] rfl rfl ?_
    have h9 := z_b32 p1
    refine z_xI zt24 10 rfl rfl (P := fun _ => True) (fun (x10 : Int32) _ => ?_) trivial
    refine z_xP zt24 11 28 [some (.ref a0), some (.int p1), some (.int p2), some (.long b3), none, some (.int b5)] [.int 1, .int x10] rfl rfl ?_
    refine z_xI zt24 12 rfl rfl (fun (x12 : Int32) (h13 : 0 ≤ x12.toInt ∧ x12.toInt ≤ 1) => ?_) (z_pAnd rfl (by omega))
    refine z_xZ zt24 13 rfl rfl (fun (h14 : x12.toInt ≠ 0) => ?_) (fun (h14 : x12.toInt = 0) => ?_)
    · skip
      refine z_xN zt24 24 rfl rfl (fun (x15 : Int32) (h16 : x15.toInt = b5.toInt + 1) => ?_) (z_pAdd rfl rfl (by omega) (by omega))
      show z_ev d 24 52 [some (.ref a0), some (.int p1), some (.int p2), some (.long b3), none, some (.int x15)] [] M _
      refine z_xP zt24 25 8 [some (.ref a0), some (.int p1), some (.int p2), some (.long b3), none, some (.int x15)] [] rfl rfl ?_
      exact ih M b3 x15 X ⟨by omega, by omega⟩ (by omega)
    refine z_xP zt24 14 34 [some (.ref a0), some (.int p1), some (.int p2), some (.long b3), none, some (.int b5)] [.ref a0, .long b3] rfl rfl ?_
    refine z_xgR (κ := .inr (108, 1, t * z_bl q, 0, 0)) zt24 15 rfl zo24 zzf2_28 X k0 (by decide) (by decide) rfl (fun (a18 : Nat) h17 k19 => ?_)
    refine z_xP zt24 16 40 [some (.ref a0), some (.int p1), some (.int p2), some (.long b3), none, some (.int b5)] [.ref a0, .int b5, .ref a18, .long b3] rfl rfl ?_
    refine z_xgI zt24 17 rfl zo24 zzf2_35 X k0 (by decide) (by decide) rfl (fun (x21 : Int32) h20 (h22 : ((z_bl q : Nat) : Int) ≤ x21.toInt) (h23 : x21.toInt ≤ ((z_bl q : Nat) : Int)) => ?_)
    refine z_xI zt24 18 rfl rfl (fun (x24 : Int32) (h25 : x24.toInt = b5.toInt * x21.toInt ∧ 0 ≤ x24.toInt ∧ x24.toInt ≤ 112) => ?_) (z_pMulB (a := 7) (b := 16) rfl rfl (by omega) (by omega) (by omega) (by omega) (by decide) (by decide))
    refine z_xP zt24 19 45 [some (.ref a0), some (.int p1), some (.int p2), some (.long b3), none, some (.int b5)] [.int p2, .int x24, .ref a18, .long b3] rfl rfl ?_
    refine z_xI zt24 20 rfl rfl (fun (x26 : Int32) (h27 : x26.toInt = x24.toInt + p2.toInt) => ?_) (z_pAdd rfl rfl (by omega) (by omega))
    have h28 := z_nlx (p := x24.toInt) (x := b5.toInt) (y := x21.toInt) (s := p2.toInt) (z := x26.toInt) (A := t) (B := z_bl q) (by omega) (by omega) (by omega) (by omega) (by omega) (by omega) (by omega)
    refine z_xll zt24 21 rfl X k19 (by decide) h28.1 h28.2 (fun (y29 : Int64) => ?_)
    refine z_xL zt24 22 rfl rfl (P := fun _ => True) (fun (y30 : Int64) _ => ?_) trivial
    refine z_xP zt24 23 49 [some (.ref a0), some (.int p1), some (.int p2), some (.long y30), none, some (.int b5)] [] rfl rfl ?_
    refine z_xN zt24 24 rfl rfl (fun (x32 : Int32) (h33 : x32.toInt = b5.toInt + 1) => ?_) (z_pAdd rfl rfl (by omega) (by omega))
    show z_ev d 24 52 [some (.ref a0), some (.int p1), some (.int p2), some (.long y30), none, some (.int x32)] [] M _
    refine z_xP zt24 25 8 [some (.ref a0), some (.int p1), some (.int p2), some (.long y30), none, some (.int x32)] [] rfl rfl ?_
    exact ih M y30 x32 X ⟨by omega, by omega⟩ (by omega)
theorem zC24 {T : List zK} {d : Nat} {K : Option Value → zH → Prop} {a0 : Nat} {q : Nat} {t : Nat} {m : Nat} {p1 : Int32} {p2 : Int32} {M0 : zH} (hW : z_W M0 T) (k0 : T[a0]? = some (.inl (2, q, t, m, 0))) (u2 : 0 ≤ p2.toInt ∧ p2.toInt ≤ 15) (hb0 : p2.toInt < ((z_bl q : Nat) : Int)) (kk : ∀ (x : Int64) (M1 : zH), z_X T zw24 M0 M1 → K (some (.long x)) M1) : z_ev d 24 0 [some (.ref a0), some (.int p1), some (.int p2), none, none, none] [] M0 K := by
  have X : z_X T zw24 M0 M0 := .refl hW
  have g0 := X.1.p2 k0
  refine z_xP zt24 0 1 [some (.ref a0), some (.int p1), some (.int p2), none, none, none] [.ref a0] rfl rfl ?_
  refine z_xgL zt24 1 rfl zo24 zzf2_40 X k0 (by decide) (by decide) rfl (fun (y2 : Int64) h1 => ?_)
  refine z_xP zt24 2 8 [some (.ref a0), some (.int p1), some (.int p2), some (.long y2), none, some (.int 0)] [] rfl rfl ?_
  have q0 : ((0 : Int32)).toInt = 0 := rfl
  exact (zB24 k0 u2 hb0 kk 18) M0 y2 (0) X (by decide) (by omega)
def zw25 : List Nat := []
theorem zC25 {T : List zK} {d : Nat} {K : Option Value → zH → Prop} {p0 : Int64} {M0 : zH} (hW : z_W M0 T)  (kk : ∀ (x : Int32) (M1 : zH), z_X T zw25 M0 M1 → 0 ≤ x.toInt → x.toInt ≤ 127 → K (some (.int x)) M1) : z_ev d 25 0 [some (.long p0), none] [] M0 K := by
  have X : z_X T zw25 M0 M0 := .refl hW
  refine z_xP zt25 0 3 [some (.long p0), none] [.int 1, .long p0, .long p0] rfl rfl ?_
  refine z_xL zt25 1 rfl rfl (P := fun _ => True) (fun (y1 : Int64) _ => ?_) trivial
  refine z_xl2 zt25 2 rfl zo25 zkl16_314 ?_
  refine z_xL zt25 3 rfl rfl (P := fun _ => True) (fun (y3 : Int64) _ => ?_) trivial
  refine z_xL zt25 4 rfl rfl (P := fun _ => True) (fun (y5 : Int64) _ => ?_) trivial
  refine z_xP zt25 5 11 [some (.long y5), none] [.long y5] rfl rfl ?_
  refine z_xl2 zt25 6 rfl zo25 zkl16_316 ?_
  refine z_xL zt25 7 rfl rfl (P := fun _ => True) (fun (y7 : Int64) _ => ?_) trivial
  refine z_xP zt25 8 17 [some (.long y5), none] [.int 2, .long y5, .long y7] rfl rfl ?_
  refine z_xL zt25 9 rfl rfl (P := fun _ => True) (fun (y9 : Int64) _ => ?_) trivial
  refine z_xl2 zt25 10 rfl zo25 zkl16_316 ?_
  refine z_xL zt25 11 rfl rfl (P := fun _ => True) (fun (y11 : Int64) _ => ?_) trivial
  refine z_xL zt25 12 rfl rfl (P := fun _ => True) (fun (y13 : Int64) _ => ?_) trivial
  refine z_xP zt25 13 27 [some (.long y13), none] [.int 4, .long y13, .long y13] rfl rfl ?_
  refine z_xL zt25 14 rfl rfl (P := fun _ => True) (fun (y15 : Int64) _ => ?_) trivial
  refine z_xL zt25 15 rfl rfl (P := fun _ => True) (fun (y17 : Int64) _ => ?_) trivial
  refine z_xl2 zt25 16 rfl zo25 zkl16_318 ?_
  refine z_xL zt25 17 rfl rfl (P := fun _ => True) (fun (y19 : Int64) _ => ?_) trivial
  refine z_xP zt25 18 38 [some (.long y19), none] [.int 8, .long y19, .long y19] rfl rfl ?_
  refine z_xL zt25 19 rfl rfl (P := fun _ => True) (fun (y21 : Int64) _ => ?_) trivial
  refine z_xL zt25 20 rfl rfl (P := fun _ => True) (fun (y23 : Int64) _ => ?_) trivial
  refine z_xP zt25 21 45 [some (.long y23), none] [.int 16, .long y23, .long y23] rfl rfl ?_
  refine z_xL zt25 22 rfl rfl (P := fun _ => True) (fun (y25 : Int64) _ => ?_) trivial
  refine z_xL zt25 23 rfl rfl (P := fun _ => True) (fun (y27 : Int64) _ => ?_) trivial
  refine z_xP zt25 24 52 [some (.long y27), none] [.int 32, .long y27, .long y27] rfl rfl ?_
  refine z_xL zt25 25 rfl rfl (P := fun _ => True) (fun (y29 : Int64) _ => ?_) trivial
  refine z_xL zt25 26 rfl rfl (P := fun _ => True) (fun (y31 : Int64) _ => ?_) trivial
  refine z_xP zt25 27 56 [some (.long y31), none] [.long y31] rfl rfl ?_
  refine z_xI zt25 28 rfl rfl (P := fun _ => True) (fun (x33 : Int32) _ => ?_) trivial
  refine z_xP zt25 29 59 [some (.long y31), none] [.int 127, .int x33] rfl rfl ?_
  refine z_xI zt25 30 rfl rfl (fun (x35 : Int32) (h36 : 0 ≤ x35.toInt ∧ x35.toInt ≤ 127) => ?_) (z_pAnd rfl (by omega))
  exact z_xri zt25 31 rfl zzr25 (kk x35 M0 X (by omega) (by omega))
def zw26 : List Nat := [102, 111]
theorem zB26 {T : List zK} {d : Nat} {K : Option Value → zH → Prop} {a0 : Nat} {q : Nat} {t : Nat} {m : Nat} {M0 : zH} (k0 : T[a0]? = some (.inl (2, q, t, m, 0))) (kk : ∀ (M1 : zH), z_X T zw26 M0 M1 → K none M1) : ∀ n : Nat, (∀ (M : zH) (b1 : Int32) (b2 : Int32) (o3 : Option Value), z_X T zw26 M0 M → 0 ≤ b1.toInt ∧ b1.toInt ≤ 1024 → 0 ≤ b2.toInt ∧ b2.toInt ≤ 1024 → ((((0) * 3 + 1) * 1025 + (1024 - b2.toInt)) * 3 + 2) * 11 + (0) < (n : Int) → z_ev (d + 2) 26 4 [some (.ref a0), some (.int b1), some (.int b2), o3] [] M K) ∧ (∀ (M : zH) (b1 : Int32) (b2 : Int32) (b3 : Int32), z_X T zw26 M0 M → 0 ≤ b1.toInt ∧ b1.toInt ≤ 1023 → 0 ≤ b2.toInt ∧ b2.toInt ≤ 1023 → 0 ≤ b3.toInt ∧ b3.toInt ≤ 10 → b1.toInt < ((m : Nat) : Int) → ((((0) * 3 + 1) * 1025 + (1024 - b2.toInt)) * 3 + 0) * 11 + (10 - b3.toInt) < (n : Int) → z_ev (d + 2) 26 41 [some (.ref a0), some (.int b1), some (.int b2), some (.int b3)] [] M K) := by
  intro n
  induction n with
  | zero => exact ⟨(by intros; exfalso; omega), (by intros; exfalso; omega)⟩
  | succ n ih =>
    refine ⟨?_, ?_⟩
    · skip
      intro M b1 b2 o3 X hh0 hh1 hE
      have g0 := X.1.p2 k0
      refine z_xP zt26 1 6 [some (.ref a0), some (.int b1), some (.int b2), o3] [.ref a0, .int b2] rfl rfl ?_
      refine z_xgI zt26 2 rfl zo26 zzf2_32 X k0 (by decide) (by decide) rfl (fun (x2 : Int32) h1 (h3 : ((z_po q : Nat) : Int) - 1 ≤ x2.toInt) (h4 : x2.toInt ≤ ((z_po q : Nat) : Int) - 1) => ?_)
      refine z_xJ zt26 3 rfl rfl (fun (h5 : x2.toInt < b2.toInt) => ?_) (fun (h5 : b2.toInt ≤ x2.toInt) => ?_)
      · skip
        exact z_xrv zt26 45 rfl zzr26 (kk M X)
      refine z_xP zt26 4 14 [some (.ref a0), some (.int b1), some (.int b2), o3] [.ref a0, .int b1] rfl rfl ?_
      refine z_xgR (κ := .inr (102, 0, m, 0, 1023)) zt26 5 rfl zo26 zzf2_60 X k0 (by decide) (by decide) rfl (fun (a7 : Nat) h6 k8 => ?_)
      refine z_xln zt26 6 rfl X k8 (by decide) (by omega) (fun (x9 : Int32) (h10 : x9.toInt = ((m : Nat) : Int)) => ?_)
      refine z_xJ zt26 7 rfl rfl (fun (h11 : x9.toInt ≤ b1.toInt) => ?_) (fun (h11 : b1.toInt < x9.toInt) => ?_)
      · skip
        exact z_xrv zt26 45 rfl zzr26 (kk M X)
      refine z_xP zt26 8 23 [some (.ref a0), some (.int b1), some (.int b2), o3] [.int b2, .ref a0] rfl rfl ?_
      refine z_xcV (vs := [.ref a0, .int b2]) (r := []) (L2 := [some (.ref a0), some (.int b2)]) zt26 9 rfl zo26 zzcV2_72 (Or.inl rfl) rfl X k0 rfl rfl rfl (Nat.le_of_ble_eq_true rfl) zzm27 (Nat.le_of_ble_eq_true rfl) rfl ?_
      refine z_xP zt27 0 2 [some (.ref a0), some (.int b2)] [.int b2, .ref a0] rfl rfl ?_
      refine z_xcV (vs := [.ref a0, .int b2]) (r := []) (L2 := [some (.ref a0), some (.int b2)]) zt27 1 rfl zo27 zzcV2_76 (Or.inl rfl) rfl X k0 rfl rfl rfl (Nat.le_of_ble_eq_true rfl) zzm28 (Nat.le_of_ble_eq_true rfl) rfl ?_
      refine z_xP zt28 0 1 [some (.ref a0), some (.int b2)] [.int b2] rfl rfl ?_
      refine z_xZ zt28 1 rfl rfl (fun (h12 : b2.toInt < 0) => absurd h12 (by omega)) (fun (h12 : 0 ≤ b2.toInt) => ?_)
      refine z_xP zt28 2 6 [some (.ref a0), some (.int b2)] [.ref a0, .int b2] rfl rfl ?_
      refine z_xgv zt28 3 rfl zo28 zzf2_32 X k0 (by decide) h1 ?_
      refine z_xJ zt28 4 rfl rfl (fun (h13 : x2.toInt < b2.toInt) => ?_) (fun (h13 : b2.toInt ≤ x2.toInt) => ?_)
      · skip
        refine z_xP zt28 6 17 [some (.ref a0), some (.int b2)] [.int 0] rfl rfl ?_
        refine z_xrz zt28 7 rfl zzr28 (by decide) (by decide) ?_
        show z_ev (d + 1) 27 5 [some (.ref a0), some (.int b2)] [.int 0] M _
        refine z_xZ zt27 2 rfl rfl (fun (h14 : (0 : Int) = 0) => ?_) (fun (h14 : (0 : Int) ≠ 0) => absurd h14 (by omega))
        refine z_xP zt27 17 34 [some (.ref a0), some (.int b2)] [.int 0] rfl rfl ?_
        refine z_xrz zt27 18 rfl zzr27 (by decide) (by decide) ?_
        show z_ev (d + 2) 26 26 [some (.ref a0), some (.int b1), some (.int b2), o3] [.int 0] M _
        refine z_xZ zt26 10 rfl rfl (fun (h15 : (0 : Int) ≠ 0) => absurd h15 (by omega)) (fun (h15 : (0 : Int) = 0) => ?_)
        refine z_xP zt26 11 91 [some (.ref a0), some (.int b1), some (.int b2), o3] [] rfl rfl ?_
        refine z_xN zt26 43 rfl rfl (fun (x16 : Int32) (h17 : x16.toInt = b2.toInt + 1) => ?_) (z_pAdd rfl rfl (by omega) (by omega))
        show z_ev (d + 2) 26 94 [some (.ref a0), some (.int b1), some (.int x16), o3] [] M _
        refine z_xP zt26 44 4 [some (.ref a0), some (.int b1), some (.int x16), o3] [] rfl rfl ?_
        exact ih.1 M b1 x16 (o3) X ⟨by omega, by omega⟩ ⟨by omega, by omega⟩ (by omega)
      refine z_xP zt28 5 17 [some (.ref a0), some (.int b2)] [.int 1] rfl rfl ?_
      refine z_xrz zt28 7 rfl zzr28 (by decide) (by decide) ?_
      show z_ev (d + 1) 27 5 [some (.ref a0), some (.int b2)] [.int 1] M _
      refine z_xZ zt27 2 rfl rfl (fun (h18 : (1 : Int) = 0) => absurd h18 (by omega)) (fun (h18 : (1 : Int) ≠ 0) => ?_)
      refine z_xP zt27 3 9 [some (.ref a0), some (.int b2)] [.ref a0] rfl rfl ?_
      refine z_xgR (κ := .inr (109, 1, z_bl q, 0, 0)) zt27 4 rfl zo27 zzf2_44 X k0 (by decide) (by decide) rfl (fun (a20 : Nat) h19 k21 => ?_)
      refine z_xP zt27 5 15 [some (.ref a0), some (.int b2)] [.int 6, .int b2, .ref a20] rfl rfl ?_
      refine z_xI zt27 6 rfl rfl (fun (x22 : Int32) (h23 : x22.toInt = b2.toInt / 64) => ?_) (z_pShr (c := 64) 6 rfl rfl (by decide))
      refine z_xll zt27 7 rfl X k21 (by decide) (by omega) (by omega) (fun (y24 : Int64) => ?_)
      refine z_xP zt27 8 20 [some (.ref a0), some (.int b2)] [.int 63, .int b2, .long y24] rfl rfl ?_
      refine z_xI zt27 9 rfl rfl (fun (x25 : Int32) (h26 : 0 ≤ x25.toInt ∧ x25.toInt ≤ b2.toInt ∧ x25.toInt ≤ 63) => ?_) (z_pAnd2 rfl rfl (by omega) (by omega))
      refine z_xL zt27 10 rfl rfl (P := fun _ => True) (fun (y27 : Int64) _ => ?_) trivial
      refine z_xP zt27 11 23 [some (.ref a0), some (.int b2)] [.long 1, .long y27] rfl rfl ?_
      refine z_xL zt27 12 rfl rfl (P := fun _ => True) (fun (y29 : Int64) _ => ?_) trivial
      refine z_xP zt27 13 25 [some (.ref a0), some (.int b2)] [.long 0, .long y29] rfl rfl ?_
      refine z_xI zt27 14 rfl rfl (fun (x31 : Int32) (h32 : (x31.toInt < 0 ∧ y29.toInt < 0) ∨ (x31.toInt = 0 ∧ y29.toInt = 0) ∨ (0 < x31.toInt ∧ 0 < y29.toInt)) => ?_) (z_qCmp rfl rfl)
      refine z_xZ zt27 15 rfl rfl (fun (h33 : x31.toInt = 0) => ?_) (fun (h33 : x31.toInt ≠ 0) => ?_)
      · skip
        refine z_xP zt27 17 34 [some (.ref a0), some (.int b2)] [.int 0] rfl rfl ?_
        refine z_xrz zt27 18 rfl zzr27 (by decide) (by decide) ?_
        show z_ev (d + 2) 26 26 [some (.ref a0), some (.int b1), some (.int b2), o3] [.int 0] M _
        refine z_xZ zt26 10 rfl rfl (fun (h34 : (0 : Int) ≠ 0) => absurd h34 (by omega)) (fun (h34 : (0 : Int) = 0) => ?_)
        refine z_xP zt26 11 91 [some (.ref a0), some (.int b1), some (.int b2), o3] [] rfl rfl ?_
        refine z_xN zt26 43 rfl rfl (fun (x35 : Int32) (h36 : x35.toInt = b2.toInt + 1) => ?_) (z_pAdd rfl rfl (by omega) (by omega))
        show z_ev (d + 2) 26 94 [some (.ref a0), some (.int b1), some (.int x35), o3] [] M _
        refine z_xP zt26 44 4 [some (.ref a0), some (.int b1), some (.int x35), o3] [] rfl rfl ?_
        exact ih.1 M b1 x35 (o3) X ⟨by omega, by omega⟩ ⟨by omega, by omega⟩ (by omega)
      refine z_xP zt27 16 34 [some (.ref a0), some (.int b2)] [.int 1] rfl rfl ?_
      refine z_xrz zt27 18 rfl zzr27 (by decide) (by decide) ?_
      show z_ev (d + 2) 26 26 [some (.ref a0), some (.int b1), some (.int b2), o3] [.int 1] M _
      refine z_xZ zt26 10 rfl rfl (fun (h37 : (1 : Int) ≠ 0) => ?_) (fun (h37 : (1 : Int) = 0) => absurd h37 (by omega))
      refine z_xP zt26 12 33 [some (.ref a0), some (.int b1), some (.int b2), o3] [.ref a0] rfl rfl ?_
      refine z_xgv zt26 13 rfl zo26 zzf2_60 X k0 (by decide) h6 ?_
      refine z_xP zt26 14 38 [some (.ref a0), some (.int b1), some (.int b2), o3] [.int b2, .int b1, .ref a7] rfl rfl ?_
      refine z_xis zt26 15 rfl X k8 (by decide) (X.1.g4 k8 (by decide)) (by omega) (by omega) (by omega) (by omega) (by decide) (fun M38 X39 e40 h41 => ?_)
      refine z_xP zt26 16 41 [some (.ref a0), some (.int b1), some (.int b2), some (.int 0)] [] rfl rfl ?_
      have q0 : ((0 : Int32)).toInt = 0 := rfl
      exact ih.2 M38 b1 b2 (0) X39 ⟨by omega, by omega⟩ ⟨by omega, by omega⟩ (by decide) (by omega) (by omega)
    · skip
      intro M b1 b2 b3 X hh0 hh1 hh2 hh3 hE
      have g0 := X.1.p2 k0
      refine z_xP zt26 17 43 [some (.ref a0), some (.int b1), some (.int b2), some (.int b3)] [.ref a0, .int b3] rfl rfl ?_
      refine z_xgI zt26 18 rfl zo26 zzf2_15 X k0 (by decide) (by decide) rfl (fun (x2 : Int32) h1 (h3 : (q : Int) ≤ x2.toInt) (h4 : x2.toInt ≤ (q : Int)) => ?_)
      refine z_xJ zt26 19 rfl rfl (fun (h5 : x2.toInt ≤ b3.toInt) => ?_) (fun (h5 : b3.toInt < x2.toInt) => ?_)
      · skip
        refine z_xN zt26 42 rfl rfl (fun (x6 : Int32) (h7 : x6.toInt = b1.toInt + 1) => ?_) (z_pAdd rfl rfl (by omega) (by omega))
        show z_ev (d + 2) 26 91 [some (.ref a0), some (.int x6), some (.int b2), some (.int b3)] [] M _
        refine z_xN zt26 43 rfl rfl (fun (x8 : Int32) (h9 : x8.toInt = b2.toInt + 1) => ?_) (z_pAdd rfl rfl (by omega) (by omega))
        show z_ev (d + 2) 26 94 [some (.ref a0), some (.int x6), some (.int x8), some (.int b3)] [] M _
        refine z_xP zt26 44 4 [some (.ref a0), some (.int x6), some (.int x8), some (.int b3)] [] rfl rfl ?_
        exact ih.1 M x6 x8 (some (.int b3)) X ⟨by omega, by omega⟩ ⟨by omega, by omega⟩ (by omega)
      refine z_xP zt26 20 51 [some (.ref a0), some (.int b1), some (.int b2), some (.int b3)] [.int b3, .int b2] rfl rfl ?_
      refine z_xI zt26 21 rfl rfl (fun (x10 : Int32) (h11 : 0 ≤ x10.toInt ∧ x10.toInt ≤ b2.toInt) => ?_) (z_pShrN rfl (by omega))
      refine z_xP zt26 22 53 [some (.ref a0), some (.int b1), some (.int b2), some (.int b3)] [.int 1, .int x10] rfl rfl ?_
      refine z_xI zt26 23 rfl rfl (fun (x12 : Int32) (h13 : 0 ≤ x12.toInt ∧ x12.toInt ≤ x10.toInt ∧ x12.toInt ≤ 1) => ?_) (z_pAnd2 rfl rfl (by omega) (by omega))
      refine z_xZ zt26 24 rfl rfl (fun (h14 : x12.toInt = 0) => ?_) (fun (h14 : x12.toInt ≠ 0) => ?_)
      · skip
        refine z_xN zt26 40 rfl rfl (fun (x15 : Int32) (h16 : x15.toInt = b3.toInt + 1) => ?_) (z_pAdd rfl rfl (by omega) (by omega))
        show z_ev (d + 2) 26 85 [some (.ref a0), some (.int b1), some (.int b2), some (.int x15)] [] M _
        refine z_xP zt26 41 41 [some (.ref a0), some (.int b1), some (.int b2), some (.int x15)] [] rfl rfl ?_
        exact ih.2 M b1 b2 x15 X ⟨by omega, by omega⟩ ⟨by omega, by omega⟩ ⟨by omega, by omega⟩ (by omega) (by omega)
      refine z_xP zt26 25 58 [some (.ref a0), some (.int b1), some (.int b2), some (.int b3)] [.ref a0] rfl rfl ?_
      refine z_xgR (κ := .inr (111, 1, q * z_sp m, 0, 0)) zt26 26 rfl zo26 zzf2_66 X k0 (by decide) (by decide) rfl (fun (a18 : Nat) h17 k19 => ?_)
      refine z_xP zt26 27 63 [some (.ref a0), some (.int b1), some (.int b2), some (.int b3)] [.ref a0, .int b3, .ref a18] rfl rfl ?_
      refine z_xgI zt26 28 rfl zo26 zzf2_63 X k0 (by decide) (by decide) rfl (fun (x21 : Int32) h20 (h22 : ((z_sp m : Nat) : Int) ≤ x21.toInt) (h23 : x21.toInt ≤ ((z_sp m : Nat) : Int)) => ?_)
      refine z_xI zt26 29 rfl rfl (fun (x24 : Int32) (h25 : x24.toInt = b3.toInt * x21.toInt ∧ 0 ≤ x24.toInt ∧ x24.toInt ≤ 144) => ?_) (z_pMulB (a := 9) (b := 16) rfl rfl (by omega) (by omega) (by omega) (by omega) (by decide) (by decide))
      refine z_xP zt26 30 70 [some (.ref a0), some (.int b1), some (.int b2), some (.int b3)] [.int 6, .int b1, .int x24, .ref a18] rfl rfl ?_
      refine z_xI zt26 31 rfl rfl (fun (x26 : Int32) (h27 : x26.toInt = b1.toInt / 64) => ?_) (z_pShr (c := 64) 6 rfl rfl (by decide))
      refine z_xI zt26 32 rfl rfl (fun (x28 : Int32) (h29 : x28.toInt = x24.toInt + x26.toInt) => ?_) (z_pAdd rfl rfl (by omega) (by omega))
      refine z_xP zt26 33 73 [some (.ref a0), some (.int b1), some (.int b2), some (.int b3)] [.int x28, .ref a18, .int x28, .ref a18] rfl rfl ?_
      have h30 := z_nlx (p := x24.toInt) (x := b3.toInt) (y := x21.toInt) (s := x26.toInt) (z := x28.toInt) (A := q) (B := z_sp m) (by omega) (by omega) (by omega) (by omega) (by omega) (by omega) (by omega)
      refine z_xll zt26 34 rfl X k19 (by decide) h30.1 h30.2 (fun (y31 : Int64) => ?_)
      refine z_xP zt26 35 78 [some (.ref a0), some (.int b1), some (.int b2), some (.int b3)] [.int 63, .int b1, .long 1, .long y31, .int x28, .ref a18] rfl rfl ?_
      refine z_xI zt26 36 rfl rfl (fun (x32 : Int32) (h33 : 0 ≤ x32.toInt ∧ x32.toInt ≤ b1.toInt ∧ x32.toInt ≤ 63) => ?_) (z_pAnd2 rfl rfl (by omega) (by omega))
      refine z_xL zt26 37 rfl rfl (P := fun _ => True) (fun (y34 : Int64) _ => ?_) trivial
      refine z_xL zt26 38 rfl rfl (P := fun _ => True) (fun (y36 : Int64) _ => ?_) trivial
      have h38 := z_nlx (p := x24.toInt) (x := b3.toInt) (y := x21.toInt) (s := x26.toInt) (z := x28.toInt) (A := q) (B := z_sp m) (by omega) (by omega) (by omega) (by omega) (by omega) (by omega) (by omega)
      refine z_xls zt26 39 rfl X k19 (by decide) (X.1.g4 k19 (by decide)) h38.1 h38.2 (by decide) (fun M39 X40 e41 => ?_)
      refine z_xN zt26 40 rfl rfl (fun (x42 : Int32) (h43 : x42.toInt = b3.toInt + 1) => ?_) (z_pAdd rfl rfl (by omega) (by omega))
      show z_ev (d + 2) 26 85 [some (.ref a0), some (.int b1), some (.int b2), some (.int x42)] [] M39 _
      refine z_xP zt26 41 41 [some (.ref a0), some (.int b1), some (.int b2), some (.int x42)] [] rfl rfl ?_
      exact ih.2 M39 b1 b2 x42 X40 ⟨by omega, by omega⟩ ⟨by omega, by omega⟩ ⟨by omega, by omega⟩ (by omega) (by omega)
theorem zC26 {T : List zK} {d : Nat} {K : Option Value → zH → Prop} {a0 : Nat} {q : Nat} {t : Nat} {m : Nat} {M0 : zH} (hW : z_W M0 T) (k0 : T[a0]? = some (.inl (2, q, t, m, 0))) (kk : ∀ (M1 : zH), z_X T zw26 M0 M1 → K none M1) : z_ev (d + 2) 26 0 [some (.ref a0), none, none, none] [] M0 K := by
  have X : z_X T zw26 M0 M0 := .refl hW
  have g0 := X.1.p2 k0
  refine z_xP zt26 0 4 [some (.ref a0), some (.int 0), some (.int 0), none] [] rfl rfl ?_
  have q0 : ((0 : Int32)).toInt = 0 := rfl
  exact (zB26 k0 kk 101475).1 M0 (0) (0) none X (by decide) (by decide) (by omega)
def zw31 : List Nat := []
theorem zC31 {T : List zK} {d : Nat} {K : Option Value → zH → Prop} {p0 : Int32} {M0 : zH} (hW : z_W M0 T)  (kk : ∀ (x : Int32) (M1 : zH), z_X T zw31 M0 M1 → 0 ≤ x.toInt → x.toInt ≤ 63 → K (some (.int x)) M1) : z_ev d 31 0 [some (.int p0)] [] M0 K := by
  have X : z_X T zw31 M0 M0 := .refl hW
  refine z_xP zt31 0 3 [some (.int p0)] [.int 1, .int p0, .int p0] rfl rfl ?_
  refine z_xI zt31 1 rfl rfl (P := fun _ => True) (fun (x1 : Int32) _ => ?_) trivial
  refine z_xlw zt31 2 rfl zo31 zki15_265 ?_
  refine z_xI zt31 3 rfl rfl (fun (x3 : Int32) (h4 : 0 ≤ x3.toInt ∧ x3.toInt ≤ 1431655765) => ?_) (z_pAnd rfl (by omega))
  have h5 := z_b32 p0
  refine z_xI zt31 4 rfl rfl (P := fun _ => True) (fun (x6 : Int32) _ => ?_) trivial
  refine z_xP zt31 5 11 [some (.int x6)] [.int x6] rfl rfl ?_
  refine z_xlw zt31 6 rfl zo31 zki15_266 ?_
  refine z_xI zt31 7 rfl rfl (fun (x8 : Int32) (h9 : 0 ≤ x8.toInt ∧ x8.toInt ≤ 858993459) => ?_) (z_pAnd rfl (by omega))
  refine z_xP zt31 8 17 [some (.int x6)] [.int 2, .int x6, .int x8] rfl rfl ?_
  refine z_xI zt31 9 rfl rfl (P := fun _ => True) (fun (x10 : Int32) _ => ?_) trivial
  refine z_xlw zt31 10 rfl zo31 zki15_266 ?_
  refine z_xI zt31 11 rfl rfl (fun (x12 : Int32) (h13 : 0 ≤ x12.toInt ∧ x12.toInt ≤ 858993459) => ?_) (z_pAnd rfl (by omega))
  refine z_xI zt31 12 rfl rfl (fun (x14 : Int32) (h15 : x14.toInt = x8.toInt + x12.toInt) => ?_) (z_pAdd rfl rfl (by omega) (by omega))
  refine z_xP zt31 13 27 [some (.int x14)] [.int 4, .int x14, .int x14] rfl rfl ?_
  refine z_xI zt31 14 rfl rfl (P := fun _ => True) (fun (x16 : Int32) _ => ?_) trivial
  have h18 := z_b32 x16
  refine z_xI zt31 15 rfl rfl (P := fun _ => True) (fun (x19 : Int32) _ => ?_) trivial
  refine z_xlw zt31 16 rfl zo31 zki15_267 ?_
  refine z_xI zt31 17 rfl rfl (fun (x21 : Int32) (h22 : 0 ≤ x21.toInt ∧ x21.toInt ≤ 252645135) => ?_) (z_pAnd rfl (by omega))
  refine z_xP zt31 18 38 [some (.int x21)] [.int 8, .int x21, .int x21] rfl rfl ?_
  refine z_xI zt31 19 rfl rfl (P := fun _ => True) (fun (x23 : Int32) _ => ?_) trivial
  have h25 := z_b32 x23
  refine z_xI zt31 20 rfl rfl (P := fun _ => True) (fun (x26 : Int32) _ => ?_) trivial
  refine z_xP zt31 21 45 [some (.int x26)] [.int 16, .int x26, .int x26] rfl rfl ?_
  refine z_xI zt31 22 rfl rfl (P := fun _ => True) (fun (x28 : Int32) _ => ?_) trivial
  have h30 := z_b32 x26
  have h31 := z_b32 x28
  refine z_xI zt31 23 rfl rfl (P := fun _ => True) (fun (x32 : Int32) _ => ?_) trivial
  refine z_xP zt31 24 51 [some (.int x32)] [.int 63, .int x32] rfl rfl ?_
  refine z_xI zt31 25 rfl rfl (fun (x34 : Int32) (h35 : 0 ≤ x34.toInt ∧ x34.toInt ≤ 63) => ?_) (z_pAnd rfl (by omega))
  exact z_xri zt31 26 rfl zzr31 (kk x34 M0 X (by omega) (by omega))
def zw32 : List Nat := []
theorem zB32 {T : List zK} {d : Nat} {K : Option Value → zH → Prop} {a0 : Nat} {q : Nat} {t : Nat} {m : Nat} {p1 : Int32} {M0 : zH} (k0 : T[a0]? = some (.inl (2, q, t, m, 0))) (u1 : 1 ≤ p1.toInt ∧ p1.toInt ≤ 255) (kk : ∀ (x : Int32) (M1 : zH), z_X T zw32 M0 M1 → 0 ≤ x.toInt → x.toInt ≤ 1 → K (some (.int x)) M1) : ∀ n : Nat, (∀ (M : zH) (b2 : Int32), z_X T zw32 M0 M → 0 ≤ b2.toInt ∧ b2.toInt ≤ 16 → ((0) * 2 + 0) * 17 + (16 - b2.toInt) < (n : Int) → z_ev (d + 1) 32 2 [some (.ref a0), some (.int p1), some (.int b2)] [] M K) := by
  intro n
  induction n with
  | zero => exact by intros; exfalso; omega
  | succ n ih =>
    intro M b2 X hh0 hE
    have g0 := X.1.p2 k0
    refine z_xP zt32 1 4 [some (.ref a0), some (.int p1), some (.int b2)] [.ref a0, .int b2] rfl rfl ?_
    refine z_xgI zt32 2 rfl zo32 zzf2_35 X k0 (by decide) (by decide) rfl (fun (x2 : Int32) h1 (h3 : ((z_bl q : Nat) : Int) ≤ x2.toInt) (h4 : x2.toInt ≤ ((z_bl q : Nat) : Int)) => ?_)
    refine z_xJ zt32 3 rfl rfl (fun (h5 : x2.toInt ≤ b2.toInt) => ?_) (fun (h5 : b2.toInt < x2.toInt) => ?_)
    · skip
      refine z_xP zt32 15 32 [some (.ref a0), some (.int p1), some (.int b2)] [.int 1] rfl rfl ?_
      have q1 : ((1 : Int32)).toInt = 1 := rfl
      exact z_xrz zt32 16 rfl zzr32 (by decide) (by decide) (kk 1 M X (by omega) (by omega))
    refine z_xP zt32 4 13 [some (.ref a0), some (.int p1), some (.int b2)] [.int (-1), .int p1, .ref a0] rfl rfl ?_
    refine z_xI zt32 5 rfl rfl (P := fun _ => True) (fun (x6 : Int32) _ => ?_) trivial
    refine z_xP zt32 6 15 [some (.ref a0), some (.int p1), some (.int b2)] [.int b2, .int x6, .ref a0] rfl rfl ?_
    refine z_xcV (vs := [.ref a0, .int x6, .int b2]) (r := []) (L2 := [some (.ref a0), some (.int x6), some (.int b2), none, none, none]) zt32 7 rfl zo32 zzcV2_50 (Or.inl rfl) rfl X k0 rfl rfl rfl (Nat.le_of_ble_eq_true rfl) zzm24 (Nat.le_of_ble_eq_true rfl) rfl ?_
    refine zC24 X.1 k0 (by omega) (by omega) (fun y10 M8 X9  => ?_)
    have X11 := X.go X9 (z_sb (by decide))
    show z_ev (d + 1) 32 18 [some (.ref a0), some (.int p1), some (.int b2)] [.long y10] M8 _
    refine z_xP zt32 8 19 [some (.ref a0), some (.int p1), some (.int b2)] [.long 0, .long y10] rfl rfl ?_
    refine z_xI zt32 9 rfl rfl (fun (x13 : Int32) (h14 : (x13.toInt < 0 ∧ y10.toInt < 0) ∨ (x13.toInt = 0 ∧ y10.toInt = 0) ∨ (0 < x13.toInt ∧ 0 < y10.toInt)) => ?_) (z_qCmp rfl rfl)
    refine z_xZ zt32 10 rfl rfl (fun (h15 : x13.toInt = 0) => ?_) (fun (h15 : x13.toInt ≠ 0) => ?_)
    · skip
      refine z_xN zt32 13 rfl rfl (fun (x16 : Int32) (h17 : x16.toInt = b2.toInt + 1) => ?_) (z_pAdd rfl rfl (by omega) (by omega))
      show z_ev (d + 1) 32 28 [some (.ref a0), some (.int p1), some (.int x16)] [] M8 _
      refine z_xP zt32 14 2 [some (.ref a0), some (.int p1), some (.int x16)] [] rfl rfl ?_
      exact ih M8 x16 X11 ⟨by omega, by omega⟩ (by omega)
    refine z_xP zt32 11 24 [some (.ref a0), some (.int p1), some (.int b2)] [.int 0] rfl rfl ?_
    have q0 : ((0 : Int32)).toInt = 0 := rfl
    exact z_xrz zt32 12 rfl zzr32 (by decide) (by decide) (kk 0 M8 X11 (by omega) (by omega))
theorem zC32 {T : List zK} {d : Nat} {K : Option Value → zH → Prop} {a0 : Nat} {q : Nat} {t : Nat} {m : Nat} {p1 : Int32} {M0 : zH} (hW : z_W M0 T) (k0 : T[a0]? = some (.inl (2, q, t, m, 0))) (u1 : 1 ≤ p1.toInt ∧ p1.toInt ≤ 255) (kk : ∀ (x : Int32) (M1 : zH), z_X T zw32 M0 M1 → 0 ≤ x.toInt → x.toInt ≤ 1 → K (some (.int x)) M1) : z_ev (d + 1) 32 0 [some (.ref a0), some (.int p1), none] [] M0 K := by
  have X : z_X T zw32 M0 M0 := .refl hW
  have g0 := X.1.p2 k0
  refine z_xP zt32 0 2 [some (.ref a0), some (.int p1), some (.int 0)] [] rfl rfl ?_
  have q0 : ((0 : Int32)).toInt = 0 := rfl
  exact (zB32 k0 u1 kk 34) M0 (0) X (by decide) (by omega)
def zw30 : List Nat := []
theorem zB30 {T : List zK} {d : Nat} {K : Option Value → zH → Prop} {a0 : Nat} {q : Nat} {t : Nat} {m : Nat} {M0 : zH} (k0 : T[a0]? = some (.inl (2, q, t, m, 0))) (kk : ∀ (x : Int32) (M1 : zH), z_X T zw30 M0 M1 → 0 ≤ x.toInt → x.toInt ≤ 255 → K (some (.int x)) M1) : ∀ n : Nat, (∀ (M : zH) (b1 : Int32) (b2 : Int32) (b3 : Int32) (b4 : Int32) (o5 : Option Value), z_X T zw30 M0 M → 0 ≤ b1.toInt ∧ b1.toInt ≤ 255 → 0 ≤ b2.toInt ∧ b2.toInt ≤ 255 → 0 ≤ b3.toInt ∧ b3.toInt ≤ 8 → 1 ≤ b4.toInt ∧ b4.toInt ≤ 255 → ((0) * 2 + 0) * 255 + (255 - b4.toInt) < (n : Int) → z_ev (d + 2) 30 19 [some (.ref a0), some (.int b1), some (.int b2), some (.int b3), some (.int b4), o5] [] M K) := by
  intro n
  induction n with
  | zero => exact by intros; exfalso; omega
  | succ n ih =>
    intro M b1 b2 b3 b4 o5 X hh0 hh1 hh2 hh3 hE
    have g0 := X.1.p2 k0
    refine z_xP zt30 8 22 [some (.ref a0), some (.int b1), some (.int b2), some (.int b3), some (.int b4), o5] [.int b1, .int b4] rfl rfl ?_
    refine z_xJ zt30 9 rfl rfl (fun (h1 : b1.toInt ≤ b4.toInt) => ?_) (fun (h1 : b4.toInt < b1.toInt) => ?_)
    · skip
      refine z_xP zt30 20 60 [some (.ref a0), some (.int b1), some (.int b2), some (.int b3), some (.int b4), o5] [.int b2] rfl rfl ?_
      exact z_xri zt30 21 rfl zzr30 (kk b2 M X (by omega) (by omega))
    refine z_xP zt30 10 27 [some (.ref a0), some (.int b1), some (.int b2), some (.int b3), some (.int b4), o5] [.int b4] rfl rfl ?_
    refine z_xcS (vs := [.int b4]) (r := []) (L2 := [some (.int b4)]) zt30 11 rfl zo30 zzcS2_86 (Or.inl rfl) (Nat.le_of_ble_eq_true rfl) rfl rfl (Nat.le_of_ble_eq_true rfl) zzm31 (Nat.le_of_ble_eq_true rfl) rfl ?_
    refine zC31 X.1 (fun x4 M2 X3 h5 h6 => ?_)
    have X7 := X.go X3 (z_sb (by decide))
    show z_ev (d + 2) 30 30 [some (.ref a0), some (.int b1), some (.int b2), some (.int b3), some (.int b4), o5] [.int x4] M2 _
    refine z_xP zt30 12 35 [some (.ref a0), some (.int b1), some (.int b2), some (.int b3), some (.int b4), some (.int x4)] [.int b3, .int x4] rfl rfl ?_
    refine z_xJ zt30 13 rfl rfl (fun (h9 : b3.toInt ≤ x4.toInt) => ?_) (fun (h9 : x4.toInt < b3.toInt) => ?_)
    · skip
      refine z_xN zt30 18 rfl rfl (fun (x10 : Int32) (h11 : x10.toInt = b4.toInt + 1) => ?_) (z_pAdd rfl rfl (by omega) (by omega))
      show z_ev (d + 2) 30 56 [some (.ref a0), some (.int b1), some (.int b2), some (.int b3), some (.int x10), some (.int x4)] [] M2 _
      refine z_xP zt30 19 19 [some (.ref a0), some (.int b1), some (.int b2), some (.int b3), some (.int x10), some (.int x4)] [] rfl rfl ?_
      exact ih M2 b1 b2 b3 x10 (some (.int x4)) X7 ⟨by omega, by omega⟩ ⟨by omega, by omega⟩ ⟨by omega, by omega⟩ ⟨by omega, by omega⟩ (by omega)
    refine z_xP zt30 14 41 [some (.ref a0), some (.int b1), some (.int b2), some (.int b3), some (.int b4), some (.int x4)] [.int b4, .ref a0] rfl rfl ?_
    refine z_xcV (vs := [.ref a0, .int b4]) (r := []) (L2 := [some (.ref a0), some (.int b4), none]) zt30 15 rfl zo30 zzcV2_100 (Or.inl rfl) rfl X7 k0 rfl rfl rfl (Nat.le_of_ble_eq_true rfl) zzm32 (Nat.le_of_ble_eq_true rfl) rfl ?_
    refine zC32 X7.1 k0 (by omega) (fun x14 M12 X13 h15 h16 => ?_)
    have X17 := X7.go X13 (z_sb (by decide))
    show z_ev (d + 2) 30 44 [some (.ref a0), some (.int b1), some (.int b2), some (.int b3), some (.int b4), some (.int x4)] [.int x14] M12 _
    refine z_xZ zt30 16 rfl rfl (fun (h19 : x14.toInt = 0) => ?_) (fun (h19 : x14.toInt ≠ 0) => ?_)
    · skip
      refine z_xN zt30 18 rfl rfl (fun (x20 : Int32) (h21 : x20.toInt = b4.toInt + 1) => ?_) (z_pAdd rfl rfl (by omega) (by omega))
      show z_ev (d + 2) 30 56 [some (.ref a0), some (.int b1), some (.int b2), some (.int b3), some (.int x20), some (.int x4)] [] M12 _
      refine z_xP zt30 19 19 [some (.ref a0), some (.int b1), some (.int b2), some (.int b3), some (.int x20), some (.int x4)] [] rfl rfl ?_
      exact ih M12 b1 b2 b3 x20 (some (.int x4)) X17 ⟨by omega, by omega⟩ ⟨by omega, by omega⟩ ⟨by omega, by omega⟩ ⟨by omega, by omega⟩ (by omega)
    refine z_xP zt30 17 53 [some (.ref a0), some (.int b1), some (.int b4), some (.int x4), some (.int b4), some (.int x4)] [] rfl rfl ?_
    refine z_xN zt30 18 rfl rfl (fun (x22 : Int32) (h23 : x22.toInt = b4.toInt + 1) => ?_) (z_pAdd rfl rfl (by omega) (by omega))
    show z_ev (d + 2) 30 56 [some (.ref a0), some (.int b1), some (.int b4), some (.int x4), some (.int x22), some (.int x4)] [] M12 _
    refine z_xP zt30 19 19 [some (.ref a0), some (.int b1), some (.int b4), some (.int x4), some (.int x22), some (.int x4)] [] rfl rfl ?_
    exact ih M12 b1 b4 x4 x22 (some (.int x4)) X17 ⟨by omega, by omega⟩ ⟨by omega, by omega⟩ ⟨by omega, by omega⟩ ⟨by omega, by omega⟩ (by omega)
theorem zC30 {T : List zK} {d : Nat} {K : Option Value → zH → Prop} {a0 : Nat} {q : Nat} {t : Nat} {m : Nat} {M0 : zH} (hW : z_W M0 T) (k0 : T[a0]? = some (.inl (2, q, t, m, 0))) (kk : ∀ (x : Int32) (M1 : zH), z_X T zw30 M0 M1 → 0 ≤ x.toInt → x.toInt ≤ 255 → K (some (.int x)) M1) : z_ev (d + 2) 30 0 [some (.ref a0), none, none, none, none, none] [] M0 K := by
  have X : z_X T zw30 M0 M0 := .refl hW
  have g0 := X.1.p2 k0
  refine z_xP zt30 0 2 [some (.ref a0), none, none, none, none, none] [.ref a0, .int 1] rfl rfl ?_
  refine z_xgI zt30 1 rfl zo30 zzf2_25 X k0 (by decide) (by decide) rfl (fun (x2 : Int32) h1 (h3 : (t : Int) ≤ x2.toInt) (h4 : x2.toInt ≤ (t : Int)) => ?_)
  refine z_xI zt30 2 rfl rfl (fun (x5 : Int32) (h6 : 1 ≤ x5.toInt ∧ x5.toInt ≤ 256) => ?_) (z_pShlB (a := 1) (b := 8) (c := 256) (r := 256) rfl rfl (by omega) (by omega) (by omega) (by omega) (by decide) (by decide) (by decide) (by decide))
  refine z_xP zt30 3 7 [some (.ref a0), none, none, none, none, none] [.int 1, .int x5] rfl rfl ?_
  refine z_xI zt30 4 rfl rfl (fun (x7 : Int32) (h8 : x7.toInt = x5.toInt - 1) => ?_) (z_pSub rfl rfl (by omega) (by omega))
  refine z_xP zt30 5 12 [some (.ref a0), some (.int x7), some (.int x7), none, none, none] [.ref a0] rfl rfl ?_
  refine z_xgv zt30 6 rfl zo30 zzf2_25 X k0 (by decide) h1 ?_
  refine z_xP zt30 7 19 [some (.ref a0), some (.int x7), some (.int x7), some (.int x2), some (.int 1), none] [] rfl rfl ?_
  have q1 : ((1 : Int32)).toInt = 1 := rfl
  exact (zB30 k0 kk 510) M0 x7 x7 x2 (1) none X ⟨by omega, by omega⟩ ⟨by omega, by omega⟩ ⟨by omega, by omega⟩ (by decide) (by omega)
def zw34 : List Nat := []
theorem zC34 {T : List zK} {d : Nat} {K : Option Value → zH → Prop} {p1 : Int32} {p2 : Int32} {M0 : zH} (hW : z_W M0 T)  (hG : z_GG T M0) (kk : ∀ (x : Int32) (M1 : zH), z_X T zw34 M0 M1 → K (some (.int x)) M1) : z_ev (d + 1) 34 0 [some (.ref 4), some (.int p1), some (.int p2), none] [] M0 K := by
  have X : z_X T zw34 M0 M0 := .refl hW
  refine z_xP zt34 0 2 [some (.ref 4), some (.int p1), some (.int p2), none] [.int p1, .ref 4] rfl rfl ?_
  have f4 : T[4]? = some (.inl (0, 0, 0, 0, 0)) := X.1.k rfl (by decide)
  refine z_xcV (vs := [.ref 4, .int p1]) (r := []) (L2 := [some (.ref 4), some (.int p1)]) zt34 1 rfl zo34 zzcV0_85 (Or.inl rfl) rfl X f4 rfl rfl rfl (Nat.le_of_ble_eq_true rfl) zzm35 (Nat.le_of_ble_eq_true rfl) rfl ?_
  refine z_xP zt35 0 1 [some (.ref 4), some (.int p1)] [.int p1] rfl rfl ?_
  refine z_xZ zt35 1 rfl rfl (fun (h1 : p1.toInt < 0) => ?_) (fun (h1 : 0 ≤ p1.toInt) => ?_)
  · skip
    refine z_xP zt35 5 22 [some (.ref 4), some (.int p1)] [.null] rfl rfl ?_
    refine z_xrn zt35 10 rfl zzr35 ?_
    show z_ev (d + 1) 34 5 [some (.ref 4), some (.int p1), some (.int p2), none] [.null] M0 _
    refine z_xP zt34 2 10 [some (.ref 4), some (.int p1), some (.int p2), some (.null)] [] rfl rfl ?_
    refine z_xP zt34 3 11 [some (.ref 4), some (.int p1), some (.int p2), some (.null)] [.int (-1)] rfl rfl ?_
    have qm1 : (((-1) : Int32)).toInt = (-1) := rfl
    exact z_xri zt34 4 rfl zzr34 (kk (-1) M0 X)
  refine z_xP zt35 2 6 [some (.ref 4), some (.int p1)] [.ref 4, .int p1] rfl rfl ?_
  refine z_xgI zt35 3 rfl zo35 zzf0_59 X f4 (by decide) (by decide) rfl (fun (x3 : Int32) h2 (h4 : 0 ≤ x3.toInt) (h5 : x3.toInt ≤ 8) => ?_)
  have h6 := z_b32 p1
  refine z_xJ zt35 4 rfl rfl (fun (h7 : p1.toInt < x3.toInt) => ?_) (fun (h7 : x3.toInt ≤ p1.toInt) => ?_)
  · skip
    refine z_xP zt35 6 17 [some (.ref 4), some (.int p1)] [.ref 4] rfl rfl ?_
    refine z_xgX (b := 10) zt35 7 rfl zo35 zzf0_18 X f4 (by decide) (by decide) rfl ?_
    refine z_xP zt35 8 21 [some (.ref 4), some (.int p1)] [.int p1, .ref 10] rfl rfl ?_
    have f10 : T[10]? = some (.inr (10, 2, 8, 9, 0)) := X.1.k rfl (by decide)
    refine z_xal zt35 9 rfl X f10 (by decide) (by decide) (by decide) (by omega) (by omega) (fun (a8 : Nat) h9 h10 => ?_) (fun h11 => absurd h11 (z_Gs (hG.go X (by decide)).2.1 h2 (by omega) (by omega)))
    obtain ⟨q12, t13, m14, k15⟩ : ∃ q t m, T[a8]? = some (.inl (3, q, t, m, 9)) := h10
    have g16 := X.1.p3 k15
    refine z_xra zt35 10 rfl zzr35 ?_
    show z_ev (d + 1) 34 5 [some (.ref 4), some (.int p1), some (.int p2), none] [.ref a8] M0 _
    refine z_xP zt34 2 12 [some (.ref 4), some (.int p1), some (.int p2), some (.ref a8)] [] rfl rfl ?_
    refine z_xP zt34 5 13 [some (.ref 4), some (.int p1), some (.int p2), some (.ref a8)] [.int p2] rfl rfl ?_
    by_cases h17 : p2.toInt = 0
    · refine z_xSC zt34 6 (z_sub (k := 0) h17 rfl) 52 rfl rfl ?_
      refine z_xP zt34 7 53 [some (.ref 4), some (.int p1), some (.int p2), some (.ref a8)] [.ref a8] rfl rfl ?_
      refine z_xgR (κ := .inl (2, q12, t13, m14, 0)) zt34 8 rfl zo34 zzf0_89 X k15 (by decide) (by decide) rfl (fun (a19 : Nat) h18 k20 => ?_)
      have g21 := X.1.p2 k20
      refine z_xgI zt34 9 rfl zo34 zzf0_93 X k20 (by decide) (by decide) rfl (fun (x23 : Int32) h22 (h24 : (q12 : Int) ≤ x23.toInt) (h25 : x23.toInt ≤ (q12 : Int)) => ?_)
      exact z_xri zt34 10 rfl zzr34 (kk x23 M0 X)
    by_cases h26 : p2.toInt = 1
    · refine z_xSC zt34 6 (z_sub (k := 1) h26 rfl) 60 rfl rfl ?_
      refine z_xP zt34 11 61 [some (.ref 4), some (.int p1), some (.int p2), some (.ref a8)] [.ref a8] rfl rfl ?_
      refine z_xgR (κ := .inl (2, q12, t13, m14, 0)) zt34 12 rfl zo34 zzf0_89 X k15 (by decide) (by decide) rfl (fun (a28 : Nat) h27 k29 => ?_)
      have g30 := X.1.p2 k29
      refine z_xgI zt34 13 rfl zo34 zzf0_96 X k29 (by decide) (by decide) rfl (fun (x32 : Int32) h31 (h33 : (t13 : Int) ≤ x32.toInt) (h34 : x32.toInt ≤ (t13 : Int)) => ?_)
      exact z_xri zt34 14 rfl zzr34 (kk x32 M0 X)
    by_cases h35 : p2.toInt = 2
    · refine z_xSC zt34 6 (z_sub (k := 2) h35 rfl) 68 rfl rfl ?_
      refine z_xP zt34 15 69 [some (.ref 4), some (.int p1), some (.int p2), some (.ref a8)] [.ref a8] rfl rfl ?_
      refine z_xgR (κ := .inl (2, q12, t13, m14, 0)) zt34 16 rfl zo34 zzf0_89 X k15 (by decide) (by decide) rfl (fun (a37 : Nat) h36 k38 => ?_)
      have g39 := X.1.p2 k38
      refine z_xgI zt34 17 rfl zo34 zzf0_99 X k38 (by decide) (by decide) rfl (fun (x41 : Int32) h40 (h42 : (-2147483648) ≤ x41.toInt) (h43 : x41.toInt ≤ 2147483647) => ?_)
      exact z_xri zt34 18 rfl zzr34 (kk x41 M0 X)
    by_cases h44 : p2.toInt = 3
    · refine z_xSC zt34 6 (z_sub (k := 3) h44 rfl) 76 rfl rfl ?_
      refine z_xP zt34 19 77 [some (.ref 4), some (.int p1), some (.int p2), some (.ref a8)] [.ref a8] rfl rfl ?_
      refine z_xgR (κ := .inl (2, q12, t13, m14, 0)) zt34 20 rfl zo34 zzf0_89 X k15 (by decide) (by decide) rfl (fun (a46 : Nat) h45 k47 => ?_)
      have g48 := X.1.p2 k47
      refine z_xgI zt34 21 rfl zo34 zzf0_102 X k47 (by decide) (by decide) rfl (fun (x50 : Int32) h49 (h51 : (-2147483648) ≤ x50.toInt) (h52 : x50.toInt ≤ 2147483647) => ?_)
      exact z_xri zt34 22 rfl zzr34 (kk x50 M0 X)
    by_cases h53 : p2.toInt = 4
    · refine z_xSC zt34 6 (z_sub (k := 4) h53 rfl) 84 rfl rfl ?_
      refine z_xP zt34 23 85 [some (.ref 4), some (.int p1), some (.int p2), some (.ref a8)] [.ref a8] rfl rfl ?_
      refine z_xgR (κ := .inl (2, q12, t13, m14, 0)) zt34 24 rfl zo34 zzf0_89 X k15 (by decide) (by decide) rfl (fun (a55 : Nat) h54 k56 => ?_)
      have g57 := X.1.p2 k56
      refine z_xgR (κ := .inr (102, 0, m14, 0, 1023)) zt34 25 rfl zo34 zzf0_74 X k56 (by decide) (by decide) rfl (fun (a59 : Nat) h58 k60 => ?_)
      refine z_xln zt34 26 rfl X k60 (by decide) (by omega) (fun (x61 : Int32) (h62 : x61.toInt = ((m14 : Nat) : Int)) => ?_)
      exact z_xri zt34 27 rfl zzr34 (kk x61 M0 X)
    by_cases h63 : p2.toInt = 5
    · refine z_xSC zt34 6 (z_sub (k := 5) h63 rfl) 93 rfl rfl ?_
      refine z_xP zt34 28 94 [some (.ref 4), some (.int p1), some (.int p2), some (.ref a8)] [.ref a8] rfl rfl ?_
      refine z_xgI zt34 29 rfl zo34 zzf0_105 X k15 (by decide) (by decide) rfl (fun (x65 : Int32) h64 (h66 : 0 ≤ x65.toInt) (h67 : x65.toInt ≤ (9 : Int)) => ?_)
      exact z_xri zt34 30 rfl zzr34 (kk x65 M0 X)
    refine z_xSD zt34 6 rfl rfl (by omega) ?_
    refine z_xP zt34 31 99 [some (.ref 4), some (.int p1), some (.int p2), some (.ref a8)] [.int (-1)] rfl rfl ?_
    have qm1 : (((-1) : Int32)).toInt = (-1) := rfl
    exact z_xri zt34 32 rfl zzr34 (kk (-1) M0 X)
  refine z_xP zt35 5 22 [some (.ref 4), some (.int p1)] [.null] rfl rfl ?_
  refine z_xrn zt35 10 rfl zzr35 ?_
  show z_ev (d + 1) 34 5 [some (.ref 4), some (.int p1), some (.int p2), none] [.null] M0 _
  refine z_xP zt34 2 10 [some (.ref 4), some (.int p1), some (.int p2), some (.null)] [] rfl rfl ?_
  refine z_xP zt34 3 11 [some (.ref 4), some (.int p1), some (.int p2), some (.null)] [.int (-1)] rfl rfl ?_
  have qm1 : (((-1) : Int32)).toInt = (-1) := rfl
  exact z_xri zt34 4 rfl zzr34 (kk (-1) M0 X)
def zw36 : List Nat := []
theorem zC36 {T : List zK} {d : Nat} {K : Option Value → zH → Prop} {p1 : Int32} {p2 : Int32} {M0 : zH} (hW : z_W M0 T)  (hG : z_GG T M0) (kk : ∀ (x : Int32) (M1 : zH), z_X T zw36 M0 M1 → (-1) ≤ x.toInt → x.toInt ≤ 1023 → K (some (.int x)) M1) : z_ev (d + 1) 36 0 [some (.ref 4), some (.int p1), some (.int p2), none] [] M0 K := by
  have X : z_X T zw36 M0 M0 := .refl hW
  refine z_xP zt36 0 2 [some (.ref 4), some (.int p1), some (.int p2), none] [.int p1, .ref 4] rfl rfl ?_
  have f4 : T[4]? = some (.inl (0, 0, 0, 0, 0)) := X.1.k rfl (by decide)
  refine z_xcV (vs := [.ref 4, .int p1]) (r := []) (L2 := [some (.ref 4), some (.int p1)]) zt36 1 rfl zo36 zzcV0_108 (Or.inl rfl) rfl X f4 rfl rfl rfl (Nat.le_of_ble_eq_true rfl) zzm37 (Nat.le_of_ble_eq_true rfl) rfl ?_
  refine z_xP zt37 0 1 [some (.ref 4), some (.int p1)] [.int p1] rfl rfl ?_
  refine z_xZ zt37 1 rfl rfl (fun (h1 : p1.toInt < 0) => ?_) (fun (h1 : 0 ≤ p1.toInt) => ?_)
  · skip
    refine z_xP zt37 5 25 [some (.ref 4), some (.int p1)] [.null] rfl rfl ?_
    refine z_xrn zt37 11 rfl zzr37 ?_
    show z_ev (d + 1) 36 5 [some (.ref 4), some (.int p1), some (.int p2), none] [.null] M0 _
    refine z_xP zt36 2 23 [some (.ref 4), some (.int p1), some (.int p2), some (.null)] [] rfl rfl ?_
    refine z_xP zt36 9 24 [some (.ref 4), some (.int p1), some (.int p2), some (.null)] [.int (-1)] rfl rfl ?_
    have qm1 : (((-1) : Int32)).toInt = (-1) := rfl
    exact z_xri zt36 10 rfl zzr36 (kk (-1) M0 X (by omega) (by omega))
  refine z_xP zt37 2 6 [some (.ref 4), some (.int p1)] [.ref 4, .int p1] rfl rfl ?_
  refine z_xgI zt37 3 rfl zo37 zzf0_59 X f4 (by decide) (by decide) rfl (fun (x3 : Int32) h2 (h4 : 0 ≤ x3.toInt) (h5 : x3.toInt ≤ 8) => ?_)
  have h6 := z_b32 p1
  refine z_xJ zt37 4 rfl rfl (fun (h7 : p1.toInt < x3.toInt) => ?_) (fun (h7 : x3.toInt ≤ p1.toInt) => ?_)
  · skip
    refine z_xP zt37 6 17 [some (.ref 4), some (.int p1)] [.ref 4] rfl rfl ?_
    refine z_xgX (b := 10) zt37 7 rfl zo37 zzf0_18 X f4 (by decide) (by decide) rfl ?_
    refine z_xP zt37 8 21 [some (.ref 4), some (.int p1)] [.int p1, .ref 10] rfl rfl ?_
    have f10 : T[10]? = some (.inr (10, 2, 8, 9, 0)) := X.1.k rfl (by decide)
    refine z_xal zt37 9 rfl X f10 (by decide) (by decide) (by decide) (by omega) (by omega) (fun (a8 : Nat) h9 h10 => ?_) (fun h11 => absurd h11 (z_Gs (hG.go X (by decide)).2.1 h2 (by omega) (by omega)))
    obtain ⟨q12, t13, m14, k15⟩ : ∃ q t m, T[a8]? = some (.inl (3, q, t, m, 9)) := h10
    have g16 := X.1.p3 k15
    refine z_xgR (κ := .inl (2, q12, t13, m14, 0)) zt37 10 rfl zo37 zzf0_89 X k15 (by decide) (by decide) rfl (fun (a18 : Nat) h17 k19 => ?_)
    have g20 := X.1.p2 k19
    refine z_xra zt37 11 rfl zzr37 ?_
    show z_ev (d + 1) 36 5 [some (.ref 4), some (.int p1), some (.int p2), none] [.ref a18] M0 _
    refine z_xP zt36 2 10 [some (.ref 4), some (.int p1), some (.int p2), some (.ref a18)] [] rfl rfl ?_
    refine z_xP zt36 3 11 [some (.ref 4), some (.int p1), some (.int p2), some (.ref a18)] [.int p2] rfl rfl ?_
    refine z_xZ zt36 4 rfl rfl (fun (h21 : p2.toInt < 0) => ?_) (fun (h21 : 0 ≤ p2.toInt) => ?_)
    · skip
      refine z_xP zt36 9 24 [some (.ref 4), some (.int p1), some (.int p2), some (.ref a18)] [.int (-1)] rfl rfl ?_
      have qm1 : (((-1) : Int32)).toInt = (-1) := rfl
      exact z_xri zt36 10 rfl zzr36 (kk (-1) M0 X (by omega) (by omega))
    refine z_xP zt36 5 16 [some (.ref 4), some (.int p1), some (.int p2), some (.ref a18)] [.ref a18, .int p2] rfl rfl ?_
    refine z_xgR (κ := .inr (102, 0, m14, 0, 1023)) zt36 6 rfl zo36 zzf0_74 X k19 (by decide) (by decide) rfl (fun (a23 : Nat) h22 k24 => ?_)
    refine z_xln zt36 7 rfl X k24 (by decide) (by omega) (fun (x25 : Int32) (h26 : x25.toInt = ((m14 : Nat) : Int)) => ?_)
    have h27 := z_b32 p2
    refine z_xJ zt36 8 rfl rfl (fun (h28 : p2.toInt < x25.toInt) => ?_) (fun (h28 : x25.toInt ≤ p2.toInt) => ?_)
    · skip
      refine z_xP zt36 11 26 [some (.ref 4), some (.int p1), some (.int p2), some (.ref a18)] [.ref a18] rfl rfl ?_
      refine z_xgv zt36 12 rfl zo36 zzf0_74 X k19 (by decide) h22 ?_
      refine z_xP zt36 13 30 [some (.ref 4), some (.int p1), some (.int p2), some (.ref a18)] [.int p2, .ref a23] rfl rfl ?_
      refine z_xil zt36 14 rfl X k24 (by decide) (by omega) (by omega) (fun (x29 : Int32) h30 (h31 : 0 ≤ x29.toInt) (h32 : x29.toInt ≤ 1023) => ?_)
      exact z_xri zt36 15 rfl zzr36 (kk x29 M0 X (by omega) (by omega))
    refine z_xP zt36 9 24 [some (.ref 4), some (.int p1), some (.int p2), some (.ref a18)] [.int (-1)] rfl rfl ?_
    have qm1 : (((-1) : Int32)).toInt = (-1) := rfl
    exact z_xri zt36 10 rfl zzr36 (kk (-1) M0 X (by omega) (by omega))
  refine z_xP zt37 5 25 [some (.ref 4), some (.int p1)] [.null] rfl rfl ?_
  refine z_xrn zt37 11 rfl zzr37 ?_
  show z_ev (d + 1) 36 5 [some (.ref 4), some (.int p1), some (.int p2), none] [.null] M0 _
  refine z_xP zt36 2 23 [some (.ref 4), some (.int p1), some (.int p2), some (.null)] [] rfl rfl ?_
  refine z_xP zt36 9 24 [some (.ref 4), some (.int p1), some (.int p2), some (.null)] [.int (-1)] rfl rfl ?_
  have qm1 : (((-1) : Int32)).toInt = (-1) := rfl
  exact z_xri zt36 10 rfl zzr36 (kk (-1) M0 X (by omega) (by omega))
def zw41 : List Nat := []
theorem zB41 {T : List zK} {d : Nat} {K : Option Value → zH → Prop} {a0 : Nat} {q : Nat} {t : Nat} {m : Nat} {p1 : Int32} {p2 : Int32} {M0 : zH} (k0 : T[a0]? = some (.inl (2, q, t, m, 0))) (u2 : 0 ≤ p2.toInt ∧ p2.toInt ≤ 15) (hb0 : p2.toInt < ((z_bl q : Nat) : Int)) (kk : ∀ (x : Int64) (M1 : zH), z_X T zw41 M0 M1 → K (some (.long x)) M1) : ∀ n : Nat, (∀ (M : zH) (b3 : Int32) (b4 : Int32) (b5 : Int32) (b6 : Int64) (b8 : Int32), z_X T zw41 M0 M → 0 ≤ b3.toInt ∧ b3.toInt ≤ 1023 → (-2097152) ≤ b4.toInt ∧ b4.toInt ≤ 2097151 → 0 ≤ b5.toInt ∧ b5.toInt ≤ 960 → 0 ≤ b8.toInt ∧ b8.toInt ≤ 6 → ((0) * 2 + 0) * 7 + (6 - b8.toInt) < (n : Int) → z_ev d 41 49 [some (.ref a0), some (.int p1), some (.int p2), some (.int b3), some (.int b4), some (.int b5), some (.long b6), none, some (.int b8)] [] M K) := by
  intro n
  induction n with
  | zero => exact by intros; exfalso; omega
  | succ n ih =>
    intro M b3 b4 b5 b6 b8 X hh0 hh1 hh2 hh3 hE
    have g0 := X.1.p2 k0
    refine z_xP zt41 20 51 [some (.ref a0), some (.int p1), some (.int p2), some (.int b3), some (.int b4), some (.int b5), some (.long b6), none, some (.int b8)] [.int b8] rfl rfl ?_
    refine z_xgs zt41 21 rfl zo41 zg2_97 ?_
    have f2 : T[2]? = some (.inr (2, 1, 6, 0, 0)) := X.1.k rfl (by decide)
    refine z_xln zt41 22 rfl X f2 (by decide) (by decide) (fun (x1 : Int32) (h2 : x1.toInt = ((6 : Nat) : Int)) => ?_)
    refine z_xJ zt41 23 rfl rfl (fun (h3 : x1.toInt ≤ b8.toInt) => ?_) (fun (h3 : b8.toInt < x1.toInt) => ?_)
    · skip
      refine z_xP zt41 50 111 [some (.ref a0), some (.int p1), some (.int p2), some (.int b3), some (.int b4), some (.int b5), some (.long b6), none, some (.int b8)] [.long b6] rfl rfl ?_
      exact z_xrl zt41 51 rfl zzr41 (kk b6 M X)
    refine z_xP zt41 24 61 [some (.ref a0), some (.int p1), some (.int p2), some (.int b3), some (.int b4), some (.int b5), some (.long b6), none, some (.int b8)] [.int b8, .int b3] rfl rfl ?_
    refine z_xI zt41 25 rfl rfl (fun (x4 : Int32) (h5 : 0 ≤ x4.toInt ∧ x4.toInt ≤ b3.toInt) => ?_) (z_pShrN rfl (by omega))
    refine z_xP zt41 26 63 [some (.ref a0), some (.int p1), some (.int p2), some (.int b3), some (.int b4), some (.int b5), some (.long b6), none, some (.int b8)] [.int 1, .int x4] rfl rfl ?_
    refine z_xI zt41 27 rfl rfl (fun (x6 : Int32) (h7 : 0 ≤ x6.toInt ∧ x6.toInt ≤ x4.toInt ∧ x6.toInt ≤ 1) => ?_) (z_pAnd2 rfl rfl (by omega) (by omega))
    refine z_xZ zt41 28 rfl rfl (fun (h8 : x6.toInt = 0) => ?_) (fun (h8 : x6.toInt ≠ 0) => ?_)
    · skip
      refine z_xP zt41 35 82 [some (.ref a0), some (.int p1), some (.int p2), some (.int b3), some (.int b4), some (.int b5), some (.long b6), none, some (.int b8)] [.int b8, .int b4] rfl rfl ?_
      refine z_xI zt41 36 rfl rfl (P := fun _ => True) (fun (x9 : Int32) _ => ?_) trivial
      refine z_xP zt41 37 84 [some (.ref a0), some (.int p1), some (.int p2), some (.int b3), some (.int b4), some (.int b5), some (.long b6), none, some (.int b8)] [.int 1, .int x9] rfl rfl ?_
      refine z_xI zt41 38 rfl rfl (fun (x11 : Int32) (h12 : 0 ≤ x11.toInt ∧ x11.toInt ≤ 1) => ?_) (z_pAnd rfl (by omega))
      refine z_xZ zt41 39 rfl rfl (fun (h13 : x11.toInt = 0) => ?_) (fun (h13 : x11.toInt ≠ 0) => ?_)
      · skip
        refine z_xN zt41 48 rfl rfl (fun (x14 : Int32) (h15 : x14.toInt = b8.toInt + 1) => ?_) (z_pAdd rfl rfl (by omega) (by omega))
        show z_ev d 41 106 [some (.ref a0), some (.int p1), some (.int p2), some (.int b3), some (.int b4), some (.int b5), some (.long b6), none, some (.int x14)] [] M _
        refine z_xP zt41 49 49 [some (.ref a0), some (.int p1), some (.int p2), some (.int b3), some (.int b4), some (.int b5), some (.long b6), none, some (.int x14)] [] rfl rfl ?_
        exact ih M b3 b4 b5 b6 x14 X ⟨by omega, by omega⟩ ⟨by omega, by omega⟩ ⟨by omega, by omega⟩ ⟨by omega, by omega⟩ (by omega)
      refine z_xP zt41 40 90 [some (.ref a0), some (.int p1), some (.int p2), some (.int b3), some (.int b4), some (.int b5), some (.long b6), none, some (.int b8)] [.long b6] rfl rfl ?_
      refine z_xgs zt41 41 rfl zo41 zg2_97 ?_
      refine z_xP zt41 42 95 [some (.ref a0), some (.int p1), some (.int p2), some (.int b3), some (.int b4), some (.int b5), some (.long b6), none, some (.int b8)] [.int b8, .ref 2, .long b6] rfl rfl ?_
      refine z_xll zt41 43 rfl X f2 (by decide) (by omega) (by omega) (fun (y16 : Int64) => ?_)
      refine z_xl2 zt41 44 rfl zo41 zkl2_38 ?_
      refine z_xL zt41 45 rfl rfl (P := fun _ => True) (fun (y17 : Int64) _ => ?_) trivial
      refine z_xL zt41 46 rfl rfl (P := fun _ => True) (fun (y19 : Int64) _ => ?_) trivial
      refine z_xP zt41 47 103 [some (.ref a0), some (.int p1), some (.int p2), some (.int b3), some (.int b4), some (.int b5), some (.long y19), none, some (.int b8)] [] rfl rfl ?_
      refine z_xN zt41 48 rfl rfl (fun (x21 : Int32) (h22 : x21.toInt = b8.toInt + 1) => ?_) (z_pAdd rfl rfl (by omega) (by omega))
      show z_ev d 41 106 [some (.ref a0), some (.int p1), some (.int p2), some (.int b3), some (.int b4), some (.int b5), some (.long y19), none, some (.int x21)] [] M _
      refine z_xP zt41 49 49 [some (.ref a0), some (.int p1), some (.int p2), some (.int b3), some (.int b4), some (.int b5), some (.long y19), none, some (.int x21)] [] rfl rfl ?_
      exact ih M b3 b4 b5 y19 x21 X ⟨by omega, by omega⟩ ⟨by omega, by omega⟩ ⟨by omega, by omega⟩ ⟨by omega, by omega⟩ (by omega)
    refine z_xP zt41 29 69 [some (.ref a0), some (.int p1), some (.int p2), some (.int b3), some (.int b4), some (.int b5), some (.long b6), none, some (.int b8)] [.long b6] rfl rfl ?_
    refine z_xgs zt41 30 rfl zo41 zg2_97 ?_
    refine z_xP zt41 31 74 [some (.ref a0), some (.int p1), some (.int p2), some (.int b3), some (.int b4), some (.int b5), some (.long b6), none, some (.int b8)] [.int b8, .ref 2, .long b6] rfl rfl ?_
    refine z_xll zt41 32 rfl X f2 (by decide) (by omega) (by omega) (fun (y23 : Int64) => ?_)
    refine z_xL zt41 33 rfl rfl (P := fun _ => True) (fun (y24 : Int64) _ => ?_) trivial
    refine z_xP zt41 34 78 [some (.ref a0), some (.int p1), some (.int p2), some (.int b3), some (.int b4), some (.int b5), some (.long y24), none, some (.int b8)] [] rfl rfl ?_
    refine z_xP zt41 35 82 [some (.ref a0), some (.int p1), some (.int p2), some (.int b3), some (.int b4), some (.int b5), some (.long y24), none, some (.int b8)] [.int b8, .int b4] rfl rfl ?_
    refine z_xI zt41 36 rfl rfl (P := fun _ => True) (fun (x26 : Int32) _ => ?_) trivial
    refine z_xP zt41 37 84 [some (.ref a0), some (.int p1), some (.int p2), some (.int b3), some (.int b4), some (.int b5), some (.long y24), none, some (.int b8)] [.int 1, .int x26] rfl rfl ?_
    refine z_xI zt41 38 rfl rfl (fun (x28 : Int32) (h29 : 0 ≤ x28.toInt ∧ x28.toInt ≤ 1) => ?_) (z_pAnd rfl (by omega))
    refine z_xZ zt41 39 rfl rfl (fun (h30 : x28.toInt = 0) => ?_) (fun (h30 : x28.toInt ≠ 0) => ?_)
    · skip
      refine z_xN zt41 48 rfl rfl (fun (x31 : Int32) (h32 : x31.toInt = b8.toInt + 1) => ?_) (z_pAdd rfl rfl (by omega) (by omega))
      show z_ev d 41 106 [some (.ref a0), some (.int p1), some (.int p2), some (.int b3), some (.int b4), some (.int b5), some (.long y24), none, some (.int x31)] [] M _
      refine z_xP zt41 49 49 [some (.ref a0), some (.int p1), some (.int p2), some (.int b3), some (.int b4), some (.int b5), some (.long y24), none, some (.int x31)] [] rfl rfl ?_
      exact ih M b3 b4 b5 y24 x31 X ⟨by omega, by omega⟩ ⟨by omega, by omega⟩ ⟨by omega, by omega⟩ ⟨by omega, by omega⟩ (by omega)
    refine z_xP zt41 40 90 [some (.ref a0), some (.int p1), some (.int p2), some (.int b3), some (.int b4), some (.int b5), some (.long y24), none, some (.int b8)] [.long y24] rfl rfl ?_
    refine z_xgs zt41 41 rfl zo41 zg2_97 ?_
    refine z_xP zt41 42 95 [some (.ref a0), some (.int p1), some (.int p2), some (.int b3), some (.int b4), some (.int b5), some (.long y24), none, some (.int b8)] [.int b8, .ref 2, .long y24] rfl rfl ?_
    refine z_xll zt41 43 rfl X f2 (by decide) (by omega) (by omega) (fun (y33 : Int64) => ?_)
    refine z_xl2 zt41 44 rfl zo41 zkl2_38 ?_
    refine z_xL zt41 45 rfl rfl (P := fun _ => True) (fun (y34 : Int64) _ => ?_) trivial
    refine z_xL zt41 46 rfl rfl (P := fun _ => True) (fun (y36 : Int64) _ => ?_) trivial
    refine z_xP zt41 47 103 [some (.ref a0), some (.int p1), some (.int p2), some (.int b3), some (.int b4), some (.int b5), some (.long y36), none, some (.int b8)] [] rfl rfl ?_
    refine z_xN zt41 48 rfl rfl (fun (x38 : Int32) (h39 : x38.toInt = b8.toInt + 1) => ?_) (z_pAdd rfl rfl (by omega) (by omega))
    show z_ev d 41 106 [some (.ref a0), some (.int p1), some (.int p2), some (.int b3), some (.int b4), some (.int b5), some (.long y36), none, some (.int x38)] [] M _
    refine z_xP zt41 49 49 [some (.ref a0), some (.int p1), some (.int p2), some (.int b3), some (.int b4), some (.int b5), some (.long y36), none, some (.int x38)] [] rfl rfl ?_
    exact ih M b3 b4 b5 y36 x38 X ⟨by omega, by omega⟩ ⟨by omega, by omega⟩ ⟨by omega, by omega⟩ ⟨by omega, by omega⟩ (by omega)
theorem zC41 {T : List zK} {d : Nat} {K : Option Value → zH → Prop} {a0 : Nat} {q : Nat} {t : Nat} {m : Nat} {p1 : Int32} {p2 : Int32} {M0 : zH} (hW : z_W M0 T) (k0 : T[a0]? = some (.inl (2, q, t, m, 0))) (u2 : 0 ≤ p2.toInt ∧ p2.toInt ≤ 15) (hb0 : p2.toInt < ((z_bl q : Nat) : Int)) (kk : ∀ (x : Int64) (M1 : zH), z_X T zw41 M0 M1 → K (some (.long x)) M1) : z_ev d 41 0 [some (.ref a0), some (.int p1), some (.int p2), none, none, none, none, none, none] [] M0 K := by
  have X : z_X T zw41 M0 M0 := .refl hW
  have g0 := X.1.p2 k0
  refine z_xP zt41 0 4 [some (.ref a0), some (.int p1), some (.int p2), none, none, none, none, none, none] [.int 1023, .int p1] rfl rfl ?_
  refine z_xI zt41 1 rfl rfl (fun (x1 : Int32) (h2 : 0 ≤ x1.toInt ∧ x1.toInt ≤ 1023) => ?_) (z_pAnd rfl (by omega))
  refine z_xP zt41 2 9 [some (.ref a0), some (.int p1), some (.int p2), some (.int x1), none, none, none, none, none] [.int 10, .int p1] rfl rfl ?_
  have h3 := z_b32 p1
  refine z_xI zt41 3 rfl rfl (fun (x4 : Int32) (h5 : x4.toInt = p1.toInt / 1024) => ?_) (z_pShr (c := 1024) 10 rfl rfl (by decide))
  refine z_xP zt41 4 15 [some (.ref a0), some (.int p1), some (.int p2), some (.int x1), some (.int x4), none, none, none, none] [.int 6, .int p2] rfl rfl ?_
  refine z_xI zt41 5 rfl rfl (fun (x6 : Int32) (h7 : x6.toInt = p2.toInt * 64) => ?_) (z_pShl 6 rfl rfl (by decide) (by decide) (by omega) rfl (by omega))
  refine z_xP zt41 6 21 [some (.ref a0), some (.int p1), some (.int p2), some (.int x1), some (.int x4), some (.int x6), none, none, none] [.int (-64), .int x1] rfl rfl ?_
  refine z_xI zt41 7 rfl rfl (fun (x8 : Int32) (h9 : 0 ≤ x8.toInt ∧ x8.toInt ≤ x1.toInt) => ?_) (z_pAndL rfl (by omega))
  refine z_xP zt41 8 25 [some (.ref a0), some (.int p1), some (.int p2), some (.int x1), some (.int x4), some (.int x6), none, none, none] [.int (-1), .int x6, .int x8] rfl rfl ?_
  refine z_xI zt41 9 rfl rfl (P := fun _ => True) (fun (x10 : Int32) _ => ?_) trivial
  refine z_xI zt41 10 rfl rfl (fun (x12 : Int32) (h13 : 0 ≤ x12.toInt ∧ x12.toInt ≤ x8.toInt) => ?_) (z_pAndL rfl (by omega))
  refine z_xZ zt41 11 rfl rfl (fun (h14 : x12.toInt ≠ 0) => ?_) (fun (h14 : x12.toInt = 0) => ?_)
  · skip
    refine z_xP zt41 15 39 [some (.ref a0), some (.int p1), some (.int p2), some (.int x1), some (.int x4), some (.int x6), none, none, none] [.long 0] rfl rfl ?_
    have q0 : ((0 : Int64)).toInt = 0 := rfl
    exact z_xrl zt41 16 rfl zzr41 (kk 0 M0 X)
  refine z_xP zt41 12 34 [some (.ref a0), some (.int p1), some (.int p2), some (.int x1), some (.int x4), some (.int x6), none, none, none] [.int x6, .int x4] rfl rfl ?_
  refine z_xI zt41 13 rfl rfl (fun (x15 : Int32) (h16 : 0 ≤ x15.toInt ∧ x15.toInt ≤ x6.toInt) => ?_) (z_pAnd rfl (by omega))
  refine z_xZ zt41 14 rfl rfl (fun (h17 : x15.toInt = 0) => ?_) (fun (h17 : x15.toInt ≠ 0) => ?_)
  · skip
    refine z_xP zt41 17 41 [some (.ref a0), some (.int p1), some (.int p2), some (.int x1), some (.int x4), some (.int x6), none, none, none] [.ref a0] rfl rfl ?_
    refine z_xgL zt41 18 rfl zo41 zzf2_40 X k0 (by decide) (by decide) rfl (fun (y19 : Int64) h18 => ?_)
    refine z_xP zt41 19 49 [some (.ref a0), some (.int p1), some (.int p2), some (.int x1), some (.int x4), some (.int x6), some (.long y19), none, some (.int 0)] [] rfl rfl ?_
    have q0 : ((0 : Int32)).toInt = 0 := rfl
    exact (zB41 k0 u2 hb0 kk 14) M0 x1 x4 x6 y19 (0) X ⟨by omega, by omega⟩ ⟨by omega, by omega⟩ ⟨by omega, by omega⟩ (by decide) (by omega)
  refine z_xP zt41 15 39 [some (.ref a0), some (.int p1), some (.int p2), some (.int x1), some (.int x4), some (.int x6), none, none, none] [.long 0] rfl rfl ?_
  have q0 : ((0 : Int64)).toInt = 0 := rfl
  exact z_xrl zt41 16 rfl zzr41 (kk 0 M0 X)
def zw40 : List Nat := []
theorem zB40 {T : List zK} {d : Nat} {K : Option Value → zH → Prop} {a0 : Nat} {q : Nat} {t : Nat} {m : Nat} {p1 : Int32} {M0 : zH} (k0 : T[a0]? = some (.inl (2, q, t, m, 0))) (kk : ∀ (x : Int32) (M1 : zH), z_X T zw40 M0 M1 → 0 ≤ x.toInt → x.toInt ≤ 255 → K (some (.int x)) M1) : ∀ n : Nat, (∀ (M : zH) (b2 : Int32) (b3 : Int32) (o4 : Option Value) (o6 : Option Value), z_X T zw40 M0 M → 0 ≤ b2.toInt ∧ b2.toInt ≤ 255 → 0 ≤ b3.toInt ∧ b3.toInt ≤ 16 → ((((0) * 3 + 1) * 17 + (16 - b3.toInt)) * 3 + 2) * 9 + (0) < (n : Int) → z_ev (d + 1) 40 11 [some (.ref a0), some (.int p1), some (.int b2), some (.int b3), o4, none, o6] [] M K) ∧ (∀ (M : zH) (b2 : Int32) (b3 : Int32) (b4 : Int64) (b6 : Int32), z_X T zw40 M0 M → 0 ≤ b2.toInt ∧ b2.toInt ≤ 255 → 0 ≤ b3.toInt ∧ b3.toInt ≤ 15 → 0 ≤ b6.toInt ∧ b6.toInt ≤ 8 → b3.toInt < ((z_bl q : Nat) : Int) → ((((0) * 3 + 1) * 17 + (16 - b3.toInt)) * 3 + 0) * 9 + (8 - b6.toInt) < (n : Int) → z_ev (d + 1) 40 30 [some (.ref a0), some (.int p1), some (.int b2), some (.int b3), some (.long b4), none, some (.int b6)] [] M K) := by
  intro n
  induction n with
  | zero => exact ⟨(by intros; exfalso; omega), (by intros; exfalso; omega)⟩
  | succ n ih =>
    refine ⟨?_, ?_⟩
    · skip
      intro M b2 b3 o4 o6 X hh0 hh1 hE
      have g0 := X.1.p2 k0
      refine z_xP zt40 6 13 [some (.ref a0), some (.int p1), some (.int b2), some (.int b3), o4, none, o6] [.ref a0, .int b3] rfl rfl ?_
      refine z_xgI zt40 7 rfl zo40 zzf2_35 X k0 (by decide) (by decide) rfl (fun (x2 : Int32) h1 (h3 : ((z_bl q : Nat) : Int) ≤ x2.toInt) (h4 : x2.toInt ≤ ((z_bl q : Nat) : Int)) => ?_)
      refine z_xJ zt40 8 rfl rfl (fun (h5 : x2.toInt ≤ b3.toInt) => ?_) (fun (h5 : b3.toInt < x2.toInt) => ?_)
      · skip
        refine z_xP zt40 40 90 [some (.ref a0), some (.int p1), some (.int b2), some (.int b3), o4, none, o6] [.int b2] rfl rfl ?_
        exact z_xri zt40 41 rfl zzr40 (kk b2 M X (by omega) (by omega))
      refine z_xP zt40 9 22 [some (.ref a0), some (.int p1), some (.int b2), some (.int b3), o4, none, o6] [.int b3, .int p1, .ref a0] rfl rfl ?_
      refine z_xcV (vs := [.ref a0, .int p1, .int b3]) (r := []) (L2 := [some (.ref a0), some (.int p1), some (.int b3), none, none, none, none, none, none]) zt40 10 rfl zo40 zzcV2_94 (Or.inl rfl) rfl X k0 rfl rfl rfl (Nat.le_of_ble_eq_true rfl) zzm41 (Nat.le_of_ble_eq_true rfl) rfl ?_
      refine zC41 X.1 k0 (by omega) (by omega) (fun y8 M6 X7  => ?_)
      have X9 := X.go X7 (z_sb (by decide))
      show z_ev (d + 1) 40 25 [some (.ref a0), some (.int p1), some (.int b2), some (.int b3), o4, none, o6] [.long y8] M6 _
      refine z_xP zt40 11 30 [some (.ref a0), some (.int p1), some (.int b2), some (.int b3), some (.long y8), none, some (.int 0)] [] rfl rfl ?_
      have q0 : ((0 : Int32)).toInt = 0 := rfl
      exact ih.2 M6 b2 b3 y8 (0) X9 ⟨by omega, by omega⟩ ⟨by omega, by omega⟩ (by decide) (by omega) (by omega)
    · skip
      intro M b2 b3 b4 b6 X hh0 hh1 hh2 hh3 hE
      have g0 := X.1.p2 k0
      refine z_xP zt40 12 33 [some (.ref a0), some (.int p1), some (.int b2), some (.int b3), some (.long b4), none, some (.int b6)] [.ref a0, .int b6] rfl rfl ?_
      refine z_xgI zt40 13 rfl zo40 zzf2_25 X k0 (by decide) (by decide) rfl (fun (x2 : Int32) h1 (h3 : (t : Int) ≤ x2.toInt) (h4 : x2.toInt ≤ (t : Int)) => ?_)
      refine z_xJ zt40 14 rfl rfl (fun (h5 : x2.toInt ≤ b6.toInt) => ?_) (fun (h5 : b6.toInt < x2.toInt) => ?_)
      · skip
        refine z_xN zt40 38 rfl rfl (fun (x6 : Int32) (h7 : x6.toInt = b3.toInt + 1) => ?_) (z_pAdd rfl rfl (by omega) (by omega))
        show z_ev (d + 1) 40 86 [some (.ref a0), some (.int p1), some (.int b2), some (.int x6), some (.long b4), none, some (.int b6)] [] M _
        refine z_xP zt40 39 11 [some (.ref a0), some (.int p1), some (.int b2), some (.int x6), some (.long b4), none, some (.int b6)] [] rfl rfl ?_
        exact ih.1 M b2 x6 (some (.long b4)) (some (.int b6)) X ⟨by omega, by omega⟩ ⟨by omega, by omega⟩ (by omega)
      refine z_xP zt40 15 42 [some (.ref a0), some (.int p1), some (.int b2), some (.int b3), some (.long b4), none, some (.int b6)] [.long 0, .long b4] rfl rfl ?_
      refine z_xI zt40 16 rfl rfl (fun (x8 : Int32) (h9 : (x8.toInt < 0 ∧ b4.toInt < 0) ∨ (x8.toInt = 0 ∧ b4.toInt = 0) ∨ (0 < x8.toInt ∧ 0 < b4.toInt)) => ?_) (z_qCmp rfl rfl)
      refine z_xZ zt40 17 rfl rfl (fun (h10 : x8.toInt = 0) => ?_) (fun (h10 : x8.toInt ≠ 0) => ?_)
      · skip
        refine z_xN zt40 38 rfl rfl (fun (x11 : Int32) (h12 : x11.toInt = b3.toInt + 1) => ?_) (z_pAdd rfl rfl (by omega) (by omega))
        show z_ev (d + 1) 40 86 [some (.ref a0), some (.int p1), some (.int b2), some (.int x11), some (.long b4), none, some (.int b6)] [] M _
        refine z_xP zt40 39 11 [some (.ref a0), some (.int p1), some (.int b2), some (.int x11), some (.long b4), none, some (.int b6)] [] rfl rfl ?_
        exact ih.1 M b2 x11 (some (.long b4)) (some (.int b6)) X ⟨by omega, by omega⟩ ⟨by omega, by omega⟩ (by omega)
      refine z_xP zt40 18 49 [some (.ref a0), some (.int p1), some (.int b2), some (.int b3), some (.long b4), none, some (.int b6)] [.ref a0, .long b4] rfl rfl ?_
      refine z_xgR (κ := .inr (108, 1, t * z_bl q, 0, 0)) zt40 19 rfl zo40 zzf2_28 X k0 (by decide) (by decide) rfl (fun (a14 : Nat) h13 k15 => ?_)
      refine z_xP zt40 20 55 [some (.ref a0), some (.int p1), some (.int b2), some (.int b3), some (.long b4), none, some (.int b6)] [.ref a0, .int b6, .ref a14, .long b4] rfl rfl ?_
      refine z_xgI zt40 21 rfl zo40 zzf2_35 X k0 (by decide) (by decide) rfl (fun (x17 : Int32) h16 (h18 : ((z_bl q : Nat) : Int) ≤ x17.toInt) (h19 : x17.toInt ≤ ((z_bl q : Nat) : Int)) => ?_)
      refine z_xI zt40 22 rfl rfl (fun (x20 : Int32) (h21 : x20.toInt = b6.toInt * x17.toInt ∧ 0 ≤ x20.toInt ∧ x20.toInt ≤ 112) => ?_) (z_pMulB (a := 7) (b := 16) rfl rfl (by omega) (by omega) (by omega) (by omega) (by decide) (by decide))
      refine z_xP zt40 23 60 [some (.ref a0), some (.int p1), some (.int b2), some (.int b3), some (.long b4), none, some (.int b6)] [.int b3, .int x20, .ref a14, .long b4] rfl rfl ?_
      refine z_xI zt40 24 rfl rfl (fun (x22 : Int32) (h23 : x22.toInt = x20.toInt + b3.toInt) => ?_) (z_pAdd rfl rfl (by omega) (by omega))
      have h24 := z_nlx (p := x20.toInt) (x := b6.toInt) (y := x17.toInt) (s := b3.toInt) (z := x22.toInt) (A := t) (B := z_bl q) (by omega) (by omega) (by omega) (by omega) (by omega) (by omega) (by omega)
      refine z_xll zt40 25 rfl X k15 (by decide) h24.1 h24.2 (fun (y25 : Int64) => ?_)
      refine z_xL zt40 26 rfl rfl (P := fun _ => True) (fun (y26 : Int64) _ => ?_) trivial
      refine z_xP zt40 27 64 [some (.ref a0), some (.int p1), some (.int b2), some (.int b3), some (.long b4), none, some (.int b6)] [.long 0, .long y26] rfl rfl ?_
      refine z_xI zt40 28 rfl rfl (fun (x28 : Int32) (h29 : (x28.toInt < 0 ∧ y26.toInt < 0) ∨ (x28.toInt = 0 ∧ y26.toInt = 0) ∨ (0 < x28.toInt ∧ 0 < y26.toInt)) => ?_) (z_qCmp rfl rfl)
      refine z_xZ zt40 29 rfl rfl (fun (h30 : x28.toInt = 0) => ?_) (fun (h30 : x28.toInt ≠ 0) => ?_)
      · skip
        refine z_xN zt40 36 rfl rfl (fun (x31 : Int32) (h32 : x31.toInt = b6.toInt + 1) => ?_) (z_pAdd rfl rfl (by omega) (by omega))
        show z_ev (d + 1) 40 80 [some (.ref a0), some (.int p1), some (.int b2), some (.int b3), some (.long b4), none, some (.int x31)] [] M _
        refine z_xP zt40 37 30 [some (.ref a0), some (.int p1), some (.int b2), some (.int b3), some (.long b4), none, some (.int x31)] [] rfl rfl ?_
        exact ih.2 M b2 b3 b4 x31 X ⟨by omega, by omega⟩ ⟨by omega, by omega⟩ ⟨by omega, by omega⟩ (by omega) (by omega)
      refine z_xP zt40 30 72 [some (.ref a0), some (.int p1), some (.int b2), some (.int b3), some (.long b4), none, some (.int b6)] [.int b6, .int 1, .int b2] rfl rfl ?_
      refine z_xI zt40 31 rfl rfl (fun (x33 : Int32) (h34 : 1 ≤ x33.toInt ∧ x33.toInt ≤ 128) => ?_) (z_pShlB (a := 1) (b := 7) (c := 128) (r := 128) rfl rfl (by omega) (by omega) (by omega) (by omega) (by decide) (by decide) (by decide) (by decide))
      refine z_xP zt40 32 74 [some (.ref a0), some (.int p1), some (.int b2), some (.int b3), some (.long b4), none, some (.int b6)] [.int (-1), .int x33, .int b2] rfl rfl ?_
      refine z_xI zt40 33 rfl rfl (P := fun _ => True) (fun (x35 : Int32) _ => ?_) trivial
      refine z_xI zt40 34 rfl rfl (fun (x37 : Int32) (h38 : 0 ≤ x37.toInt ∧ x37.toInt ≤ b2.toInt) => ?_) (z_pAndL rfl (by omega))
      refine z_xP zt40 35 77 [some (.ref a0), some (.int p1), some (.int x37), some (.int b3), some (.long b4), none, some (.int b6)] [] rfl rfl ?_
      refine z_xN zt40 36 rfl rfl (fun (x39 : Int32) (h40 : x39.toInt = b6.toInt + 1) => ?_) (z_pAdd rfl rfl (by omega) (by omega))
      show z_ev (d + 1) 40 80 [some (.ref a0), some (.int p1), some (.int x37), some (.int b3), some (.long b4), none, some (.int x39)] [] M _
      refine z_xP zt40 37 30 [some (.ref a0), some (.int p1), some (.int x37), some (.int b3), some (.long b4), none, some (.int x39)] [] rfl rfl ?_
      exact ih.2 M x37 b3 b4 x39 X ⟨by omega, by omega⟩ ⟨by omega, by omega⟩ ⟨by omega, by omega⟩ (by omega) (by omega)
theorem zC40 {T : List zK} {d : Nat} {K : Option Value → zH → Prop} {a0 : Nat} {q : Nat} {t : Nat} {m : Nat} {p1 : Int32} {M0 : zH} (hW : z_W M0 T) (k0 : T[a0]? = some (.inl (2, q, t, m, 0))) (kk : ∀ (x : Int32) (M1 : zH), z_X T zw40 M0 M1 → 0 ≤ x.toInt → x.toInt ≤ 255 → K (some (.int x)) M1) : z_ev (d + 1) 40 0 [some (.ref a0), some (.int p1), none, none, none, none, none] [] M0 K := by
  have X : z_X T zw40 M0 M0 := .refl hW
  have g0 := X.1.p2 k0
  refine z_xP zt40 0 2 [some (.ref a0), some (.int p1), none, none, none, none, none] [.ref a0, .int 1] rfl rfl ?_
  refine z_xgI zt40 1 rfl zo40 zzf2_25 X k0 (by decide) (by decide) rfl (fun (x2 : Int32) h1 (h3 : (t : Int) ≤ x2.toInt) (h4 : x2.toInt ≤ (t : Int)) => ?_)
  refine z_xI zt40 2 rfl rfl (fun (x5 : Int32) (h6 : 1 ≤ x5.toInt ∧ x5.toInt ≤ 256) => ?_) (z_pShlB (a := 1) (b := 8) (c := 256) (r := 256) rfl rfl (by omega) (by omega) (by omega) (by omega) (by decide) (by decide) (by decide) (by decide))
  refine z_xP zt40 3 7 [some (.ref a0), some (.int p1), none, none, none, none, none] [.int 1, .int x5] rfl rfl ?_
  refine z_xI zt40 4 rfl rfl (fun (x7 : Int32) (h8 : x7.toInt = x5.toInt - 1) => ?_) (z_pSub rfl rfl (by omega) (by omega))
  refine z_xP zt40 5 11 [some (.ref a0), some (.int p1), some (.int x7), some (.int 0), none, none, none] [] rfl rfl ?_
  have q0 : ((0 : Int32)).toInt = 0 := rfl
  exact (zB40 k0 kk 1377).1 M0 x7 (0) none none X ⟨by omega, by omega⟩ (by decide) (by omega)
def zw38 : List Nat := []
theorem zC38 {T : List zK} {d : Nat} {K : Option Value → zH → Prop} {p1 : Int32} {p2 : Int32} {M0 : zH} (hW : z_W M0 T)  (hG : z_GG T M0) (kk : ∀ (x : Int32) (M1 : zH), z_X T zw38 M0 M1 → (-1) ≤ x.toInt → x.toInt ≤ 255 → K (some (.int x)) M1) : z_ev (d + 2) 38 0 [some (.ref 4), some (.int p1), some (.int p2), none] [] M0 K := by
  have X : z_X T zw38 M0 M0 := .refl hW
  refine z_xP zt38 0 2 [some (.ref 4), some (.int p1), some (.int p2), none] [.int p1, .ref 4] rfl rfl ?_
  have f4 : T[4]? = some (.inl (0, 0, 0, 0, 0)) := X.1.k rfl (by decide)
  refine z_xcV (vs := [.ref 4, .int p1]) (r := []) (L2 := [some (.ref 4), some (.int p1)]) zt38 1 rfl zo38 zzcV0_108 (Or.inl rfl) rfl X f4 rfl rfl rfl (Nat.le_of_ble_eq_true rfl) zzm37 (Nat.le_of_ble_eq_true rfl) rfl ?_
  refine z_xP zt37 0 1 [some (.ref 4), some (.int p1)] [.int p1] rfl rfl ?_
  refine z_xZ zt37 1 rfl rfl (fun (h1 : p1.toInt < 0) => ?_) (fun (h1 : 0 ≤ p1.toInt) => ?_)
  · skip
    refine z_xP zt37 5 25 [some (.ref 4), some (.int p1)] [.null] rfl rfl ?_
    refine z_xrn zt37 11 rfl zzr37 ?_
    show z_ev (d + 2) 38 5 [some (.ref 4), some (.int p1), some (.int p2), none] [.null] M0 _
    refine z_xP zt38 2 18 [some (.ref 4), some (.int p1), some (.int p2), some (.null)] [] rfl rfl ?_
    refine z_xP zt38 6 19 [some (.ref 4), some (.int p1), some (.int p2), some (.null)] [.int (-1)] rfl rfl ?_
    have qm1 : (((-1) : Int32)).toInt = (-1) := rfl
    exact z_xri zt38 7 rfl zzr38 (kk (-1) M0 X (by omega) (by omega))
  refine z_xP zt37 2 6 [some (.ref 4), some (.int p1)] [.ref 4, .int p1] rfl rfl ?_
  refine z_xgI zt37 3 rfl zo37 zzf0_59 X f4 (by decide) (by decide) rfl (fun (x3 : Int32) h2 (h4 : 0 ≤ x3.toInt) (h5 : x3.toInt ≤ 8) => ?_)
  have h6 := z_b32 p1
  refine z_xJ zt37 4 rfl rfl (fun (h7 : p1.toInt < x3.toInt) => ?_) (fun (h7 : x3.toInt ≤ p1.toInt) => ?_)
  · skip
    refine z_xP zt37 6 17 [some (.ref 4), some (.int p1)] [.ref 4] rfl rfl ?_
    refine z_xgX (b := 10) zt37 7 rfl zo37 zzf0_18 X f4 (by decide) (by decide) rfl ?_
    refine z_xP zt37 8 21 [some (.ref 4), some (.int p1)] [.int p1, .ref 10] rfl rfl ?_
    have f10 : T[10]? = some (.inr (10, 2, 8, 9, 0)) := X.1.k rfl (by decide)
    refine z_xal zt37 9 rfl X f10 (by decide) (by decide) (by decide) (by omega) (by omega) (fun (a8 : Nat) h9 h10 => ?_) (fun h11 => absurd h11 (z_Gs (hG.go X (by decide)).2.1 h2 (by omega) (by omega)))
    obtain ⟨q12, t13, m14, k15⟩ : ∃ q t m, T[a8]? = some (.inl (3, q, t, m, 9)) := h10
    have g16 := X.1.p3 k15
    refine z_xgR (κ := .inl (2, q12, t13, m14, 0)) zt37 10 rfl zo37 zzf0_89 X k15 (by decide) (by decide) rfl (fun (a18 : Nat) h17 k19 => ?_)
    have g20 := X.1.p2 k19
    refine z_xra zt37 11 rfl zzr37 ?_
    show z_ev (d + 2) 38 5 [some (.ref 4), some (.int p1), some (.int p2), none] [.ref a18] M0 _
    refine z_xP zt38 2 10 [some (.ref 4), some (.int p1), some (.int p2), some (.ref a18)] [] rfl rfl ?_
    refine z_xP zt38 3 12 [some (.ref 4), some (.int p1), some (.int p2), some (.ref a18)] [.int p2, .ref a18] rfl rfl ?_
    refine z_xcV (vs := [.ref a18, .int p2]) (r := []) (L2 := [some (.ref a18), some (.int p2)]) zt38 4 rfl zo38 zzcV0_112 (Or.inl rfl) rfl X k19 rfl rfl rfl (Nat.le_of_ble_eq_true rfl) zzm28 (Nat.le_of_ble_eq_true rfl) rfl ?_
    refine z_xP zt28 0 1 [some (.ref a18), some (.int p2)] [.int p2] rfl rfl ?_
    refine z_xZ zt28 1 rfl rfl (fun (h21 : p2.toInt < 0) => ?_) (fun (h21 : 0 ≤ p2.toInt) => ?_)
    · skip
      refine z_xP zt28 6 17 [some (.ref a18), some (.int p2)] [.int 0] rfl rfl ?_
      refine z_xrz zt28 7 rfl zzr28 (by decide) (by decide) ?_
      show z_ev (d + 2) 38 15 [some (.ref 4), some (.int p1), some (.int p2), some (.ref a18)] [.int 0] M0 _
      refine z_xZ zt38 5 rfl rfl (fun (h22 : (0 : Int) ≠ 0) => absurd h22 (by omega)) (fun (h22 : (0 : Int) = 0) => ?_)
      refine z_xP zt38 6 19 [some (.ref 4), some (.int p1), some (.int p2), some (.ref a18)] [.int (-1)] rfl rfl ?_
      have qm1 : (((-1) : Int32)).toInt = (-1) := rfl
      exact z_xri zt38 7 rfl zzr38 (kk (-1) M0 X (by omega) (by omega))
    refine z_xP zt28 2 6 [some (.ref a18), some (.int p2)] [.ref a18, .int p2] rfl rfl ?_
    refine z_xgI zt28 3 rfl zo28 zzf2_32 X k19 (by decide) (by decide) rfl (fun (x24 : Int32) h23 (h25 : ((z_po q12 : Nat) : Int) - 1 ≤ x24.toInt) (h26 : x24.toInt ≤ ((z_po q12 : Nat) : Int) - 1) => ?_)
    have h27 := z_b32 p2
    refine z_xJ zt28 4 rfl rfl (fun (h28 : x24.toInt < p2.toInt) => ?_) (fun (h28 : p2.toInt ≤ x24.toInt) => ?_)
    · skip
      refine z_xP zt28 6 17 [some (.ref a18), some (.int p2)] [.int 0] rfl rfl ?_
      refine z_xrz zt28 7 rfl zzr28 (by decide) (by decide) ?_
      show z_ev (d + 2) 38 15 [some (.ref 4), some (.int p1), some (.int p2), some (.ref a18)] [.int 0] M0 _
      refine z_xZ zt38 5 rfl rfl (fun (h29 : (0 : Int) ≠ 0) => absurd h29 (by omega)) (fun (h29 : (0 : Int) = 0) => ?_)
      refine z_xP zt38 6 19 [some (.ref 4), some (.int p1), some (.int p2), some (.ref a18)] [.int (-1)] rfl rfl ?_
      have qm1 : (((-1) : Int32)).toInt = (-1) := rfl
      exact z_xri zt38 7 rfl zzr38 (kk (-1) M0 X (by omega) (by omega))
    refine z_xP zt28 5 17 [some (.ref a18), some (.int p2)] [.int 1] rfl rfl ?_
    refine z_xrz zt28 7 rfl zzr28 (by decide) (by decide) ?_
    show z_ev (d + 2) 38 15 [some (.ref 4), some (.int p1), some (.int p2), some (.ref a18)] [.int 1] M0 _
    refine z_xZ zt38 5 rfl rfl (fun (h30 : (1 : Int) ≠ 0) => ?_) (fun (h30 : (1 : Int) = 0) => absurd h30 (by omega))
    refine z_xP zt38 8 23 [some (.ref 4), some (.int p1), some (.int p2), some (.ref a18)] [.int p2, .ref a18, .ref a18] rfl rfl ?_
    refine z_xcV (vs := [.ref a18, .int p2]) (r := [.ref a18]) (L2 := [some (.ref a18), some (.int p2)]) zt38 9 rfl zo38 zzcV0_116 (Or.inl rfl) rfl X k19 rfl rfl rfl (Nat.le_of_ble_eq_true rfl) zzm39 (Nat.le_of_ble_eq_true rfl) rfl ?_
    refine z_xP zt39 0 2 [some (.ref a18), some (.int p2)] [.ref a18, .int p2] rfl rfl ?_
    refine z_xgv zt39 1 rfl zo39 zzf2_32 X k19 (by decide) h23 ?_
    refine z_xP zt39 2 7 [some (.ref a18), some (.int p2)] [.int (-1), .int p2, .int x24, .int p2] rfl rfl ?_
    refine z_xI zt39 3 rfl rfl (P := fun _ => True) (fun (x31 : Int32) _ => ?_) trivial
    refine z_xI zt39 4 rfl rfl (fun (x33 : Int32) (h34 : 0 ≤ x33.toInt ∧ x33.toInt ≤ x24.toInt) => ?_) (z_pAndL rfl (by omega))
    refine z_xP zt39 5 11 [some (.ref a18), some (.int p2)] [.int 10, .int x33, .int p2] rfl rfl ?_
    refine z_xI zt39 6 rfl rfl (fun (x35 : Int32) (h36 : x35.toInt = x33.toInt * 1024) => ?_) (z_pShl 10 rfl rfl (by decide) (by decide) (by omega) rfl (by omega))
    refine z_xI zt39 7 rfl rfl (fun (x37 : Int32) (h38 : 0 ≤ x37.toInt ∧ x37.toInt < 1048576 ∧ p2.toInt ≤ x37.toInt ∧ x35.toInt ≤ x37.toInt) => ?_) (z_pOr 20 rfl rfl (by omega) (by omega) (by decide) (by omega) (by omega) (by decide))
    refine z_xri zt39 8 rfl zzr39 ?_
    show z_ev (d + 2) 38 26 [some (.ref 4), some (.int p1), some (.int p2), some (.ref a18)] [.int x37, .ref a18] M0 _
    refine z_xcV (vs := [.ref a18, .int x37]) (r := []) (L2 := [some (.ref a18), some (.int x37), none, none, none, none, none]) zt38 10 rfl zo38 zzcV0_120 (Or.inl rfl) rfl X k19 rfl rfl rfl (Nat.le_of_ble_eq_true rfl) zzm40 (Nat.le_of_ble_eq_true rfl) rfl ?_
    refine zC40 X.1 k19 (fun x41 M39 X40 h42 h43 => ?_)
    have X44 := X.go X40 (z_sb (by decide))
    show z_ev (d + 2) 38 29 [some (.ref 4), some (.int p1), some (.int p2), some (.ref a18)] [.int x41] M39 _
    exact z_xri zt38 11 rfl zzr38 (kk x41 M39 X44 (by omega) (by omega))
  refine z_xP zt37 5 25 [some (.ref 4), some (.int p1)] [.null] rfl rfl ?_
  refine z_xrn zt37 11 rfl zzr37 ?_
  show z_ev (d + 2) 38 5 [some (.ref 4), some (.int p1), some (.int p2), none] [.null] M0 _
  refine z_xP zt38 2 18 [some (.ref 4), some (.int p1), some (.int p2), some (.null)] [] rfl rfl ?_
  refine z_xP zt38 6 19 [some (.ref 4), some (.int p1), some (.int p2), some (.null)] [.int (-1)] rfl rfl ?_
  have qm1 : (((-1) : Int32)).toInt = (-1) := rfl
  exact z_xri zt38 7 rfl zzr38 (kk (-1) M0 X (by omega) (by omega))
def zw45 : List Nat := []
theorem zB45 {T : List zK} {d : Nat} {K : Option Value → zH → Prop} {a0 : Nat} {q : Nat} {t : Nat} {m : Nat} {p1 : Int32} {p2 : Int32} {M0 : zH} (k0 : T[a0]? = some (.inl (2, q, t, m, 0))) (u2 : 0 ≤ p2.toInt ∧ p2.toInt ≤ 15) (hb0 : p2.toInt < ((z_sp m : Nat) : Int)) (kk : ∀ (x : Int64) (M1 : zH), z_X T zw45 M0 M1 → K (some (.long x)) M1) : ∀ n : Nat, (∀ (M : zH) (b3 : Int64) (b5 : Int32), z_X T zw45 M0 M → 0 ≤ b5.toInt ∧ b5.toInt ≤ 10 → ((0) * 2 + 0) * 11 + (10 - b5.toInt) < (n : Int) → z_ev (d + 1) 45 9 [some (.ref a0), some (.int p1), some (.int p2), some (.long b3), none, some (.int b5)] [] M K) := by
  intro n
  induction n with
  | zero => exact by intros; exfalso; omega
  | succ n ih =>
    intro M b3 b5 X hh0 hE
    have g0 := X.1.p2 k0
    refine z_xP zt45 3 12 [some (.ref a0), some (.int p1), some (.int p2), some (.long b3), none, some (.int b5)] [.ref a0, .int b5] rfl rfl ?_
    refine z_xgI zt45 4 rfl zo45 zzf2_15 X k0 (by decide) (by decide) rfl (fun (x2 : Int32) h1 (h3 : (q : Int) ≤ x2.toInt) (h4 : x2.toInt ≤ (q : Int)) => ?_)
    refine z_xJ zt45 5 rfl rfl (fun (h5 : x2.toInt ≤ b5.toInt) => ?_) (fun (h5 : b5.toInt < x2.toInt) => ?_)
    · skip
      refine z_xP zt45 44 90 [some (.ref a0), some (.int p1), some (.int p2), some (.long b3), none, some (.int b5)] [.long b3] rfl rfl ?_
      exact z_xrl zt45 45 rfl zzr45 (kk b3 M X)
    refine z_xP zt45 6 20 [some (.ref a0), some (.int p1), some (.int p2), some (.long b3), none, some (.int b5)] [.long 0, .long b3] rfl rfl ?_
    refine z_xI zt45 7 rfl rfl (fun (x6 : Int32) (h7 : (x6.toInt < 0 ∧ b3.toInt < 0) ∨ (x6.toInt = 0 ∧ b3.toInt = 0) ∨ (0 < x6.toInt ∧ 0 < b3.toInt)) => ?_) (z_qCmp rfl rfl)
    refine z_xZ zt45 8 rfl rfl (fun (h8 : x6.toInt = 0) => ?_) (fun (h8 : x6.toInt ≠ 0) => ?_)
    · skip
      refine z_xP zt45 44 90 [some (.ref a0), some (.int p1), some (.int p2), some (.long b3), none, some (.int b5)] [.long b3] rfl rfl ?_
      exact z_xrl zt45 45 rfl zzr45 (kk b3 M X)
    refine z_xP zt45 9 27 [some (.ref a0), some (.int p1), some (.int p2), some (.long b3), none, some (.int b5)] [.int b5, .int p1] rfl rfl ?_
    have h9 := z_b32 p1
    refine z_xI zt45 10 rfl rfl (P := fun _ => True) (fun (x10 : Int32) _ => ?_) trivial
    refine z_xP zt45 11 29 [some (.ref a0), some (.int p1), some (.int p2), some (.long b3), none, some (.int b5)] [.int 1, .int x10] rfl rfl ?_
    refine z_xI zt45 12 rfl rfl (fun (x12 : Int32) (h13 : 0 ≤ x12.toInt ∧ x12.toInt ≤ 1) => ?_) (z_pAnd rfl (by omega))
    refine z_xZ zt45 13 rfl rfl (fun (h14 : x12.toInt = 0) => ?_) (fun (h14 : x12.toInt ≠ 0) => ?_)
    · skip
      refine z_xP zt45 24 55 [some (.ref a0), some (.int p1), some (.int p2), some (.long b3), none, some (.int b5)] [.int 10, .int b5, .int p1] rfl rfl ?_
      refine z_xI zt45 25 rfl rfl (fun (x15 : Int32) (h16 : x15.toInt = b5.toInt + 10) => ?_) (z_pAdd rfl rfl (by omega) (by omega))
      refine z_xI zt45 26 rfl rfl (P := fun _ => True) (fun (x17 : Int32) _ => ?_) trivial
      refine z_xP zt45 27 58 [some (.ref a0), some (.int p1), some (.int p2), some (.long b3), none, some (.int b5)] [.int 1, .int x17] rfl rfl ?_
      refine z_xI zt45 28 rfl rfl (fun (x19 : Int32) (h20 : 0 ≤ x19.toInt ∧ x19.toInt ≤ 1) => ?_) (z_pAnd rfl (by omega))
      refine z_xZ zt45 29 rfl rfl (fun (h21 : x19.toInt = 0) => ?_) (fun (h21 : x19.toInt ≠ 0) => ?_)
      · skip
        refine z_xN zt45 42 rfl rfl (fun (x22 : Int32) (h23 : x22.toInt = b5.toInt + 1) => ?_) (z_pAdd rfl rfl (by omega) (by omega))
        show z_ev (d + 1) 45 86 [some (.ref a0), some (.int p1), some (.int p2), some (.long b3), none, some (.int x22)] [] M _
        refine z_xP zt45 43 9 [some (.ref a0), some (.int p1), some (.int p2), some (.long b3), none, some (.int x22)] [] rfl rfl ?_
        exact ih M b3 x22 X ⟨by omega, by omega⟩ (by omega)
      refine z_xP zt45 30 64 [some (.ref a0), some (.int p1), some (.int p2), some (.long b3), none, some (.int b5)] [.ref a0, .long b3] rfl rfl ?_
      refine z_xgR (κ := .inr (111, 1, q * z_sp m, 0, 0)) zt45 31 rfl zo45 zzf2_66 X k0 (by decide) (by decide) rfl (fun (a25 : Nat) h24 k26 => ?_)
      refine z_xP zt45 32 70 [some (.ref a0), some (.int p1), some (.int p2), some (.long b3), none, some (.int b5)] [.ref a0, .int b5, .ref a25, .long b3] rfl rfl ?_
      refine z_xgI zt45 33 rfl zo45 zzf2_63 X k0 (by decide) (by decide) rfl (fun (x28 : Int32) h27 (h29 : ((z_sp m : Nat) : Int) ≤ x28.toInt) (h30 : x28.toInt ≤ ((z_sp m : Nat) : Int)) => ?_)
      refine z_xI zt45 34 rfl rfl (fun (x31 : Int32) (h32 : x31.toInt = b5.toInt * x28.toInt ∧ 0 ≤ x31.toInt ∧ x31.toInt ≤ 144) => ?_) (z_pMulB (a := 9) (b := 16) rfl rfl (by omega) (by omega) (by omega) (by omega) (by decide) (by decide))
      refine z_xP zt45 35 75 [some (.ref a0), some (.int p1), some (.int p2), some (.long b3), none, some (.int b5)] [.int p2, .int x31, .ref a25, .long b3] rfl rfl ?_
      refine z_xI zt45 36 rfl rfl (fun (x33 : Int32) (h34 : x33.toInt = x31.toInt + p2.toInt) => ?_) (z_pAdd rfl rfl (by omega) (by omega))
      have h35 := z_nlx (p := x31.toInt) (x := b5.toInt) (y := x28.toInt) (s := p2.toInt) (z := x33.toInt) (A := q) (B := z_sp m) (by omega) (by omega) (by omega) (by omega) (by omega) (by omega) (by omega)
      refine z_xll zt45 37 rfl X k26 (by decide) h35.1 h35.2 (fun (y36 : Int64) => ?_)
      refine z_xl2 zt45 38 rfl zo45 zkl2_38 ?_
      refine z_xL zt45 39 rfl rfl (P := fun _ => True) (fun (y37 : Int64) _ => ?_) trivial
      refine z_xL zt45 40 rfl rfl (P := fun _ => True) (fun (y39 : Int64) _ => ?_) trivial
      refine z_xP zt45 41 83 [some (.ref a0), some (.int p1), some (.int p2), some (.long y39), none, some (.int b5)] [] rfl rfl ?_
      refine z_xN zt45 42 rfl rfl (fun (x41 : Int32) (h42 : x41.toInt = b5.toInt + 1) => ?_) (z_pAdd rfl rfl (by omega) (by omega))
      show z_ev (d + 1) 45 86 [some (.ref a0), some (.int p1), some (.int p2), some (.long y39), none, some (.int x41)] [] M _
      refine z_xP zt45 43 9 [some (.ref a0), some (.int p1), some (.int p2), some (.long y39), none, some (.int x41)] [] rfl rfl ?_
      exact ih M y39 x41 X ⟨by omega, by omega⟩ (by omega)
    refine z_xP zt45 14 35 [some (.ref a0), some (.int p1), some (.int p2), some (.long b3), none, some (.int b5)] [.ref a0, .long b3] rfl rfl ?_
    refine z_xgR (κ := .inr (111, 1, q * z_sp m, 0, 0)) zt45 15 rfl zo45 zzf2_66 X k0 (by decide) (by decide) rfl (fun (a44 : Nat) h43 k45 => ?_)
    refine z_xP zt45 16 41 [some (.ref a0), some (.int p1), some (.int p2), some (.long b3), none, some (.int b5)] [.ref a0, .int b5, .ref a44, .long b3] rfl rfl ?_
    refine z_xgI zt45 17 rfl zo45 zzf2_63 X k0 (by decide) (by decide) rfl (fun (x47 : Int32) h46 (h48 : ((z_sp m : Nat) : Int) ≤ x47.toInt) (h49 : x47.toInt ≤ ((z_sp m : Nat) : Int)) => ?_)
    refine z_xI zt45 18 rfl rfl (fun (x50 : Int32) (h51 : x50.toInt = b5.toInt * x47.toInt ∧ 0 ≤ x50.toInt ∧ x50.toInt ≤ 144) => ?_) (z_pMulB (a := 9) (b := 16) rfl rfl (by omega) (by omega) (by omega) (by omega) (by decide) (by decide))
    refine z_xP zt45 19 46 [some (.ref a0), some (.int p1), some (.int p2), some (.long b3), none, some (.int b5)] [.int p2, .int x50, .ref a44, .long b3] rfl rfl ?_
    refine z_xI zt45 20 rfl rfl (fun (x52 : Int32) (h53 : x52.toInt = x50.toInt + p2.toInt) => ?_) (z_pAdd rfl rfl (by omega) (by omega))
    have h54 := z_nlx (p := x50.toInt) (x := b5.toInt) (y := x47.toInt) (s := p2.toInt) (z := x52.toInt) (A := q) (B := z_sp m) (by omega) (by omega) (by omega) (by omega) (by omega) (by omega) (by omega)
    refine z_xll zt45 21 rfl X k45 (by decide) h54.1 h54.2 (fun (y55 : Int64) => ?_)
    refine z_xL zt45 22 rfl rfl (P := fun _ => True) (fun (y56 : Int64) _ => ?_) trivial
    refine z_xP zt45 23 50 [some (.ref a0), some (.int p1), some (.int p2), some (.long y56), none, some (.int b5)] [] rfl rfl ?_
    refine z_xP zt45 24 55 [some (.ref a0), some (.int p1), some (.int p2), some (.long y56), none, some (.int b5)] [.int 10, .int b5, .int p1] rfl rfl ?_
    refine z_xI zt45 25 rfl rfl (fun (x58 : Int32) (h59 : x58.toInt = b5.toInt + 10) => ?_) (z_pAdd rfl rfl (by omega) (by omega))
    refine z_xI zt45 26 rfl rfl (P := fun _ => True) (fun (x60 : Int32) _ => ?_) trivial
    refine z_xP zt45 27 58 [some (.ref a0), some (.int p1), some (.int p2), some (.long y56), none, some (.int b5)] [.int 1, .int x60] rfl rfl ?_
    refine z_xI zt45 28 rfl rfl (fun (x62 : Int32) (h63 : 0 ≤ x62.toInt ∧ x62.toInt ≤ 1) => ?_) (z_pAnd rfl (by omega))
    refine z_xZ zt45 29 rfl rfl (fun (h64 : x62.toInt = 0) => ?_) (fun (h64 : x62.toInt ≠ 0) => ?_)
    · skip
      refine z_xN zt45 42 rfl rfl (fun (x65 : Int32) (h66 : x65.toInt = b5.toInt + 1) => ?_) (z_pAdd rfl rfl (by omega) (by omega))
      show z_ev (d + 1) 45 86 [some (.ref a0), some (.int p1), some (.int p2), some (.long y56), none, some (.int x65)] [] M _
      refine z_xP zt45 43 9 [some (.ref a0), some (.int p1), some (.int p2), some (.long y56), none, some (.int x65)] [] rfl rfl ?_
      exact ih M y56 x65 X ⟨by omega, by omega⟩ (by omega)
    refine z_xP zt45 30 64 [some (.ref a0), some (.int p1), some (.int p2), some (.long y56), none, some (.int b5)] [.ref a0, .long y56] rfl rfl ?_
    refine z_xgv zt45 31 rfl zo45 zzf2_66 X k0 (by decide) h43 ?_
    refine z_xP zt45 32 70 [some (.ref a0), some (.int p1), some (.int p2), some (.long y56), none, some (.int b5)] [.ref a0, .int b5, .ref a44, .long y56] rfl rfl ?_
    refine z_xgv zt45 33 rfl zo45 zzf2_63 X k0 (by decide) h46 ?_
    refine z_xI zt45 34 rfl rfl (fun (x67 : Int32) (h68 : x67.toInt = b5.toInt * x47.toInt ∧ 0 ≤ x67.toInt ∧ x67.toInt ≤ 144) => ?_) (z_pMulB (a := 9) (b := 16) rfl rfl (by omega) (by omega) (by omega) (by omega) (by decide) (by decide))
    refine z_xP zt45 35 75 [some (.ref a0), some (.int p1), some (.int p2), some (.long y56), none, some (.int b5)] [.int p2, .int x67, .ref a44, .long y56] rfl rfl ?_
    refine z_xI zt45 36 rfl rfl (fun (x69 : Int32) (h70 : x69.toInt = x67.toInt + p2.toInt) => ?_) (z_pAdd rfl rfl (by omega) (by omega))
    have h71 := z_nlx (p := x67.toInt) (x := b5.toInt) (y := x47.toInt) (s := p2.toInt) (z := x69.toInt) (A := q) (B := z_sp m) (by omega) (by omega) (by omega) (by omega) (by omega) (by omega) (by omega)
    refine z_xll zt45 37 rfl X k45 (by decide) h71.1 h71.2 (fun (y72 : Int64) => ?_)
    refine z_xl2 zt45 38 rfl zo45 zkl2_38 ?_
    refine z_xL zt45 39 rfl rfl (P := fun _ => True) (fun (y73 : Int64) _ => ?_) trivial
    refine z_xL zt45 40 rfl rfl (P := fun _ => True) (fun (y75 : Int64) _ => ?_) trivial
    refine z_xP zt45 41 83 [some (.ref a0), some (.int p1), some (.int p2), some (.long y75), none, some (.int b5)] [] rfl rfl ?_
    refine z_xN zt45 42 rfl rfl (fun (x77 : Int32) (h78 : x77.toInt = b5.toInt + 1) => ?_) (z_pAdd rfl rfl (by omega) (by omega))
    show z_ev (d + 1) 45 86 [some (.ref a0), some (.int p1), some (.int p2), some (.long y75), none, some (.int x77)] [] M _
    refine z_xP zt45 43 9 [some (.ref a0), some (.int p1), some (.int p2), some (.long y75), none, some (.int x77)] [] rfl rfl ?_
    exact ih M y75 x77 X ⟨by omega, by omega⟩ (by omega)
theorem zC45 {T : List zK} {d : Nat} {K : Option Value → zH → Prop} {a0 : Nat} {q : Nat} {t : Nat} {m : Nat} {p1 : Int32} {p2 : Int32} {M0 : zH} (hW : z_W M0 T) (k0 : T[a0]? = some (.inl (2, q, t, m, 0))) (u2 : 0 ≤ p2.toInt ∧ p2.toInt ≤ 15) (hb0 : p2.toInt < ((z_sp m : Nat) : Int)) (kk : ∀ (x : Int64) (M1 : zH), z_X T zw45 M0 M1 → K (some (.long x)) M1) : z_ev (d + 1) 45 0 [some (.ref a0), some (.int p1), some (.int p2), none, none, none] [] M0 K := by
  have X : z_X T zw45 M0 M0 := .refl hW
  have g0 := X.1.p2 k0
  refine z_xP zt45 0 2 [some (.ref a0), some (.int p1), some (.int p2), none, none, none] [.int p2, .ref a0] rfl rfl ?_
  refine z_xcV (vs := [.ref a0, .int p2]) (r := []) (L2 := [some (.ref a0), some (.int p2), none]) zt45 1 rfl zo45 zzcV2_79 (Or.inl rfl) rfl X k0 rfl rfl rfl (Nat.le_of_ble_eq_true rfl) zzm46 (Nat.le_of_ble_eq_true rfl) rfl ?_
  refine z_xP zt46 0 1 [some (.ref a0), some (.int p2), none] [.ref a0] rfl rfl ?_
  refine z_xgR (κ := .inr (102, 0, m, 0, 1023)) zt46 1 rfl zo46 zzf2_60 X k0 (by decide) (by decide) rfl (fun (a2 : Nat) h1 k3 => ?_)
  refine z_xln zt46 2 rfl X k3 (by decide) (by omega) (fun (x4 : Int32) (h5 : x4.toInt = ((m : Nat) : Int)) => ?_)
  refine z_xP zt46 3 8 [some (.ref a0), some (.int p2), none] [.int 6, .int p2, .int x4] rfl rfl ?_
  refine z_xI zt46 4 rfl rfl (fun (x6 : Int32) (h7 : x6.toInt = p2.toInt * 64) => ?_) (z_pShl 6 rfl rfl (by decide) (by decide) (by omega) rfl (by omega))
  refine z_xI zt46 5 rfl rfl (fun (x8 : Int32) (h9 : x8.toInt = x4.toInt - x6.toInt) => ?_) (z_pSub rfl rfl (by omega) (by omega))
  refine z_xP zt46 6 14 [some (.ref a0), some (.int p2), some (.int x8)] [.int 64, .int x8] rfl rfl ?_
  refine z_xJ zt46 7 rfl rfl (fun (h10 : x8.toInt < 64) => ?_) (fun (h10 : 64 ≤ x8.toInt) => ?_)
  · skip
    refine z_xP zt46 10 25 [some (.ref a0), some (.int p2), some (.int x8)] [.int x8, .long 1] rfl rfl ?_
    refine z_xL zt46 11 rfl rfl (P := fun _ => True) (fun (y11 : Int64) _ => ?_) trivial
    refine z_xP zt46 12 27 [some (.ref a0), some (.int p2), some (.int x8)] [.long 1, .long y11] rfl rfl ?_
    refine z_xL zt46 13 rfl rfl (P := fun _ => True) (fun (y13 : Int64) _ => ?_) trivial
    refine z_xrl zt46 14 rfl zzr46 ?_
    show z_ev (d + 1) 45 5 [some (.ref a0), some (.int p1), some (.int p2), none, none, none] [.long y13] M0 _
    refine z_xP zt45 2 9 [some (.ref a0), some (.int p1), some (.int p2), some (.long y13), none, some (.int 0)] [] rfl rfl ?_
    have q0 : ((0 : Int32)).toInt = 0 := rfl
    exact (zB45 k0 u2 hb0 kk 22) M0 y13 (0) X (by decide) (by omega)
  refine z_xl2 zt46 8 rfl zo46 zkl2_38 ?_
  refine z_xP zt46 9 28 [some (.ref a0), some (.int p2), some (.int x8)] [.long (-1)] rfl rfl ?_
  refine z_xrl zt46 14 rfl zzr46 ?_
  show z_ev (d + 1) 45 5 [some (.ref a0), some (.int p1), some (.int p2), none, none, none] [.long (-1)] M0 _
  refine z_xP zt45 2 9 [some (.ref a0), some (.int p1), some (.int p2), some (.long (-1)), none, some (.int 0)] [] rfl rfl ?_
  have qm1 : (((-1) : Int64)).toInt = (-1) := rfl
  have q0 : ((0 : Int32)).toInt = 0 := rfl
  exact (zB45 k0 u2 hb0 kk 22) M0 ((-1)) (0) X (by decide) (by omega)
def zw44 : List Nat := []
theorem zB44 {T : List zK} {d : Nat} {K : Option Value → zH → Prop} {a0 : Nat} {q : Nat} {t : Nat} {m : Nat} {p1 : Int32} {M0 : zH} (k0 : T[a0]? = some (.inl (2, q, t, m, 0))) (kk : ∀ (x : Int32) (M1 : zH), z_X T zw44 M0 M1 → 0 ≤ x.toInt → x.toInt ≤ 1 → K (some (.int x)) M1) : ∀ n : Nat, (∀ (M : zH) (b2 : Int32), z_X T zw44 M0 M → 0 ≤ b2.toInt ∧ b2.toInt ≤ 16 → ((0) * 2 + 0) * 17 + (16 - b2.toInt) < (n : Int) → z_ev (d + 2) 44 2 [some (.ref a0), some (.int p1), some (.int b2)] [] M K) := by
  intro n
  induction n with
  | zero => exact by intros; exfalso; omega
  | succ n ih =>
    intro M b2 X hh0 hE
    have g0 := X.1.p2 k0
    refine z_xP zt44 1 4 [some (.ref a0), some (.int p1), some (.int b2)] [.ref a0, .int b2] rfl rfl ?_
    refine z_xgI zt44 2 rfl zo44 zzf2_63 X k0 (by decide) (by decide) rfl (fun (x2 : Int32) h1 (h3 : ((z_sp m : Nat) : Int) ≤ x2.toInt) (h4 : x2.toInt ≤ ((z_sp m : Nat) : Int)) => ?_)
    refine z_xJ zt44 3 rfl rfl (fun (h5 : x2.toInt ≤ b2.toInt) => ?_) (fun (h5 : b2.toInt < x2.toInt) => ?_)
    · skip
      refine z_xP zt44 13 30 [some (.ref a0), some (.int p1), some (.int b2)] [.int 0] rfl rfl ?_
      have q0 : ((0 : Int32)).toInt = 0 := rfl
      exact z_xrz zt44 14 rfl zzr44 (by decide) (by decide) (kk 0 M X (by omega) (by omega))
    refine z_xP zt44 4 13 [some (.ref a0), some (.int p1), some (.int b2)] [.int b2, .int p1, .ref a0] rfl rfl ?_
    refine z_xcV (vs := [.ref a0, .int p1, .int b2]) (r := []) (L2 := [some (.ref a0), some (.int p1), some (.int b2), none, none, none]) zt44 5 rfl zo44 zzcV2_83 (Or.inl rfl) rfl X k0 rfl rfl rfl (Nat.le_of_ble_eq_true rfl) zzm45 (Nat.le_of_ble_eq_true rfl) rfl ?_
    refine zC45 X.1 k0 (by omega) (by omega) (fun y8 M6 X7  => ?_)
    have X9 := X.go X7 (z_sb (by decide))
    show z_ev (d + 2) 44 16 [some (.ref a0), some (.int p1), some (.int b2)] [.long y8] M6 _
    refine z_xP zt44 6 17 [some (.ref a0), some (.int p1), some (.int b2)] [.long 0, .long y8] rfl rfl ?_
    refine z_xI zt44 7 rfl rfl (fun (x11 : Int32) (h12 : (x11.toInt < 0 ∧ y8.toInt < 0) ∨ (x11.toInt = 0 ∧ y8.toInt = 0) ∨ (0 < x11.toInt ∧ 0 < y8.toInt)) => ?_) (z_qCmp rfl rfl)
    refine z_xZ zt44 8 rfl rfl (fun (h13 : x11.toInt = 0) => ?_) (fun (h13 : x11.toInt ≠ 0) => ?_)
    · skip
      refine z_xN zt44 11 rfl rfl (fun (x14 : Int32) (h15 : x14.toInt = b2.toInt + 1) => ?_) (z_pAdd rfl rfl (by omega) (by omega))
      show z_ev (d + 2) 44 26 [some (.ref a0), some (.int p1), some (.int x14)] [] M6 _
      refine z_xP zt44 12 2 [some (.ref a0), some (.int p1), some (.int x14)] [] rfl rfl ?_
      exact ih M6 x14 X9 ⟨by omega, by omega⟩ (by omega)
    refine z_xP zt44 9 22 [some (.ref a0), some (.int p1), some (.int b2)] [.int 1] rfl rfl ?_
    have q1 : ((1 : Int32)).toInt = 1 := rfl
    exact z_xrz zt44 10 rfl zzr44 (by decide) (by decide) (kk 1 M6 X9 (by omega) (by omega))
theorem zC44 {T : List zK} {d : Nat} {K : Option Value → zH → Prop} {a0 : Nat} {q : Nat} {t : Nat} {m : Nat} {p1 : Int32} {M0 : zH} (hW : z_W M0 T) (k0 : T[a0]? = some (.inl (2, q, t, m, 0))) (kk : ∀ (x : Int32) (M1 : zH), z_X T zw44 M0 M1 → 0 ≤ x.toInt → x.toInt ≤ 1 → K (some (.int x)) M1) : z_ev (d + 2) 44 0 [some (.ref a0), some (.int p1), none] [] M0 K := by
  have X : z_X T zw44 M0 M0 := .refl hW
  have g0 := X.1.p2 k0
  refine z_xP zt44 0 2 [some (.ref a0), some (.int p1), some (.int 0)] [] rfl rfl ?_
  have q0 : ((0 : Int32)).toInt = 0 := rfl
  exact (zB44 k0 kk 34) M0 (0) X (by decide) (by omega)
def zw42 : List Nat := []
theorem zC42 {T : List zK} {d : Nat} {K : Option Value → zH → Prop} {p1 : Int32} {p2 : Int32} {p3 : Int32} {M0 : zH} (hW : z_W M0 T)  (hG : z_GG T M0) (kk : ∀ (x : Int32) (M1 : zH), z_X T zw42 M0 M1 → (-1) ≤ x.toInt → x.toInt ≤ 1 → K (some (.int x)) M1) : z_ev (d + 3) 42 0 [some (.ref 4), some (.int p1), some (.int p2), some (.int p3), none] [] M0 K := by
  have X : z_X T zw42 M0 M0 := .refl hW
  refine z_xP zt42 0 2 [some (.ref 4), some (.int p1), some (.int p2), some (.int p3), none] [.int p1, .ref 4] rfl rfl ?_
  have f4 : T[4]? = some (.inl (0, 0, 0, 0, 0)) := X.1.k rfl (by decide)
  refine z_xcV (vs := [.ref 4, .int p1]) (r := []) (L2 := [some (.ref 4), some (.int p1)]) zt42 1 rfl zo42 zzcV0_108 (Or.inl rfl) rfl X f4 rfl rfl rfl (Nat.le_of_ble_eq_true rfl) zzm37 (Nat.le_of_ble_eq_true rfl) rfl ?_
  refine z_xP zt37 0 1 [some (.ref 4), some (.int p1)] [.int p1] rfl rfl ?_
  refine z_xZ zt37 1 rfl rfl (fun (h1 : p1.toInt < 0) => ?_) (fun (h1 : 0 ≤ p1.toInt) => ?_)
  · skip
    refine z_xP zt37 5 25 [some (.ref 4), some (.int p1)] [.null] rfl rfl ?_
    refine z_xrn zt37 11 rfl zzr37 ?_
    show z_ev (d + 3) 42 5 [some (.ref 4), some (.int p1), some (.int p2), some (.int p3), none] [.null] M0 _
    refine z_xP zt42 2 22 [some (.ref 4), some (.int p1), some (.int p2), some (.int p3), some (.null)] [] rfl rfl ?_
    refine z_xP zt42 6 23 [some (.ref 4), some (.int p1), some (.int p2), some (.int p3), some (.null)] [.int (-1)] rfl rfl ?_
    have qm1 : (((-1) : Int32)).toInt = (-1) := rfl
    exact z_xri zt42 7 rfl zzr42 (kk (-1) M0 X (by omega) (by omega))
  refine z_xP zt37 2 6 [some (.ref 4), some (.int p1)] [.ref 4, .int p1] rfl rfl ?_
  refine z_xgI zt37 3 rfl zo37 zzf0_59 X f4 (by decide) (by decide) rfl (fun (x3 : Int32) h2 (h4 : 0 ≤ x3.toInt) (h5 : x3.toInt ≤ 8) => ?_)
  have h6 := z_b32 p1
  refine z_xJ zt37 4 rfl rfl (fun (h7 : p1.toInt < x3.toInt) => ?_) (fun (h7 : x3.toInt ≤ p1.toInt) => ?_)
  · skip
    refine z_xP zt37 6 17 [some (.ref 4), some (.int p1)] [.ref 4] rfl rfl ?_
    refine z_xgX (b := 10) zt37 7 rfl zo37 zzf0_18 X f4 (by decide) (by decide) rfl ?_
    refine z_xP zt37 8 21 [some (.ref 4), some (.int p1)] [.int p1, .ref 10] rfl rfl ?_
    have f10 : T[10]? = some (.inr (10, 2, 8, 9, 0)) := X.1.k rfl (by decide)
    refine z_xal zt37 9 rfl X f10 (by decide) (by decide) (by decide) (by omega) (by omega) (fun (a8 : Nat) h9 h10 => ?_) (fun h11 => absurd h11 (z_Gs (hG.go X (by decide)).2.1 h2 (by omega) (by omega)))
    obtain ⟨q12, t13, m14, k15⟩ : ∃ q t m, T[a8]? = some (.inl (3, q, t, m, 9)) := h10
    have g16 := X.1.p3 k15
    refine z_xgR (κ := .inl (2, q12, t13, m14, 0)) zt37 10 rfl zo37 zzf0_89 X k15 (by decide) (by decide) rfl (fun (a18 : Nat) h17 k19 => ?_)
    have g20 := X.1.p2 k19
    refine z_xra zt37 11 rfl zzr37 ?_
    show z_ev (d + 3) 42 5 [some (.ref 4), some (.int p1), some (.int p2), some (.int p3), none] [.ref a18] M0 _
    refine z_xP zt42 2 12 [some (.ref 4), some (.int p1), some (.int p2), some (.int p3), some (.ref a18)] [] rfl rfl ?_
    refine z_xP zt42 3 16 [some (.ref 4), some (.int p1), some (.int p2), some (.int p3), some (.ref a18)] [.int p3, .int p2, .ref a18] rfl rfl ?_
    refine z_xcV (vs := [.ref a18, .int p2, .int p3]) (r := []) (L2 := [some (.ref a18), some (.int p2), some (.int p3)]) zt42 4 rfl zo42 zzcV0_123 (Or.inl rfl) rfl X k19 rfl rfl rfl (Nat.le_of_ble_eq_true rfl) zzm43 (Nat.le_of_ble_eq_true rfl) rfl ?_
    refine z_xP zt43 0 2 [some (.ref a18), some (.int p2), some (.int p3)] [.int p2, .ref a18] rfl rfl ?_
    refine z_xcV (vs := [.ref a18, .int p2]) (r := []) (L2 := [some (.ref a18), some (.int p2)]) zt43 1 rfl zo43 zzcV2_76 (Or.inl rfl) rfl X k19 rfl rfl rfl (Nat.le_of_ble_eq_true rfl) zzm28 (Nat.le_of_ble_eq_true rfl) rfl ?_
    refine z_xP zt28 0 1 [some (.ref a18), some (.int p2)] [.int p2] rfl rfl ?_
    refine z_xZ zt28 1 rfl rfl (fun (h21 : p2.toInt < 0) => ?_) (fun (h21 : 0 ≤ p2.toInt) => ?_)
    · skip
      refine z_xP zt28 6 17 [some (.ref a18), some (.int p2)] [.int 0] rfl rfl ?_
      refine z_xrz zt28 7 rfl zzr28 (by decide) (by decide) ?_
      show z_ev (d + 2) 43 5 [some (.ref a18), some (.int p2), some (.int p3)] [.int 0] M0 _
      refine z_xZ zt43 2 rfl rfl (fun (h22 : (0 : Int) = 0) => ?_) (fun (h22 : (0 : Int) ≠ 0) => absurd h22 (by omega))
      refine z_xP zt43 10 27 [some (.ref a18), some (.int p2), some (.int p3)] [.int 0] rfl rfl ?_
      refine z_xrz zt43 11 rfl zzr43 (by decide) (by decide) ?_
      show z_ev (d + 3) 42 19 [some (.ref 4), some (.int p1), some (.int p2), some (.int p3), some (.ref a18)] [.int 0] M0 _
      refine z_xZ zt42 5 rfl rfl (fun (h23 : (0 : Int) ≠ 0) => absurd h23 (by omega)) (fun (h23 : (0 : Int) = 0) => ?_)
      refine z_xP zt42 6 23 [some (.ref 4), some (.int p1), some (.int p2), some (.int p3), some (.ref a18)] [.int (-1)] rfl rfl ?_
      have qm1 : (((-1) : Int32)).toInt = (-1) := rfl
      exact z_xri zt42 7 rfl zzr42 (kk (-1) M0 X (by omega) (by omega))
    refine z_xP zt28 2 6 [some (.ref a18), some (.int p2)] [.ref a18, .int p2] rfl rfl ?_
    refine z_xgI zt28 3 rfl zo28 zzf2_32 X k19 (by decide) (by decide) rfl (fun (x25 : Int32) h24 (h26 : ((z_po q12 : Nat) : Int) - 1 ≤ x25.toInt) (h27 : x25.toInt ≤ ((z_po q12 : Nat) : Int) - 1) => ?_)
    have h28 := z_b32 p2
    refine z_xJ zt28 4 rfl rfl (fun (h29 : x25.toInt < p2.toInt) => ?_) (fun (h29 : p2.toInt ≤ x25.toInt) => ?_)
    · skip
      refine z_xP zt28 6 17 [some (.ref a18), some (.int p2)] [.int 0] rfl rfl ?_
      refine z_xrz zt28 7 rfl zzr28 (by decide) (by decide) ?_
      show z_ev (d + 2) 43 5 [some (.ref a18), some (.int p2), some (.int p3)] [.int 0] M0 _
      refine z_xZ zt43 2 rfl rfl (fun (h30 : (0 : Int) = 0) => ?_) (fun (h30 : (0 : Int) ≠ 0) => absurd h30 (by omega))
      refine z_xP zt43 10 27 [some (.ref a18), some (.int p2), some (.int p3)] [.int 0] rfl rfl ?_
      refine z_xrz zt43 11 rfl zzr43 (by decide) (by decide) ?_
      show z_ev (d + 3) 42 19 [some (.ref 4), some (.int p1), some (.int p2), some (.int p3), some (.ref a18)] [.int 0] M0 _
      refine z_xZ zt42 5 rfl rfl (fun (h31 : (0 : Int) ≠ 0) => absurd h31 (by omega)) (fun (h31 : (0 : Int) = 0) => ?_)
      refine z_xP zt42 6 23 [some (.ref 4), some (.int p1), some (.int p2), some (.int p3), some (.ref a18)] [.int (-1)] rfl rfl ?_
      have qm1 : (((-1) : Int32)).toInt = (-1) := rfl
      exact z_xri zt42 7 rfl zzr42 (kk (-1) M0 X (by omega) (by omega))
    refine z_xP zt28 5 17 [some (.ref a18), some (.int p2)] [.int 1] rfl rfl ?_
    refine z_xrz zt28 7 rfl zzr28 (by decide) (by decide) ?_
    show z_ev (d + 2) 43 5 [some (.ref a18), some (.int p2), some (.int p3)] [.int 1] M0 _
    refine z_xZ zt43 2 rfl rfl (fun (h32 : (1 : Int) = 0) => absurd h32 (by omega)) (fun (h32 : (1 : Int) ≠ 0) => ?_)
    refine z_xP zt43 3 10 [some (.ref a18), some (.int p2), some (.int p3)] [.int p3, .ref a18] rfl rfl ?_
    refine z_xcV (vs := [.ref a18, .int p3]) (r := []) (L2 := [some (.ref a18), some (.int p3)]) zt43 4 rfl zo43 zzcV2_76 (Or.inl rfl) rfl X k19 rfl rfl rfl (Nat.le_of_ble_eq_true rfl) zzm28 (Nat.le_of_ble_eq_true rfl) rfl ?_
    refine z_xP zt28 0 1 [some (.ref a18), some (.int p3)] [.int p3] rfl rfl ?_
    refine z_xZ zt28 1 rfl rfl (fun (h33 : p3.toInt < 0) => ?_) (fun (h33 : 0 ≤ p3.toInt) => ?_)
    · skip
      refine z_xP zt28 6 17 [some (.ref a18), some (.int p3)] [.int 0] rfl rfl ?_
      refine z_xrz zt28 7 rfl zzr28 (by decide) (by decide) ?_
      show z_ev (d + 2) 43 13 [some (.ref a18), some (.int p2), some (.int p3)] [.int 0] M0 _
      refine z_xZ zt43 5 rfl rfl (fun (h34 : (0 : Int) = 0) => ?_) (fun (h34 : (0 : Int) ≠ 0) => absurd h34 (by omega))
      refine z_xP zt43 10 27 [some (.ref a18), some (.int p2), some (.int p3)] [.int 0] rfl rfl ?_
      refine z_xrz zt43 11 rfl zzr43 (by decide) (by decide) ?_
      show z_ev (d + 3) 42 19 [some (.ref 4), some (.int p1), some (.int p2), some (.int p3), some (.ref a18)] [.int 0] M0 _
      refine z_xZ zt42 5 rfl rfl (fun (h35 : (0 : Int) ≠ 0) => absurd h35 (by omega)) (fun (h35 : (0 : Int) = 0) => ?_)
      refine z_xP zt42 6 23 [some (.ref 4), some (.int p1), some (.int p2), some (.int p3), some (.ref a18)] [.int (-1)] rfl rfl ?_
      have qm1 : (((-1) : Int32)).toInt = (-1) := rfl
      exact z_xri zt42 7 rfl zzr42 (kk (-1) M0 X (by omega) (by omega))
    refine z_xP zt28 2 6 [some (.ref a18), some (.int p3)] [.ref a18, .int p3] rfl rfl ?_
    refine z_xgv zt28 3 rfl zo28 zzf2_32 X k19 (by decide) h24 ?_
    have h36 := z_b32 p3
    refine z_xJ zt28 4 rfl rfl (fun (h37 : x25.toInt < p3.toInt) => ?_) (fun (h37 : p3.toInt ≤ x25.toInt) => ?_)
    · skip
      refine z_xP zt28 6 17 [some (.ref a18), some (.int p3)] [.int 0] rfl rfl ?_
      refine z_xrz zt28 7 rfl zzr28 (by decide) (by decide) ?_
      show z_ev (d + 2) 43 13 [some (.ref a18), some (.int p2), some (.int p3)] [.int 0] M0 _
      refine z_xZ zt43 5 rfl rfl (fun (h38 : (0 : Int) = 0) => ?_) (fun (h38 : (0 : Int) ≠ 0) => absurd h38 (by omega))
      refine z_xP zt43 10 27 [some (.ref a18), some (.int p2), some (.int p3)] [.int 0] rfl rfl ?_
      refine z_xrz zt43 11 rfl zzr43 (by decide) (by decide) ?_
      show z_ev (d + 3) 42 19 [some (.ref 4), some (.int p1), some (.int p2), some (.int p3), some (.ref a18)] [.int 0] M0 _
      refine z_xZ zt42 5 rfl rfl (fun (h39 : (0 : Int) ≠ 0) => absurd h39 (by omega)) (fun (h39 : (0 : Int) = 0) => ?_)
      refine z_xP zt42 6 23 [some (.ref 4), some (.int p1), some (.int p2), some (.int p3), some (.ref a18)] [.int (-1)] rfl rfl ?_
      have qm1 : (((-1) : Int32)).toInt = (-1) := rfl
      exact z_xri zt42 7 rfl zzr42 (kk (-1) M0 X (by omega) (by omega))
    refine z_xP zt28 5 17 [some (.ref a18), some (.int p3)] [.int 1] rfl rfl ?_
    refine z_xrz zt28 7 rfl zzr28 (by decide) (by decide) ?_
    show z_ev (d + 2) 43 13 [some (.ref a18), some (.int p2), some (.int p3)] [.int 1] M0 _
    refine z_xZ zt43 5 rfl rfl (fun (h40 : (1 : Int) = 0) => absurd h40 (by omega)) (fun (h40 : (1 : Int) ≠ 0) => ?_)
    refine z_xP zt43 6 18 [some (.ref a18), some (.int p2), some (.int p3)] [.int p3, .int p2] rfl rfl ?_
    refine z_xI zt43 7 rfl rfl (fun (x41 : Int32) (h42 : 0 ≤ x41.toInt ∧ x41.toInt ≤ p2.toInt ∧ x41.toInt ≤ p3.toInt) => ?_) (z_pAnd2 rfl rfl (by omega) (by omega))
    refine z_xZ zt43 8 rfl rfl (fun (h43 : x41.toInt ≠ 0) => ?_) (fun (h43 : x41.toInt = 0) => ?_)
    · skip
      refine z_xP zt43 10 27 [some (.ref a18), some (.int p2), some (.int p3)] [.int 0] rfl rfl ?_
      refine z_xrz zt43 11 rfl zzr43 (by decide) (by decide) ?_
      show z_ev (d + 3) 42 19 [some (.ref 4), some (.int p1), some (.int p2), some (.int p3), some (.ref a18)] [.int 0] M0 _
      refine z_xZ zt42 5 rfl rfl (fun (h44 : (0 : Int) ≠ 0) => absurd h44 (by omega)) (fun (h44 : (0 : Int) = 0) => ?_)
      refine z_xP zt42 6 23 [some (.ref 4), some (.int p1), some (.int p2), some (.int p3), some (.ref a18)] [.int (-1)] rfl rfl ?_
      have qm1 : (((-1) : Int32)).toInt = (-1) := rfl
      exact z_xri zt42 7 rfl zzr42 (kk (-1) M0 X (by omega) (by omega))
    refine z_xP zt43 9 27 [some (.ref a18), some (.int p2), some (.int p3)] [.int 1] rfl rfl ?_
    refine z_xrz zt43 11 rfl zzr43 (by decide) (by decide) ?_
    show z_ev (d + 3) 42 19 [some (.ref 4), some (.int p1), some (.int p2), some (.int p3), some (.ref a18)] [.int 1] M0 _
    refine z_xZ zt42 5 rfl rfl (fun (h45 : (1 : Int) ≠ 0) => ?_) (fun (h45 : (1 : Int) = 0) => absurd h45 (by omega))
    refine z_xP zt42 8 30 [some (.ref 4), some (.int p1), some (.int p2), some (.int p3), some (.ref a18)] [.int 10, .int p3, .int p2, .ref a18] rfl rfl ?_
    refine z_xI zt42 9 rfl rfl (fun (x46 : Int32) (h47 : x46.toInt = p3.toInt * 1024) => ?_) (z_pShl 10 rfl rfl (by decide) (by decide) (by omega) rfl (by omega))
    refine z_xI zt42 10 rfl rfl (fun (x48 : Int32) (h49 : 0 ≤ x48.toInt ∧ x48.toInt < 1048576 ∧ p2.toInt ≤ x48.toInt ∧ x46.toInt ≤ x48.toInt) => ?_) (z_pOr 20 rfl rfl (by omega) (by omega) (by decide) (by omega) (by omega) (by decide))
    refine z_xcV (vs := [.ref a18, .int x48]) (r := []) (L2 := [some (.ref a18), some (.int x48), none]) zt42 11 rfl zo42 zzcV0_126 (Or.inl rfl) rfl X k19 rfl rfl rfl (Nat.le_of_ble_eq_true rfl) zzm44 (Nat.le_of_ble_eq_true rfl) rfl ?_
    refine zC44 X.1 k19 (fun x52 M50 X51 h53 h54 => ?_)
    have X55 := X.go X51 (z_sb (by decide))
    show z_ev (d + 3) 42 35 [some (.ref 4), some (.int p1), some (.int p2), some (.int p3), some (.ref a18)] [.int x52] M50 _
    refine z_xZ zt42 12 rfl rfl (fun (h57 : x52.toInt = 0) => ?_) (fun (h57 : x52.toInt ≠ 0) => ?_)
    · skip
      refine z_xP zt42 14 43 [some (.ref 4), some (.int p1), some (.int p2), some (.int p3), some (.ref a18)] [.int 0] rfl rfl ?_
      have q0 : ((0 : Int32)).toInt = 0 := rfl
      exact z_xri zt42 15 rfl zzr42 (kk 0 M50 X55 (by omega) (by omega))
    refine z_xP zt42 13 43 [some (.ref 4), some (.int p1), some (.int p2), some (.int p3), some (.ref a18)] [.int 1] rfl rfl ?_
    have q1 : ((1 : Int32)).toInt = 1 := rfl
    exact z_xri zt42 15 rfl zzr42 (kk 1 M50 X55 (by omega) (by omega))
  refine z_xP zt37 5 25 [some (.ref 4), some (.int p1)] [.null] rfl rfl ?_
  refine z_xrn zt37 11 rfl zzr37 ?_
  show z_ev (d + 3) 42 5 [some (.ref 4), some (.int p1), some (.int p2), some (.int p3), none] [.null] M0 _
  refine z_xP zt42 2 22 [some (.ref 4), some (.int p1), some (.int p2), some (.int p3), some (.null)] [] rfl rfl ?_
  refine z_xP zt42 6 23 [some (.ref 4), some (.int p1), some (.int p2), some (.int p3), some (.null)] [.int (-1)] rfl rfl ?_
  have qm1 : (((-1) : Int32)).toInt = (-1) := rfl
  exact z_xri zt42 7 rfl zzr42 (kk (-1) M0 X (by omega) (by omega))
def zw49 : List Nat := []
theorem zB49 {T : List zK} {d : Nat} {K : Option Value → zH → Prop} {a0 : Nat} {q : Nat} {t : Nat} {m : Nat} {p1 : Int32} {M0 : zH} (k0 : T[a0]? = some (.inl (2, q, t, m, 0))) (kk : ∀ (x : Int32) (M1 : zH), z_X T zw49 M0 M1 → (-1) ≤ x.toInt → x.toInt ≤ 1048575 → K (some (.int x)) M1) : ∀ n : Nat, (∀ (M : zH) (b2 : Int32) (b3 : Int32) (b4 : Int32) (o5 : Option Value) (o7 : Option Value) (o8 : Option Value), z_X T zw49 M0 M → 0 ≤ b2.toInt ∧ b2.toInt ≤ 1023 → 0 ≤ b3.toInt ∧ b3.toInt ≤ 1023 → 0 ≤ b4.toInt ∧ b4.toInt ≤ 16 → ((((0) * 3 + 1) * 17 + (16 - b4.toInt)) * 3 + 2) * 11 + (0) < (n : Int) → z_ev (d + 2) 49 7 [some (.ref a0), some (.int p1), some (.int b2), some (.int b3), some (.int b4), o5, none, o7, o8, none] [] M K) ∧ (∀ (M : zH) (b2 : Int32) (b3 : Int32) (b4 : Int32) (b5 : Int64) (b7 : Int32) (o8 : Option Value), z_X T zw49 M0 M → 0 ≤ b2.toInt ∧ b2.toInt ≤ 1023 → 0 ≤ b3.toInt ∧ b3.toInt ≤ 1023 → 0 ≤ b4.toInt ∧ b4.toInt ≤ 15 → 0 ≤ b7.toInt ∧ b7.toInt ≤ 10 → b4.toInt < ((z_sp m : Nat) : Int) → ((((0) * 3 + 1) * 17 + (16 - b4.toInt)) * 3 + 0) * 11 + (10 - b7.toInt) < (n : Int) → z_ev (d + 2) 49 28 [some (.ref a0), some (.int p1), some (.int b2), some (.int b3), some (.int b4), some (.long b5), none, some (.int b7), o8, none] [] M K) := by
  intro n
  induction n with
  | zero => exact ⟨(by intros; exfalso; omega), (by intros; exfalso; omega)⟩
  | succ n ih =>
    refine ⟨?_, ?_⟩
    · skip
      intro M b2 b3 b4 o5 o7 o8 X hh0 hh1 hh2 hE
      have g0 := X.1.p2 k0
      refine z_xP zt49 1 10 [some (.ref a0), some (.int p1), some (.int b2), some (.int b3), some (.int b4), o5, none, o7, o8, none] [.ref a0, .int b4] rfl rfl ?_
      refine z_xgI zt49 2 rfl zo49 zzf2_63 X k0 (by decide) (by decide) rfl (fun (x2 : Int32) h1 (h3 : ((z_sp m : Nat) : Int) ≤ x2.toInt) (h4 : x2.toInt ≤ ((z_sp m : Nat) : Int)) => ?_)
      refine z_xJ zt49 3 rfl rfl (fun (h5 : x2.toInt ≤ b4.toInt) => ?_) (fun (h5 : b4.toInt < x2.toInt) => ?_)
      · skip
        refine z_xP zt49 45 113 [some (.ref a0), some (.int p1), some (.int b2), some (.int b3), some (.int b4), o5, none, o7, o8, none] [.int b3, .int b2] rfl rfl ?_
        refine z_xI zt49 46 rfl rfl (fun (x6 : Int32) (h7 : 0 ≤ x6.toInt ∧ x6.toInt < 1024 ∧ b2.toInt ≤ x6.toInt ∧ b3.toInt ≤ x6.toInt) => ?_) (z_pOr 10 rfl rfl (by omega) (by omega) (by decide) (by omega) (by omega) (by decide))
        refine z_xZ zt49 47 rfl rfl (fun (h8 : x6.toInt ≠ 0) => ?_) (fun (h8 : x6.toInt = 0) => ?_)
        · skip
          refine z_xP zt49 50 122 [some (.ref a0), some (.int p1), some (.int b2), some (.int b3), some (.int b4), o5, none, o7, o8, none] [.int (-1), .int b3, .int b2] rfl rfl ?_
          refine z_xI zt49 51 rfl rfl (P := fun _ => True) (fun (x9 : Int32) _ => ?_) trivial
          refine z_xI zt49 52 rfl rfl (fun (x11 : Int32) (h12 : 0 ≤ x11.toInt ∧ x11.toInt ≤ b2.toInt) => ?_) (z_pAndL rfl (by omega))
          refine z_xP zt49 53 127 [some (.ref a0), some (.int p1), some (.int b2), some (.int b3), some (.int b4), o5, none, o7, o8, none] [.int (-1), .int b2, .int b3, .int x11] rfl rfl ?_
          refine z_xI zt49 54 rfl rfl (P := fun _ => True) (fun (x13 : Int32) _ => ?_) trivial
          refine z_xI zt49 55 rfl rfl (fun (x15 : Int32) (h16 : 0 ≤ x15.toInt ∧ x15.toInt ≤ b3.toInt) => ?_) (z_pAndL rfl (by omega))
          refine z_xP zt49 56 131 [some (.ref a0), some (.int p1), some (.int b2), some (.int b3), some (.int b4), o5, none, o7, o8, none] [.int 10, .int x15, .int x11] rfl rfl ?_
          refine z_xI zt49 57 rfl rfl (fun (x17 : Int32) (h18 : x17.toInt = x15.toInt * 1024) => ?_) (z_pShl 10 rfl rfl (by decide) (by decide) (by omega) rfl (by omega))
          refine z_xI zt49 58 rfl rfl (fun (x19 : Int32) (h20 : 0 ≤ x19.toInt ∧ x19.toInt < 1048576 ∧ x11.toInt ≤ x19.toInt ∧ x17.toInt ≤ x19.toInt) => ?_) (z_pOr 20 rfl rfl (by omega) (by omega) (by decide) (by omega) (by omega) (by decide))
          exact z_xri zt49 59 rfl zzr49 (kk x19 M X (by omega) (by omega))
        refine z_xP zt49 48 118 [some (.ref a0), some (.int p1), some (.int b2), some (.int b3), some (.int b4), o5, none, o7, o8, none] [.int (-1)] rfl rfl ?_
        have qm1 : (((-1) : Int32)).toInt = (-1) := rfl
        exact z_xri zt49 49 rfl zzr49 (kk (-1) M X (by omega) (by omega))
      refine z_xP zt49 4 20 [some (.ref a0), some (.int p1), some (.int b2), some (.int b3), some (.int b4), o5, none, o7, o8, none] [.int b4, .int p1, .ref a0] rfl rfl ?_
      refine z_xcV (vs := [.ref a0, .int p1, .int b4]) (r := []) (L2 := [some (.ref a0), some (.int p1), some (.int b4), none, none, none]) zt49 5 rfl zo49 zzcV2_83 (Or.inl rfl) rfl X k0 rfl rfl rfl (Nat.le_of_ble_eq_true rfl) zzm45 (Nat.le_of_ble_eq_true rfl) rfl ?_
      refine zC45 X.1 k0 (by omega) (by omega) (fun y23 M21 X22  => ?_)
      have X24 := X.go X22 (z_sb (by decide))
      show z_ev (d + 2) 49 23 [some (.ref a0), some (.int p1), some (.int b2), some (.int b3), some (.int b4), o5, none, o7, o8, none] [.long y23] M21 _
      refine z_xP zt49 6 28 [some (.ref a0), some (.int p1), some (.int b2), some (.int b3), some (.int b4), some (.long y23), none, some (.int 0), o8, none] [] rfl rfl ?_
      have q0 : ((0 : Int32)).toInt = 0 := rfl
      exact ih.2 M21 b2 b3 b4 y23 (0) (o8) X24 ⟨by omega, by omega⟩ ⟨by omega, by omega⟩ ⟨by omega, by omega⟩ (by decide) (by omega) (by omega)
    · skip
      intro M b2 b3 b4 b5 b7 o8 X hh0 hh1 hh2 hh3 hh4 hE
      have g0 := X.1.p2 k0
      refine z_xP zt49 7 31 [some (.ref a0), some (.int p1), some (.int b2), some (.int b3), some (.int b4), some (.long b5), none, some (.int b7), o8, none] [.ref a0, .int b7] rfl rfl ?_
      refine z_xgI zt49 8 rfl zo49 zzf2_15 X k0 (by decide) (by decide) rfl (fun (x2 : Int32) h1 (h3 : (q : Int) ≤ x2.toInt) (h4 : x2.toInt ≤ (q : Int)) => ?_)
      refine z_xJ zt49 9 rfl rfl (fun (h5 : x2.toInt ≤ b7.toInt) => ?_) (fun (h5 : b7.toInt < x2.toInt) => ?_)
      · skip
        refine z_xN zt49 43 rfl rfl (fun (x6 : Int32) (h7 : x6.toInt = b4.toInt + 1) => ?_) (z_pAdd rfl rfl (by omega) (by omega))
        show z_ev (d + 2) 49 108 [some (.ref a0), some (.int p1), some (.int b2), some (.int b3), some (.int x6), some (.long b5), none, some (.int b7), o8, none] [] M _
        refine z_xP zt49 44 7 [some (.ref a0), some (.int p1), some (.int b2), some (.int b3), some (.int x6), some (.long b5), none, some (.int b7), o8, none] [] rfl rfl ?_
        exact ih.1 M b2 b3 x6 (some (.long b5)) (some (.int b7)) (o8) X ⟨by omega, by omega⟩ ⟨by omega, by omega⟩ ⟨by omega, by omega⟩ (by omega)
      refine z_xP zt49 10 40 [some (.ref a0), some (.int p1), some (.int b2), some (.int b3), some (.int b4), some (.long b5), none, some (.int b7), o8, none] [.long 0, .long b5] rfl rfl ?_
      refine z_xI zt49 11 rfl rfl (fun (x8 : Int32) (h9 : (x8.toInt < 0 ∧ b5.toInt < 0) ∨ (x8.toInt = 0 ∧ b5.toInt = 0) ∨ (0 < x8.toInt ∧ 0 < b5.toInt)) => ?_) (z_qCmp rfl rfl)
      refine z_xZ zt49 12 rfl rfl (fun (h10 : x8.toInt = 0) => ?_) (fun (h10 : x8.toInt ≠ 0) => ?_)
      · skip
        refine z_xN zt49 43 rfl rfl (fun (x11 : Int32) (h12 : x11.toInt = b4.toInt + 1) => ?_) (z_pAdd rfl rfl (by omega) (by omega))
        show z_ev (d + 2) 49 108 [some (.ref a0), some (.int p1), some (.int b2), some (.int b3), some (.int x11), some (.long b5), none, some (.int b7), o8, none] [] M _
        refine z_xP zt49 44 7 [some (.ref a0), some (.int p1), some (.int b2), some (.int b3), some (.int x11), some (.long b5), none, some (.int b7), o8, none] [] rfl rfl ?_
        exact ih.1 M b2 b3 x11 (some (.long b5)) (some (.int b7)) (o8) X ⟨by omega, by omega⟩ ⟨by omega, by omega⟩ ⟨by omega, by omega⟩ (by omega)
      refine z_xP zt49 13 45 [some (.ref a0), some (.int p1), some (.int b2), some (.int b3), some (.int b4), some (.long b5), none, some (.int b7), o8, none] [.ref a0] rfl rfl ?_
      refine z_xgR (κ := .inr (111, 1, q * z_sp m, 0, 0)) zt49 14 rfl zo49 zzf2_66 X k0 (by decide) (by decide) rfl (fun (a14 : Nat) h13 k15 => ?_)
      refine z_xP zt49 15 51 [some (.ref a0), some (.int p1), some (.int b2), some (.int b3), some (.int b4), some (.long b5), none, some (.int b7), o8, none] [.ref a0, .int b7, .ref a14] rfl rfl ?_
      refine z_xgI zt49 16 rfl zo49 zzf2_63 X k0 (by decide) (by decide) rfl (fun (x17 : Int32) h16 (h18 : ((z_sp m : Nat) : Int) ≤ x17.toInt) (h19 : x17.toInt ≤ ((z_sp m : Nat) : Int)) => ?_)
      refine z_xI zt49 17 rfl rfl (fun (x20 : Int32) (h21 : x20.toInt = b7.toInt * x17.toInt ∧ 0 ≤ x20.toInt ∧ x20.toInt ≤ 144) => ?_) (z_pMulB (a := 9) (b := 16) rfl rfl (by omega) (by omega) (by omega) (by omega) (by decide) (by decide))
      refine z_xP zt49 18 57 [some (.ref a0), some (.int p1), some (.int b2), some (.int b3), some (.int b4), some (.long b5), none, some (.int b7), o8, none] [.int b4, .int x20, .ref a14] rfl rfl ?_
      refine z_xI zt49 19 rfl rfl (fun (x22 : Int32) (h23 : x22.toInt = x20.toInt + b4.toInt) => ?_) (z_pAdd rfl rfl (by omega) (by omega))
      have h24 := z_nlx (p := x20.toInt) (x := b7.toInt) (y := x17.toInt) (s := b4.toInt) (z := x22.toInt) (A := q) (B := z_sp m) (by omega) (by omega) (by omega) (by omega) (by omega) (by omega) (by omega)
      refine z_xll zt49 20 rfl X k15 (by decide) h24.1 h24.2 (fun (y25 : Int64) => ?_)
      refine z_xP zt49 21 65 [some (.ref a0), some (.int p1), some (.int b2), some (.int b3), some (.int b4), some (.long b5), none, some (.int b7), some (.long y25), none] [.long y25, .long b5] rfl rfl ?_
      refine z_xL zt49 22 rfl rfl (P := fun _ => True) (fun (y26 : Int64) _ => ?_) trivial
      refine z_xP zt49 23 67 [some (.ref a0), some (.int p1), some (.int b2), some (.int b3), some (.int b4), some (.long b5), none, some (.int b7), some (.long y25), none] [.long 0, .long y26] rfl rfl ?_
      refine z_xI zt49 24 rfl rfl (fun (x28 : Int32) (h29 : (x28.toInt < 0 ∧ y26.toInt < 0) ∨ (x28.toInt = 0 ∧ y26.toInt = 0) ∨ (0 < x28.toInt ∧ 0 < y26.toInt)) => ?_) (z_qCmp rfl rfl)
      refine z_xZ zt49 25 rfl rfl (fun (h30 : x28.toInt = 0) => ?_) (fun (h30 : x28.toInt ≠ 0) => ?_)
      · skip
        refine z_xP zt49 30 82 [some (.ref a0), some (.int p1), some (.int b2), some (.int b3), some (.int b4), some (.long b5), none, some (.int b7), some (.long y25), none] [.long y25, .long b5] rfl rfl ?_
        refine z_xl2 zt49 31 rfl zo49 zkl2_38 ?_
        refine z_xL zt49 32 rfl rfl (P := fun _ => True) (fun (y31 : Int64) _ => ?_) trivial
        refine z_xL zt49 33 rfl rfl (P := fun _ => True) (fun (y33 : Int64) _ => ?_) trivial
        refine z_xP zt49 34 88 [some (.ref a0), some (.int p1), some (.int b2), some (.int b3), some (.int b4), some (.long b5), none, some (.int b7), some (.long y25), none] [.long 0, .long y33] rfl rfl ?_
        refine z_xI zt49 35 rfl rfl (fun (x35 : Int32) (h36 : (x35.toInt < 0 ∧ y33.toInt < 0) ∨ (x35.toInt = 0 ∧ y33.toInt = 0) ∨ (0 < x35.toInt ∧ 0 < y33.toInt)) => ?_) (z_qCmp rfl rfl)
        refine z_xZ zt49 36 rfl rfl (fun (h37 : x35.toInt = 0) => ?_) (fun (h37 : x35.toInt ≠ 0) => ?_)
        · skip
          refine z_xN zt49 41 rfl rfl (fun (x38 : Int32) (h39 : x38.toInt = b7.toInt + 1) => ?_) (z_pAdd rfl rfl (by omega) (by omega))
          show z_ev (d + 2) 49 102 [some (.ref a0), some (.int p1), some (.int b2), some (.int b3), some (.int b4), some (.long b5), none, some (.int x38), some (.long y25), none] [] M _
          refine z_xP zt49 42 28 [some (.ref a0), some (.int p1), some (.int b2), some (.int b3), some (.int b4), some (.long b5), none, some (.int x38), some (.long y25), none] [] rfl rfl ?_
          exact ih.2 M b2 b3 b4 b5 x38 (some (.long y25)) X ⟨by omega, by omega⟩ ⟨by omega, by omega⟩ ⟨by omega, by omega⟩ ⟨by omega, by omega⟩ (by omega) (by omega)
        refine z_xP zt49 37 96 [some (.ref a0), some (.int p1), some (.int b2), some (.int b3), some (.int b4), some (.long b5), none, some (.int b7), some (.long y25), none] [.int b7, .int 1, .int b3] rfl rfl ?_
        refine z_xI zt49 38 rfl rfl (fun (x40 : Int32) (h41 : 1 ≤ x40.toInt ∧ x40.toInt ≤ 512) => ?_) (z_pShlB (a := 1) (b := 9) (c := 512) (r := 512) rfl rfl (by omega) (by omega) (by omega) (by omega) (by decide) (by decide) (by decide) (by decide))
        refine z_xI zt49 39 rfl rfl (fun (x42 : Int32) (h43 : 0 ≤ x42.toInt ∧ x42.toInt < 1024 ∧ b3.toInt ≤ x42.toInt ∧ x40.toInt ≤ x42.toInt) => ?_) (z_pOr 10 rfl rfl (by omega) (by omega) (by decide) (by omega) (by omega) (by decide))
        refine z_xP zt49 40 99 [some (.ref a0), some (.int p1), some (.int b2), some (.int x42), some (.int b4), some (.long b5), none, some (.int b7), some (.long y25), none] [] rfl rfl ?_
        refine z_xN zt49 41 rfl rfl (fun (x44 : Int32) (h45 : x44.toInt = b7.toInt + 1) => ?_) (z_pAdd rfl rfl (by omega) (by omega))
        show z_ev (d + 2) 49 102 [some (.ref a0), some (.int p1), some (.int b2), some (.int x42), some (.int b4), some (.long b5), none, some (.int x44), some (.long y25), none] [] M _
        refine z_xP zt49 42 28 [some (.ref a0), some (.int p1), some (.int b2), some (.int x42), some (.int b4), some (.long b5), none, some (.int x44), some (.long y25), none] [] rfl rfl ?_
        exact ih.2 M b2 x42 b4 b5 x44 (some (.long y25)) X ⟨by omega, by omega⟩ ⟨by omega, by omega⟩ ⟨by omega, by omega⟩ ⟨by omega, by omega⟩ (by omega) (by omega)
      refine z_xP zt49 26 75 [some (.ref a0), some (.int p1), some (.int b2), some (.int b3), some (.int b4), some (.long b5), none, some (.int b7), some (.long y25), none] [.int b7, .int 1, .int b2] rfl rfl ?_
      refine z_xI zt49 27 rfl rfl (fun (x46 : Int32) (h47 : 1 ≤ x46.toInt ∧ x46.toInt ≤ 512) => ?_) (z_pShlB (a := 1) (b := 9) (c := 512) (r := 512) rfl rfl (by omega) (by omega) (by omega) (by omega) (by decide) (by decide) (by decide) (by decide))
      refine z_xI zt49 28 rfl rfl (fun (x48 : Int32) (h49 : 0 ≤ x48.toInt ∧ x48.toInt < 1024 ∧ b2.toInt ≤ x48.toInt ∧ x46.toInt ≤ x48.toInt) => ?_) (z_pOr 10 rfl rfl (by omega) (by omega) (by decide) (by omega) (by omega) (by decide))
      refine z_xP zt49 29 78 [some (.ref a0), some (.int p1), some (.int x48), some (.int b3), some (.int b4), some (.long b5), none, some (.int b7), some (.long y25), none] [] rfl rfl ?_
      refine z_xP zt49 30 82 [some (.ref a0), some (.int p1), some (.int x48), some (.int b3), some (.int b4), some (.long b5), none, some (.int b7), some (.long y25), none] [.long y25, .long b5] rfl rfl ?_
      refine z_xl2 zt49 31 rfl zo49 zkl2_38 ?_
      refine z_xL zt49 32 rfl rfl (P := fun _ => True) (fun (y50 : Int64) _ => ?_) trivial
      refine z_xL zt49 33 rfl rfl (P := fun _ => True) (fun (y52 : Int64) _ => ?_) trivial
      refine z_xP zt49 34 88 [some (.ref a0), some (.int p1), some (.int x48), some (.int b3), some (.int b4), some (.long b5), none, some (.int b7), some (.long y25), none] [.long 0, .long y52] rfl rfl ?_
      refine z_xI zt49 35 rfl rfl (fun (x54 : Int32) (h55 : (x54.toInt < 0 ∧ y52.toInt < 0) ∨ (x54.toInt = 0 ∧ y52.toInt = 0) ∨ (0 < x54.toInt ∧ 0 < y52.toInt)) => ?_) (z_qCmp rfl rfl)
      refine z_xZ zt49 36 rfl rfl (fun (h56 : x54.toInt = 0) => ?_) (fun (h56 : x54.toInt ≠ 0) => ?_)
      · skip
        refine z_xN zt49 41 rfl rfl (fun (x57 : Int32) (h58 : x57.toInt = b7.toInt + 1) => ?_) (z_pAdd rfl rfl (by omega) (by omega))
        show z_ev (d + 2) 49 102 [some (.ref a0), some (.int p1), some (.int x48), some (.int b3), some (.int b4), some (.long b5), none, some (.int x57), some (.long y25), none] [] M _
        refine z_xP zt49 42 28 [some (.ref a0), some (.int p1), some (.int x48), some (.int b3), some (.int b4), some (.long b5), none, some (.int x57), some (.long y25), none] [] rfl rfl ?_
        exact ih.2 M x48 b3 b4 b5 x57 (some (.long y25)) X ⟨by omega, by omega⟩ ⟨by omega, by omega⟩ ⟨by omega, by omega⟩ ⟨by omega, by omega⟩ (by omega) (by omega)
      refine z_xP zt49 37 96 [some (.ref a0), some (.int p1), some (.int x48), some (.int b3), some (.int b4), some (.long b5), none, some (.int b7), some (.long y25), none] [.int b7, .int 1, .int b3] rfl rfl ?_
      refine z_xI zt49 38 rfl rfl (fun (x59 : Int32) (h60 : 1 ≤ x59.toInt ∧ x59.toInt ≤ 512) => ?_) (z_pShlB (a := 1) (b := 9) (c := 512) (r := 512) rfl rfl (by omega) (by omega) (by omega) (by omega) (by decide) (by decide) (by decide) (by decide))
      refine z_xI zt49 39 rfl rfl (fun (x61 : Int32) (h62 : 0 ≤ x61.toInt ∧ x61.toInt < 1024 ∧ b3.toInt ≤ x61.toInt ∧ x59.toInt ≤ x61.toInt) => ?_) (z_pOr 10 rfl rfl (by omega) (by omega) (by decide) (by omega) (by omega) (by decide))
      refine z_xP zt49 40 99 [some (.ref a0), some (.int p1), some (.int x48), some (.int x61), some (.int b4), some (.long b5), none, some (.int b7), some (.long y25), none] [] rfl rfl ?_
      refine z_xN zt49 41 rfl rfl (fun (x63 : Int32) (h64 : x63.toInt = b7.toInt + 1) => ?_) (z_pAdd rfl rfl (by omega) (by omega))
      show z_ev (d + 2) 49 102 [some (.ref a0), some (.int p1), some (.int x48), some (.int x61), some (.int b4), some (.long b5), none, some (.int x63), some (.long y25), none] [] M _
      refine z_xP zt49 42 28 [some (.ref a0), some (.int p1), some (.int x48), some (.int x61), some (.int b4), some (.long b5), none, some (.int x63), some (.long y25), none] [] rfl rfl ?_
      exact ih.2 M x48 x61 b4 b5 x63 (some (.long y25)) X ⟨by omega, by omega⟩ ⟨by omega, by omega⟩ ⟨by omega, by omega⟩ ⟨by omega, by omega⟩ (by omega) (by omega)
theorem zC49 {T : List zK} {d : Nat} {K : Option Value → zH → Prop} {a0 : Nat} {q : Nat} {t : Nat} {m : Nat} {p1 : Int32} {M0 : zH} (hW : z_W M0 T) (k0 : T[a0]? = some (.inl (2, q, t, m, 0))) (kk : ∀ (x : Int32) (M1 : zH), z_X T zw49 M0 M1 → (-1) ≤ x.toInt → x.toInt ≤ 1048575 → K (some (.int x)) M1) : z_ev (d + 2) 49 0 [some (.ref a0), some (.int p1), none, none, none, none, none, none, none, none] [] M0 K := by
  have X : z_X T zw49 M0 M0 := .refl hW
  have g0 := X.1.p2 k0
  refine z_xP zt49 0 7 [some (.ref a0), some (.int p1), some (.int 0), some (.int 0), some (.int 0), none, none, none, none, none] [] rfl rfl ?_
  have q0 : ((0 : Int32)).toInt = 0 := rfl
  exact (zB49 k0 kk 1683).1 M0 (0) (0) (0) none none none X (by decide) (by decide) (by decide) (by omega)
def zw47 : List Nat := []
theorem zC47 {T : List zK} {d : Nat} {K : Option Value → zH → Prop} {p1 : Int32} {p2 : Int32} {p3 : Int32} {p4 : Int32} {M0 : zH} (hW : z_W M0 T)  (hG : z_GG T M0) (kk : ∀ (x : Int32) (M1 : zH), z_X T zw47 M0 M1 → (-3) ≤ x.toInt → x.toInt ≤ 1 → K (some (.int x)) M1) : z_ev (d + 3) 47 0 [some (.ref 4), some (.int p1), some (.int p2), some (.int p3), some (.int p4), none, none] [] M0 K := by
  have X : z_X T zw47 M0 M0 := .refl hW
  refine z_xP zt47 0 2 [some (.ref 4), some (.int p1), some (.int p2), some (.int p3), some (.int p4), none, none] [.int p1, .ref 4] rfl rfl ?_
  have f4 : T[4]? = some (.inl (0, 0, 0, 0, 0)) := X.1.k rfl (by decide)
  refine z_xcV (vs := [.ref 4, .int p1]) (r := []) (L2 := [some (.ref 4), some (.int p1)]) zt47 1 rfl zo47 zzcV0_108 (Or.inl rfl) rfl X f4 rfl rfl rfl (Nat.le_of_ble_eq_true rfl) zzm37 (Nat.le_of_ble_eq_true rfl) rfl ?_
  refine z_xP zt37 0 1 [some (.ref 4), some (.int p1)] [.int p1] rfl rfl ?_
  refine z_xZ zt37 1 rfl rfl (fun (h1 : p1.toInt < 0) => ?_) (fun (h1 : 0 ≤ p1.toInt) => ?_)
  · skip
    refine z_xP zt37 5 25 [some (.ref 4), some (.int p1)] [.null] rfl rfl ?_
    refine z_xrn zt37 11 rfl zzr37 ?_
    show z_ev (d + 3) 47 5 [some (.ref 4), some (.int p1), some (.int p2), some (.int p3), some (.int p4), none, none] [.null] M0 _
    refine z_xP zt47 2 32 [some (.ref 4), some (.int p1), some (.int p2), some (.int p3), some (.int p4), some (.null), none] [] rfl rfl ?_
    refine z_xP zt47 9 33 [some (.ref 4), some (.int p1), some (.int p2), some (.int p3), some (.int p4), some (.null), none] [.int (-1)] rfl rfl ?_
    have qm1 : (((-1) : Int32)).toInt = (-1) := rfl
    exact z_xri zt47 10 rfl zzr47 (kk (-1) M0 X (by omega) (by omega))
  refine z_xP zt37 2 6 [some (.ref 4), some (.int p1)] [.ref 4, .int p1] rfl rfl ?_
  refine z_xgI zt37 3 rfl zo37 zzf0_59 X f4 (by decide) (by decide) rfl (fun (x3 : Int32) h2 (h4 : 0 ≤ x3.toInt) (h5 : x3.toInt ≤ 8) => ?_)
  have h6 := z_b32 p1
  refine z_xJ zt37 4 rfl rfl (fun (h7 : p1.toInt < x3.toInt) => ?_) (fun (h7 : x3.toInt ≤ p1.toInt) => ?_)
  · skip
    refine z_xP zt37 6 17 [some (.ref 4), some (.int p1)] [.ref 4] rfl rfl ?_
    refine z_xgX (b := 10) zt37 7 rfl zo37 zzf0_18 X f4 (by decide) (by decide) rfl ?_
    refine z_xP zt37 8 21 [some (.ref 4), some (.int p1)] [.int p1, .ref 10] rfl rfl ?_
    have f10 : T[10]? = some (.inr (10, 2, 8, 9, 0)) := X.1.k rfl (by decide)
    refine z_xal zt37 9 rfl X f10 (by decide) (by decide) (by decide) (by omega) (by omega) (fun (a8 : Nat) h9 h10 => ?_) (fun h11 => absurd h11 (z_Gs (hG.go X (by decide)).2.1 h2 (by omega) (by omega)))
    obtain ⟨q12, t13, m14, k15⟩ : ∃ q t m, T[a8]? = some (.inl (3, q, t, m, 9)) := h10
    have g16 := X.1.p3 k15
    refine z_xgR (κ := .inl (2, q12, t13, m14, 0)) zt37 10 rfl zo37 zzf0_89 X k15 (by decide) (by decide) rfl (fun (a18 : Nat) h17 k19 => ?_)
    have g20 := X.1.p2 k19
    refine z_xra zt37 11 rfl zzr37 ?_
    show z_ev (d + 3) 47 5 [some (.ref 4), some (.int p1), some (.int p2), some (.int p3), some (.int p4), none, none] [.ref a18] M0 _
    refine z_xP zt47 2 12 [some (.ref 4), some (.int p1), some (.int p2), some (.int p3), some (.int p4), some (.ref a18), none] [] rfl rfl ?_
    refine z_xP zt47 3 16 [some (.ref 4), some (.int p1), some (.int p2), some (.int p3), some (.int p4), some (.ref a18), none] [.int p3, .int p2, .ref a18] rfl rfl ?_
    refine z_xcV (vs := [.ref a18, .int p2, .int p3]) (r := []) (L2 := [some (.ref a18), some (.int p2), some (.int p3)]) zt47 4 rfl zo47 zzcV0_123 (Or.inl rfl) rfl X k19 rfl rfl rfl (Nat.le_of_ble_eq_true rfl) zzm43 (Nat.le_of_ble_eq_true rfl) rfl ?_
    refine z_xP zt43 0 2 [some (.ref a18), some (.int p2), some (.int p3)] [.int p2, .ref a18] rfl rfl ?_
    refine z_xcV (vs := [.ref a18, .int p2]) (r := []) (L2 := [some (.ref a18), some (.int p2)]) zt43 1 rfl zo43 zzcV2_76 (Or.inl rfl) rfl X k19 rfl rfl rfl (Nat.le_of_ble_eq_true rfl) zzm28 (Nat.le_of_ble_eq_true rfl) rfl ?_
    refine z_xP zt28 0 1 [some (.ref a18), some (.int p2)] [.int p2] rfl rfl ?_
    refine z_xZ zt28 1 rfl rfl (fun (h21 : p2.toInt < 0) => ?_) (fun (h21 : 0 ≤ p2.toInt) => ?_)
    · skip
      refine z_xP zt28 6 17 [some (.ref a18), some (.int p2)] [.int 0] rfl rfl ?_
      refine z_xrz zt28 7 rfl zzr28 (by decide) (by decide) ?_
      show z_ev (d + 2) 43 5 [some (.ref a18), some (.int p2), some (.int p3)] [.int 0] M0 _
      refine z_xZ zt43 2 rfl rfl (fun (h22 : (0 : Int) = 0) => ?_) (fun (h22 : (0 : Int) ≠ 0) => absurd h22 (by omega))
      refine z_xP zt43 10 27 [some (.ref a18), some (.int p2), some (.int p3)] [.int 0] rfl rfl ?_
      refine z_xrz zt43 11 rfl zzr43 (by decide) (by decide) ?_
      show z_ev (d + 3) 47 19 [some (.ref 4), some (.int p1), some (.int p2), some (.int p3), some (.int p4), some (.ref a18), none] [.int 0] M0 _
      refine z_xZ zt47 5 rfl rfl (fun (h23 : (0 : Int) = 0) => ?_) (fun (h23 : (0 : Int) ≠ 0) => absurd h23 (by omega))
      refine z_xP zt47 9 33 [some (.ref 4), some (.int p1), some (.int p2), some (.int p3), some (.int p4), some (.ref a18), none] [.int (-1)] rfl rfl ?_
      have qm1 : (((-1) : Int32)).toInt = (-1) := rfl
      exact z_xri zt47 10 rfl zzr47 (kk (-1) M0 X (by omega) (by omega))
    refine z_xP zt28 2 6 [some (.ref a18), some (.int p2)] [.ref a18, .int p2] rfl rfl ?_
    refine z_xgI zt28 3 rfl zo28 zzf2_32 X k19 (by decide) (by decide) rfl (fun (x25 : Int32) h24 (h26 : ((z_po q12 : Nat) : Int) - 1 ≤ x25.toInt) (h27 : x25.toInt ≤ ((z_po q12 : Nat) : Int) - 1) => ?_)
    have h28 := z_b32 p2
    refine z_xJ zt28 4 rfl rfl (fun (h29 : x25.toInt < p2.toInt) => ?_) (fun (h29 : p2.toInt ≤ x25.toInt) => ?_)
    · skip
      refine z_xP zt28 6 17 [some (.ref a18), some (.int p2)] [.int 0] rfl rfl ?_
      refine z_xrz zt28 7 rfl zzr28 (by decide) (by decide) ?_
      show z_ev (d + 2) 43 5 [some (.ref a18), some (.int p2), some (.int p3)] [.int 0] M0 _
      refine z_xZ zt43 2 rfl rfl (fun (h30 : (0 : Int) = 0) => ?_) (fun (h30 : (0 : Int) ≠ 0) => absurd h30 (by omega))
      refine z_xP zt43 10 27 [some (.ref a18), some (.int p2), some (.int p3)] [.int 0] rfl rfl ?_
      refine z_xrz zt43 11 rfl zzr43 (by decide) (by decide) ?_
      show z_ev (d + 3) 47 19 [some (.ref 4), some (.int p1), some (.int p2), some (.int p3), some (.int p4), some (.ref a18), none] [.int 0] M0 _
      refine z_xZ zt47 5 rfl rfl (fun (h31 : (0 : Int) = 0) => ?_) (fun (h31 : (0 : Int) ≠ 0) => absurd h31 (by omega))
      refine z_xP zt47 9 33 [some (.ref 4), some (.int p1), some (.int p2), some (.int p3), some (.int p4), some (.ref a18), none] [.int (-1)] rfl rfl ?_
      have qm1 : (((-1) : Int32)).toInt = (-1) := rfl
      exact z_xri zt47 10 rfl zzr47 (kk (-1) M0 X (by omega) (by omega))
    refine z_xP zt28 5 17 [some (.ref a18), some (.int p2)] [.int 1] rfl rfl ?_
    refine z_xrz zt28 7 rfl zzr28 (by decide) (by decide) ?_
    show z_ev (d + 2) 43 5 [some (.ref a18), some (.int p2), some (.int p3)] [.int 1] M0 _
    refine z_xZ zt43 2 rfl rfl (fun (h32 : (1 : Int) = 0) => absurd h32 (by omega)) (fun (h32 : (1 : Int) ≠ 0) => ?_)
    refine z_xP zt43 3 10 [some (.ref a18), some (.int p2), some (.int p3)] [.int p3, .ref a18] rfl rfl ?_
    refine z_xcV (vs := [.ref a18, .int p3]) (r := []) (L2 := [some (.ref a18), some (.int p3)]) zt43 4 rfl zo43 zzcV2_76 (Or.inl rfl) rfl X k19 rfl rfl rfl (Nat.le_of_ble_eq_true rfl) zzm28 (Nat.le_of_ble_eq_true rfl) rfl ?_
    refine z_xP zt28 0 1 [some (.ref a18), some (.int p3)] [.int p3] rfl rfl ?_
    refine z_xZ zt28 1 rfl rfl (fun (h33 : p3.toInt < 0) => ?_) (fun (h33 : 0 ≤ p3.toInt) => ?_)
    · skip
      refine z_xP zt28 6 17 [some (.ref a18), some (.int p3)] [.int 0] rfl rfl ?_
      refine z_xrz zt28 7 rfl zzr28 (by decide) (by decide) ?_
      show z_ev (d + 2) 43 13 [some (.ref a18), some (.int p2), some (.int p3)] [.int 0] M0 _
      refine z_xZ zt43 5 rfl rfl (fun (h34 : (0 : Int) = 0) => ?_) (fun (h34 : (0 : Int) ≠ 0) => absurd h34 (by omega))
      refine z_xP zt43 10 27 [some (.ref a18), some (.int p2), some (.int p3)] [.int 0] rfl rfl ?_
      refine z_xrz zt43 11 rfl zzr43 (by decide) (by decide) ?_
      show z_ev (d + 3) 47 19 [some (.ref 4), some (.int p1), some (.int p2), some (.int p3), some (.int p4), some (.ref a18), none] [.int 0] M0 _
      refine z_xZ zt47 5 rfl rfl (fun (h35 : (0 : Int) = 0) => ?_) (fun (h35 : (0 : Int) ≠ 0) => absurd h35 (by omega))
      refine z_xP zt47 9 33 [some (.ref 4), some (.int p1), some (.int p2), some (.int p3), some (.int p4), some (.ref a18), none] [.int (-1)] rfl rfl ?_
      have qm1 : (((-1) : Int32)).toInt = (-1) := rfl
      exact z_xri zt47 10 rfl zzr47 (kk (-1) M0 X (by omega) (by omega))
    refine z_xP zt28 2 6 [some (.ref a18), some (.int p3)] [.ref a18, .int p3] rfl rfl ?_
    refine z_xgv zt28 3 rfl zo28 zzf2_32 X k19 (by decide) h24 ?_
    have h36 := z_b32 p3
    refine z_xJ zt28 4 rfl rfl (fun (h37 : x25.toInt < p3.toInt) => ?_) (fun (h37 : p3.toInt ≤ x25.toInt) => ?_)
    · skip
      refine z_xP zt28 6 17 [some (.ref a18), some (.int p3)] [.int 0] rfl rfl ?_
      refine z_xrz zt28 7 rfl zzr28 (by decide) (by decide) ?_
      show z_ev (d + 2) 43 13 [some (.ref a18), some (.int p2), some (.int p3)] [.int 0] M0 _
      refine z_xZ zt43 5 rfl rfl (fun (h38 : (0 : Int) = 0) => ?_) (fun (h38 : (0 : Int) ≠ 0) => absurd h38 (by omega))
      refine z_xP zt43 10 27 [some (.ref a18), some (.int p2), some (.int p3)] [.int 0] rfl rfl ?_
      refine z_xrz zt43 11 rfl zzr43 (by decide) (by decide) ?_
      show z_ev (d + 3) 47 19 [some (.ref 4), some (.int p1), some (.int p2), some (.int p3), some (.int p4), some (.ref a18), none] [.int 0] M0 _
      refine z_xZ zt47 5 rfl rfl (fun (h39 : (0 : Int) = 0) => ?_) (fun (h39 : (0 : Int) ≠ 0) => absurd h39 (by omega))
      refine z_xP zt47 9 33 [some (.ref 4), some (.int p1), some (.int p2), some (.int p3), some (.int p4), some (.ref a18), none] [.int (-1)] rfl rfl ?_
      have qm1 : (((-1) : Int32)).toInt = (-1) := rfl
      exact z_xri zt47 10 rfl zzr47 (kk (-1) M0 X (by omega) (by omega))
    refine z_xP zt28 5 17 [some (.ref a18), some (.int p3)] [.int 1] rfl rfl ?_
    refine z_xrz zt28 7 rfl zzr28 (by decide) (by decide) ?_
    show z_ev (d + 2) 43 13 [some (.ref a18), some (.int p2), some (.int p3)] [.int 1] M0 _
    refine z_xZ zt43 5 rfl rfl (fun (h40 : (1 : Int) = 0) => absurd h40 (by omega)) (fun (h40 : (1 : Int) ≠ 0) => ?_)
    refine z_xP zt43 6 18 [some (.ref a18), some (.int p2), some (.int p3)] [.int p3, .int p2] rfl rfl ?_
    refine z_xI zt43 7 rfl rfl (fun (x41 : Int32) (h42 : 0 ≤ x41.toInt ∧ x41.toInt ≤ p2.toInt ∧ x41.toInt ≤ p3.toInt) => ?_) (z_pAnd2 rfl rfl (by omega) (by omega))
    refine z_xZ zt43 8 rfl rfl (fun (h43 : x41.toInt ≠ 0) => ?_) (fun (h43 : x41.toInt = 0) => ?_)
    · skip
      refine z_xP zt43 10 27 [some (.ref a18), some (.int p2), some (.int p3)] [.int 0] rfl rfl ?_
      refine z_xrz zt43 11 rfl zzr43 (by decide) (by decide) ?_
      show z_ev (d + 3) 47 19 [some (.ref 4), some (.int p1), some (.int p2), some (.int p3), some (.int p4), some (.ref a18), none] [.int 0] M0 _
      refine z_xZ zt47 5 rfl rfl (fun (h44 : (0 : Int) = 0) => ?_) (fun (h44 : (0 : Int) ≠ 0) => absurd h44 (by omega))
      refine z_xP zt47 9 33 [some (.ref 4), some (.int p1), some (.int p2), some (.int p3), some (.int p4), some (.ref a18), none] [.int (-1)] rfl rfl ?_
      have qm1 : (((-1) : Int32)).toInt = (-1) := rfl
      exact z_xri zt47 10 rfl zzr47 (kk (-1) M0 X (by omega) (by omega))
    refine z_xP zt43 9 27 [some (.ref a18), some (.int p2), some (.int p3)] [.int 1] rfl rfl ?_
    refine z_xrz zt43 11 rfl zzr43 (by decide) (by decide) ?_
    show z_ev (d + 3) 47 19 [some (.ref 4), some (.int p1), some (.int p2), some (.int p3), some (.int p4), some (.ref a18), none] [.int 1] M0 _
    refine z_xZ zt47 5 rfl rfl (fun (h45 : (1 : Int) = 0) => absurd h45 (by omega)) (fun (h45 : (1 : Int) ≠ 0) => ?_)
    refine z_xP zt47 6 26 [some (.ref 4), some (.int p1), some (.int p2), some (.int p3), some (.int p4), some (.ref a18), none] [.int p4, .ref a18] rfl rfl ?_
    refine z_xcV (vs := [.ref a18, .int p4]) (r := []) (L2 := [some (.ref a18), some (.int p4)]) zt47 7 rfl zo47 zzcV0_129 (Or.inl rfl) rfl X k19 rfl rfl rfl (Nat.le_of_ble_eq_true rfl) zzm48 (Nat.le_of_ble_eq_true rfl) rfl ?_
    refine z_xP zt48 0 1 [some (.ref a18), some (.int p4)] [.int p4] rfl rfl ?_
    refine z_xZ zt48 1 rfl rfl (fun (h46 : p4.toInt < 0) => ?_) (fun (h46 : 0 ≤ p4.toInt) => ?_)
    · skip
      refine z_xP zt48 6 17 [some (.ref a18), some (.int p4)] [.int 0] rfl rfl ?_
      refine z_xrz zt48 7 rfl zzr48 (by decide) (by decide) ?_
      show z_ev (d + 3) 47 29 [some (.ref 4), some (.int p1), some (.int p2), some (.int p3), some (.int p4), some (.ref a18), none] [.int 0] M0 _
      refine z_xZ zt47 8 rfl rfl (fun (h47 : (0 : Int) ≠ 0) => absurd h47 (by omega)) (fun (h47 : (0 : Int) = 0) => ?_)
      refine z_xP zt47 9 33 [some (.ref 4), some (.int p1), some (.int p2), some (.int p3), some (.int p4), some (.ref a18), none] [.int (-1)] rfl rfl ?_
      have qm1 : (((-1) : Int32)).toInt = (-1) := rfl
      exact z_xri zt47 10 rfl zzr47 (kk (-1) M0 X (by omega) (by omega))
    refine z_xP zt48 2 6 [some (.ref a18), some (.int p4)] [.ref a18, .int p4] rfl rfl ?_
    refine z_xgI zt48 3 rfl zo48 zzf2_15 X k19 (by decide) (by decide) rfl (fun (x49 : Int32) h48 (h50 : (q12 : Int) ≤ x49.toInt) (h51 : x49.toInt ≤ (q12 : Int)) => ?_)
    have h52 := z_b32 p4
    refine z_xJ zt48 4 rfl rfl (fun (h53 : x49.toInt ≤ p4.toInt) => ?_) (fun (h53 : p4.toInt < x49.toInt) => ?_)
    · skip
      refine z_xP zt48 6 17 [some (.ref a18), some (.int p4)] [.int 0] rfl rfl ?_
      refine z_xrz zt48 7 rfl zzr48 (by decide) (by decide) ?_
      show z_ev (d + 3) 47 29 [some (.ref 4), some (.int p1), some (.int p2), some (.int p3), some (.int p4), some (.ref a18), none] [.int 0] M0 _
      refine z_xZ zt47 8 rfl rfl (fun (h54 : (0 : Int) ≠ 0) => absurd h54 (by omega)) (fun (h54 : (0 : Int) = 0) => ?_)
      refine z_xP zt47 9 33 [some (.ref 4), some (.int p1), some (.int p2), some (.int p3), some (.int p4), some (.ref a18), none] [.int (-1)] rfl rfl ?_
      have qm1 : (((-1) : Int32)).toInt = (-1) := rfl
      exact z_xri zt47 10 rfl zzr47 (kk (-1) M0 X (by omega) (by omega))
    refine z_xP zt48 5 17 [some (.ref a18), some (.int p4)] [.int 1] rfl rfl ?_
    refine z_xrz zt48 7 rfl zzr48 (by decide) (by decide) ?_
    show z_ev (d + 3) 47 29 [some (.ref 4), some (.int p1), some (.int p2), some (.int p3), some (.int p4), some (.ref a18), none] [.int 1] M0 _
    refine z_xZ zt47 8 rfl rfl (fun (h55 : (1 : Int) ≠ 0) => ?_) (fun (h55 : (1 : Int) = 0) => absurd h55 (by omega))
    refine z_xP zt47 11 40 [some (.ref 4), some (.int p1), some (.int p2), some (.int p3), some (.int p4), some (.ref a18), none] [.int 10, .int p3, .int p2, .ref a18] rfl rfl ?_
    refine z_xI zt47 12 rfl rfl (fun (x56 : Int32) (h57 : x56.toInt = p3.toInt * 1024) => ?_) (z_pShl 10 rfl rfl (by decide) (by decide) (by omega) rfl (by omega))
    refine z_xI zt47 13 rfl rfl (fun (x58 : Int32) (h59 : 0 ≤ x58.toInt ∧ x58.toInt < 1048576 ∧ p2.toInt ≤ x58.toInt ∧ x56.toInt ≤ x58.toInt) => ?_) (z_pOr 20 rfl rfl (by omega) (by omega) (by decide) (by omega) (by omega) (by decide))
    refine z_xcV (vs := [.ref a18, .int x58]) (r := []) (L2 := [some (.ref a18), some (.int x58), none, none, none, none, none, none, none, none]) zt47 14 rfl zo47 zzcV0_132 (Or.inl rfl) rfl X k19 rfl rfl rfl (Nat.le_of_ble_eq_true rfl) zzm49 (Nat.le_of_ble_eq_true rfl) rfl ?_
    refine zC49 X.1 k19 (fun x62 M60 X61 h63 h64 => ?_)
    have X65 := X.go X61 (z_sb (by decide))
    show z_ev (d + 3) 47 45 [some (.ref 4), some (.int p1), some (.int p2), some (.int p3), some (.int p4), some (.ref a18), none] [.int x62] M60 _
    refine z_xP zt47 15 49 [some (.ref 4), some (.int p1), some (.int p2), some (.int p3), some (.int p4), some (.ref a18), some (.int x62)] [.int x62] rfl rfl ?_
    refine z_xZ zt47 16 rfl rfl (fun (h67 : 0 ≤ x62.toInt) => ?_) (fun (h67 : x62.toInt < 0) => ?_)
    · skip
      refine z_xP zt47 19 59 [some (.ref 4), some (.int p1), some (.int p2), some (.int p3), some (.int p4), some (.ref a18), some (.int x62)] [.int p4, .int x62] rfl rfl ?_
      refine z_xI zt47 20 rfl rfl (fun (x68 : Int32) (h69 : 0 ≤ x68.toInt ∧ x68.toInt ≤ x62.toInt) => ?_) (z_pShrN rfl (by omega))
      refine z_xP zt47 21 61 [some (.ref 4), some (.int p1), some (.int p2), some (.int p3), some (.int p4), some (.ref a18), some (.int x62)] [.int 1, .int x68] rfl rfl ?_
      refine z_xI zt47 22 rfl rfl (fun (x70 : Int32) (h71 : 0 ≤ x70.toInt ∧ x70.toInt ≤ x68.toInt ∧ x70.toInt ≤ 1) => ?_) (z_pAnd2 rfl rfl (by omega) (by omega))
      refine z_xZ zt47 23 rfl rfl (fun (h72 : x70.toInt = 0) => ?_) (fun (h72 : x70.toInt ≠ 0) => ?_)
      · skip
        refine z_xP zt47 26 73 [some (.ref 4), some (.int p1), some (.int p2), some (.int p3), some (.int p4), some (.ref a18), some (.int x62)] [.int 10, .int p4, .int x62] rfl rfl ?_
        refine z_xI zt47 27 rfl rfl (fun (x73 : Int32) (h74 : x73.toInt = p4.toInt + 10) => ?_) (z_pAdd rfl rfl (by omega) (by omega))
        refine z_xI zt47 28 rfl rfl (fun (x75 : Int32) (h76 : 0 ≤ x75.toInt ∧ x75.toInt ≤ x62.toInt) => ?_) (z_pShrN rfl (by omega))
        refine z_xP zt47 29 76 [some (.ref 4), some (.int p1), some (.int p2), some (.int p3), some (.int p4), some (.ref a18), some (.int x62)] [.int 1, .int x75] rfl rfl ?_
        refine z_xI zt47 30 rfl rfl (fun (x77 : Int32) (h78 : 0 ≤ x77.toInt ∧ x77.toInt ≤ x75.toInt ∧ x77.toInt ≤ 1) => ?_) (z_pAnd2 rfl rfl (by omega) (by omega))
        refine z_xZ zt47 31 rfl rfl (fun (h79 : x77.toInt = 0) => ?_) (fun (h79 : x77.toInt ≠ 0) => ?_)
        · skip
          refine z_xP zt47 33 86 [some (.ref 4), some (.int p1), some (.int p2), some (.int p3), some (.int p4), some (.ref a18), some (.int x62)] [.int (-2)] rfl rfl ?_
          have qm2 : (((-2) : Int32)).toInt = (-2) := rfl
          exact z_xri zt47 34 rfl zzr47 (kk (-2) M60 X65 (by omega) (by omega))
        refine z_xP zt47 32 86 [some (.ref 4), some (.int p1), some (.int p2), some (.int p3), some (.int p4), some (.ref a18), some (.int x62)] [.int 0] rfl rfl ?_
        have q0 : ((0 : Int32)).toInt = 0 := rfl
        exact z_xri zt47 34 rfl zzr47 (kk 0 M60 X65 (by omega) (by omega))
      refine z_xP zt47 24 66 [some (.ref 4), some (.int p1), some (.int p2), some (.int p3), some (.int p4), some (.ref a18), some (.int x62)] [.int 1] rfl rfl ?_
      have q1 : ((1 : Int32)).toInt = 1 := rfl
      exact z_xri zt47 25 rfl zzr47 (kk 1 M60 X65 (by omega) (by omega))
    refine z_xP zt47 17 54 [some (.ref 4), some (.int p1), some (.int p2), some (.int p3), some (.int p4), some (.ref a18), some (.int x62)] [.int (-3)] rfl rfl ?_
    have qm3 : (((-3) : Int32)).toInt = (-3) := rfl
    exact z_xri zt47 18 rfl zzr47 (kk (-3) M60 X65 (by omega) (by omega))
  refine z_xP zt37 5 25 [some (.ref 4), some (.int p1)] [.null] rfl rfl ?_
  refine z_xrn zt37 11 rfl zzr37 ?_
  show z_ev (d + 3) 47 5 [some (.ref 4), some (.int p1), some (.int p2), some (.int p3), some (.int p4), none, none] [.null] M0 _
  refine z_xP zt47 2 32 [some (.ref 4), some (.int p1), some (.int p2), some (.int p3), some (.int p4), some (.null), none] [] rfl rfl ?_
  refine z_xP zt47 9 33 [some (.ref 4), some (.int p1), some (.int p2), some (.int p3), some (.int p4), some (.null), none] [.int (-1)] rfl rfl ?_
  have qm1 : (((-1) : Int32)).toInt = (-1) := rfl
  exact z_xri zt47 10 rfl zzr47 (kk (-1) M0 X (by omega) (by omega))
def zw51 : List Nat := []
theorem zB51 {T : List zK} {d : Nat} {K : Option Value → zH → Prop} {a0 : Nat} {q : Nat} {t : Nat} {m : Nat} {p1 : Int32} {M0 : zH} (k0 : T[a0]? = some (.inl (2, q, t, m, 0))) (u1 : 0 ≤ p1.toInt ∧ p1.toInt ≤ 1048575) (kk : ∀ (x : Int32) (M1 : zH), z_X T zw51 M0 M1 → 0 ≤ x.toInt → x.toInt ≤ 1048575 → K (some (.int x)) M1) : ∀ n : Nat, (∀ (M : zH) (b2 : Int32) (b3 : Int32) (b4 : Int32) (b5 : Int32) (o6 : Option Value), z_X T zw51 M0 M → 0 ≤ b2.toInt ∧ b2.toInt ≤ 1048575 → 0 ≤ b3.toInt ∧ b3.toInt ≤ 63 → 0 ≤ b4.toInt ∧ b4.toInt ≤ 1048575 → 0 ≤ b5.toInt ∧ b5.toInt ≤ 1024 → ((0) * 2 + 0) * 1025 + (1024 - b5.toInt) < (n : Int) → z_ev (d + 3) 51 13 [some (.ref a0), some (.int p1), some (.int b2), some (.int b3), some (.int b4), some (.int b5), o6] [] M K) := by
  intro n
  induction n with
  | zero => exact by intros; exfalso; omega
  | succ n ih =>
    intro M b2 b3 b4 b5 o6 X hh0 hh1 hh2 hh3 hE
    have g0 := X.1.p2 k0
    refine z_xP zt51 3 16 [some (.ref a0), some (.int p1), some (.int b2), some (.int b3), some (.int b4), some (.int b5), o6] [.ref a0, .int b5] rfl rfl ?_
    refine z_xgI zt51 4 rfl zo51 zzf2_32 X k0 (by decide) (by decide) rfl (fun (x2 : Int32) h1 (h3 : ((z_po q : Nat) : Int) - 1 ≤ x2.toInt) (h4 : x2.toInt ≤ ((z_po q : Nat) : Int) - 1) => ?_)
    refine z_xJ zt51 5 rfl rfl (fun (h5 : x2.toInt < b5.toInt) => ?_) (fun (h5 : b5.toInt ≤ x2.toInt) => ?_)
    · skip
      refine z_xP zt51 23 71 [some (.ref a0), some (.int p1), some (.int b2), some (.int b3), some (.int b4), some (.int b5), o6] [.int b2] rfl rfl ?_
      exact z_xri zt51 24 rfl zzr51 (kk b2 M X (by omega) (by omega))
    refine z_xP zt51 6 25 [some (.ref a0), some (.int p1), some (.int b2), some (.int b3), some (.int b4), some (.int b5), o6] [.int p1, .int b4] rfl rfl ?_
    refine z_xJ zt51 7 rfl rfl (fun (h6 : b4.toInt = p1.toInt) => ?_) (fun (h6 : b4.toInt ≠ p1.toInt) => ?_)
    · skip
      refine z_xP zt51 23 71 [some (.ref a0), some (.int p1), some (.int b2), some (.int b3), some (.int b4), some (.int b5), o6] [.int b2] rfl rfl ?_
      exact z_xri zt51 24 rfl zzr51 (kk b2 M X (by omega) (by omega))
    refine z_xP zt51 8 30 [some (.ref a0), some (.int p1), some (.int b2), some (.int b3), some (.int b4), some (.int b5), o6] [.int b4] rfl rfl ?_
    refine z_xcS (vs := [.int b4]) (r := []) (L2 := [some (.int b4)]) zt51 9 rfl zo51 zzcS2_86 (Or.inl rfl) (Nat.le_of_ble_eq_true rfl) rfl rfl (Nat.le_of_ble_eq_true rfl) zzm31 (Nat.le_of_ble_eq_true rfl) rfl ?_
    refine zC31 X.1 (fun x9 M7 X8 h10 h11 => ?_)
    have X12 := X.go X8 (z_sb (by decide))
    show z_ev (d + 3) 51 33 [some (.ref a0), some (.int p1), some (.int b2), some (.int b3), some (.int b4), some (.int b5), o6] [.int x9] M7 _
    refine z_xP zt51 10 38 [some (.ref a0), some (.int p1), some (.int b2), some (.int b3), some (.int b4), some (.int b5), some (.int x9)] [.int b3, .int x9] rfl rfl ?_
    refine z_xJ zt51 11 rfl rfl (fun (h14 : b3.toInt ≤ x9.toInt) => ?_) (fun (h14 : x9.toInt < b3.toInt) => ?_)
    · skip
      refine z_xP zt51 16 59 [some (.ref a0), some (.int p1), some (.int b2), some (.int b3), some (.int b4), some (.int b5), some (.int x9)] [.int p1, .int b4] rfl rfl ?_
      refine z_xI zt51 17 rfl rfl (fun (x15 : Int32) (h16 : x15.toInt = b4.toInt - p1.toInt) => ?_) (z_pSub rfl rfl (by omega) (by omega))
      refine z_xP zt51 18 61 [some (.ref a0), some (.int p1), some (.int b2), some (.int b3), some (.int b4), some (.int b5), some (.int x9)] [.int p1, .int x15] rfl rfl ?_
      refine z_xI zt51 19 rfl rfl (fun (x17 : Int32) (h18 : 0 ≤ x17.toInt ∧ x17.toInt ≤ p1.toInt) => ?_) (z_pAnd rfl (by omega))
      refine z_xP zt51 20 64 [some (.ref a0), some (.int p1), some (.int b2), some (.int b3), some (.int x17), some (.int b5), some (.int x9)] [] rfl rfl ?_
      refine z_xN zt51 21 rfl rfl (fun (x19 : Int32) (h20 : x19.toInt = b5.toInt + 1) => ?_) (z_pAdd rfl rfl (by omega) (by omega))
      show z_ev (d + 3) 51 67 [some (.ref a0), some (.int p1), some (.int b2), some (.int b3), some (.int x17), some (.int x19), some (.int x9)] [] M7 _
      refine z_xP zt51 22 13 [some (.ref a0), some (.int p1), some (.int b2), some (.int b3), some (.int x17), some (.int x19), some (.int x9)] [] rfl rfl ?_
      exact ih M7 b2 b3 x17 x19 (some (.int x9)) X12 ⟨by omega, by omega⟩ ⟨by omega, by omega⟩ ⟨by omega, by omega⟩ ⟨by omega, by omega⟩ (by omega)
    refine z_xP zt51 12 44 [some (.ref a0), some (.int p1), some (.int b2), some (.int b3), some (.int b4), some (.int b5), some (.int x9)] [.int b4, .ref a0] rfl rfl ?_
    refine z_xcV (vs := [.ref a0, .int b4]) (r := []) (L2 := [some (.ref a0), some (.int b4), none]) zt51 13 rfl zo51 zzcV2_91 (Or.inl rfl) rfl X12 k0 rfl rfl rfl (Nat.le_of_ble_eq_true rfl) zzm44 (Nat.le_of_ble_eq_true rfl) rfl ?_
    refine zC44 X12.1 k0 (fun x23 M21 X22 h24 h25 => ?_)
    have X26 := X12.go X22 (z_sb (by decide))
    show z_ev (d + 3) 51 47 [some (.ref a0), some (.int p1), some (.int b2), some (.int b3), some (.int b4), some (.int b5), some (.int x9)] [.int x23] M21 _
    refine z_xZ zt51 14 rfl rfl (fun (h28 : x23.toInt ≠ 0) => ?_) (fun (h28 : x23.toInt = 0) => ?_)
    · skip
      refine z_xP zt51 16 59 [some (.ref a0), some (.int p1), some (.int b2), some (.int b3), some (.int b4), some (.int b5), some (.int x9)] [.int p1, .int b4] rfl rfl ?_
      refine z_xI zt51 17 rfl rfl (fun (x29 : Int32) (h30 : x29.toInt = b4.toInt - p1.toInt) => ?_) (z_pSub rfl rfl (by omega) (by omega))
      refine z_xP zt51 18 61 [some (.ref a0), some (.int p1), some (.int b2), some (.int b3), some (.int b4), some (.int b5), some (.int x9)] [.int p1, .int x29] rfl rfl ?_
      refine z_xI zt51 19 rfl rfl (fun (x31 : Int32) (h32 : 0 ≤ x31.toInt ∧ x31.toInt ≤ p1.toInt) => ?_) (z_pAnd rfl (by omega))
      refine z_xP zt51 20 64 [some (.ref a0), some (.int p1), some (.int b2), some (.int b3), some (.int x31), some (.int b5), some (.int x9)] [] rfl rfl ?_
      refine z_xN zt51 21 rfl rfl (fun (x33 : Int32) (h34 : x33.toInt = b5.toInt + 1) => ?_) (z_pAdd rfl rfl (by omega) (by omega))
      show z_ev (d + 3) 51 67 [some (.ref a0), some (.int p1), some (.int b2), some (.int b3), some (.int x31), some (.int x33), some (.int x9)] [] M21 _
      refine z_xP zt51 22 13 [some (.ref a0), some (.int p1), some (.int b2), some (.int b3), some (.int x31), some (.int x33), some (.int x9)] [] rfl rfl ?_
      exact ih M21 b2 b3 x31 x33 (some (.int x9)) X26 ⟨by omega, by omega⟩ ⟨by omega, by omega⟩ ⟨by omega, by omega⟩ ⟨by omega, by omega⟩ (by omega)
    refine z_xP zt51 15 56 [some (.ref a0), some (.int p1), some (.int b4), some (.int x9), some (.int b4), some (.int b5), some (.int x9)] [] rfl rfl ?_
    refine z_xP zt51 16 59 [some (.ref a0), some (.int p1), some (.int b4), some (.int x9), some (.int b4), some (.int b5), some (.int x9)] [.int p1, .int b4] rfl rfl ?_
    refine z_xI zt51 17 rfl rfl (fun (x35 : Int32) (h36 : x35.toInt = b4.toInt - p1.toInt) => ?_) (z_pSub rfl rfl (by omega) (by omega))
    refine z_xP zt51 18 61 [some (.ref a0), some (.int p1), some (.int b4), some (.int x9), some (.int b4), some (.int b5), some (.int x9)] [.int p1, .int x35] rfl rfl ?_
    refine z_xI zt51 19 rfl rfl (fun (x37 : Int32) (h38 : 0 ≤ x37.toInt ∧ x37.toInt ≤ p1.toInt) => ?_) (z_pAnd rfl (by omega))
    refine z_xP zt51 20 64 [some (.ref a0), some (.int p1), some (.int b4), some (.int x9), some (.int x37), some (.int b5), some (.int x9)] [] rfl rfl ?_
    refine z_xN zt51 21 rfl rfl (fun (x39 : Int32) (h40 : x39.toInt = b5.toInt + 1) => ?_) (z_pAdd rfl rfl (by omega) (by omega))
    show z_ev (d + 3) 51 67 [some (.ref a0), some (.int p1), some (.int b4), some (.int x9), some (.int x37), some (.int x39), some (.int x9)] [] M21 _
    refine z_xP zt51 22 13 [some (.ref a0), some (.int p1), some (.int b4), some (.int x9), some (.int x37), some (.int x39), some (.int x9)] [] rfl rfl ?_
    exact ih M21 b4 x9 x37 x39 (some (.int x9)) X26 ⟨by omega, by omega⟩ ⟨by omega, by omega⟩ ⟨by omega, by omega⟩ ⟨by omega, by omega⟩ (by omega)
theorem zC51 {T : List zK} {d : Nat} {K : Option Value → zH → Prop} {a0 : Nat} {q : Nat} {t : Nat} {m : Nat} {p1 : Int32} {M0 : zH} (hW : z_W M0 T) (k0 : T[a0]? = some (.inl (2, q, t, m, 0))) (u1 : 0 ≤ p1.toInt ∧ p1.toInt ≤ 1048575) (kk : ∀ (x : Int32) (M1 : zH), z_X T zw51 M0 M1 → 0 ≤ x.toInt → x.toInt ≤ 1048575 → K (some (.int x)) M1) : z_ev (d + 3) 51 0 [some (.ref a0), some (.int p1), none, none, none, none, none] [] M0 K := by
  have X : z_X T zw51 M0 M0 := .refl hW
  have g0 := X.1.p2 k0
  refine z_xP zt51 0 3 [some (.ref a0), some (.int p1), some (.int p1), none, none, none, none] [.int p1] rfl rfl ?_
  refine z_xcS (vs := [.int p1]) (r := []) (L2 := [some (.int p1)]) zt51 1 rfl zo51 zzcS2_86 (Or.inl rfl) (Nat.le_of_ble_eq_true rfl) rfl rfl (Nat.le_of_ble_eq_true rfl) zzm31 (Nat.le_of_ble_eq_true rfl) rfl ?_
  refine zC31 X.1 (fun x3 M1 X2 h4 h5 => ?_)
  have X6 := X.go X2 (z_sb (by decide))
  show z_ev (d + 3) 51 6 [some (.ref a0), some (.int p1), some (.int p1), none, none, none, none] [.int x3] M1 _
  refine z_xP zt51 2 13 [some (.ref a0), some (.int p1), some (.int p1), some (.int x3), some (.int 0), some (.int 0), none] [] rfl rfl ?_
  have q0 : ((0 : Int32)).toInt = 0 := rfl
  exact (zB51 k0 u1 kk 2050) M1 p1 x3 (0) (0) none X6 ⟨by omega, by omega⟩ ⟨by omega, by omega⟩ (by decide) (by decide) (by omega)
def zw50 : List Nat := []
theorem zC50 {T : List zK} {d : Nat} {K : Option Value → zH → Prop} {p1 : Int32} {p2 : Int32} {p3 : Int32} {M0 : zH} (hW : z_W M0 T)  (hG : z_GG T M0) (kk : ∀ (x : Int32) (M1 : zH), z_X T zw50 M0 M1 → (-2) ≤ x.toInt → x.toInt ≤ 1048575 → K (some (.int x)) M1) : z_ev (d + 4) 50 0 [some (.ref 4), some (.int p1), some (.int p2), some (.int p3), none, none] [] M0 K := by
  have X : z_X T zw50 M0 M0 := .refl hW
  refine z_xP zt50 0 2 [some (.ref 4), some (.int p1), some (.int p2), some (.int p3), none, none] [.int p1, .ref 4] rfl rfl ?_
  have f4 : T[4]? = some (.inl (0, 0, 0, 0, 0)) := X.1.k rfl (by decide)
  refine z_xcV (vs := [.ref 4, .int p1]) (r := []) (L2 := [some (.ref 4), some (.int p1)]) zt50 1 rfl zo50 zzcV0_108 (Or.inl rfl) rfl X f4 rfl rfl rfl (Nat.le_of_ble_eq_true rfl) zzm37 (Nat.le_of_ble_eq_true rfl) rfl ?_
  refine z_xP zt37 0 1 [some (.ref 4), some (.int p1)] [.int p1] rfl rfl ?_
  refine z_xZ zt37 1 rfl rfl (fun (h1 : p1.toInt < 0) => ?_) (fun (h1 : 0 ≤ p1.toInt) => ?_)
  · skip
    refine z_xP zt37 5 25 [some (.ref 4), some (.int p1)] [.null] rfl rfl ?_
    refine z_xrn zt37 11 rfl zzr37 ?_
    show z_ev (d + 4) 50 5 [some (.ref 4), some (.int p1), some (.int p2), some (.int p3), none, none] [.null] M0 _
    refine z_xP zt50 2 22 [some (.ref 4), some (.int p1), some (.int p2), some (.int p3), some (.null), none] [] rfl rfl ?_
    refine z_xP zt50 6 23 [some (.ref 4), some (.int p1), some (.int p2), some (.int p3), some (.null), none] [.int (-1)] rfl rfl ?_
    have qm1 : (((-1) : Int32)).toInt = (-1) := rfl
    exact z_xri zt50 7 rfl zzr50 (kk (-1) M0 X (by omega) (by omega))
  refine z_xP zt37 2 6 [some (.ref 4), some (.int p1)] [.ref 4, .int p1] rfl rfl ?_
  refine z_xgI zt37 3 rfl zo37 zzf0_59 X f4 (by decide) (by decide) rfl (fun (x3 : Int32) h2 (h4 : 0 ≤ x3.toInt) (h5 : x3.toInt ≤ 8) => ?_)
  have h6 := z_b32 p1
  refine z_xJ zt37 4 rfl rfl (fun (h7 : p1.toInt < x3.toInt) => ?_) (fun (h7 : x3.toInt ≤ p1.toInt) => ?_)
  · skip
    refine z_xP zt37 6 17 [some (.ref 4), some (.int p1)] [.ref 4] rfl rfl ?_
    refine z_xgX (b := 10) zt37 7 rfl zo37 zzf0_18 X f4 (by decide) (by decide) rfl ?_
    refine z_xP zt37 8 21 [some (.ref 4), some (.int p1)] [.int p1, .ref 10] rfl rfl ?_
    have f10 : T[10]? = some (.inr (10, 2, 8, 9, 0)) := X.1.k rfl (by decide)
    refine z_xal zt37 9 rfl X f10 (by decide) (by decide) (by decide) (by omega) (by omega) (fun (a8 : Nat) h9 h10 => ?_) (fun h11 => absurd h11 (z_Gs (hG.go X (by decide)).2.1 h2 (by omega) (by omega)))
    obtain ⟨q12, t13, m14, k15⟩ : ∃ q t m, T[a8]? = some (.inl (3, q, t, m, 9)) := h10
    have g16 := X.1.p3 k15
    refine z_xgR (κ := .inl (2, q12, t13, m14, 0)) zt37 10 rfl zo37 zzf0_89 X k15 (by decide) (by decide) rfl (fun (a18 : Nat) h17 k19 => ?_)
    have g20 := X.1.p2 k19
    refine z_xra zt37 11 rfl zzr37 ?_
    show z_ev (d + 4) 50 5 [some (.ref 4), some (.int p1), some (.int p2), some (.int p3), none, none] [.ref a18] M0 _
    refine z_xP zt50 2 12 [some (.ref 4), some (.int p1), some (.int p2), some (.int p3), some (.ref a18), none] [] rfl rfl ?_
    refine z_xP zt50 3 16 [some (.ref 4), some (.int p1), some (.int p2), some (.int p3), some (.ref a18), none] [.int p3, .int p2, .ref a18] rfl rfl ?_
    refine z_xcV (vs := [.ref a18, .int p2, .int p3]) (r := []) (L2 := [some (.ref a18), some (.int p2), some (.int p3)]) zt50 4 rfl zo50 zzcV0_123 (Or.inl rfl) rfl X k19 rfl rfl rfl (Nat.le_of_ble_eq_true rfl) zzm43 (Nat.le_of_ble_eq_true rfl) rfl ?_
    refine z_xP zt43 0 2 [some (.ref a18), some (.int p2), some (.int p3)] [.int p2, .ref a18] rfl rfl ?_
    refine z_xcV (vs := [.ref a18, .int p2]) (r := []) (L2 := [some (.ref a18), some (.int p2)]) zt43 1 rfl zo43 zzcV2_76 (Or.inl rfl) rfl X k19 rfl rfl rfl (Nat.le_of_ble_eq_true rfl) zzm28 (Nat.le_of_ble_eq_true rfl) rfl ?_
    refine z_xP zt28 0 1 [some (.ref a18), some (.int p2)] [.int p2] rfl rfl ?_
    refine z_xZ zt28 1 rfl rfl (fun (h21 : p2.toInt < 0) => ?_) (fun (h21 : 0 ≤ p2.toInt) => ?_)
    · skip
      refine z_xP zt28 6 17 [some (.ref a18), some (.int p2)] [.int 0] rfl rfl ?_
      refine z_xrz zt28 7 rfl zzr28 (by decide) (by decide) ?_
      show z_ev (d + 3) 43 5 [some (.ref a18), some (.int p2), some (.int p3)] [.int 0] M0 _
      refine z_xZ zt43 2 rfl rfl (fun (h22 : (0 : Int) = 0) => ?_) (fun (h22 : (0 : Int) ≠ 0) => absurd h22 (by omega))
      refine z_xP zt43 10 27 [some (.ref a18), some (.int p2), some (.int p3)] [.int 0] rfl rfl ?_
      refine z_xrz zt43 11 rfl zzr43 (by decide) (by decide) ?_
      show z_ev (d + 4) 50 19 [some (.ref 4), some (.int p1), some (.int p2), some (.int p3), some (.ref a18), none] [.int 0] M0 _
      refine z_xZ zt50 5 rfl rfl (fun (h23 : (0 : Int) ≠ 0) => absurd h23 (by omega)) (fun (h23 : (0 : Int) = 0) => ?_)
      refine z_xP zt50 6 23 [some (.ref 4), some (.int p1), some (.int p2), some (.int p3), some (.ref a18), none] [.int (-1)] rfl rfl ?_
      have qm1 : (((-1) : Int32)).toInt = (-1) := rfl
      exact z_xri zt50 7 rfl zzr50 (kk (-1) M0 X (by omega) (by omega))
    refine z_xP zt28 2 6 [some (.ref a18), some (.int p2)] [.ref a18, .int p2] rfl rfl ?_
    refine z_xgI zt28 3 rfl zo28 zzf2_32 X k19 (by decide) (by decide) rfl (fun (x25 : Int32) h24 (h26 : ((z_po q12 : Nat) : Int) - 1 ≤ x25.toInt) (h27 : x25.toInt ≤ ((z_po q12 : Nat) : Int) - 1) => ?_)
    have h28 := z_b32 p2
    refine z_xJ zt28 4 rfl rfl (fun (h29 : x25.toInt < p2.toInt) => ?_) (fun (h29 : p2.toInt ≤ x25.toInt) => ?_)
    · skip
      refine z_xP zt28 6 17 [some (.ref a18), some (.int p2)] [.int 0] rfl rfl ?_
      refine z_xrz zt28 7 rfl zzr28 (by decide) (by decide) ?_
      show z_ev (d + 3) 43 5 [some (.ref a18), some (.int p2), some (.int p3)] [.int 0] M0 _
      refine z_xZ zt43 2 rfl rfl (fun (h30 : (0 : Int) = 0) => ?_) (fun (h30 : (0 : Int) ≠ 0) => absurd h30 (by omega))
      refine z_xP zt43 10 27 [some (.ref a18), some (.int p2), some (.int p3)] [.int 0] rfl rfl ?_
      refine z_xrz zt43 11 rfl zzr43 (by decide) (by decide) ?_
      show z_ev (d + 4) 50 19 [some (.ref 4), some (.int p1), some (.int p2), some (.int p3), some (.ref a18), none] [.int 0] M0 _
      refine z_xZ zt50 5 rfl rfl (fun (h31 : (0 : Int) ≠ 0) => absurd h31 (by omega)) (fun (h31 : (0 : Int) = 0) => ?_)
      refine z_xP zt50 6 23 [some (.ref 4), some (.int p1), some (.int p2), some (.int p3), some (.ref a18), none] [.int (-1)] rfl rfl ?_
      have qm1 : (((-1) : Int32)).toInt = (-1) := rfl
      exact z_xri zt50 7 rfl zzr50 (kk (-1) M0 X (by omega) (by omega))
    refine z_xP zt28 5 17 [some (.ref a18), some (.int p2)] [.int 1] rfl rfl ?_
    refine z_xrz zt28 7 rfl zzr28 (by decide) (by decide) ?_
    show z_ev (d + 3) 43 5 [some (.ref a18), some (.int p2), some (.int p3)] [.int 1] M0 _
    refine z_xZ zt43 2 rfl rfl (fun (h32 : (1 : Int) = 0) => absurd h32 (by omega)) (fun (h32 : (1 : Int) ≠ 0) => ?_)
    refine z_xP zt43 3 10 [some (.ref a18), some (.int p2), some (.int p3)] [.int p3, .ref a18] rfl rfl ?_
    refine z_xcV (vs := [.ref a18, .int p3]) (r := []) (L2 := [some (.ref a18), some (.int p3)]) zt43 4 rfl zo43 zzcV2_76 (Or.inl rfl) rfl X k19 rfl rfl rfl (Nat.le_of_ble_eq_true rfl) zzm28 (Nat.le_of_ble_eq_true rfl) rfl ?_
    refine z_xP zt28 0 1 [some (.ref a18), some (.int p3)] [.int p3] rfl rfl ?_
    refine z_xZ zt28 1 rfl rfl (fun (h33 : p3.toInt < 0) => ?_) (fun (h33 : 0 ≤ p3.toInt) => ?_)
    · skip
      refine z_xP zt28 6 17 [some (.ref a18), some (.int p3)] [.int 0] rfl rfl ?_
      refine z_xrz zt28 7 rfl zzr28 (by decide) (by decide) ?_
      show z_ev (d + 3) 43 13 [some (.ref a18), some (.int p2), some (.int p3)] [.int 0] M0 _
      refine z_xZ zt43 5 rfl rfl (fun (h34 : (0 : Int) = 0) => ?_) (fun (h34 : (0 : Int) ≠ 0) => absurd h34 (by omega))
      refine z_xP zt43 10 27 [some (.ref a18), some (.int p2), some (.int p3)] [.int 0] rfl rfl ?_
      refine z_xrz zt43 11 rfl zzr43 (by decide) (by decide) ?_
      show z_ev (d + 4) 50 19 [some (.ref 4), some (.int p1), some (.int p2), some (.int p3), some (.ref a18), none] [.int 0] M0 _
      refine z_xZ zt50 5 rfl rfl (fun (h35 : (0 : Int) ≠ 0) => absurd h35 (by omega)) (fun (h35 : (0 : Int) = 0) => ?_)
      refine z_xP zt50 6 23 [some (.ref 4), some (.int p1), some (.int p2), some (.int p3), some (.ref a18), none] [.int (-1)] rfl rfl ?_
      have qm1 : (((-1) : Int32)).toInt = (-1) := rfl
      exact z_xri zt50 7 rfl zzr50 (kk (-1) M0 X (by omega) (by omega))
    refine z_xP zt28 2 6 [some (.ref a18), some (.int p3)] [.ref a18, .int p3] rfl rfl ?_
    refine z_xgv zt28 3 rfl zo28 zzf2_32 X k19 (by decide) h24 ?_
    have h36 := z_b32 p3
    refine z_xJ zt28 4 rfl rfl (fun (h37 : x25.toInt < p3.toInt) => ?_) (fun (h37 : p3.toInt ≤ x25.toInt) => ?_)
    · skip
      refine z_xP zt28 6 17 [some (.ref a18), some (.int p3)] [.int 0] rfl rfl ?_
      refine z_xrz zt28 7 rfl zzr28 (by decide) (by decide) ?_
      show z_ev (d + 3) 43 13 [some (.ref a18), some (.int p2), some (.int p3)] [.int 0] M0 _
      refine z_xZ zt43 5 rfl rfl (fun (h38 : (0 : Int) = 0) => ?_) (fun (h38 : (0 : Int) ≠ 0) => absurd h38 (by omega))
      refine z_xP zt43 10 27 [some (.ref a18), some (.int p2), some (.int p3)] [.int 0] rfl rfl ?_
      refine z_xrz zt43 11 rfl zzr43 (by decide) (by decide) ?_
      show z_ev (d + 4) 50 19 [some (.ref 4), some (.int p1), some (.int p2), some (.int p3), some (.ref a18), none] [.int 0] M0 _
      refine z_xZ zt50 5 rfl rfl (fun (h39 : (0 : Int) ≠ 0) => absurd h39 (by omega)) (fun (h39 : (0 : Int) = 0) => ?_)
      refine z_xP zt50 6 23 [some (.ref 4), some (.int p1), some (.int p2), some (.int p3), some (.ref a18), none] [.int (-1)] rfl rfl ?_
      have qm1 : (((-1) : Int32)).toInt = (-1) := rfl
      exact z_xri zt50 7 rfl zzr50 (kk (-1) M0 X (by omega) (by omega))
    refine z_xP zt28 5 17 [some (.ref a18), some (.int p3)] [.int 1] rfl rfl ?_
    refine z_xrz zt28 7 rfl zzr28 (by decide) (by decide) ?_
    show z_ev (d + 3) 43 13 [some (.ref a18), some (.int p2), some (.int p3)] [.int 1] M0 _
    refine z_xZ zt43 5 rfl rfl (fun (h40 : (1 : Int) = 0) => absurd h40 (by omega)) (fun (h40 : (1 : Int) ≠ 0) => ?_)
    refine z_xP zt43 6 18 [some (.ref a18), some (.int p2), some (.int p3)] [.int p3, .int p2] rfl rfl ?_
    refine z_xI zt43 7 rfl rfl (fun (x41 : Int32) (h42 : 0 ≤ x41.toInt ∧ x41.toInt ≤ p2.toInt ∧ x41.toInt ≤ p3.toInt) => ?_) (z_pAnd2 rfl rfl (by omega) (by omega))
    refine z_xZ zt43 8 rfl rfl (fun (h43 : x41.toInt ≠ 0) => ?_) (fun (h43 : x41.toInt = 0) => ?_)
    · skip
      refine z_xP zt43 10 27 [some (.ref a18), some (.int p2), some (.int p3)] [.int 0] rfl rfl ?_
      refine z_xrz zt43 11 rfl zzr43 (by decide) (by decide) ?_
      show z_ev (d + 4) 50 19 [some (.ref 4), some (.int p1), some (.int p2), some (.int p3), some (.ref a18), none] [.int 0] M0 _
      refine z_xZ zt50 5 rfl rfl (fun (h44 : (0 : Int) ≠ 0) => absurd h44 (by omega)) (fun (h44 : (0 : Int) = 0) => ?_)
      refine z_xP zt50 6 23 [some (.ref 4), some (.int p1), some (.int p2), some (.int p3), some (.ref a18), none] [.int (-1)] rfl rfl ?_
      have qm1 : (((-1) : Int32)).toInt = (-1) := rfl
      exact z_xri zt50 7 rfl zzr50 (kk (-1) M0 X (by omega) (by omega))
    refine z_xP zt43 9 27 [some (.ref a18), some (.int p2), some (.int p3)] [.int 1] rfl rfl ?_
    refine z_xrz zt43 11 rfl zzr43 (by decide) (by decide) ?_
    show z_ev (d + 4) 50 19 [some (.ref 4), some (.int p1), some (.int p2), some (.int p3), some (.ref a18), none] [.int 1] M0 _
    refine z_xZ zt50 5 rfl rfl (fun (h45 : (1 : Int) ≠ 0) => ?_) (fun (h45 : (1 : Int) = 0) => absurd h45 (by omega))
    refine z_xP zt50 8 28 [some (.ref 4), some (.int p1), some (.int p2), some (.int p3), some (.ref a18), none] [.int 10, .int p3, .int p2] rfl rfl ?_
    refine z_xI zt50 9 rfl rfl (fun (x46 : Int32) (h47 : x46.toInt = p3.toInt * 1024) => ?_) (z_pShl 10 rfl rfl (by decide) (by decide) (by omega) rfl (by omega))
    refine z_xI zt50 10 rfl rfl (fun (x48 : Int32) (h49 : 0 ≤ x48.toInt ∧ x48.toInt < 1048576 ∧ p2.toInt ≤ x48.toInt ∧ x46.toInt ≤ x48.toInt) => ?_) (z_pOr 20 rfl rfl (by omega) (by omega) (by decide) (by omega) (by omega) (by decide))
    refine z_xP zt50 11 36 [some (.ref 4), some (.int p1), some (.int p2), some (.int p3), some (.ref a18), some (.int x48)] [.int x48, .ref a18] rfl rfl ?_
    refine z_xcV (vs := [.ref a18, .int x48]) (r := []) (L2 := [some (.ref a18), some (.int x48), none]) zt50 12 rfl zo50 zzcV0_126 (Or.inl rfl) rfl X k19 rfl rfl rfl (Nat.le_of_ble_eq_true rfl) zzm44 (Nat.le_of_ble_eq_true rfl) rfl ?_
    refine zC44 X.1 k19 (fun x52 M50 X51 h53 h54 => ?_)
    have X55 := X.go X51 (z_sb (by decide))
    show z_ev (d + 4) 50 39 [some (.ref 4), some (.int p1), some (.int p2), some (.int p3), some (.ref a18), some (.int x48)] [.int x52] M50 _
    refine z_xZ zt50 13 rfl rfl (fun (h57 : x52.toInt = 0) => ?_) (fun (h57 : x52.toInt ≠ 0) => ?_)
    · skip
      refine z_xP zt50 15 51 [some (.ref 4), some (.int p1), some (.int p2), some (.int p3), some (.ref a18), some (.int x48)] [.int x48, .ref a18] rfl rfl ?_
      refine z_xcV (vs := [.ref a18, .int x48]) (r := []) (L2 := [some (.ref a18), some (.int x48), none, none, none, none, none]) zt50 16 rfl zo50 zzcV0_135 (Or.inl rfl) rfl X55 k19 rfl rfl rfl (Nat.le_of_ble_eq_true rfl) zzm51 (Nat.le_of_ble_eq_true rfl) rfl ?_
      refine zC51 X55.1 k19 (by omega) (fun x60 M58 X59 h61 h62 => ?_)
      have X63 := X55.go X59 (z_sb (by decide))
      show z_ev (d + 4) 50 54 [some (.ref 4), some (.int p1), some (.int p2), some (.int p3), some (.ref a18), some (.int x48)] [.int x60] M58 _
      exact z_xri zt50 17 rfl zzr50 (kk x60 M58 X63 (by omega) (by omega))
    refine z_xP zt50 14 54 [some (.ref 4), some (.int p1), some (.int p2), some (.int p3), some (.ref a18), some (.int x48)] [.int (-2)] rfl rfl ?_
    have qm2 : (((-2) : Int32)).toInt = (-2) := rfl
    exact z_xri zt50 17 rfl zzr50 (kk (-2) M50 X55 (by omega) (by omega))
  refine z_xP zt37 5 25 [some (.ref 4), some (.int p1)] [.null] rfl rfl ?_
  refine z_xrn zt37 11 rfl zzr37 ?_
  show z_ev (d + 4) 50 5 [some (.ref 4), some (.int p1), some (.int p2), some (.int p3), none, none] [.null] M0 _
  refine z_xP zt50 2 22 [some (.ref 4), some (.int p1), some (.int p2), some (.int p3), some (.null), none] [] rfl rfl ?_
  refine z_xP zt50 6 23 [some (.ref 4), some (.int p1), some (.int p2), some (.int p3), some (.null), none] [.int (-1)] rfl rfl ?_
  have qm1 : (((-1) : Int32)).toInt = (-1) := rfl
  exact z_xri zt50 7 rfl zzr50 (kk (-1) M0 X (by omega) (by omega))
def zw54 : List Nat := [202, 203, 205]
theorem zB54 {T : List zK} {d : Nat} {K : Option Value → zH → Prop} {a0 : Nat} {q : Nat} {t : Nat} {m : Nat} {J : Nat} {p1 : Int32} {p2 : Int32} {p3 : Int32} {M0 : zH} (k0 : T[a0]? = some (.inl (3, q, t, m, J))) (u1 : 0 ≤ p1.toInt ∧ p1.toInt ≤ 8) (kk : ∀ (M1 : zH), z_X T zw54 M0 M1 → K none M1) : ∀ n : Nat, (∀ (M : zH) (b4 : Int32) (b5 : Int32) (b6 : Int32) (o7 : Option Value), z_X T zw54 M0 M → 0 ≤ b6.toInt ∧ b6.toInt ≤ 10 → ((0) * 2 + 0) * 11 + (10 - b6.toInt) < (n : Int) → z_ev d 54 19 [some (.ref a0), some (.int p1), some (.int p2), some (.int p3), some (.int b4), some (.int b5), some (.int b6), o7] [] M K) := by
  intro n
  induction n with
  | zero => exact by intros; exfalso; omega
  | succ n ih =>
    intro M b4 b5 b6 o7 X hh0 hE
    have g0 := X.1.p3 k0
    refine z_xP zt54 9 22 [some (.ref a0), some (.int p1), some (.int p2), some (.int p3), some (.int b4), some (.int b5), some (.int b6), o7] [.ref a0, .int b6] rfl rfl ?_
    refine z_xgR (κ := .inl (2, q, t, m, 0)) zt54 10 rfl zo54 zzf3_39 X k0 (by decide) (by decide) rfl (fun (a2 : Nat) h1 k3 => ?_)
    have g4 := X.1.p2 k3
    refine z_xgI zt54 11 rfl zo54 zzf3_63 X k3 (by decide) (by decide) rfl (fun (x6 : Int32) h5 (h7 : (q : Int) ≤ x6.toInt) (h8 : x6.toInt ≤ (q : Int)) => ?_)
    refine z_xJ zt54 12 rfl rfl (fun (h9 : x6.toInt ≤ b6.toInt) => ?_) (fun (h9 : b6.toInt < x6.toInt) => ?_)
    · skip
      refine z_xP zt54 45 88 [some (.ref a0), some (.int p1), some (.int p2), some (.int p3), some (.int b4), some (.int b5), some (.int b6), o7] [.ref a0] rfl rfl ?_
      refine z_xgR (κ := .inr (202, 0, 9, (-2147483648), 2147483647)) zt54 46 rfl zo54 zzf3_15 X k0 (by decide) (by decide) rfl (fun (a11 : Nat) h10 k12 => ?_)
      refine z_xP zt54 47 93 [some (.ref a0), some (.int p1), some (.int p2), some (.int p3), some (.int b4), some (.int b5), some (.int b6), o7] [.int p2, .int p1, .ref a11] rfl rfl ?_
      refine z_xis zt54 48 rfl X k12 (by decide) (X.1.g4 k12 (by decide)) (by omega) (by omega) (Int32.le_toInt _) (Int32.toInt_le _) (by decide) (fun M13 X14 e15 h16 => ?_)
      refine z_xP zt54 49 95 [some (.ref a0), some (.int p1), some (.int p2), some (.int p3), some (.int b4), some (.int b5), some (.int b6), o7] [.ref a0] rfl rfl ?_
      refine z_xgR (κ := .inr (203, 0, 9, (-2147483648), 2147483647)) zt54 50 rfl zo54 zzf3_18 X14 k0 (by decide) (by decide) rfl (fun (a18 : Nat) h17 k19 => ?_)
      refine z_xP zt54 51 100 [some (.ref a0), some (.int p1), some (.int p2), some (.int p3), some (.int b4), some (.int b5), some (.int b6), o7] [.int p3, .int p1, .ref a18] rfl rfl ?_
      refine z_xis zt54 52 rfl X14 k19 (by decide) (X14.1.g4 k19 (by decide)) (by omega) (by omega) (Int32.le_toInt _) (Int32.toInt_le _) (by decide) (fun M20 X21 e22 h23 => ?_)
      exact z_xrv zt54 53 rfl zzr54 (kk M20 X21)
    refine z_xP zt54 13 34 [some (.ref a0), some (.int p1), some (.int p2), some (.int p3), some (.int b4), some (.int b5), some (.int b6), o7] [.int b6, .int p2] rfl rfl ?_
    have h24 := z_b32 p2
    refine z_xI zt54 14 rfl rfl (P := fun _ => True) (fun (x25 : Int32) _ => ?_) trivial
    refine z_xP zt54 15 36 [some (.ref a0), some (.int p1), some (.int p2), some (.int p3), some (.int b4), some (.int b5), some (.int b6), o7] [.int 1, .int x25] rfl rfl ?_
    refine z_xI zt54 16 rfl rfl (fun (x27 : Int32) (h28 : 0 ≤ x27.toInt ∧ x27.toInt ≤ 1) => ?_) (z_pAnd rfl (by omega))
    refine z_xP zt54 17 40 [some (.ref a0), some (.int p1), some (.int p2), some (.int p3), some (.int b4), some (.int b5), some (.int b6), o7] [.int b6, .int p3, .int x27] rfl rfl ?_
    have h29 := z_b32 p3
    refine z_xI zt54 18 rfl rfl (P := fun _ => True) (fun (x30 : Int32) _ => ?_) trivial
    refine z_xP zt54 19 42 [some (.ref a0), some (.int p1), some (.int p2), some (.int p3), some (.int b4), some (.int b5), some (.int b6), o7] [.int 1, .int x30, .int x27] rfl rfl ?_
    refine z_xI zt54 20 rfl rfl (fun (x32 : Int32) (h33 : 0 ≤ x32.toInt ∧ x32.toInt ≤ 1) => ?_) (z_pAnd rfl (by omega))
    refine z_xI zt54 21 rfl rfl (fun (x34 : Int32) (h35 : x34.toInt = x27.toInt - x32.toInt) => ?_) (z_pSub rfl rfl (by omega) (by omega))
    refine z_xP zt54 22 48 [some (.ref a0), some (.int p1), some (.int p2), some (.int p3), some (.int b4), some (.int b5), some (.int b6), o7] [.int b6, .int b4, .int x34] rfl rfl ?_
    have h36 := z_b32 b4
    refine z_xI zt54 23 rfl rfl (P := fun _ => True) (fun (x37 : Int32) _ => ?_) trivial
    refine z_xP zt54 24 50 [some (.ref a0), some (.int p1), some (.int p2), some (.int p3), some (.int b4), some (.int b5), some (.int b6), o7] [.int 1, .int x37, .int x34] rfl rfl ?_
    refine z_xI zt54 25 rfl rfl (fun (x39 : Int32) (h40 : 0 ≤ x39.toInt ∧ x39.toInt ≤ 1) => ?_) (z_pAnd rfl (by omega))
    refine z_xI zt54 26 rfl rfl (fun (x41 : Int32) (h42 : x41.toInt = x34.toInt - x39.toInt) => ?_) (z_pSub rfl rfl (by omega) (by omega))
    refine z_xP zt54 27 56 [some (.ref a0), some (.int p1), some (.int p2), some (.int p3), some (.int b4), some (.int b5), some (.int b6), o7] [.int b6, .int b5, .int x41] rfl rfl ?_
    have h43 := z_b32 b5
    refine z_xI zt54 28 rfl rfl (P := fun _ => True) (fun (x44 : Int32) _ => ?_) trivial
    refine z_xP zt54 29 58 [some (.ref a0), some (.int p1), some (.int p2), some (.int p3), some (.int b4), some (.int b5), some (.int b6), o7] [.int 1, .int x44, .int x41] rfl rfl ?_
    refine z_xI zt54 30 rfl rfl (fun (x46 : Int32) (h47 : 0 ≤ x46.toInt ∧ x46.toInt ≤ 1) => ?_) (z_pAnd rfl (by omega))
    refine z_xI zt54 31 rfl rfl (fun (x48 : Int32) (h49 : x48.toInt = x41.toInt + x46.toInt) => ?_) (z_pAdd rfl rfl (by omega) (by omega))
    refine z_xP zt54 32 63 [some (.ref a0), some (.int p1), some (.int p2), some (.int p3), some (.int b4), some (.int b5), some (.int b6), some (.int x48)] [.ref a0] rfl rfl ?_
    refine z_xgR (κ := .inr (205, 0, 10, (-2147483648), 2147483647)) zt54 33 rfl zo54 zzf3_21 X k0 (by decide) (by decide) rfl (fun (a51 : Nat) h50 k52 => ?_)
    refine z_xP zt54 34 69 [some (.ref a0), some (.int p1), some (.int p2), some (.int p3), some (.int b4), some (.int b5), some (.int b6), some (.int x48)] [.int b6, .ref a51, .int b6, .ref a51] rfl rfl ?_
    refine z_xil zt54 35 rfl X k52 (by decide) (by omega) (by omega) (fun (x53 : Int32) h54 (h55 : (-2147483648) ≤ x53.toInt) (h56 : x53.toInt ≤ 2147483647) => ?_)
    refine z_xP zt54 36 73 [some (.ref a0), some (.int p1), some (.int p2), some (.int p3), some (.int b4), some (.int b5), some (.int b6), some (.int x48)] [.ref a0, .int x48, .int x53, .int b6, .ref a51] rfl rfl ?_
    refine z_xgR (κ := .inr (201, 0, 9, (-2147483648), 2147483647)) zt54 37 rfl zo54 zzf3_9 X k0 (by decide) (by decide) rfl (fun (a58 : Nat) h57 k59 => ?_)
    refine z_xP zt54 38 77 [some (.ref a0), some (.int p1), some (.int p2), some (.int p3), some (.int b4), some (.int b5), some (.int b6), some (.int x48)] [.int p1, .ref a58, .int x48, .int x53, .int b6, .ref a51] rfl rfl ?_
    refine z_xil zt54 39 rfl X k59 (by decide) (by omega) (by omega) (fun (x60 : Int32) h61 (h62 : (-2147483648) ≤ x60.toInt) (h63 : x60.toInt ≤ 2147483647) => ?_)
    have h64 := z_b32 x60
    refine z_xI zt54 40 rfl rfl (P := fun _ => True) (fun (x65 : Int32) _ => ?_) trivial
    have h67 := z_b32 x53
    have h68 := z_b32 x65
    refine z_xI zt54 41 rfl rfl (P := fun _ => True) (fun (x69 : Int32) _ => ?_) trivial
    refine z_xis zt54 42 rfl X k52 (by decide) (X.1.g4 k52 (by decide)) (by omega) (by omega) (Int32.le_toInt _) (Int32.toInt_le _) (by decide) (fun M71 X72 e73 h74 => ?_)
    refine z_xN zt54 43 rfl rfl (fun (x75 : Int32) (h76 : x75.toInt = b6.toInt + 1) => ?_) (z_pAdd rfl rfl (by omega) (by omega))
    show z_ev d 54 84 [some (.ref a0), some (.int p1), some (.int p2), some (.int p3), some (.int b4), some (.int b5), some (.int x75), some (.int x48)] [] M71 _
    refine z_xP zt54 44 19 [some (.ref a0), some (.int p1), some (.int p2), some (.int p3), some (.int b4), some (.int b5), some (.int x75), some (.int x48)] [] rfl rfl ?_
    exact ih M71 b4 b5 x75 (some (.int x48)) X72 ⟨by omega, by omega⟩ (by omega)
theorem zC54 {T : List zK} {d : Nat} {K : Option Value → zH → Prop} {a0 : Nat} {q : Nat} {t : Nat} {m : Nat} {J : Nat} {p1 : Int32} {p2 : Int32} {p3 : Int32} {M0 : zH} (hW : z_W M0 T) (k0 : T[a0]? = some (.inl (3, q, t, m, J))) (u1 : 0 ≤ p1.toInt ∧ p1.toInt ≤ 8) (kk : ∀ (M1 : zH), z_X T zw54 M0 M1 → K none M1) : z_ev d 54 0 [some (.ref a0), some (.int p1), some (.int p2), some (.int p3), none, none, none, none] [] M0 K := by
  have X : z_X T zw54 M0 M0 := .refl hW
  have g0 := X.1.p3 k0
  refine z_xP zt54 0 1 [some (.ref a0), some (.int p1), some (.int p2), some (.int p3), none, none, none, none] [.ref a0] rfl rfl ?_
  refine z_xgR (κ := .inr (202, 0, 9, (-2147483648), 2147483647)) zt54 1 rfl zo54 zzf3_15 X k0 (by decide) (by decide) rfl (fun (a2 : Nat) h1 k3 => ?_)
  refine z_xP zt54 2 5 [some (.ref a0), some (.int p1), some (.int p2), some (.int p3), none, none, none, none] [.int p1, .ref a2] rfl rfl ?_
  refine z_xil zt54 3 rfl X k3 (by decide) (by omega) (by omega) (fun (x4 : Int32) h5 (h6 : (-2147483648) ≤ x4.toInt) (h7 : x4.toInt ≤ 2147483647) => ?_)
  refine z_xP zt54 4 9 [some (.ref a0), some (.int p1), some (.int p2), some (.int p3), some (.int x4), none, none, none] [.ref a0] rfl rfl ?_
  refine z_xgR (κ := .inr (203, 0, 9, (-2147483648), 2147483647)) zt54 5 rfl zo54 zzf3_18 X k0 (by decide) (by decide) rfl (fun (a9 : Nat) h8 k10 => ?_)
  refine z_xP zt54 6 13 [some (.ref a0), some (.int p1), some (.int p2), some (.int p3), some (.int x4), none, none, none] [.int p1, .ref a9] rfl rfl ?_
  refine z_xil zt54 7 rfl X k10 (by decide) (by omega) (by omega) (fun (x11 : Int32) h12 (h13 : (-2147483648) ≤ x11.toInt) (h14 : x11.toInt ≤ 2147483647) => ?_)
  refine z_xP zt54 8 19 [some (.ref a0), some (.int p1), some (.int p2), some (.int p3), some (.int x4), some (.int x11), some (.int 0), none] [] rfl rfl ?_
  have q0 : ((0 : Int32)).toInt = 0 := rfl
  exact (zB54 k0 u1 kk 22) M0 x4 x11 (0) none X (by decide) (by omega)
def zw52 : List Nat := [201, 202, 203, 205, 1304]
theorem zC52 {T : List zK} {d : Nat} {K : Option Value → zH → Prop} {p1 : Int32} {p2 : Int32} {p3 : Int32} {p4 : Int32} {M0 : zH} (hW : z_W M0 T)  (hG : z_GG T M0) (kk : ∀ (x : Int32) (M1 : zH), z_X T zw52 M0 M1 → (-3) ≤ x.toInt → x.toInt ≤ 8 → K (some (.int x)) M1) : z_ev (d + 3) 52 0 [some (.ref 4), some (.int p1), some (.int p2), some (.int p3), some (.int p4), none] [] M0 K := by
  have X : z_X T zw52 M0 M0 := .refl hW
  refine z_xP zt52 0 2 [some (.ref 4), some (.int p1), some (.int p2), some (.int p3), some (.int p4), none] [.int p1, .ref 4] rfl rfl ?_
  have f4 : T[4]? = some (.inl (0, 0, 0, 0, 0)) := X.1.k rfl (by decide)
  refine z_xcV (vs := [.ref 4, .int p1]) (r := []) (L2 := [some (.ref 4), some (.int p1)]) zt52 1 rfl zo52 zzcV0_85 (Or.inl rfl) rfl X f4 rfl rfl rfl (Nat.le_of_ble_eq_true rfl) zzm35 (Nat.le_of_ble_eq_true rfl) rfl ?_
  refine z_xP zt35 0 1 [some (.ref 4), some (.int p1)] [.int p1] rfl rfl ?_
  refine z_xZ zt35 1 rfl rfl (fun (h1 : p1.toInt < 0) => ?_) (fun (h1 : 0 ≤ p1.toInt) => ?_)
  · skip
    refine z_xP zt35 5 22 [some (.ref 4), some (.int p1)] [.null] rfl rfl ?_
    refine z_xrn zt35 10 rfl zzr35 ?_
    show z_ev (d + 3) 52 5 [some (.ref 4), some (.int p1), some (.int p2), some (.int p3), some (.int p4), none] [.null] M0 _
    refine z_xP zt52 2 37 [some (.ref 4), some (.int p1), some (.int p2), some (.int p3), some (.int p4), some (.null)] [] rfl rfl ?_
    refine z_xP zt52 12 38 [some (.ref 4), some (.int p1), some (.int p2), some (.int p3), some (.int p4), some (.null)] [.int (-1)] rfl rfl ?_
    have qm1 : (((-1) : Int32)).toInt = (-1) := rfl
    exact z_xri zt52 13 rfl zzr52 (kk (-1) M0 X (by omega) (by omega))
  refine z_xP zt35 2 6 [some (.ref 4), some (.int p1)] [.ref 4, .int p1] rfl rfl ?_
  refine z_xgI zt35 3 rfl zo35 zzf0_59 X f4 (by decide) (by decide) rfl (fun (x3 : Int32) h2 (h4 : 0 ≤ x3.toInt) (h5 : x3.toInt ≤ 8) => ?_)
  have h6 := z_b32 p1
  refine z_xJ zt35 4 rfl rfl (fun (h7 : p1.toInt < x3.toInt) => ?_) (fun (h7 : x3.toInt ≤ p1.toInt) => ?_)
  · skip
    refine z_xP zt35 6 17 [some (.ref 4), some (.int p1)] [.ref 4] rfl rfl ?_
    refine z_xgX (b := 10) zt35 7 rfl zo35 zzf0_18 X f4 (by decide) (by decide) rfl ?_
    refine z_xP zt35 8 21 [some (.ref 4), some (.int p1)] [.int p1, .ref 10] rfl rfl ?_
    have f10 : T[10]? = some (.inr (10, 2, 8, 9, 0)) := X.1.k rfl (by decide)
    refine z_xal zt35 9 rfl X f10 (by decide) (by decide) (by decide) (by omega) (by omega) (fun (a8 : Nat) h9 h10 => ?_) (fun h11 => absurd h11 (z_Gs (hG.go X (by decide)).2.1 h2 (by omega) (by omega)))
    obtain ⟨q12, t13, m14, k15⟩ : ∃ q t m, T[a8]? = some (.inl (3, q, t, m, 9)) := h10
    have g16 := X.1.p3 k15
    refine z_xra zt35 10 rfl zzr35 ?_
    show z_ev (d + 3) 52 5 [some (.ref 4), some (.int p1), some (.int p2), some (.int p3), some (.int p4), none] [.ref a8] M0 _
    refine z_xP zt52 2 12 [some (.ref 4), some (.int p1), some (.int p2), some (.int p3), some (.int p4), some (.ref a8)] [] rfl rfl ?_
    refine z_xP zt52 3 14 [some (.ref 4), some (.int p1), some (.int p2), some (.int p3), some (.int p4), some (.ref a8)] [.int 1, .int p2] rfl rfl ?_
    refine z_xJ zt52 4 rfl rfl (fun (h17 : p2.toInt < 1) => ?_) (fun (h17 : 1 ≤ p2.toInt) => ?_)
    · skip
      refine z_xP zt52 12 38 [some (.ref 4), some (.int p1), some (.int p2), some (.int p3), some (.int p4), some (.ref a8)] [.int (-1)] rfl rfl ?_
      have qm1 : (((-1) : Int32)).toInt = (-1) := rfl
      exact z_xri zt52 13 rfl zzr52 (kk (-1) M0 X (by omega) (by omega))
    refine z_xP zt52 5 20 [some (.ref 4), some (.int p1), some (.int p2), some (.int p3), some (.int p4), some (.ref a8)] [.int 9, .int p2] rfl rfl ?_
    refine z_xJ zt52 6 rfl rfl (fun (h18 : 9 < p2.toInt) => ?_) (fun (h18 : p2.toInt ≤ 9) => ?_)
    · skip
      refine z_xP zt52 12 38 [some (.ref 4), some (.int p1), some (.int p2), some (.int p3), some (.int p4), some (.ref a8)] [.int (-1)] rfl rfl ?_
      have qm1 : (((-1) : Int32)).toInt = (-1) := rfl
      exact z_xri zt52 13 rfl zzr52 (kk (-1) M0 X (by omega) (by omega))
    refine z_xP zt52 7 25 [some (.ref 4), some (.int p1), some (.int p2), some (.int p3), some (.int p4), some (.ref a8)] [.ref a8] rfl rfl ?_
    refine z_xgR (κ := .inl (2, q12, t13, m14, 0)) zt52 8 rfl zo52 zzf0_89 X k15 (by decide) (by decide) rfl (fun (a20 : Nat) h19 k21 => ?_)
    have g22 := X.1.p2 k21
    refine z_xP zt52 9 31 [some (.ref 4), some (.int p1), some (.int p2), some (.int p3), some (.int p4), some (.ref a8)] [.int p4, .int p3, .ref a20] rfl rfl ?_
    refine z_xcV (vs := [.ref a20, .int p3, .int p4]) (r := []) (L2 := [some (.ref a20), some (.int p3), some (.int p4)]) zt52 10 rfl zo52 zzcV0_123 (Or.inl rfl) rfl X k21 rfl rfl rfl (Nat.le_of_ble_eq_true rfl) zzm43 (Nat.le_of_ble_eq_true rfl) rfl ?_
    refine z_xP zt43 0 2 [some (.ref a20), some (.int p3), some (.int p4)] [.int p3, .ref a20] rfl rfl ?_
    refine z_xcV (vs := [.ref a20, .int p3]) (r := []) (L2 := [some (.ref a20), some (.int p3)]) zt43 1 rfl zo43 zzcV2_76 (Or.inl rfl) rfl X k21 rfl rfl rfl (Nat.le_of_ble_eq_true rfl) zzm28 (Nat.le_of_ble_eq_true rfl) rfl ?_
    refine z_xP zt28 0 1 [some (.ref a20), some (.int p3)] [.int p3] rfl rfl ?_
    refine z_xZ zt28 1 rfl rfl (fun (h23 : p3.toInt < 0) => ?_) (fun (h23 : 0 ≤ p3.toInt) => ?_)
    · skip
      refine z_xP zt28 6 17 [some (.ref a20), some (.int p3)] [.int 0] rfl rfl ?_
      refine z_xrz zt28 7 rfl zzr28 (by decide) (by decide) ?_
      show z_ev (d + 2) 43 5 [some (.ref a20), some (.int p3), some (.int p4)] [.int 0] M0 _
      refine z_xZ zt43 2 rfl rfl (fun (h24 : (0 : Int) = 0) => ?_) (fun (h24 : (0 : Int) ≠ 0) => absurd h24 (by omega))
      refine z_xP zt43 10 27 [some (.ref a20), some (.int p3), some (.int p4)] [.int 0] rfl rfl ?_
      refine z_xrz zt43 11 rfl zzr43 (by decide) (by decide) ?_
      show z_ev (d + 3) 52 34 [some (.ref 4), some (.int p1), some (.int p2), some (.int p3), some (.int p4), some (.ref a8)] [.int 0] M0 _
      refine z_xZ zt52 11 rfl rfl (fun (h25 : (0 : Int) ≠ 0) => absurd h25 (by omega)) (fun (h25 : (0 : Int) = 0) => ?_)
      refine z_xP zt52 12 38 [some (.ref 4), some (.int p1), some (.int p2), some (.int p3), some (.int p4), some (.ref a8)] [.int (-1)] rfl rfl ?_
      have qm1 : (((-1) : Int32)).toInt = (-1) := rfl
      exact z_xri zt52 13 rfl zzr52 (kk (-1) M0 X (by omega) (by omega))
    refine z_xP zt28 2 6 [some (.ref a20), some (.int p3)] [.ref a20, .int p3] rfl rfl ?_
    refine z_xgI zt28 3 rfl zo28 zzf2_32 X k21 (by decide) (by decide) rfl (fun (x27 : Int32) h26 (h28 : ((z_po q12 : Nat) : Int) - 1 ≤ x27.toInt) (h29 : x27.toInt ≤ ((z_po q12 : Nat) : Int) - 1) => ?_)
    have h30 := z_b32 p3
    refine z_xJ zt28 4 rfl rfl (fun (h31 : x27.toInt < p3.toInt) => ?_) (fun (h31 : p3.toInt ≤ x27.toInt) => ?_)
    · skip
      refine z_xP zt28 6 17 [some (.ref a20), some (.int p3)] [.int 0] rfl rfl ?_
      refine z_xrz zt28 7 rfl zzr28 (by decide) (by decide) ?_
      show z_ev (d + 2) 43 5 [some (.ref a20), some (.int p3), some (.int p4)] [.int 0] M0 _
      refine z_xZ zt43 2 rfl rfl (fun (h32 : (0 : Int) = 0) => ?_) (fun (h32 : (0 : Int) ≠ 0) => absurd h32 (by omega))
      refine z_xP zt43 10 27 [some (.ref a20), some (.int p3), some (.int p4)] [.int 0] rfl rfl ?_
      refine z_xrz zt43 11 rfl zzr43 (by decide) (by decide) ?_
      show z_ev (d + 3) 52 34 [some (.ref 4), some (.int p1), some (.int p2), some (.int p3), some (.int p4), some (.ref a8)] [.int 0] M0 _
      refine z_xZ zt52 11 rfl rfl (fun (h33 : (0 : Int) ≠ 0) => absurd h33 (by omega)) (fun (h33 : (0 : Int) = 0) => ?_)
      refine z_xP zt52 12 38 [some (.ref 4), some (.int p1), some (.int p2), some (.int p3), some (.int p4), some (.ref a8)] [.int (-1)] rfl rfl ?_
      have qm1 : (((-1) : Int32)).toInt = (-1) := rfl
      exact z_xri zt52 13 rfl zzr52 (kk (-1) M0 X (by omega) (by omega))
    refine z_xP zt28 5 17 [some (.ref a20), some (.int p3)] [.int 1] rfl rfl ?_
    refine z_xrz zt28 7 rfl zzr28 (by decide) (by decide) ?_
    show z_ev (d + 2) 43 5 [some (.ref a20), some (.int p3), some (.int p4)] [.int 1] M0 _
    refine z_xZ zt43 2 rfl rfl (fun (h34 : (1 : Int) = 0) => absurd h34 (by omega)) (fun (h34 : (1 : Int) ≠ 0) => ?_)
    refine z_xP zt43 3 10 [some (.ref a20), some (.int p3), some (.int p4)] [.int p4, .ref a20] rfl rfl ?_
    refine z_xcV (vs := [.ref a20, .int p4]) (r := []) (L2 := [some (.ref a20), some (.int p4)]) zt43 4 rfl zo43 zzcV2_76 (Or.inl rfl) rfl X k21 rfl rfl rfl (Nat.le_of_ble_eq_true rfl) zzm28 (Nat.le_of_ble_eq_true rfl) rfl ?_
    refine z_xP zt28 0 1 [some (.ref a20), some (.int p4)] [.int p4] rfl rfl ?_
    refine z_xZ zt28 1 rfl rfl (fun (h35 : p4.toInt < 0) => ?_) (fun (h35 : 0 ≤ p4.toInt) => ?_)
    · skip
      refine z_xP zt28 6 17 [some (.ref a20), some (.int p4)] [.int 0] rfl rfl ?_
      refine z_xrz zt28 7 rfl zzr28 (by decide) (by decide) ?_
      show z_ev (d + 2) 43 13 [some (.ref a20), some (.int p3), some (.int p4)] [.int 0] M0 _
      refine z_xZ zt43 5 rfl rfl (fun (h36 : (0 : Int) = 0) => ?_) (fun (h36 : (0 : Int) ≠ 0) => absurd h36 (by omega))
      refine z_xP zt43 10 27 [some (.ref a20), some (.int p3), some (.int p4)] [.int 0] rfl rfl ?_
      refine z_xrz zt43 11 rfl zzr43 (by decide) (by decide) ?_
      show z_ev (d + 3) 52 34 [some (.ref 4), some (.int p1), some (.int p2), some (.int p3), some (.int p4), some (.ref a8)] [.int 0] M0 _
      refine z_xZ zt52 11 rfl rfl (fun (h37 : (0 : Int) ≠ 0) => absurd h37 (by omega)) (fun (h37 : (0 : Int) = 0) => ?_)
      refine z_xP zt52 12 38 [some (.ref 4), some (.int p1), some (.int p2), some (.int p3), some (.int p4), some (.ref a8)] [.int (-1)] rfl rfl ?_
      have qm1 : (((-1) : Int32)).toInt = (-1) := rfl
      exact z_xri zt52 13 rfl zzr52 (kk (-1) M0 X (by omega) (by omega))
    refine z_xP zt28 2 6 [some (.ref a20), some (.int p4)] [.ref a20, .int p4] rfl rfl ?_
    refine z_xgv zt28 3 rfl zo28 zzf2_32 X k21 (by decide) h26 ?_
    have h38 := z_b32 p4
    refine z_xJ zt28 4 rfl rfl (fun (h39 : x27.toInt < p4.toInt) => ?_) (fun (h39 : p4.toInt ≤ x27.toInt) => ?_)
    · skip
      refine z_xP zt28 6 17 [some (.ref a20), some (.int p4)] [.int 0] rfl rfl ?_
      refine z_xrz zt28 7 rfl zzr28 (by decide) (by decide) ?_
      show z_ev (d + 2) 43 13 [some (.ref a20), some (.int p3), some (.int p4)] [.int 0] M0 _
      refine z_xZ zt43 5 rfl rfl (fun (h40 : (0 : Int) = 0) => ?_) (fun (h40 : (0 : Int) ≠ 0) => absurd h40 (by omega))
      refine z_xP zt43 10 27 [some (.ref a20), some (.int p3), some (.int p4)] [.int 0] rfl rfl ?_
      refine z_xrz zt43 11 rfl zzr43 (by decide) (by decide) ?_
      show z_ev (d + 3) 52 34 [some (.ref 4), some (.int p1), some (.int p2), some (.int p3), some (.int p4), some (.ref a8)] [.int 0] M0 _
      refine z_xZ zt52 11 rfl rfl (fun (h41 : (0 : Int) ≠ 0) => absurd h41 (by omega)) (fun (h41 : (0 : Int) = 0) => ?_)
      refine z_xP zt52 12 38 [some (.ref 4), some (.int p1), some (.int p2), some (.int p3), some (.int p4), some (.ref a8)] [.int (-1)] rfl rfl ?_
      have qm1 : (((-1) : Int32)).toInt = (-1) := rfl
      exact z_xri zt52 13 rfl zzr52 (kk (-1) M0 X (by omega) (by omega))
    refine z_xP zt28 5 17 [some (.ref a20), some (.int p4)] [.int 1] rfl rfl ?_
    refine z_xrz zt28 7 rfl zzr28 (by decide) (by decide) ?_
    show z_ev (d + 2) 43 13 [some (.ref a20), some (.int p3), some (.int p4)] [.int 1] M0 _
    refine z_xZ zt43 5 rfl rfl (fun (h42 : (1 : Int) = 0) => absurd h42 (by omega)) (fun (h42 : (1 : Int) ≠ 0) => ?_)
    refine z_xP zt43 6 18 [some (.ref a20), some (.int p3), some (.int p4)] [.int p4, .int p3] rfl rfl ?_
    refine z_xI zt43 7 rfl rfl (fun (x43 : Int32) (h44 : 0 ≤ x43.toInt ∧ x43.toInt ≤ p3.toInt ∧ x43.toInt ≤ p4.toInt) => ?_) (z_pAnd2 rfl rfl (by omega) (by omega))
    refine z_xZ zt43 8 rfl rfl (fun (h45 : x43.toInt ≠ 0) => ?_) (fun (h45 : x43.toInt = 0) => ?_)
    · skip
      refine z_xP zt43 10 27 [some (.ref a20), some (.int p3), some (.int p4)] [.int 0] rfl rfl ?_
      refine z_xrz zt43 11 rfl zzr43 (by decide) (by decide) ?_
      show z_ev (d + 3) 52 34 [some (.ref 4), some (.int p1), some (.int p2), some (.int p3), some (.int p4), some (.ref a8)] [.int 0] M0 _
      refine z_xZ zt52 11 rfl rfl (fun (h46 : (0 : Int) ≠ 0) => absurd h46 (by omega)) (fun (h46 : (0 : Int) = 0) => ?_)
      refine z_xP zt52 12 38 [some (.ref 4), some (.int p1), some (.int p2), some (.int p3), some (.int p4), some (.ref a8)] [.int (-1)] rfl rfl ?_
      have qm1 : (((-1) : Int32)).toInt = (-1) := rfl
      exact z_xri zt52 13 rfl zzr52 (kk (-1) M0 X (by omega) (by omega))
    refine z_xP zt43 9 27 [some (.ref a20), some (.int p3), some (.int p4)] [.int 1] rfl rfl ?_
    refine z_xrz zt43 11 rfl zzr43 (by decide) (by decide) ?_
    show z_ev (d + 3) 52 34 [some (.ref 4), some (.int p1), some (.int p2), some (.int p3), some (.int p4), some (.ref a8)] [.int 1] M0 _
    refine z_xZ zt52 11 rfl rfl (fun (h47 : (1 : Int) ≠ 0) => ?_) (fun (h47 : (1 : Int) = 0) => absurd h47 (by omega))
    refine z_xP zt52 14 41 [some (.ref 4), some (.int p1), some (.int p2), some (.int p3), some (.int p4), some (.ref a8)] [.ref a8] rfl rfl ?_
    refine z_xgv zt52 15 rfl zo52 zzf0_89 X k15 (by decide) h19 ?_
    refine z_xP zt52 16 49 [some (.ref 4), some (.int p1), some (.int p2), some (.int p3), some (.int p4), some (.ref a8)] [.int 10, .int p4, .int p3, .ref a20] rfl rfl ?_
    refine z_xI zt52 17 rfl rfl (fun (x48 : Int32) (h49 : x48.toInt = p4.toInt * 1024) => ?_) (z_pShl 10 rfl rfl (by decide) (by decide) (by omega) rfl (by omega))
    refine z_xI zt52 18 rfl rfl (fun (x50 : Int32) (h51 : 0 ≤ x50.toInt ∧ x50.toInt < 1048576 ∧ p3.toInt ≤ x50.toInt ∧ x48.toInt ≤ x50.toInt) => ?_) (z_pOr 20 rfl rfl (by omega) (by omega) (by decide) (by omega) (by omega) (by decide))
    refine z_xcV (vs := [.ref a20, .int x50]) (r := []) (L2 := [some (.ref a20), some (.int x50), none]) zt52 19 rfl zo52 zzcV0_126 (Or.inl rfl) rfl X k21 rfl rfl rfl (Nat.le_of_ble_eq_true rfl) zzm44 (Nat.le_of_ble_eq_true rfl) rfl ?_
    refine zC44 X.1 k21 (fun x54 M52 X53 h55 h56 => ?_)
    have X57 := X.go X53 (z_sb (by decide))
    show z_ev (d + 3) 52 54 [some (.ref 4), some (.int p1), some (.int p2), some (.int p3), some (.int p4), some (.ref a8)] [.int x54] M52 _
    refine z_xZ zt52 20 rfl rfl (fun (h59 : x54.toInt ≠ 0) => ?_) (fun (h59 : x54.toInt = 0) => ?_)
    · skip
      refine z_xP zt52 23 62 [some (.ref 4), some (.int p1), some (.int p2), some (.int p3), some (.int p4), some (.ref a8)] [.ref a8] rfl rfl ?_
      refine z_xgI zt52 24 rfl zo52 zzf0_105 X57 k15 (by decide) (by decide) rfl (fun (x61 : Int32) h60 (h62 : 0 ≤ x61.toInt) (h63 : x61.toInt ≤ (9 : Int)) => ?_)
      refine z_xP zt52 25 67 [some (.ref 4), some (.int p1), some (.int p2), some (.int p3), some (.int p4), some (.ref a8)] [.int 9, .int x61] rfl rfl ?_
      refine z_xJ zt52 26 rfl rfl (fun (h64 : x61.toInt < 9) => ?_) (fun (h64 : 9 ≤ x61.toInt) => ?_)
      · skip
        refine z_xP zt52 29 79 [some (.ref 4), some (.int p1), some (.int p2), some (.int p3), some (.int p4), some (.ref a8)] [.int p4, .int p3, .int p2, .ref a8] rfl rfl ?_
        refine z_xcV (vs := [.ref a8, .int p2, .int p3, .int p4]) (r := []) (L2 := [some (.ref a8), some (.int p2), some (.int p3), some (.int p4)]) zt52 30 rfl zo52 zzcV0_138 (Or.inl rfl) rfl X57 k15 rfl rfl rfl (Nat.le_of_ble_eq_true rfl) zzm53 (Nat.le_of_ble_eq_true rfl) rfl ?_
        refine z_xP zt53 0 1 [some (.ref a8), some (.int p2), some (.int p3), some (.int p4)] [.ref a8] rfl rfl ?_
        refine z_xgR (κ := .inr (201, 0, 9, (-2147483648), 2147483647)) zt53 1 rfl zo53 zzf3_9 X57 k15 (by decide) (by decide) rfl (fun (a66 : Nat) h65 k67 => ?_)
        refine z_xP zt53 2 5 [some (.ref a8), some (.int p2), some (.int p3), some (.int p4)] [.ref a8, .ref a66] rfl rfl ?_
        refine z_xgv zt53 3 rfl zo53 zzf3_53 X57 k15 (by decide) h60 ?_
        refine z_xP zt53 4 9 [some (.ref a8), some (.int p2), some (.int p3), some (.int p4)] [.int p2, .int x61, .ref a66] rfl rfl ?_
        refine z_xis zt53 5 rfl X57 k67 (by decide) (X57.1.g4 k67 (by decide)) (by omega) (by omega) (Int32.le_toInt _) (Int32.toInt_le _) (by decide) (fun M68 X69 e70 h71 => ?_)
        refine z_xP zt53 6 11 [some (.ref a8), some (.int p2), some (.int p3), some (.int p4)] [.ref a8] rfl rfl ?_
        refine z_xgR (κ := .inr (202, 0, 9, (-2147483648), 2147483647)) zt53 7 rfl zo53 zzf3_15 X69 k15 (by decide) (by decide) rfl (fun (a73 : Nat) h72 k74 => ?_)
        refine z_xP zt53 8 15 [some (.ref a8), some (.int p2), some (.int p3), some (.int p4)] [.ref a8, .ref a73] rfl rfl ?_
        have h75 := (e70.f k15 (by decide) h60)
        refine z_xgv zt53 9 rfl zo53 zzf3_53 X69 k15 (by decide) h75 ?_
        refine z_xP zt53 10 19 [some (.ref a8), some (.int p2), some (.int p3), some (.int p4)] [.ref a8, .int x61, .ref a73] rfl rfl ?_
        refine z_xgR (κ := .inr (203, 0, 9, (-2147483648), 2147483647)) zt53 11 rfl zo53 zzf3_18 X69 k15 (by decide) (by decide) rfl (fun (a77 : Nat) h76 k78 => ?_)
        refine z_xP zt53 12 23 [some (.ref a8), some (.int p2), some (.int p3), some (.int p4)] [.ref a8, .ref a77, .int x61, .ref a73] rfl rfl ?_
        refine z_xgv zt53 13 rfl zo53 zzf3_53 X69 k15 (by decide) h75 ?_
        refine z_xP zt53 14 28 [some (.ref a8), some (.int p2), some (.int p3), some (.int p4)] [.int 0, .int x61, .ref a77, .int 0, .int x61, .ref a73] rfl rfl ?_
        have q0 : ((0 : Int32)).toInt = 0 := rfl
        refine z_xis zt53 15 rfl X69 k78 (by decide) (X69.1.g4 k78 (by decide)) (by omega) (by omega) (by omega) (by omega) (by decide) (fun M79 X80 e81 h82 => ?_)
        have q0 : ((0 : Int32)).toInt = 0 := rfl
        refine z_xis zt53 16 rfl X80 k74 (by decide) (X80.1.g4 k74 (by decide)) (by omega) (by omega) (by omega) (by omega) (by decide) (fun M83 X84 e85 h86 => ?_)
        refine z_xP zt53 17 32 [some (.ref a8), some (.int p2), some (.int p3), some (.int p4)] [.ref a8, .ref a8] rfl rfl ?_
        have h87 := (e85.f k15 (by decide) (e81.f k15 (by decide) h75))
        refine z_xgv zt53 18 rfl zo53 zzf3_53 X84 k15 (by decide) h87 ?_
        refine z_xP zt53 19 36 [some (.ref a8), some (.int p2), some (.int p3), some (.int p4)] [.int 1, .int x61, .ref a8] rfl rfl ?_
        refine z_xI zt53 20 rfl rfl (fun (x88 : Int32) (h89 : x88.toInt = x61.toInt + 1) => ?_) (z_pAdd rfl rfl (by omega) (by omega))
        refine z_xpf zt53 21 rfl zo53 zzf3_53 X84 k15 (by decide) (by decide) ⟨by omega, by omega⟩ rfl (by decide) zw3_4 (fun M90 X91 e92 h93 => ?_)
        refine z_xP zt53 22 42 [some (.ref a8), some (.int p2), some (.int p3), some (.int p4)] [.ref a8, .ref a8] rfl rfl ?_
        refine z_xgv zt53 23 rfl zo53 zzf3_53 X91 k15 (by decide) h93 ?_
        refine z_xP zt53 24 46 [some (.ref a8), some (.int p2), some (.int p3), some (.int p4)] [.int 1, .int x88, .ref a8] rfl rfl ?_
        refine z_xI zt53 25 rfl rfl (fun (x94 : Int32) (h95 : x94.toInt = x88.toInt - 1) => ?_) (z_pSub rfl rfl (by omega) (by omega))
        refine z_xP zt53 26 49 [some (.ref a8), some (.int p2), some (.int p3), some (.int p4)] [.int p4, .int p3, .int x94, .ref a8] rfl rfl ?_
        refine z_xcV (vs := [.ref a8, .int x94, .int p3, .int p4]) (r := []) (L2 := [some (.ref a8), some (.int x94), some (.int p3), some (.int p4), none, none, none, none]) zt53 27 rfl zo53 zzcV3_59 (Or.inl rfl) rfl X91 k15 rfl rfl rfl (Nat.le_of_ble_eq_true rfl) zzm54 (Nat.le_of_ble_eq_true rfl) rfl ?_
        refine zC54 X91.1 k15 (by omega) (fun M96 X97  => ?_)
        have X98 := X91.go X97 (z_sb (by decide))
        show z_ev (d + 2) 53 52 [some (.ref a8), some (.int p2), some (.int p3), some (.int p4)] [] M96 _
        refine z_xrv zt53 28 rfl zzr53 ?_
        show z_ev (d + 3) 52 82 [some (.ref 4), some (.int p1), some (.int p2), some (.int p3), some (.int p4), some (.ref a8)] [] M96 _
        refine z_xP zt52 31 84 [some (.ref 4), some (.int p1), some (.int p2), some (.int p3), some (.int p4), some (.ref a8)] [.ref a8] rfl rfl ?_
        have h100 := (X97.2.f k15 (by decide) h93)
        refine z_xgv zt52 32 rfl zo52 zzf0_105 X98 k15 (by decide) h100 ?_
        refine z_xP zt52 33 88 [some (.ref 4), some (.int p1), some (.int p2), some (.int p3), some (.int p4), some (.ref a8)] [.int 1, .int x88] rfl rfl ?_
        refine z_xI zt52 34 rfl rfl (fun (x101 : Int32) (h102 : x101.toInt = x88.toInt - 1) => ?_) (z_pSub rfl rfl (by omega) (by omega))
        exact z_xri zt52 35 rfl zzr52 (kk x101 M96 X98 (by omega) (by omega))
      refine z_xP zt52 27 72 [some (.ref 4), some (.int p1), some (.int p2), some (.int p3), some (.int p4), some (.ref a8)] [.int (-3)] rfl rfl ?_
      have qm3 : (((-3) : Int32)).toInt = (-3) := rfl
      exact z_xri zt52 28 rfl zzr52 (kk (-3) M52 X57 (by omega) (by omega))
    refine z_xP zt52 21 59 [some (.ref 4), some (.int p1), some (.int p2), some (.int p3), some (.int p4), some (.ref a8)] [.int (-2)] rfl rfl ?_
    have qm2 : (((-2) : Int32)).toInt = (-2) := rfl
    exact z_xri zt52 22 rfl zzr52 (kk (-2) M52 X57 (by omega) (by omega))
  refine z_xP zt35 5 22 [some (.ref 4), some (.int p1)] [.null] rfl rfl ?_
  refine z_xrn zt35 10 rfl zzr35 ?_
  show z_ev (d + 3) 52 5 [some (.ref 4), some (.int p1), some (.int p2), some (.int p3), some (.int p4), none] [.null] M0 _
  refine z_xP zt52 2 37 [some (.ref 4), some (.int p1), some (.int p2), some (.int p3), some (.int p4), some (.null)] [] rfl rfl ?_
  refine z_xP zt52 12 38 [some (.ref 4), some (.int p1), some (.int p2), some (.int p3), some (.int p4), some (.null)] [.int (-1)] rfl rfl ?_
  have qm1 : (((-1) : Int32)).toInt = (-1) := rfl
  exact z_xri zt52 13 rfl zzr52 (kk (-1) M0 X (by omega) (by omega))
def zw55 : List Nat := [202, 203, 205]
theorem zC55 {T : List zK} {d : Nat} {K : Option Value → zH → Prop} {p1 : Int32} {p2 : Int32} {p3 : Int32} {p4 : Int32} {M0 : zH} (hW : z_W M0 T)  (hG : z_GG T M0) (kk : ∀ (x : Int32) (M1 : zH), z_X T zw55 M0 M1 → (-2) ≤ x.toInt → x.toInt ≤ 1 → K (some (.int x)) M1) : z_ev (d + 3) 55 0 [some (.ref 4), some (.int p1), some (.int p2), some (.int p3), some (.int p4), none] [] M0 K := by
  have X : z_X T zw55 M0 M0 := .refl hW
  refine z_xP zt55 0 2 [some (.ref 4), some (.int p1), some (.int p2), some (.int p3), some (.int p4), none] [.int p1, .ref 4] rfl rfl ?_
  have f4 : T[4]? = some (.inl (0, 0, 0, 0, 0)) := X.1.k rfl (by decide)
  refine z_xcV (vs := [.ref 4, .int p1]) (r := []) (L2 := [some (.ref 4), some (.int p1)]) zt55 1 rfl zo55 zzcV0_85 (Or.inl rfl) rfl X f4 rfl rfl rfl (Nat.le_of_ble_eq_true rfl) zzm35 (Nat.le_of_ble_eq_true rfl) rfl ?_
  refine z_xP zt35 0 1 [some (.ref 4), some (.int p1)] [.int p1] rfl rfl ?_
  refine z_xZ zt35 1 rfl rfl (fun (h1 : p1.toInt < 0) => ?_) (fun (h1 : 0 ≤ p1.toInt) => ?_)
  · skip
    refine z_xP zt35 5 22 [some (.ref 4), some (.int p1)] [.null] rfl rfl ?_
    refine z_xrn zt35 10 rfl zzr35 ?_
    show z_ev (d + 3) 55 5 [some (.ref 4), some (.int p1), some (.int p2), some (.int p3), some (.int p4), none] [.null] M0 _
    refine z_xP zt55 2 35 [some (.ref 4), some (.int p1), some (.int p2), some (.int p3), some (.int p4), some (.null)] [] rfl rfl ?_
    refine z_xP zt55 11 36 [some (.ref 4), some (.int p1), some (.int p2), some (.int p3), some (.int p4), some (.null)] [.int (-1)] rfl rfl ?_
    have qm1 : (((-1) : Int32)).toInt = (-1) := rfl
    exact z_xri zt55 12 rfl zzr55 (kk (-1) M0 X (by omega) (by omega))
  refine z_xP zt35 2 6 [some (.ref 4), some (.int p1)] [.ref 4, .int p1] rfl rfl ?_
  refine z_xgI zt35 3 rfl zo35 zzf0_59 X f4 (by decide) (by decide) rfl (fun (x3 : Int32) h2 (h4 : 0 ≤ x3.toInt) (h5 : x3.toInt ≤ 8) => ?_)
  have h6 := z_b32 p1
  refine z_xJ zt35 4 rfl rfl (fun (h7 : p1.toInt < x3.toInt) => ?_) (fun (h7 : x3.toInt ≤ p1.toInt) => ?_)
  · skip
    refine z_xP zt35 6 17 [some (.ref 4), some (.int p1)] [.ref 4] rfl rfl ?_
    refine z_xgX (b := 10) zt35 7 rfl zo35 zzf0_18 X f4 (by decide) (by decide) rfl ?_
    refine z_xP zt35 8 21 [some (.ref 4), some (.int p1)] [.int p1, .ref 10] rfl rfl ?_
    have f10 : T[10]? = some (.inr (10, 2, 8, 9, 0)) := X.1.k rfl (by decide)
    refine z_xal zt35 9 rfl X f10 (by decide) (by decide) (by decide) (by omega) (by omega) (fun (a8 : Nat) h9 h10 => ?_) (fun h11 => absurd h11 (z_Gs (hG.go X (by decide)).2.1 h2 (by omega) (by omega)))
    obtain ⟨q12, t13, m14, k15⟩ : ∃ q t m, T[a8]? = some (.inl (3, q, t, m, 9)) := h10
    have g16 := X.1.p3 k15
    refine z_xra zt35 10 rfl zzr35 ?_
    show z_ev (d + 3) 55 5 [some (.ref 4), some (.int p1), some (.int p2), some (.int p3), some (.int p4), none] [.ref a8] M0 _
    refine z_xP zt55 2 12 [some (.ref 4), some (.int p1), some (.int p2), some (.int p3), some (.int p4), some (.ref a8)] [] rfl rfl ?_
    refine z_xP zt55 3 15 [some (.ref 4), some (.int p1), some (.int p2), some (.int p3), some (.int p4), some (.ref a8)] [.int p2, .ref a8] rfl rfl ?_
    refine z_xcV (vs := [.ref a8, .int p2]) (r := []) (L2 := [some (.ref a8), some (.int p2)]) zt55 4 rfl zo55 zzcV0_142 (Or.inl rfl) rfl X k15 rfl rfl rfl (Nat.le_of_ble_eq_true rfl) zzm56 (Nat.le_of_ble_eq_true rfl) rfl ?_
    refine z_xP zt56 0 1 [some (.ref a8), some (.int p2)] [.int p2] rfl rfl ?_
    refine z_xZ zt56 1 rfl rfl (fun (h17 : p2.toInt < 0) => ?_) (fun (h17 : 0 ≤ p2.toInt) => ?_)
    · skip
      refine z_xP zt56 6 17 [some (.ref a8), some (.int p2)] [.int 0] rfl rfl ?_
      refine z_xrz zt56 7 rfl zzr56 (by decide) (by decide) ?_
      show z_ev (d + 3) 55 18 [some (.ref 4), some (.int p1), some (.int p2), some (.int p3), some (.int p4), some (.ref a8)] [.int 0] M0 _
      refine z_xZ zt55 5 rfl rfl (fun (h18 : (0 : Int) = 0) => ?_) (fun (h18 : (0 : Int) ≠ 0) => absurd h18 (by omega))
      refine z_xP zt55 11 36 [some (.ref 4), some (.int p1), some (.int p2), some (.int p3), some (.int p4), some (.ref a8)] [.int (-1)] rfl rfl ?_
      have qm1 : (((-1) : Int32)).toInt = (-1) := rfl
      exact z_xri zt55 12 rfl zzr55 (kk (-1) M0 X (by omega) (by omega))
    refine z_xP zt56 2 6 [some (.ref a8), some (.int p2)] [.ref a8, .int p2] rfl rfl ?_
    refine z_xgI zt56 3 rfl zo56 zzf3_53 X k15 (by decide) (by decide) rfl (fun (x20 : Int32) h19 (h21 : 0 ≤ x20.toInt) (h22 : x20.toInt ≤ (9 : Int)) => ?_)
    have h23 := z_b32 p2
    refine z_xJ zt56 4 rfl rfl (fun (h24 : x20.toInt ≤ p2.toInt) => ?_) (fun (h24 : p2.toInt < x20.toInt) => ?_)
    · skip
      refine z_xP zt56 6 17 [some (.ref a8), some (.int p2)] [.int 0] rfl rfl ?_
      refine z_xrz zt56 7 rfl zzr56 (by decide) (by decide) ?_
      show z_ev (d + 3) 55 18 [some (.ref 4), some (.int p1), some (.int p2), some (.int p3), some (.int p4), some (.ref a8)] [.int 0] M0 _
      refine z_xZ zt55 5 rfl rfl (fun (h25 : (0 : Int) = 0) => ?_) (fun (h25 : (0 : Int) ≠ 0) => absurd h25 (by omega))
      refine z_xP zt55 11 36 [some (.ref 4), some (.int p1), some (.int p2), some (.int p3), some (.int p4), some (.ref a8)] [.int (-1)] rfl rfl ?_
      have qm1 : (((-1) : Int32)).toInt = (-1) := rfl
      exact z_xri zt55 12 rfl zzr55 (kk (-1) M0 X (by omega) (by omega))
    refine z_xP zt56 5 17 [some (.ref a8), some (.int p2)] [.int 1] rfl rfl ?_
    refine z_xrz zt56 7 rfl zzr56 (by decide) (by decide) ?_
    show z_ev (d + 3) 55 18 [some (.ref 4), some (.int p1), some (.int p2), some (.int p3), some (.int p4), some (.ref a8)] [.int 1] M0 _
    refine z_xZ zt55 5 rfl rfl (fun (h26 : (1 : Int) = 0) => absurd h26 (by omega)) (fun (h26 : (1 : Int) ≠ 0) => ?_)
    refine z_xP zt55 6 23 [some (.ref 4), some (.int p1), some (.int p2), some (.int p3), some (.int p4), some (.ref a8)] [.ref a8] rfl rfl ?_
    refine z_xgR (κ := .inl (2, q12, t13, m14, 0)) zt55 7 rfl zo55 zzf0_89 X k15 (by decide) (by decide) rfl (fun (a28 : Nat) h27 k29 => ?_)
    have g30 := X.1.p2 k29
    refine z_xP zt55 8 29 [some (.ref 4), some (.int p1), some (.int p2), some (.int p3), some (.int p4), some (.ref a8)] [.int p4, .int p3, .ref a28] rfl rfl ?_
    refine z_xcV (vs := [.ref a28, .int p3, .int p4]) (r := []) (L2 := [some (.ref a28), some (.int p3), some (.int p4)]) zt55 9 rfl zo55 zzcV0_123 (Or.inl rfl) rfl X k29 rfl rfl rfl (Nat.le_of_ble_eq_true rfl) zzm43 (Nat.le_of_ble_eq_true rfl) rfl ?_
    refine z_xP zt43 0 2 [some (.ref a28), some (.int p3), some (.int p4)] [.int p3, .ref a28] rfl rfl ?_
    refine z_xcV (vs := [.ref a28, .int p3]) (r := []) (L2 := [some (.ref a28), some (.int p3)]) zt43 1 rfl zo43 zzcV2_76 (Or.inl rfl) rfl X k29 rfl rfl rfl (Nat.le_of_ble_eq_true rfl) zzm28 (Nat.le_of_ble_eq_true rfl) rfl ?_
    refine z_xP zt28 0 1 [some (.ref a28), some (.int p3)] [.int p3] rfl rfl ?_
    refine z_xZ zt28 1 rfl rfl (fun (h31 : p3.toInt < 0) => ?_) (fun (h31 : 0 ≤ p3.toInt) => ?_)
    · skip
      refine z_xP zt28 6 17 [some (.ref a28), some (.int p3)] [.int 0] rfl rfl ?_
      refine z_xrz zt28 7 rfl zzr28 (by decide) (by decide) ?_
      show z_ev (d + 2) 43 5 [some (.ref a28), some (.int p3), some (.int p4)] [.int 0] M0 _
      refine z_xZ zt43 2 rfl rfl (fun (h32 : (0 : Int) = 0) => ?_) (fun (h32 : (0 : Int) ≠ 0) => absurd h32 (by omega))
      refine z_xP zt43 10 27 [some (.ref a28), some (.int p3), some (.int p4)] [.int 0] rfl rfl ?_
      refine z_xrz zt43 11 rfl zzr43 (by decide) (by decide) ?_
      show z_ev (d + 3) 55 32 [some (.ref 4), some (.int p1), some (.int p2), some (.int p3), some (.int p4), some (.ref a8)] [.int 0] M0 _
      refine z_xZ zt55 10 rfl rfl (fun (h33 : (0 : Int) ≠ 0) => absurd h33 (by omega)) (fun (h33 : (0 : Int) = 0) => ?_)
      refine z_xP zt55 11 36 [some (.ref 4), some (.int p1), some (.int p2), some (.int p3), some (.int p4), some (.ref a8)] [.int (-1)] rfl rfl ?_
      have qm1 : (((-1) : Int32)).toInt = (-1) := rfl
      exact z_xri zt55 12 rfl zzr55 (kk (-1) M0 X (by omega) (by omega))
    refine z_xP zt28 2 6 [some (.ref a28), some (.int p3)] [.ref a28, .int p3] rfl rfl ?_
    refine z_xgI zt28 3 rfl zo28 zzf2_32 X k29 (by decide) (by decide) rfl (fun (x35 : Int32) h34 (h36 : ((z_po q12 : Nat) : Int) - 1 ≤ x35.toInt) (h37 : x35.toInt ≤ ((z_po q12 : Nat) : Int) - 1) => ?_)
    have h38 := z_b32 p3
    refine z_xJ zt28 4 rfl rfl (fun (h39 : x35.toInt < p3.toInt) => ?_) (fun (h39 : p3.toInt ≤ x35.toInt) => ?_)
    · skip
      refine z_xP zt28 6 17 [some (.ref a28), some (.int p3)] [.int 0] rfl rfl ?_
      refine z_xrz zt28 7 rfl zzr28 (by decide) (by decide) ?_
      show z_ev (d + 2) 43 5 [some (.ref a28), some (.int p3), some (.int p4)] [.int 0] M0 _
      refine z_xZ zt43 2 rfl rfl (fun (h40 : (0 : Int) = 0) => ?_) (fun (h40 : (0 : Int) ≠ 0) => absurd h40 (by omega))
      refine z_xP zt43 10 27 [some (.ref a28), some (.int p3), some (.int p4)] [.int 0] rfl rfl ?_
      refine z_xrz zt43 11 rfl zzr43 (by decide) (by decide) ?_
      show z_ev (d + 3) 55 32 [some (.ref 4), some (.int p1), some (.int p2), some (.int p3), some (.int p4), some (.ref a8)] [.int 0] M0 _
      refine z_xZ zt55 10 rfl rfl (fun (h41 : (0 : Int) ≠ 0) => absurd h41 (by omega)) (fun (h41 : (0 : Int) = 0) => ?_)
      refine z_xP zt55 11 36 [some (.ref 4), some (.int p1), some (.int p2), some (.int p3), some (.int p4), some (.ref a8)] [.int (-1)] rfl rfl ?_
      have qm1 : (((-1) : Int32)).toInt = (-1) := rfl
      exact z_xri zt55 12 rfl zzr55 (kk (-1) M0 X (by omega) (by omega))
    refine z_xP zt28 5 17 [some (.ref a28), some (.int p3)] [.int 1] rfl rfl ?_
    refine z_xrz zt28 7 rfl zzr28 (by decide) (by decide) ?_
    show z_ev (d + 2) 43 5 [some (.ref a28), some (.int p3), some (.int p4)] [.int 1] M0 _
    refine z_xZ zt43 2 rfl rfl (fun (h42 : (1 : Int) = 0) => absurd h42 (by omega)) (fun (h42 : (1 : Int) ≠ 0) => ?_)
    refine z_xP zt43 3 10 [some (.ref a28), some (.int p3), some (.int p4)] [.int p4, .ref a28] rfl rfl ?_
    refine z_xcV (vs := [.ref a28, .int p4]) (r := []) (L2 := [some (.ref a28), some (.int p4)]) zt43 4 rfl zo43 zzcV2_76 (Or.inl rfl) rfl X k29 rfl rfl rfl (Nat.le_of_ble_eq_true rfl) zzm28 (Nat.le_of_ble_eq_true rfl) rfl ?_
    refine z_xP zt28 0 1 [some (.ref a28), some (.int p4)] [.int p4] rfl rfl ?_
    refine z_xZ zt28 1 rfl rfl (fun (h43 : p4.toInt < 0) => ?_) (fun (h43 : 0 ≤ p4.toInt) => ?_)
    · skip
      refine z_xP zt28 6 17 [some (.ref a28), some (.int p4)] [.int 0] rfl rfl ?_
      refine z_xrz zt28 7 rfl zzr28 (by decide) (by decide) ?_
      show z_ev (d + 2) 43 13 [some (.ref a28), some (.int p3), some (.int p4)] [.int 0] M0 _
      refine z_xZ zt43 5 rfl rfl (fun (h44 : (0 : Int) = 0) => ?_) (fun (h44 : (0 : Int) ≠ 0) => absurd h44 (by omega))
      refine z_xP zt43 10 27 [some (.ref a28), some (.int p3), some (.int p4)] [.int 0] rfl rfl ?_
      refine z_xrz zt43 11 rfl zzr43 (by decide) (by decide) ?_
      show z_ev (d + 3) 55 32 [some (.ref 4), some (.int p1), some (.int p2), some (.int p3), some (.int p4), some (.ref a8)] [.int 0] M0 _
      refine z_xZ zt55 10 rfl rfl (fun (h45 : (0 : Int) ≠ 0) => absurd h45 (by omega)) (fun (h45 : (0 : Int) = 0) => ?_)
      refine z_xP zt55 11 36 [some (.ref 4), some (.int p1), some (.int p2), some (.int p3), some (.int p4), some (.ref a8)] [.int (-1)] rfl rfl ?_
      have qm1 : (((-1) : Int32)).toInt = (-1) := rfl
      exact z_xri zt55 12 rfl zzr55 (kk (-1) M0 X (by omega) (by omega))
    refine z_xP zt28 2 6 [some (.ref a28), some (.int p4)] [.ref a28, .int p4] rfl rfl ?_
    refine z_xgv zt28 3 rfl zo28 zzf2_32 X k29 (by decide) h34 ?_
    have h46 := z_b32 p4
    refine z_xJ zt28 4 rfl rfl (fun (h47 : x35.toInt < p4.toInt) => ?_) (fun (h47 : p4.toInt ≤ x35.toInt) => ?_)
    · skip
      refine z_xP zt28 6 17 [some (.ref a28), some (.int p4)] [.int 0] rfl rfl ?_
      refine z_xrz zt28 7 rfl zzr28 (by decide) (by decide) ?_
      show z_ev (d + 2) 43 13 [some (.ref a28), some (.int p3), some (.int p4)] [.int 0] M0 _
      refine z_xZ zt43 5 rfl rfl (fun (h48 : (0 : Int) = 0) => ?_) (fun (h48 : (0 : Int) ≠ 0) => absurd h48 (by omega))
      refine z_xP zt43 10 27 [some (.ref a28), some (.int p3), some (.int p4)] [.int 0] rfl rfl ?_
      refine z_xrz zt43 11 rfl zzr43 (by decide) (by decide) ?_
      show z_ev (d + 3) 55 32 [some (.ref 4), some (.int p1), some (.int p2), some (.int p3), some (.int p4), some (.ref a8)] [.int 0] M0 _
      refine z_xZ zt55 10 rfl rfl (fun (h49 : (0 : Int) ≠ 0) => absurd h49 (by omega)) (fun (h49 : (0 : Int) = 0) => ?_)
      refine z_xP zt55 11 36 [some (.ref 4), some (.int p1), some (.int p2), some (.int p3), some (.int p4), some (.ref a8)] [.int (-1)] rfl rfl ?_
      have qm1 : (((-1) : Int32)).toInt = (-1) := rfl
      exact z_xri zt55 12 rfl zzr55 (kk (-1) M0 X (by omega) (by omega))
    refine z_xP zt28 5 17 [some (.ref a28), some (.int p4)] [.int 1] rfl rfl ?_
    refine z_xrz zt28 7 rfl zzr28 (by decide) (by decide) ?_
    show z_ev (d + 2) 43 13 [some (.ref a28), some (.int p3), some (.int p4)] [.int 1] M0 _
    refine z_xZ zt43 5 rfl rfl (fun (h50 : (1 : Int) = 0) => absurd h50 (by omega)) (fun (h50 : (1 : Int) ≠ 0) => ?_)
    refine z_xP zt43 6 18 [some (.ref a28), some (.int p3), some (.int p4)] [.int p4, .int p3] rfl rfl ?_
    refine z_xI zt43 7 rfl rfl (fun (x51 : Int32) (h52 : 0 ≤ x51.toInt ∧ x51.toInt ≤ p3.toInt ∧ x51.toInt ≤ p4.toInt) => ?_) (z_pAnd2 rfl rfl (by omega) (by omega))
    refine z_xZ zt43 8 rfl rfl (fun (h53 : x51.toInt ≠ 0) => ?_) (fun (h53 : x51.toInt = 0) => ?_)
    · skip
      refine z_xP zt43 10 27 [some (.ref a28), some (.int p3), some (.int p4)] [.int 0] rfl rfl ?_
      refine z_xrz zt43 11 rfl zzr43 (by decide) (by decide) ?_
      show z_ev (d + 3) 55 32 [some (.ref 4), some (.int p1), some (.int p2), some (.int p3), some (.int p4), some (.ref a8)] [.int 0] M0 _
      refine z_xZ zt55 10 rfl rfl (fun (h54 : (0 : Int) ≠ 0) => absurd h54 (by omega)) (fun (h54 : (0 : Int) = 0) => ?_)
      refine z_xP zt55 11 36 [some (.ref 4), some (.int p1), some (.int p2), some (.int p3), some (.int p4), some (.ref a8)] [.int (-1)] rfl rfl ?_
      have qm1 : (((-1) : Int32)).toInt = (-1) := rfl
      exact z_xri zt55 12 rfl zzr55 (kk (-1) M0 X (by omega) (by omega))
    refine z_xP zt43 9 27 [some (.ref a28), some (.int p3), some (.int p4)] [.int 1] rfl rfl ?_
    refine z_xrz zt43 11 rfl zzr43 (by decide) (by decide) ?_
    show z_ev (d + 3) 55 32 [some (.ref 4), some (.int p1), some (.int p2), some (.int p3), some (.int p4), some (.ref a8)] [.int 1] M0 _
    refine z_xZ zt55 10 rfl rfl (fun (h55 : (1 : Int) ≠ 0) => ?_) (fun (h55 : (1 : Int) = 0) => absurd h55 (by omega))
    refine z_xP zt55 13 39 [some (.ref 4), some (.int p1), some (.int p2), some (.int p3), some (.int p4), some (.ref a8)] [.ref a8] rfl rfl ?_
    refine z_xgv zt55 14 rfl zo55 zzf0_89 X k15 (by decide) h27 ?_
    refine z_xP zt55 15 47 [some (.ref 4), some (.int p1), some (.int p2), some (.int p3), some (.int p4), some (.ref a8)] [.int 10, .int p4, .int p3, .ref a28] rfl rfl ?_
    refine z_xI zt55 16 rfl rfl (fun (x56 : Int32) (h57 : x56.toInt = p4.toInt * 1024) => ?_) (z_pShl 10 rfl rfl (by decide) (by decide) (by omega) rfl (by omega))
    refine z_xI zt55 17 rfl rfl (fun (x58 : Int32) (h59 : 0 ≤ x58.toInt ∧ x58.toInt < 1048576 ∧ p3.toInt ≤ x58.toInt ∧ x56.toInt ≤ x58.toInt) => ?_) (z_pOr 20 rfl rfl (by omega) (by omega) (by decide) (by omega) (by omega) (by decide))
    refine z_xcV (vs := [.ref a28, .int x58]) (r := []) (L2 := [some (.ref a28), some (.int x58), none]) zt55 18 rfl zo55 zzcV0_126 (Or.inl rfl) rfl X k29 rfl rfl rfl (Nat.le_of_ble_eq_true rfl) zzm44 (Nat.le_of_ble_eq_true rfl) rfl ?_
    refine zC44 X.1 k29 (fun x62 M60 X61 h63 h64 => ?_)
    have X65 := X.go X61 (z_sb (by decide))
    show z_ev (d + 3) 55 52 [some (.ref 4), some (.int p1), some (.int p2), some (.int p3), some (.int p4), some (.ref a8)] [.int x62] M60 _
    refine z_xZ zt55 19 rfl rfl (fun (h67 : x62.toInt ≠ 0) => ?_) (fun (h67 : x62.toInt = 0) => ?_)
    · skip
      refine z_xP zt55 22 64 [some (.ref 4), some (.int p1), some (.int p2), some (.int p3), some (.int p4), some (.ref a8)] [.int p4, .int p3, .int p2, .ref a8] rfl rfl ?_
      refine z_xcV (vs := [.ref a8, .int p2, .int p3, .int p4]) (r := []) (L2 := [some (.ref a8), some (.int p2), some (.int p3), some (.int p4), none, none, none, none]) zt55 23 rfl zo55 zzcV0_145 (Or.inl rfl) rfl X65 k15 rfl rfl rfl (Nat.le_of_ble_eq_true rfl) zzm54 (Nat.le_of_ble_eq_true rfl) rfl ?_
      refine zC54 X65.1 k15 (by omega) (fun M68 X69  => ?_)
      have X70 := X65.go X69 (z_sb (by decide))
      show z_ev (d + 3) 55 67 [some (.ref 4), some (.int p1), some (.int p2), some (.int p3), some (.int p4), some (.ref a8)] [] M68 _
      refine z_xP zt55 24 68 [some (.ref 4), some (.int p1), some (.int p2), some (.int p3), some (.int p4), some (.ref a8)] [.int 1] rfl rfl ?_
      have q1 : ((1 : Int32)).toInt = 1 := rfl
      exact z_xri zt55 25 rfl zzr55 (kk 1 M68 X70 (by omega) (by omega))
    refine z_xP zt55 20 57 [some (.ref 4), some (.int p1), some (.int p2), some (.int p3), some (.int p4), some (.ref a8)] [.int (-2)] rfl rfl ?_
    have qm2 : (((-2) : Int32)).toInt = (-2) := rfl
    exact z_xri zt55 21 rfl zzr55 (kk (-2) M60 X65 (by omega) (by omega))
  refine z_xP zt35 5 22 [some (.ref 4), some (.int p1)] [.null] rfl rfl ?_
  refine z_xrn zt35 10 rfl zzr35 ?_
  show z_ev (d + 3) 55 5 [some (.ref 4), some (.int p1), some (.int p2), some (.int p3), some (.int p4), none] [.null] M0 _
  refine z_xP zt55 2 35 [some (.ref 4), some (.int p1), some (.int p2), some (.int p3), some (.int p4), some (.null)] [] rfl rfl ?_
  refine z_xP zt55 11 36 [some (.ref 4), some (.int p1), some (.int p2), some (.int p3), some (.int p4), some (.null)] [.int (-1)] rfl rfl ?_
  have qm1 : (((-1) : Int32)).toInt = (-1) := rfl
  exact z_xri zt55 12 rfl zzr55 (kk (-1) M0 X (by omega) (by omega))
def zw59 : List Nat := []
theorem zB59 {T : List zK} {d : Nat} {K : Option Value → zH → Prop} {p1 : Int32} {p2 : Int32} {p3 : Int32} {M0 : zH} (u1 : 0 ≤ p1.toInt ∧ p1.toInt ≤ 5) (u3 : 0 ≤ p3.toInt ∧ p3.toInt ≤ 10) (kk : ∀ (x : Int32) (M1 : zH), z_X T zw59 M0 M1 → 0 ≤ x.toInt → x.toInt ≤ 1048575 → K (some (.int x)) M1) : ∀ n : Nat, (∀ (M : zH) (b4 : Int32) (b5 : Int32) (b6 : Int32), z_X T zw59 M0 M → 0 ≤ p2.toInt ∧ p2.toInt ≤ 59 → 1 ≤ b4.toInt ∧ b4.toInt ≤ 60 → 0 ≤ b5.toInt ∧ b5.toInt ≤ 1048575 → 0 ≤ b6.toInt ∧ b6.toInt ≤ 10 → ((0) * 2 + 0) * 11 + (10 - b6.toInt) < (n : Int) → z_ev d 59 40 [some (.ref 4), some (.int p1), some (.int p2), some (.int p3), some (.int b4), some (.int b5), some (.int b6)] [] M K) := by
  intro n
  induction n with
  | zero => exact by intros; exfalso; omega
  | succ n ih =>
    intro M b4 b5 b6 X hh0 hh1 hh2 hh3 hE
    refine z_xP zt59 19 43 [some (.ref 4), some (.int p1), some (.int p2), some (.int p3), some (.int b4), some (.int b5), some (.int b6)] [.int p3, .int b6] rfl rfl ?_
    refine z_xJ zt59 20 rfl rfl (fun (h1 : p3.toInt ≤ b6.toInt) => ?_) (fun (h1 : b6.toInt < p3.toInt) => ?_)
    · skip
      refine z_xP zt59 47 101 [some (.ref 4), some (.int p1), some (.int p2), some (.int p3), some (.int b4), some (.int b5), some (.int b6)] [.int b5] rfl rfl ?_
      exact z_xri zt59 48 rfl zzr59 (kk b5 M X (by omega) (by omega))
    refine z_xP zt59 21 49 [some (.ref 4), some (.int p1), some (.int p2), some (.int p3), some (.int b4), some (.int b5), some (.int b6)] [.int b6, .int p2] rfl rfl ?_
    refine z_xI zt59 22 rfl rfl (fun (x2 : Int32) (h3 : x2.toInt = p2.toInt + b6.toInt) => ?_) (z_pAdd rfl rfl (by omega) (by omega))
    refine z_xP zt59 23 52 [some (.ref 4), some (.int p1), some (.int p2), some (.int p3), some (.int b4), some (.int b5), some (.int b6)] [.int b4, .int x2] rfl rfl ?_
    refine z_xJ zt59 24 rfl rfl (fun (h4 : b4.toInt ≤ x2.toInt) => ?_) (fun (h4 : x2.toInt < b4.toInt) => ?_)
    · skip
      refine z_xP zt59 47 101 [some (.ref 4), some (.int p1), some (.int p2), some (.int p3), some (.int b4), some (.int b5), some (.int b6)] [.int b5] rfl rfl ?_
      exact z_xri zt59 48 rfl zzr59 (kk b5 M X (by omega) (by omega))
    refine z_xP zt59 25 58 [some (.ref 4), some (.int p1), some (.int p2), some (.int p3), some (.int b4), some (.int b5), some (.int b6)] [.ref 4, .int b5] rfl rfl ?_
    have f4 : T[4]? = some (.inl (0, 0, 0, 0, 0)) := X.1.k rfl (by decide)
    refine z_xgX (b := 16) zt59 26 rfl zo59 zzf0_41 X f4 (by decide) (by decide) rfl ?_
    refine z_xP zt59 27 64 [some (.ref 4), some (.int p1), some (.int p2), some (.int p3), some (.int b4), some (.int b5), some (.int b6)] [.int 60, .int p1, .ref 16, .int b5] rfl rfl ?_
    refine z_xI zt59 28 rfl rfl (fun (x5 : Int32) (h6 : x5.toInt = p1.toInt * 60) => ?_) (z_pMul rfl rfl (by omega) (by omega))
    refine z_xP zt59 29 66 [some (.ref 4), some (.int p1), some (.int p2), some (.int p3), some (.int b4), some (.int b5), some (.int b6)] [.int p2, .int x5, .ref 16, .int b5] rfl rfl ?_
    refine z_xI zt59 30 rfl rfl (fun (x7 : Int32) (h8 : x7.toInt = x5.toInt + p2.toInt) => ?_) (z_pAdd rfl rfl (by omega) (by omega))
    refine z_xP zt59 31 69 [some (.ref 4), some (.int p1), some (.int p2), some (.int p3), some (.int b4), some (.int b5), some (.int b6)] [.int b6, .int x7, .ref 16, .int b5] rfl rfl ?_
    refine z_xI zt59 32 rfl rfl (fun (x9 : Int32) (h10 : x9.toInt = x7.toInt + b6.toInt) => ?_) (z_pAdd rfl rfl (by omega) (by omega))
    have f16 : T[16]? = some (.inr (16, 1, 360, 0, 0)) := X.1.k rfl (by decide)
    refine z_xll zt59 33 rfl X f16 (by decide) (by omega) (by omega) (fun (y11 : Int64) => ?_)
    refine z_xP zt59 34 72 [some (.ref 4), some (.int p1), some (.int p2), some (.int p3), some (.int b4), some (.int b5), some (.int b6)] [.long 0, .long y11, .int b5] rfl rfl ?_
    refine z_xI zt59 35 rfl rfl (fun (x12 : Int32) (h13 : (x12.toInt < 0 ∧ y11.toInt < 0) ∨ (x12.toInt = 0 ∧ y11.toInt = 0) ∨ (0 < x12.toInt ∧ 0 < y11.toInt)) => ?_) (z_qCmp rfl rfl)
    refine z_xZ zt59 36 rfl rfl (fun (h14 : x12.toInt = 0) => ?_) (fun (h14 : x12.toInt ≠ 0) => ?_)
    · skip
      refine z_xP zt59 40 88 [some (.ref 4), some (.int p1), some (.int p2), some (.int p3), some (.int b4), some (.int b5), some (.int b6)] [.int 10, .int b6, .int 1, .int b5] rfl rfl ?_
      refine z_xI zt59 41 rfl rfl (fun (x15 : Int32) (h16 : x15.toInt = b6.toInt + 10) => ?_) (z_pAdd rfl rfl (by omega) (by omega))
      refine z_xI zt59 42 rfl rfl (fun (x17 : Int32) (h18 : 1 ≤ x17.toInt ∧ x17.toInt ≤ 524288) => ?_) (z_pShlB (a := 1) (b := 19) (c := 524288) (r := 524288) rfl rfl (by omega) (by omega) (by omega) (by omega) (by decide) (by decide) (by decide) (by decide))
      refine z_xI zt59 43 rfl rfl (fun (x19 : Int32) (h20 : 0 ≤ x19.toInt ∧ x19.toInt < 1048576 ∧ b5.toInt ≤ x19.toInt ∧ x17.toInt ≤ x19.toInt) => ?_) (z_pOr 20 rfl rfl (by omega) (by omega) (by decide) (by omega) (by omega) (by decide))
      refine z_xP zt59 44 93 [some (.ref 4), some (.int p1), some (.int p2), some (.int p3), some (.int b4), some (.int x19), some (.int b6)] [] rfl rfl ?_
      refine z_xN zt59 45 rfl rfl (fun (x21 : Int32) (h22 : x21.toInt = b6.toInt + 1) => ?_) (z_pAdd rfl rfl (by omega) (by omega))
      show z_ev d 59 96 [some (.ref 4), some (.int p1), some (.int p2), some (.int p3), some (.int b4), some (.int x19), some (.int x21)] [] M _
      refine z_xP zt59 46 40 [some (.ref 4), some (.int p1), some (.int p2), some (.int p3), some (.int b4), some (.int x19), some (.int x21)] [] rfl rfl ?_
      exact ih M b4 x19 x21 X ⟨by omega, by omega⟩ ⟨by omega, by omega⟩ ⟨by omega, by omega⟩ ⟨by omega, by omega⟩ (by omega)
    refine z_xP zt59 37 79 [some (.ref 4), some (.int p1), some (.int p2), some (.int p3), some (.int b4), some (.int b5), some (.int b6)] [.int b6, .int 1, .int b5] rfl rfl ?_
    refine z_xI zt59 38 rfl rfl (fun (x23 : Int32) (h24 : 1 ≤ x23.toInt ∧ x23.toInt ≤ 512) => ?_) (z_pShlB (a := 1) (b := 9) (c := 512) (r := 512) rfl rfl (by omega) (by omega) (by omega) (by omega) (by decide) (by decide) (by decide) (by decide))
    refine z_xP zt59 39 90 [some (.ref 4), some (.int p1), some (.int p2), some (.int p3), some (.int b4), some (.int b5), some (.int b6)] [.int x23, .int b5] rfl rfl ?_
    refine z_xI zt59 43 rfl rfl (fun (x25 : Int32) (h26 : 0 ≤ x25.toInt ∧ x25.toInt < 1048576 ∧ b5.toInt ≤ x25.toInt ∧ x23.toInt ≤ x25.toInt) => ?_) (z_pOr 20 rfl rfl (by omega) (by omega) (by decide) (by omega) (by omega) (by decide))
    refine z_xP zt59 44 93 [some (.ref 4), some (.int p1), some (.int p2), some (.int p3), some (.int b4), some (.int x25), some (.int b6)] [] rfl rfl ?_
    refine z_xN zt59 45 rfl rfl (fun (x27 : Int32) (h28 : x27.toInt = b6.toInt + 1) => ?_) (z_pAdd rfl rfl (by omega) (by omega))
    show z_ev d 59 96 [some (.ref 4), some (.int p1), some (.int p2), some (.int p3), some (.int b4), some (.int x25), some (.int x27)] [] M _
    refine z_xP zt59 46 40 [some (.ref 4), some (.int p1), some (.int p2), some (.int p3), some (.int b4), some (.int x25), some (.int x27)] [] rfl rfl ?_
    exact ih M b4 x25 x27 X ⟨by omega, by omega⟩ ⟨by omega, by omega⟩ ⟨by omega, by omega⟩ ⟨by omega, by omega⟩ (by omega)
theorem zC59 {T : List zK} {d : Nat} {K : Option Value → zH → Prop} {p1 : Int32} {p2 : Int32} {p3 : Int32} {M0 : zH} (hW : z_W M0 T) (u1 : 0 ≤ p1.toInt ∧ p1.toInt ≤ 5) (u3 : 0 ≤ p3.toInt ∧ p3.toInt ≤ 10) (kk : ∀ (x : Int32) (M1 : zH), z_X T zw59 M0 M1 → 0 ≤ x.toInt → x.toInt ≤ 1048575 → K (some (.int x)) M1) : z_ev d 59 0 [some (.ref 4), some (.int p1), some (.int p2), some (.int p3), none, none, none] [] M0 K := by
  have X : z_X T zw59 M0 M0 := .refl hW
  refine z_xP zt59 0 1 [some (.ref 4), some (.int p1), some (.int p2), some (.int p3), none, none, none] [.ref 4] rfl rfl ?_
  have f4 : T[4]? = some (.inl (0, 0, 0, 0, 0)) := X.1.k rfl (by decide)
  refine z_xgX (b := 14) zt59 1 rfl zo59 zzf0_35 X f4 (by decide) (by decide) rfl ?_
  refine z_xP zt59 2 5 [some (.ref 4), some (.int p1), some (.int p2), some (.int p3), none, none, none] [.int p1, .ref 14] rfl rfl ?_
  have f14 : T[14]? = some (.inr (14, 0, 6, (-1), 5)) := X.1.k rfl (by decide)
  refine z_xil zt59 3 rfl X f14 (by decide) (by omega) (by omega) (fun (x1 : Int32) h2 (h3 : (-1) ≤ x1.toInt) (h4 : x1.toInt ≤ 5) => ?_)
  refine z_xP zt59 4 7 [some (.ref 4), some (.int p1), some (.int p2), some (.int p3), none, none, none] [.int 4, .int x1] rfl rfl ?_
  refine z_xJ zt59 5 rfl rfl (fun (h5 : x1.toInt ≠ 4) => ?_) (fun (h5 : x1.toInt = 4) => ?_)
  · skip
    refine z_xP zt59 11 20 [some (.ref 4), some (.int p1), some (.int p2), some (.int p3), none, none, none] [.int 0] rfl rfl ?_
    refine z_xP zt59 12 23 [some (.ref 4), some (.int p1), some (.int p2), some (.int p3), some (.int 0), none, none] [.int p2] rfl rfl ?_
    refine z_xZ zt59 13 rfl rfl (fun (h6 : p2.toInt < 0) => ?_) (fun (h6 : 0 ≤ p2.toInt) => ?_)
    · skip
      refine z_xP zt59 16 33 [some (.ref 4), some (.int p1), some (.int p2), some (.int p3), some (.int 0), none, none] [.int 0] rfl rfl ?_
      have q0 : ((0 : Int32)).toInt = 0 := rfl
      exact z_xri zt59 17 rfl zzr59 (kk 0 M0 X (by omega) (by omega))
    refine z_xP zt59 14 29 [some (.ref 4), some (.int p1), some (.int p2), some (.int p3), some (.int 0), none, none] [.int 0, .int p2] rfl rfl ?_
    refine z_xJ zt59 15 rfl rfl (fun (h7 : p2.toInt < 0) => absurd h7 (by omega)) (fun (h7 : 0 ≤ p2.toInt) => ?_)
    refine z_xP zt59 16 33 [some (.ref 4), some (.int p1), some (.int p2), some (.int p3), some (.int 0), none, none] [.int 0] rfl rfl ?_
    have q0 : ((0 : Int32)).toInt = 0 := rfl
    exact z_xri zt59 17 rfl zzr59 (kk 0 M0 X (by omega) (by omega))
  refine z_xP zt59 6 11 [some (.ref 4), some (.int p1), some (.int p2), some (.int p3), none, none, none] [.ref 4] rfl rfl ?_
  refine z_xgX (b := 15) zt59 7 rfl zo59 zzf0_38 X f4 (by decide) (by decide) rfl ?_
  refine z_xP zt59 8 15 [some (.ref 4), some (.int p1), some (.int p2), some (.int p3), none, none, none] [.int p1, .ref 15] rfl rfl ?_
  have f15 : T[15]? = some (.inr (15, 0, 6, 0, 60)) := X.1.k rfl (by decide)
  refine z_xil zt59 9 rfl X f15 (by decide) (by omega) (by omega) (fun (x8 : Int32) h9 (h10 : 0 ≤ x8.toInt) (h11 : x8.toInt ≤ 60) => ?_)
  refine z_xP zt59 10 20 [some (.ref 4), some (.int p1), some (.int p2), some (.int p3), none, none, none] [.int x8] rfl rfl ?_
  refine z_xP zt59 12 23 [some (.ref 4), some (.int p1), some (.int p2), some (.int p3), some (.int x8), none, none] [.int p2] rfl rfl ?_
  refine z_xZ zt59 13 rfl rfl (fun (h12 : p2.toInt < 0) => ?_) (fun (h12 : 0 ≤ p2.toInt) => ?_)
  · skip
    refine z_xP zt59 16 33 [some (.ref 4), some (.int p1), some (.int p2), some (.int p3), some (.int x8), none, none] [.int 0] rfl rfl ?_
    have q0 : ((0 : Int32)).toInt = 0 := rfl
    exact z_xri zt59 17 rfl zzr59 (kk 0 M0 X (by omega) (by omega))
  refine z_xP zt59 14 29 [some (.ref 4), some (.int p1), some (.int p2), some (.int p3), some (.int x8), none, none] [.int x8, .int p2] rfl rfl ?_
  have h13 := z_b32 p2
  refine z_xJ zt59 15 rfl rfl (fun (h14 : p2.toInt < x8.toInt) => ?_) (fun (h14 : x8.toInt ≤ p2.toInt) => ?_)
  · skip
    refine z_xP zt59 18 40 [some (.ref 4), some (.int p1), some (.int p2), some (.int p3), some (.int x8), some (.int 0), some (.int 0)] [] rfl rfl ?_
    have q0 : ((0 : Int32)).toInt = 0 := rfl
    exact (zB59 u1 u3 kk 22) M0 x8 (0) (0) X ⟨by omega, by omega⟩ ⟨by omega, by omega⟩ (by decide) (by decide) (by omega)
  refine z_xP zt59 16 33 [some (.ref 4), some (.int p1), some (.int p2), some (.int p3), some (.int x8), none, none] [.int 0] rfl rfl ?_
  have q0 : ((0 : Int32)).toInt = 0 := rfl
  exact z_xri zt59 17 rfl zzr59 (kk 0 M0 X (by omega) (by omega))
def zw57 : List Nat := [202, 203, 205]
theorem zC57 {T : List zK} {d : Nat} {K : Option Value → zH → Prop} {p1 : Int32} {p2 : Int32} {p3 : Int32} {p4 : Int32} {M0 : zH} (hW : z_W M0 T)  (hG : z_GG T M0) (kk : ∀ (x : Int32) (M1 : zH), z_X T zw57 M0 M1 → (-12) ≤ x.toInt → x.toInt ≤ 63 → K (some (.int x)) M1) : z_ev (d + 3) 57 0 [some (.ref 4), some (.int p1), some (.int p2), some (.int p3), some (.int p4), none, none] [] M0 K := by
  have X : z_X T zw57 M0 M0 := .refl hW
  refine z_xP zt57 0 2 [some (.ref 4), some (.int p1), some (.int p2), some (.int p3), some (.int p4), none, none] [.int p1, .ref 4] rfl rfl ?_
  have f4 : T[4]? = some (.inl (0, 0, 0, 0, 0)) := X.1.k rfl (by decide)
  refine z_xcV (vs := [.ref 4, .int p1]) (r := []) (L2 := [some (.ref 4), some (.int p1)]) zt57 1 rfl zo57 zzcV0_85 (Or.inl rfl) rfl X f4 rfl rfl rfl (Nat.le_of_ble_eq_true rfl) zzm35 (Nat.le_of_ble_eq_true rfl) rfl ?_
  refine z_xP zt35 0 1 [some (.ref 4), some (.int p1)] [.int p1] rfl rfl ?_
  refine z_xZ zt35 1 rfl rfl (fun (h1 : p1.toInt < 0) => ?_) (fun (h1 : 0 ≤ p1.toInt) => ?_)
  · skip
    refine z_xP zt35 5 22 [some (.ref 4), some (.int p1)] [.null] rfl rfl ?_
    refine z_xrn zt35 10 rfl zzr35 ?_
    show z_ev (d + 3) 57 5 [some (.ref 4), some (.int p1), some (.int p2), some (.int p3), some (.int p4), none, none] [.null] M0 _
    refine z_xP zt57 2 28 [some (.ref 4), some (.int p1), some (.int p2), some (.int p3), some (.int p4), some (.null), none] [] rfl rfl ?_
    refine z_xP zt57 9 29 [some (.ref 4), some (.int p1), some (.int p2), some (.int p3), some (.int p4), some (.null), none] [.int (-1)] rfl rfl ?_
    have qm1 : (((-1) : Int32)).toInt = (-1) := rfl
    exact z_xri zt57 10 rfl zzr57 (kk (-1) M0 X (by omega) (by omega))
  refine z_xP zt35 2 6 [some (.ref 4), some (.int p1)] [.ref 4, .int p1] rfl rfl ?_
  refine z_xgI zt35 3 rfl zo35 zzf0_59 X f4 (by decide) (by decide) rfl (fun (x3 : Int32) h2 (h4 : 0 ≤ x3.toInt) (h5 : x3.toInt ≤ 8) => ?_)
  have h6 := z_b32 p1
  refine z_xJ zt35 4 rfl rfl (fun (h7 : p1.toInt < x3.toInt) => ?_) (fun (h7 : x3.toInt ≤ p1.toInt) => ?_)
  · skip
    refine z_xP zt35 6 17 [some (.ref 4), some (.int p1)] [.ref 4] rfl rfl ?_
    refine z_xgX (b := 10) zt35 7 rfl zo35 zzf0_18 X f4 (by decide) (by decide) rfl ?_
    refine z_xP zt35 8 21 [some (.ref 4), some (.int p1)] [.int p1, .ref 10] rfl rfl ?_
    have f10 : T[10]? = some (.inr (10, 2, 8, 9, 0)) := X.1.k rfl (by decide)
    refine z_xal zt35 9 rfl X f10 (by decide) (by decide) (by decide) (by omega) (by omega) (fun (a8 : Nat) h9 h10 => ?_) (fun h11 => absurd h11 (z_Gs (hG.go X (by decide)).2.1 h2 (by omega) (by omega)))
    obtain ⟨q12, t13, m14, k15⟩ : ∃ q t m, T[a8]? = some (.inl (3, q, t, m, 9)) := h10
    have g16 := X.1.p3 k15
    refine z_xra zt35 10 rfl zzr35 ?_
    show z_ev (d + 3) 57 5 [some (.ref 4), some (.int p1), some (.int p2), some (.int p3), some (.int p4), none, none] [.ref a8] M0 _
    refine z_xP zt57 2 12 [some (.ref 4), some (.int p1), some (.int p2), some (.int p3), some (.int p4), some (.ref a8), none] [] rfl rfl ?_
    refine z_xP zt57 3 15 [some (.ref 4), some (.int p1), some (.int p2), some (.int p3), some (.int p4), some (.ref a8), none] [.int p2, .ref a8] rfl rfl ?_
    refine z_xcV (vs := [.ref a8, .int p2]) (r := []) (L2 := [some (.ref a8), some (.int p2)]) zt57 4 rfl zo57 zzcV0_142 (Or.inl rfl) rfl X k15 rfl rfl rfl (Nat.le_of_ble_eq_true rfl) zzm56 (Nat.le_of_ble_eq_true rfl) rfl ?_
    refine z_xP zt56 0 1 [some (.ref a8), some (.int p2)] [.int p2] rfl rfl ?_
    refine z_xZ zt56 1 rfl rfl (fun (h17 : p2.toInt < 0) => ?_) (fun (h17 : 0 ≤ p2.toInt) => ?_)
    · skip
      refine z_xP zt56 6 17 [some (.ref a8), some (.int p2)] [.int 0] rfl rfl ?_
      refine z_xrz zt56 7 rfl zzr56 (by decide) (by decide) ?_
      show z_ev (d + 3) 57 18 [some (.ref 4), some (.int p1), some (.int p2), some (.int p3), some (.int p4), some (.ref a8), none] [.int 0] M0 _
      refine z_xZ zt57 5 rfl rfl (fun (h18 : (0 : Int) = 0) => ?_) (fun (h18 : (0 : Int) ≠ 0) => absurd h18 (by omega))
      refine z_xP zt57 9 29 [some (.ref 4), some (.int p1), some (.int p2), some (.int p3), some (.int p4), some (.ref a8), none] [.int (-1)] rfl rfl ?_
      have qm1 : (((-1) : Int32)).toInt = (-1) := rfl
      exact z_xri zt57 10 rfl zzr57 (kk (-1) M0 X (by omega) (by omega))
    refine z_xP zt56 2 6 [some (.ref a8), some (.int p2)] [.ref a8, .int p2] rfl rfl ?_
    refine z_xgI zt56 3 rfl zo56 zzf3_53 X k15 (by decide) (by decide) rfl (fun (x20 : Int32) h19 (h21 : 0 ≤ x20.toInt) (h22 : x20.toInt ≤ (9 : Int)) => ?_)
    have h23 := z_b32 p2
    refine z_xJ zt56 4 rfl rfl (fun (h24 : x20.toInt ≤ p2.toInt) => ?_) (fun (h24 : p2.toInt < x20.toInt) => ?_)
    · skip
      refine z_xP zt56 6 17 [some (.ref a8), some (.int p2)] [.int 0] rfl rfl ?_
      refine z_xrz zt56 7 rfl zzr56 (by decide) (by decide) ?_
      show z_ev (d + 3) 57 18 [some (.ref 4), some (.int p1), some (.int p2), some (.int p3), some (.int p4), some (.ref a8), none] [.int 0] M0 _
      refine z_xZ zt57 5 rfl rfl (fun (h25 : (0 : Int) = 0) => ?_) (fun (h25 : (0 : Int) ≠ 0) => absurd h25 (by omega))
      refine z_xP zt57 9 29 [some (.ref 4), some (.int p1), some (.int p2), some (.int p3), some (.int p4), some (.ref a8), none] [.int (-1)] rfl rfl ?_
      have qm1 : (((-1) : Int32)).toInt = (-1) := rfl
      exact z_xri zt57 10 rfl zzr57 (kk (-1) M0 X (by omega) (by omega))
    refine z_xP zt56 5 17 [some (.ref a8), some (.int p2)] [.int 1] rfl rfl ?_
    refine z_xrz zt56 7 rfl zzr56 (by decide) (by decide) ?_
    show z_ev (d + 3) 57 18 [some (.ref 4), some (.int p1), some (.int p2), some (.int p3), some (.int p4), some (.ref a8), none] [.int 1] M0 _
    refine z_xZ zt57 5 rfl rfl (fun (h26 : (1 : Int) = 0) => absurd h26 (by omega)) (fun (h26 : (1 : Int) ≠ 0) => ?_)
    refine z_xP zt57 6 22 [some (.ref 4), some (.int p1), some (.int p2), some (.int p3), some (.int p4), some (.ref a8), none] [.int p3] rfl rfl ?_
    refine z_xcS (vs := [.int p3]) (r := []) (L2 := [some (.int p3)]) zt57 7 rfl zo57 zzcS0_148 (Or.inl rfl) (Nat.le_of_ble_eq_true rfl) rfl rfl (Nat.le_of_ble_eq_true rfl) zzm58 (Nat.le_of_ble_eq_true rfl) rfl ?_
    refine z_xP zt58 0 1 [some (.int p3)] [.int p3] rfl rfl ?_
    refine z_xZ zt58 1 rfl rfl (fun (h27 : p3.toInt < 0) => ?_) (fun (h27 : 0 ≤ p3.toInt) => ?_)
    · skip
      refine z_xP zt58 5 15 [some (.int p3)] [.int 0] rfl rfl ?_
      refine z_xrz zt58 6 rfl zzr58 (by decide) (by decide) ?_
      show z_ev (d + 3) 57 25 [some (.ref 4), some (.int p1), some (.int p2), some (.int p3), some (.int p4), some (.ref a8), none] [.int 0] M0 _
      refine z_xZ zt57 8 rfl rfl (fun (h28 : (0 : Int) ≠ 0) => absurd h28 (by omega)) (fun (h28 : (0 : Int) = 0) => ?_)
      refine z_xP zt57 9 29 [some (.ref 4), some (.int p1), some (.int p2), some (.int p3), some (.int p4), some (.ref a8), none] [.int (-1)] rfl rfl ?_
      have qm1 : (((-1) : Int32)).toInt = (-1) := rfl
      exact z_xri zt57 10 rfl zzr57 (kk (-1) M0 X (by omega) (by omega))
    refine z_xP zt58 2 7 [some (.int p3)] [.int 6, .int p3] rfl rfl ?_
    refine z_xJ zt58 3 rfl rfl (fun (h29 : 6 ≤ p3.toInt) => ?_) (fun (h29 : p3.toInt < 6) => ?_)
    · skip
      refine z_xP zt58 5 15 [some (.int p3)] [.int 0] rfl rfl ?_
      refine z_xrz zt58 6 rfl zzr58 (by decide) (by decide) ?_
      show z_ev (d + 3) 57 25 [some (.ref 4), some (.int p1), some (.int p2), some (.int p3), some (.int p4), some (.ref a8), none] [.int 0] M0 _
      refine z_xZ zt57 8 rfl rfl (fun (h30 : (0 : Int) ≠ 0) => absurd h30 (by omega)) (fun (h30 : (0 : Int) = 0) => ?_)
      refine z_xP zt57 9 29 [some (.ref 4), some (.int p1), some (.int p2), some (.int p3), some (.int p4), some (.ref a8), none] [.int (-1)] rfl rfl ?_
      have qm1 : (((-1) : Int32)).toInt = (-1) := rfl
      exact z_xri zt57 10 rfl zzr57 (kk (-1) M0 X (by omega) (by omega))
    refine z_xP zt58 4 15 [some (.int p3)] [.int 1] rfl rfl ?_
    refine z_xrz zt58 6 rfl zzr58 (by decide) (by decide) ?_
    show z_ev (d + 3) 57 25 [some (.ref 4), some (.int p1), some (.int p2), some (.int p3), some (.int p4), some (.ref a8), none] [.int 1] M0 _
    refine z_xZ zt57 8 rfl rfl (fun (h31 : (1 : Int) ≠ 0) => ?_) (fun (h31 : (1 : Int) = 0) => absurd h31 (by omega))
    refine z_xP zt57 11 31 [some (.ref 4), some (.int p1), some (.int p2), some (.int p3), some (.int p4), some (.ref a8), none] [.ref 4] rfl rfl ?_
    refine z_xgX (b := 14) zt57 12 rfl zo57 zzf0_35 X f4 (by decide) (by decide) rfl ?_
    refine z_xP zt57 13 35 [some (.ref 4), some (.int p1), some (.int p2), some (.int p3), some (.int p4), some (.ref a8), none] [.int p3, .ref 14] rfl rfl ?_
    have f14 : T[14]? = some (.inr (14, 0, 6, (-1), 5)) := X.1.k rfl (by decide)
    refine z_xil zt57 14 rfl X f14 (by decide) (by omega) (by omega) (fun (x32 : Int32) h33 (h34 : (-1) ≤ x32.toInt) (h35 : x32.toInt ≤ 5) => ?_)
    refine z_xP zt57 15 37 [some (.ref 4), some (.int p1), some (.int p2), some (.int p3), some (.int p4), some (.ref a8), none] [.int (-1), .int x32] rfl rfl ?_
    refine z_xJ zt57 16 rfl rfl (fun (h36 : x32.toInt = (-1)) => ?_) (fun (h36 : x32.toInt ≠ (-1)) => ?_)
    · skip
      refine z_xP zt57 25 59 [some (.ref 4), some (.int p1), some (.int p2), some (.int p3), some (.int p4), some (.ref a8), none] [.ref a8, .int p4, .int p3, .ref 4] rfl rfl ?_
      refine z_xgR (κ := .inl (2, q12, t13, m14, 0)) zt57 26 rfl zo57 zzf0_89 X k15 (by decide) (by decide) rfl (fun (a38 : Nat) h37 k39 => ?_)
      have g40 := X.1.p2 k39
      refine z_xgI zt57 27 rfl zo57 zzf0_93 X k39 (by decide) (by decide) rfl (fun (x42 : Int32) h41 (h43 : (q12 : Int) ≤ x42.toInt) (h44 : x42.toInt ≤ (q12 : Int)) => ?_)
      refine z_xcV (vs := [.ref 4, .int p3, .int p4, .int x42]) (r := []) (L2 := [some (.ref 4), some (.int p3), some (.int p4), some (.int x42), none, none, none]) zt57 28 rfl zo57 zzcV0_151 (Or.inl rfl) rfl X f4 rfl rfl rfl (Nat.le_of_ble_eq_true rfl) zzm59 (Nat.le_of_ble_eq_true rfl) rfl ?_
      refine zC59 X.1 (by omega) (by omega) (fun x47 M45 X46 h48 h49 => ?_)
      have X50 := X.go X46 (z_sb (by decide))
      show z_ev (d + 3) 57 68 [some (.ref 4), some (.int p1), some (.int p2), some (.int p3), some (.int p4), some (.ref a8), none] [.int x47] M45 _
      refine z_xP zt57 29 72 [some (.ref 4), some (.int p1), some (.int p2), some (.int p3), some (.int p4), some (.ref a8), some (.int x47)] [.ref a8] rfl rfl ?_
      have h52 := (X46.2.f k15 (by decide) h37)
      refine z_xgv zt57 30 rfl zo57 zzf0_89 X50 k15 (by decide) h52 ?_
      refine z_xP zt57 31 77 [some (.ref 4), some (.int p1), some (.int p2), some (.int p3), some (.int p4), some (.ref a8), some (.int x47)] [.int x47, .ref a38] rfl rfl ?_
      refine z_xcV (vs := [.ref a38, .int x47]) (r := []) (L2 := [some (.ref a38), some (.int x47), none]) zt57 32 rfl zo57 zzcV0_126 (Or.inl rfl) rfl X50 k39 rfl rfl rfl (Nat.le_of_ble_eq_true rfl) zzm44 (Nat.le_of_ble_eq_true rfl) rfl ?_
      refine zC44 X50.1 k39 (fun x55 M53 X54 h56 h57 => ?_)
      have X58 := X50.go X54 (z_sb (by decide))
      show z_ev (d + 3) 57 80 [some (.ref 4), some (.int p1), some (.int p2), some (.int p3), some (.int p4), some (.ref a8), some (.int x47)] [.int x55] M53 _
      refine z_xZ zt57 33 rfl rfl (fun (h60 : x55.toInt ≠ 0) => ?_) (fun (h60 : x55.toInt = 0) => ?_)
      · skip
        refine z_xP zt57 36 94 [some (.ref 4), some (.int p1), some (.int p2), some (.int p3), some (.int p4), some (.ref a8), some (.int x47)] [.int 1023, .int x47, .int p2, .ref a8] rfl rfl ?_
        refine z_xI zt57 37 rfl rfl (fun (x61 : Int32) (h62 : 0 ≤ x61.toInt ∧ x61.toInt ≤ x47.toInt ∧ x61.toInt ≤ 1023) => ?_) (z_pAnd2 rfl rfl (by omega) (by omega))
        refine z_xP zt57 38 99 [some (.ref 4), some (.int p1), some (.int p2), some (.int p3), some (.int p4), some (.ref a8), some (.int x47)] [.int 10, .int x47, .int x61, .int p2, .ref a8] rfl rfl ?_
        refine z_xI zt57 39 rfl rfl (fun (x63 : Int32) (h64 : x63.toInt = x47.toInt / 1024) => ?_) (z_pShr (c := 1024) 10 rfl rfl (by decide))
        refine z_xcV (vs := [.ref a8, .int p2, .int x61, .int x63]) (r := []) (L2 := [some (.ref a8), some (.int p2), some (.int x61), some (.int x63), none, none, none, none]) zt57 40 rfl zo57 zzcV0_145 (Or.inl rfl) rfl X58 k15 rfl rfl rfl (Nat.le_of_ble_eq_true rfl) zzm54 (Nat.le_of_ble_eq_true rfl) rfl ?_
        refine zC54 X58.1 k15 (by omega) (fun M65 X66  => ?_)
        have X67 := X58.go X66 (z_sb (by decide))
        show z_ev (d + 3) 57 103 [some (.ref 4), some (.int p1), some (.int p2), some (.int p3), some (.int p4), some (.ref a8), some (.int x47)] [] M65 _
        refine z_xP zt57 41 105 [some (.ref 4), some (.int p1), some (.int p2), some (.int p3), some (.int p4), some (.ref a8), some (.int x47)] [.int x47] rfl rfl ?_
        refine z_xcS (vs := [.int x47]) (r := []) (L2 := [some (.int x47)]) zt57 42 rfl zo57 zzcS0_155 (Or.inl rfl) (Nat.le_of_ble_eq_true rfl) rfl rfl (Nat.le_of_ble_eq_true rfl) zzm31 (Nat.le_of_ble_eq_true rfl) rfl ?_
        refine zC31 X67.1 (fun x71 M69 X70 h72 h73 => ?_)
        have X74 := X67.go X70 (z_sb (by decide))
        show z_ev (d + 3) 57 108 [some (.ref 4), some (.int p1), some (.int p2), some (.int p3), some (.int p4), some (.ref a8), some (.int x47)] [.int x71] M69 _
        exact z_xri zt57 43 rfl zzr57 (kk x71 M69 X74 (by omega) (by omega))
      refine z_xP zt57 34 85 [some (.ref 4), some (.int p1), some (.int p2), some (.int p3), some (.int p4), some (.ref a8), some (.int x47)] [.int (-2)] rfl rfl ?_
      have qm2 : (((-2) : Int32)).toInt = (-2) := rfl
      exact z_xri zt57 35 rfl zzr57 (kk (-2) M53 X58 (by omega) (by omega))
    refine z_xP zt57 17 41 [some (.ref 4), some (.int p1), some (.int p2), some (.int p3), some (.int p4), some (.ref a8), none] [.ref 4] rfl rfl ?_
    refine z_xgX (b := 14) zt57 18 rfl zo57 zzf0_35 X f4 (by decide) (by decide) rfl ?_
    refine z_xP zt57 19 45 [some (.ref 4), some (.int p1), some (.int p2), some (.int p3), some (.int p4), some (.ref a8), none] [.int p3, .ref 14] rfl rfl ?_
    refine z_xil zt57 20 rfl X f14 (by decide) (by omega) (by omega) (fun (x76 : Int32) h77 (h78 : (-1) ≤ x76.toInt) (h79 : x76.toInt ≤ 5) => ?_)
    have h80 := congrArg Int32.toInt (h77.symm.trans h33)
    refine z_xP zt57 21 47 [some (.ref 4), some (.int p1), some (.int p2), some (.int p3), some (.int p4), some (.ref a8), none] [.int 4, .int x76] rfl rfl ?_
    refine z_xJ zt57 22 rfl rfl (fun (h81 : x76.toInt = 4) => ?_) (fun (h81 : x76.toInt ≠ 4) => ?_)
    · skip
      refine z_xP zt57 25 59 [some (.ref 4), some (.int p1), some (.int p2), some (.int p3), some (.int p4), some (.ref a8), none] [.ref a8, .int p4, .int p3, .ref 4] rfl rfl ?_
      refine z_xgR (κ := .inl (2, q12, t13, m14, 0)) zt57 26 rfl zo57 zzf0_89 X k15 (by decide) (by decide) rfl (fun (a83 : Nat) h82 k84 => ?_)
      have g85 := X.1.p2 k84
      refine z_xgI zt57 27 rfl zo57 zzf0_93 X k84 (by decide) (by decide) rfl (fun (x87 : Int32) h86 (h88 : (q12 : Int) ≤ x87.toInt) (h89 : x87.toInt ≤ (q12 : Int)) => ?_)
      refine z_xcV (vs := [.ref 4, .int p3, .int p4, .int x87]) (r := []) (L2 := [some (.ref 4), some (.int p3), some (.int p4), some (.int x87), none, none, none]) zt57 28 rfl zo57 zzcV0_151 (Or.inl rfl) rfl X f4 rfl rfl rfl (Nat.le_of_ble_eq_true rfl) zzm59 (Nat.le_of_ble_eq_true rfl) rfl ?_
      refine zC59 X.1 (by omega) (by omega) (fun x92 M90 X91 h93 h94 => ?_)
      have X95 := X.go X91 (z_sb (by decide))
      show z_ev (d + 3) 57 68 [some (.ref 4), some (.int p1), some (.int p2), some (.int p3), some (.int p4), some (.ref a8), none] [.int x92] M90 _
      refine z_xP zt57 29 72 [some (.ref 4), some (.int p1), some (.int p2), some (.int p3), some (.int p4), some (.ref a8), some (.int x92)] [.ref a8] rfl rfl ?_
      have h97 := (X91.2.f k15 (by decide) h82)
      refine z_xgv zt57 30 rfl zo57 zzf0_89 X95 k15 (by decide) h97 ?_
      refine z_xP zt57 31 77 [some (.ref 4), some (.int p1), some (.int p2), some (.int p3), some (.int p4), some (.ref a8), some (.int x92)] [.int x92, .ref a83] rfl rfl ?_
      refine z_xcV (vs := [.ref a83, .int x92]) (r := []) (L2 := [some (.ref a83), some (.int x92), none]) zt57 32 rfl zo57 zzcV0_126 (Or.inl rfl) rfl X95 k84 rfl rfl rfl (Nat.le_of_ble_eq_true rfl) zzm44 (Nat.le_of_ble_eq_true rfl) rfl ?_
      refine zC44 X95.1 k84 (fun x100 M98 X99 h101 h102 => ?_)
      have X103 := X95.go X99 (z_sb (by decide))
      show z_ev (d + 3) 57 80 [some (.ref 4), some (.int p1), some (.int p2), some (.int p3), some (.int p4), some (.ref a8), some (.int x92)] [.int x100] M98 _
      refine z_xZ zt57 33 rfl rfl (fun (h105 : x100.toInt ≠ 0) => ?_) (fun (h105 : x100.toInt = 0) => ?_)
      · skip
        refine z_xP zt57 36 94 [some (.ref 4), some (.int p1), some (.int p2), some (.int p3), some (.int p4), some (.ref a8), some (.int x92)] [.int 1023, .int x92, .int p2, .ref a8] rfl rfl ?_
        refine z_xI zt57 37 rfl rfl (fun (x106 : Int32) (h107 : 0 ≤ x106.toInt ∧ x106.toInt ≤ x92.toInt ∧ x106.toInt ≤ 1023) => ?_) (z_pAnd2 rfl rfl (by omega) (by omega))
        refine z_xP zt57 38 99 [some (.ref 4), some (.int p1), some (.int p2), some (.int p3), some (.int p4), some (.ref a8), some (.int x92)] [.int 10, .int x92, .int x106, .int p2, .ref a8] rfl rfl ?_
        refine z_xI zt57 39 rfl rfl (fun (x108 : Int32) (h109 : x108.toInt = x92.toInt / 1024) => ?_) (z_pShr (c := 1024) 10 rfl rfl (by decide))
        refine z_xcV (vs := [.ref a8, .int p2, .int x106, .int x108]) (r := []) (L2 := [some (.ref a8), some (.int p2), some (.int x106), some (.int x108), none, none, none, none]) zt57 40 rfl zo57 zzcV0_145 (Or.inl rfl) rfl X103 k15 rfl rfl rfl (Nat.le_of_ble_eq_true rfl) zzm54 (Nat.le_of_ble_eq_true rfl) rfl ?_
        refine zC54 X103.1 k15 (by omega) (fun M110 X111  => ?_)
        have X112 := X103.go X111 (z_sb (by decide))
        show z_ev (d + 3) 57 103 [some (.ref 4), some (.int p1), some (.int p2), some (.int p3), some (.int p4), some (.ref a8), some (.int x92)] [] M110 _
        refine z_xP zt57 41 105 [some (.ref 4), some (.int p1), some (.int p2), some (.int p3), some (.int p4), some (.ref a8), some (.int x92)] [.int x92] rfl rfl ?_
        refine z_xcS (vs := [.int x92]) (r := []) (L2 := [some (.int x92)]) zt57 42 rfl zo57 zzcS0_155 (Or.inl rfl) (Nat.le_of_ble_eq_true rfl) rfl rfl (Nat.le_of_ble_eq_true rfl) zzm31 (Nat.le_of_ble_eq_true rfl) rfl ?_
        refine zC31 X112.1 (fun x116 M114 X115 h117 h118 => ?_)
        have X119 := X112.go X115 (z_sb (by decide))
        show z_ev (d + 3) 57 108 [some (.ref 4), some (.int p1), some (.int p2), some (.int p3), some (.int p4), some (.ref a8), some (.int x92)] [.int x116] M114 _
        exact z_xri zt57 43 rfl zzr57 (kk x116 M114 X119 (by omega) (by omega))
      refine z_xP zt57 34 85 [some (.ref 4), some (.int p1), some (.int p2), some (.int p3), some (.int p4), some (.ref a8), some (.int x92)] [.int (-2)] rfl rfl ?_
      have qm2 : (((-2) : Int32)).toInt = (-2) := rfl
      exact z_xri zt57 35 rfl zzr57 (kk (-2) M98 X103 (by omega) (by omega))
    refine z_xP zt57 23 52 [some (.ref 4), some (.int p1), some (.int p2), some (.int p3), some (.int p4), some (.ref a8), none] [.int (-12)] rfl rfl ?_
    have qm12 : (((-12) : Int32)).toInt = (-12) := rfl
    exact z_xri zt57 24 rfl zzr57 (kk (-12) M0 X (by omega) (by omega))
  refine z_xP zt35 5 22 [some (.ref 4), some (.int p1)] [.null] rfl rfl ?_
  refine z_xrn zt35 10 rfl zzr35 ?_
  show z_ev (d + 3) 57 5 [some (.ref 4), some (.int p1), some (.int p2), some (.int p3), some (.int p4), none, none] [.null] M0 _
  refine z_xP zt57 2 28 [some (.ref 4), some (.int p1), some (.int p2), some (.int p3), some (.int p4), some (.null), none] [] rfl rfl ?_
  refine z_xP zt57 9 29 [some (.ref 4), some (.int p1), some (.int p2), some (.int p3), some (.int p4), some (.null), none] [.int (-1)] rfl rfl ?_
  have qm1 : (((-1) : Int32)).toInt = (-1) := rfl
  exact z_xri zt57 10 rfl zzr57 (kk (-1) M0 X (by omega) (by omega))
def zw60 : List Nat := [205, 1304]
theorem zC60 {T : List zK} {d : Nat} {K : Option Value → zH → Prop} {p1 : Int32} {M0 : zH} (hW : z_W M0 T)  (hG : z_GG T M0) (kk : ∀ (x : Int32) (M1 : zH), z_X T zw60 M0 M1 → (-1) ≤ x.toInt → x.toInt ≤ 9 → K (some (.int x)) M1) : z_ev (d + 2) 60 0 [some (.ref 4), some (.int p1), none, none] [] M0 K := by
  have X : z_X T zw60 M0 M0 := .refl hW
  refine z_xP zt60 0 2 [some (.ref 4), some (.int p1), none, none] [.int p1, .ref 4] rfl rfl ?_
  have f4 : T[4]? = some (.inl (0, 0, 0, 0, 0)) := X.1.k rfl (by decide)
  refine z_xcV (vs := [.ref 4, .int p1]) (r := []) (L2 := [some (.ref 4), some (.int p1)]) zt60 1 rfl zo60 zzcV0_85 (Or.inl rfl) rfl X f4 rfl rfl rfl (Nat.le_of_ble_eq_true rfl) zzm35 (Nat.le_of_ble_eq_true rfl) rfl ?_
  refine z_xP zt35 0 1 [some (.ref 4), some (.int p1)] [.int p1] rfl rfl ?_
  refine z_xZ zt35 1 rfl rfl (fun (h1 : p1.toInt < 0) => ?_) (fun (h1 : 0 ≤ p1.toInt) => ?_)
  · skip
    refine z_xP zt35 5 22 [some (.ref 4), some (.int p1)] [.null] rfl rfl ?_
    refine z_xrn zt35 10 rfl zzr35 ?_
    show z_ev (d + 2) 60 5 [some (.ref 4), some (.int p1), none, none] [.null] M0 _
    refine z_xP zt60 2 10 [some (.ref 4), some (.int p1), some (.null), none] [] rfl rfl ?_
    refine z_xP zt60 3 11 [some (.ref 4), some (.int p1), some (.null), none] [.int (-1)] rfl rfl ?_
    have qm1 : (((-1) : Int32)).toInt = (-1) := rfl
    exact z_xri zt60 4 rfl zzr60 (kk (-1) M0 X (by omega) (by omega))
  refine z_xP zt35 2 6 [some (.ref 4), some (.int p1)] [.ref 4, .int p1] rfl rfl ?_
  refine z_xgI zt35 3 rfl zo35 zzf0_59 X f4 (by decide) (by decide) rfl (fun (x3 : Int32) h2 (h4 : 0 ≤ x3.toInt) (h5 : x3.toInt ≤ 8) => ?_)
  have h6 := z_b32 p1
  refine z_xJ zt35 4 rfl rfl (fun (h7 : p1.toInt < x3.toInt) => ?_) (fun (h7 : x3.toInt ≤ p1.toInt) => ?_)
  · skip
    refine z_xP zt35 6 17 [some (.ref 4), some (.int p1)] [.ref 4] rfl rfl ?_
    refine z_xgX (b := 10) zt35 7 rfl zo35 zzf0_18 X f4 (by decide) (by decide) rfl ?_
    refine z_xP zt35 8 21 [some (.ref 4), some (.int p1)] [.int p1, .ref 10] rfl rfl ?_
    have f10 : T[10]? = some (.inr (10, 2, 8, 9, 0)) := X.1.k rfl (by decide)
    refine z_xal zt35 9 rfl X f10 (by decide) (by decide) (by decide) (by omega) (by omega) (fun (a8 : Nat) h9 h10 => ?_) (fun h11 => absurd h11 (z_Gs (hG.go X (by decide)).2.1 h2 (by omega) (by omega)))
    obtain ⟨q12, t13, m14, k15⟩ : ∃ q t m, T[a8]? = some (.inl (3, q, t, m, 9)) := h10
    have g16 := X.1.p3 k15
    refine z_xra zt35 10 rfl zzr35 ?_
    show z_ev (d + 2) 60 5 [some (.ref 4), some (.int p1), none, none] [.ref a8] M0 _
    refine z_xP zt60 2 12 [some (.ref 4), some (.int p1), some (.ref a8), none] [] rfl rfl ?_
    refine z_xP zt60 5 13 [some (.ref 4), some (.int p1), some (.ref a8), none] [.ref a8] rfl rfl ?_
    refine z_xgI zt60 6 rfl zo60 zzf0_105 X k15 (by decide) (by decide) rfl (fun (x18 : Int32) h17 (h19 : 0 ≤ x18.toInt) (h20 : x18.toInt ≤ (9 : Int)) => ?_)
    refine z_xP zt60 7 18 [some (.ref 4), some (.int p1), some (.ref a8), some (.int x18)] [.ref a8] rfl rfl ?_
    refine z_xcV (vs := [.ref a8]) (r := []) (L2 := [some (.ref a8)]) zt60 8 rfl zo60 zzcV0_160 (Or.inl rfl) rfl X k15 rfl rfl rfl (Nat.le_of_ble_eq_true rfl) zzm61 (Nat.le_of_ble_eq_true rfl) rfl ?_
    refine z_xP zt61 0 2 [some (.ref a8)] [.int 0, .ref a8] rfl rfl ?_
    have q0 : ((0 : Int32)).toInt = 0 := rfl
    refine z_xpf zt61 1 rfl zo61 zzf3_53 X k15 (by decide) (by decide) ⟨by omega, by omega⟩ rfl (by decide) zw3_4 (fun M21 X22 e23 h24 => ?_)
    refine z_xP zt61 2 6 [some (.ref a8)] [.ref a8] rfl rfl ?_
    refine z_xgR (κ := .inr (205, 0, 10, (-2147483648), 2147483647)) zt61 3 rfl zo61 zzf3_21 X22 k15 (by decide) (by decide) rfl (fun (a26 : Nat) h25 k27 => ?_)
    refine z_xP zt61 4 10 [some (.ref a8)] [.int 0, .ref a26] rfl rfl ?_
    refine z_xcS (vs := [.ref a26, .int 0]) (r := []) (L2 := [some (.ref a26), some (.int 0), none, none]) zt61 5 rfl zo61 zzcS3_66 (Or.inl rfl) (Nat.le_of_ble_eq_true rfl) rfl rfl (Nat.le_of_ble_eq_true rfl) zzm7 (Nat.le_of_ble_eq_true rfl) rfl ?_
    have q0 : ((0 : Int32)).toInt = 0 := rfl
    have q0 : ((0 : Int32)).toInt = 0 := rfl
    refine zC7 X22.1 ⟨(by decide), (X22.1.g4 k27 (by decide))⟩ k27 ⟨by omega, by omega⟩ (by decide) (fun M28 X29  => ?_)
    have X30 := X22.go X29 (z_sb (by decide))
    show z_ev (d + 1) 61 13 [some (.ref a8)] [] M28 _
    refine z_xrv zt61 6 rfl zzr61 ?_
    show z_ev (d + 2) 60 21 [some (.ref 4), some (.int p1), some (.ref a8), some (.int x18)] [] M28 _
    refine z_xP zt60 9 22 [some (.ref 4), some (.int p1), some (.ref a8), some (.int x18)] [.int x18] rfl rfl ?_
    exact z_xri zt60 10 rfl zzr60 (kk x18 M28 X30 (by omega) (by omega))
  refine z_xP zt35 5 22 [some (.ref 4), some (.int p1)] [.null] rfl rfl ?_
  refine z_xrn zt35 10 rfl zzr35 ?_
  show z_ev (d + 2) 60 5 [some (.ref 4), some (.int p1), none, none] [.null] M0 _
  refine z_xP zt60 2 10 [some (.ref 4), some (.int p1), some (.null), none] [] rfl rfl ?_
  refine z_xP zt60 3 11 [some (.ref 4), some (.int p1), some (.null), none] [.int (-1)] rfl rfl ?_
  have qm1 : (((-1) : Int32)).toInt = (-1) := rfl
  exact z_xri zt60 4 rfl zzr60 (kk (-1) M0 X (by omega) (by omega))
def zw62 : List Nat := []
theorem zC62 {T : List zK} {d : Nat} {K : Option Value → zH → Prop} {p1 : Int32} {p2 : Int32} {p3 : Int32} {M0 : zH} (hW : z_W M0 T)  (hG : z_GG T M0) (kk : ∀ (x : Int32) (M1 : zH), z_X T zw62 M0 M1 → K (some (.int x)) M1) : z_ev (d + 1) 62 0 [some (.ref 4), some (.int p1), some (.int p2), some (.int p3), none] [] M0 K := by
  have X : z_X T zw62 M0 M0 := .refl hW
  refine z_xP zt62 0 2 [some (.ref 4), some (.int p1), some (.int p2), some (.int p3), none] [.int p1, .ref 4] rfl rfl ?_
  have f4 : T[4]? = some (.inl (0, 0, 0, 0, 0)) := X.1.k rfl (by decide)
  refine z_xcV (vs := [.ref 4, .int p1]) (r := []) (L2 := [some (.ref 4), some (.int p1)]) zt62 1 rfl zo62 zzcV0_85 (Or.inl rfl) rfl X f4 rfl rfl rfl (Nat.le_of_ble_eq_true rfl) zzm35 (Nat.le_of_ble_eq_true rfl) rfl ?_
  refine z_xP zt35 0 1 [some (.ref 4), some (.int p1)] [.int p1] rfl rfl ?_
  refine z_xZ zt35 1 rfl rfl (fun (h1 : p1.toInt < 0) => ?_) (fun (h1 : 0 ≤ p1.toInt) => ?_)
  · skip
    refine z_xP zt35 5 22 [some (.ref 4), some (.int p1)] [.null] rfl rfl ?_
    refine z_xrn zt35 10 rfl zzr35 ?_
    show z_ev (d + 1) 62 5 [some (.ref 4), some (.int p1), some (.int p2), some (.int p3), none] [.null] M0 _
    refine z_xP zt62 2 21 [some (.ref 4), some (.int p1), some (.int p2), some (.int p3), some (.null)] [] rfl rfl ?_
    refine z_xP zt62 6 22 [some (.ref 4), some (.int p1), some (.int p2), some (.int p3), some (.null)] [.int (-1)] rfl rfl ?_
    have qm1 : (((-1) : Int32)).toInt = (-1) := rfl
    exact z_xri zt62 7 rfl zzr62 (kk (-1) M0 X)
  refine z_xP zt35 2 6 [some (.ref 4), some (.int p1)] [.ref 4, .int p1] rfl rfl ?_
  refine z_xgI zt35 3 rfl zo35 zzf0_59 X f4 (by decide) (by decide) rfl (fun (x3 : Int32) h2 (h4 : 0 ≤ x3.toInt) (h5 : x3.toInt ≤ 8) => ?_)
  have h6 := z_b32 p1
  refine z_xJ zt35 4 rfl rfl (fun (h7 : p1.toInt < x3.toInt) => ?_) (fun (h7 : x3.toInt ≤ p1.toInt) => ?_)
  · skip
    refine z_xP zt35 6 17 [some (.ref 4), some (.int p1)] [.ref 4] rfl rfl ?_
    refine z_xgX (b := 10) zt35 7 rfl zo35 zzf0_18 X f4 (by decide) (by decide) rfl ?_
    refine z_xP zt35 8 21 [some (.ref 4), some (.int p1)] [.int p1, .ref 10] rfl rfl ?_
    have f10 : T[10]? = some (.inr (10, 2, 8, 9, 0)) := X.1.k rfl (by decide)
    refine z_xal zt35 9 rfl X f10 (by decide) (by decide) (by decide) (by omega) (by omega) (fun (a8 : Nat) h9 h10 => ?_) (fun h11 => absurd h11 (z_Gs (hG.go X (by decide)).2.1 h2 (by omega) (by omega)))
    obtain ⟨q12, t13, m14, k15⟩ : ∃ q t m, T[a8]? = some (.inl (3, q, t, m, 9)) := h10
    have g16 := X.1.p3 k15
    refine z_xra zt35 10 rfl zzr35 ?_
    show z_ev (d + 1) 62 5 [some (.ref 4), some (.int p1), some (.int p2), some (.int p3), none] [.ref a8] M0 _
    refine z_xP zt62 2 12 [some (.ref 4), some (.int p1), some (.int p2), some (.int p3), some (.ref a8)] [] rfl rfl ?_
    refine z_xP zt62 3 15 [some (.ref 4), some (.int p1), some (.int p2), some (.int p3), some (.ref a8)] [.int p2, .ref a8] rfl rfl ?_
    refine z_xcV (vs := [.ref a8, .int p2]) (r := []) (L2 := [some (.ref a8), some (.int p2)]) zt62 4 rfl zo62 zzcV0_142 (Or.inl rfl) rfl X k15 rfl rfl rfl (Nat.le_of_ble_eq_true rfl) zzm56 (Nat.le_of_ble_eq_true rfl) rfl ?_
    refine z_xP zt56 0 1 [some (.ref a8), some (.int p2)] [.int p2] rfl rfl ?_
    refine z_xZ zt56 1 rfl rfl (fun (h17 : p2.toInt < 0) => ?_) (fun (h17 : 0 ≤ p2.toInt) => ?_)
    · skip
      refine z_xP zt56 6 17 [some (.ref a8), some (.int p2)] [.int 0] rfl rfl ?_
      refine z_xrz zt56 7 rfl zzr56 (by decide) (by decide) ?_
      show z_ev (d + 1) 62 18 [some (.ref 4), some (.int p1), some (.int p2), some (.int p3), some (.ref a8)] [.int 0] M0 _
      refine z_xZ zt62 5 rfl rfl (fun (h18 : (0 : Int) ≠ 0) => absurd h18 (by omega)) (fun (h18 : (0 : Int) = 0) => ?_)
      refine z_xP zt62 6 22 [some (.ref 4), some (.int p1), some (.int p2), some (.int p3), some (.ref a8)] [.int (-1)] rfl rfl ?_
      have qm1 : (((-1) : Int32)).toInt = (-1) := rfl
      exact z_xri zt62 7 rfl zzr62 (kk (-1) M0 X)
    refine z_xP zt56 2 6 [some (.ref a8), some (.int p2)] [.ref a8, .int p2] rfl rfl ?_
    refine z_xgI zt56 3 rfl zo56 zzf3_53 X k15 (by decide) (by decide) rfl (fun (x20 : Int32) h19 (h21 : 0 ≤ x20.toInt) (h22 : x20.toInt ≤ (9 : Int)) => ?_)
    have h23 := z_b32 p2
    refine z_xJ zt56 4 rfl rfl (fun (h24 : x20.toInt ≤ p2.toInt) => ?_) (fun (h24 : p2.toInt < x20.toInt) => ?_)
    · skip
      refine z_xP zt56 6 17 [some (.ref a8), some (.int p2)] [.int 0] rfl rfl ?_
      refine z_xrz zt56 7 rfl zzr56 (by decide) (by decide) ?_
      show z_ev (d + 1) 62 18 [some (.ref 4), some (.int p1), some (.int p2), some (.int p3), some (.ref a8)] [.int 0] M0 _
      refine z_xZ zt62 5 rfl rfl (fun (h25 : (0 : Int) ≠ 0) => absurd h25 (by omega)) (fun (h25 : (0 : Int) = 0) => ?_)
      refine z_xP zt62 6 22 [some (.ref 4), some (.int p1), some (.int p2), some (.int p3), some (.ref a8)] [.int (-1)] rfl rfl ?_
      have qm1 : (((-1) : Int32)).toInt = (-1) := rfl
      exact z_xri zt62 7 rfl zzr62 (kk (-1) M0 X)
    refine z_xP zt56 5 17 [some (.ref a8), some (.int p2)] [.int 1] rfl rfl ?_
    refine z_xrz zt56 7 rfl zzr56 (by decide) (by decide) ?_
    show z_ev (d + 1) 62 18 [some (.ref 4), some (.int p1), some (.int p2), some (.int p3), some (.ref a8)] [.int 1] M0 _
    refine z_xZ zt62 5 rfl rfl (fun (h26 : (1 : Int) ≠ 0) => ?_) (fun (h26 : (1 : Int) = 0) => absurd h26 (by omega))
    refine z_xP zt62 8 24 [some (.ref 4), some (.int p1), some (.int p2), some (.int p3), some (.ref a8)] [.int p3] rfl rfl ?_
    by_cases h27 : p3.toInt = 0
    · refine z_xSC zt62 9 (z_sub (k := 0) h27 rfl) 52 rfl rfl ?_
      refine z_xP zt62 10 54 [some (.ref 4), some (.int p1), some (.int p2), some (.int p3), some (.ref a8)] [.ref a8] rfl rfl ?_
      refine z_xgR (κ := .inr (201, 0, 9, (-2147483648), 2147483647)) zt62 11 rfl zo62 zzf0_163 X k15 (by decide) (by decide) rfl (fun (a29 : Nat) h28 k30 => ?_)
      refine z_xP zt62 12 58 [some (.ref 4), some (.int p1), some (.int p2), some (.int p3), some (.ref a8)] [.int p2, .ref a29] rfl rfl ?_
      refine z_xil zt62 13 rfl X k30 (by decide) (by omega) (by omega) (fun (x31 : Int32) h32 (h33 : (-2147483648) ≤ x31.toInt) (h34 : x31.toInt ≤ 2147483647) => ?_)
      exact z_xri zt62 14 rfl zzr62 (kk x31 M0 X)
    by_cases h35 : p3.toInt = 1
    · refine z_xSC zt62 9 (z_sub (k := 1) h35 rfl) 60 rfl rfl ?_
      refine z_xP zt62 15 62 [some (.ref 4), some (.int p1), some (.int p2), some (.int p3), some (.ref a8)] [.ref a8] rfl rfl ?_
      refine z_xgR (κ := .inr (202, 0, 9, (-2147483648), 2147483647)) zt62 16 rfl zo62 zzf0_166 X k15 (by decide) (by decide) rfl (fun (a37 : Nat) h36 k38 => ?_)
      refine z_xP zt62 17 66 [some (.ref 4), some (.int p1), some (.int p2), some (.int p3), some (.ref a8)] [.int p2, .ref a37] rfl rfl ?_
      refine z_xil zt62 18 rfl X k38 (by decide) (by omega) (by omega) (fun (x39 : Int32) h40 (h41 : (-2147483648) ≤ x39.toInt) (h42 : x39.toInt ≤ 2147483647) => ?_)
      exact z_xri zt62 19 rfl zzr62 (kk x39 M0 X)
    by_cases h43 : p3.toInt = 2
    · refine z_xSC zt62 9 (z_sub (k := 2) h43 rfl) 68 rfl rfl ?_
      refine z_xP zt62 20 70 [some (.ref 4), some (.int p1), some (.int p2), some (.int p3), some (.ref a8)] [.ref a8] rfl rfl ?_
      refine z_xgR (κ := .inr (203, 0, 9, (-2147483648), 2147483647)) zt62 21 rfl zo62 zzf0_169 X k15 (by decide) (by decide) rfl (fun (a45 : Nat) h44 k46 => ?_)
      refine z_xP zt62 22 74 [some (.ref 4), some (.int p1), some (.int p2), some (.int p3), some (.ref a8)] [.int p2, .ref a45] rfl rfl ?_
      refine z_xil zt62 23 rfl X k46 (by decide) (by omega) (by omega) (fun (x47 : Int32) h48 (h49 : (-2147483648) ≤ x47.toInt) (h50 : x47.toInt ≤ 2147483647) => ?_)
      exact z_xri zt62 24 rfl zzr62 (kk x47 M0 X)
    refine z_xSD zt62 9 rfl rfl (by omega) ?_
    refine z_xP zt62 25 77 [some (.ref 4), some (.int p1), some (.int p2), some (.int p3), some (.ref a8)] [.int (-1)] rfl rfl ?_
    have qm1 : (((-1) : Int32)).toInt = (-1) := rfl
    exact z_xri zt62 26 rfl zzr62 (kk (-1) M0 X)
  refine z_xP zt35 5 22 [some (.ref 4), some (.int p1)] [.null] rfl rfl ?_
  refine z_xrn zt35 10 rfl zzr35 ?_
  show z_ev (d + 1) 62 5 [some (.ref 4), some (.int p1), some (.int p2), some (.int p3), none] [.null] M0 _
  refine z_xP zt62 2 21 [some (.ref 4), some (.int p1), some (.int p2), some (.int p3), some (.null)] [] rfl rfl ?_
  refine z_xP zt62 6 22 [some (.ref 4), some (.int p1), some (.int p2), some (.int p3), some (.null)] [.int (-1)] rfl rfl ?_
  have qm1 : (((-1) : Int32)).toInt = (-1) := rfl
  exact z_xri zt62 7 rfl zzr62 (kk (-1) M0 X)
def zw65 : List Nat := []
theorem zB65 {T : List zK} {d : Nat} {K : Option Value → zH → Prop} {a0 : Nat} {q : Nat} {t : Nat} {m : Nat} {J : Nat} {p1 : Int32} {a2 : Nat} {rr : Nat} {M0 : zH} (k0 : T[a0]? = some (.inl (3, q, t, m, J))) (u1 : 0 ≤ p1.toInt ∧ p1.toInt ≤ 9) (r2 : rr ≠ 99 ∧ 4 ≤ a2) (k2 : T[a2]? = some (.inr (rr, 0, 9, (-2147483648), 2147483647))) (kk : ∀ (x : Int32) (M1 : zH), z_X T zw65 M0 M1 → K (some (.int x)) M1) : ∀ n : Nat, (∀ (M : zH) (b3 : Int32) (b4 : Int32), z_X T zw65 M0 M → 0 ≤ b4.toInt ∧ b4.toInt ≤ 9 → ((0) * 2 + 0) * 10 + (9 - b4.toInt) < (n : Int) → z_ev d 65 5 [some (.ref a0), some (.int p1), some (.ref a2), some (.int b3), some (.int b4)] [] M K) := by
  intro n
  induction n with
  | zero => exact by intros; exfalso; omega
  | succ n ih =>
    intro M b3 b4 X hh0 hE
    have g0 := X.1.p3 k0
    refine z_xP zt65 1 8 [some (.ref a0), some (.int p1), some (.ref a2), some (.int b3), some (.int b4)] [.ref a0, .int b4] rfl rfl ?_
    refine z_xgI zt65 2 rfl zo65 zzf3_53 X k0 (by decide) (by decide) rfl (fun (x2 : Int32) h1 (h3 : 0 ≤ x2.toInt) (h4 : x2.toInt ≤ (J : Int)) => ?_)
    refine z_xJ zt65 3 rfl rfl (fun (h5 : x2.toInt ≤ b4.toInt) => ?_) (fun (h5 : b4.toInt < x2.toInt) => ?_)
    · skip
      refine z_xP zt65 19 40 [some (.ref a0), some (.int p1), some (.ref a2), some (.int b3), some (.int b4)] [.int b3] rfl rfl ?_
      exact z_xri zt65 20 rfl zzr65 (kk b3 M X)
    refine z_xP zt65 4 18 [some (.ref a0), some (.int p1), some (.ref a2), some (.int b3), some (.int b4)] [.int b4, .ref a2, .int b3] rfl rfl ?_
    refine z_xil zt65 5 rfl X k2 r2.1 (by omega) (by omega) (fun (x6 : Int32) h7 (h8 : (-2147483648) ≤ x6.toInt) (h9 : x6.toInt ≤ 2147483647) => ?_)
    refine z_xP zt65 6 20 [some (.ref a0), some (.int p1), some (.ref a2), some (.int b3), some (.int b4)] [.int p1, .int x6, .int b3] rfl rfl ?_
    have h10 := z_b32 x6
    refine z_xI zt65 7 rfl rfl (P := fun _ => True) (fun (x11 : Int32) _ => ?_) trivial
    refine z_xP zt65 8 22 [some (.ref a0), some (.int p1), some (.ref a2), some (.int b3), some (.int b4)] [.int 1, .int x11, .int b3] rfl rfl ?_
    refine z_xI zt65 9 rfl rfl (fun (x13 : Int32) (h14 : 0 ≤ x13.toInt ∧ x13.toInt ≤ 1) => ?_) (z_pAnd rfl (by omega))
    refine z_xP zt65 10 24 [some (.ref a0), some (.int p1), some (.ref a2), some (.int b3), some (.int b4)] [.ref a0, .int x13, .int b3] rfl rfl ?_
    refine z_xgR (κ := .inr (201, 0, 9, (-2147483648), 2147483647)) zt65 11 rfl zo65 zzf3_9 X k0 (by decide) (by decide) rfl (fun (a16 : Nat) h15 k17 => ?_)
    refine z_xP zt65 12 29 [some (.ref a0), some (.int p1), some (.ref a2), some (.int b3), some (.int b4)] [.int b4, .ref a16, .int x13, .int b3] rfl rfl ?_
    refine z_xil zt65 13 rfl X k17 (by decide) (by omega) (by omega) (fun (x18 : Int32) h19 (h20 : (-2147483648) ≤ x18.toInt) (h21 : x18.toInt ≤ 2147483647) => ?_)
    have h22 := z_b32 x18
    refine z_xI zt65 14 rfl rfl (P := fun _ => True) (fun (x23 : Int32) _ => ?_) trivial
    have h25 := z_b32 b3
    have h26 := z_b32 x23
    refine z_xI zt65 15 rfl rfl (P := fun _ => True) (fun (x27 : Int32) _ => ?_) trivial
    refine z_xP zt65 16 33 [some (.ref a0), some (.int p1), some (.ref a2), some (.int x27), some (.int b4)] [] rfl rfl ?_
    refine z_xN zt65 17 rfl rfl (fun (x29 : Int32) (h30 : x29.toInt = b4.toInt + 1) => ?_) (z_pAdd rfl rfl (by omega) (by omega))
    show z_ev d 65 36 [some (.ref a0), some (.int p1), some (.ref a2), some (.int x27), some (.int x29)] [] M _
    refine z_xP zt65 18 5 [some (.ref a0), some (.int p1), some (.ref a2), some (.int x27), some (.int x29)] [] rfl rfl ?_
    exact ih M x27 x29 X ⟨by omega, by omega⟩ (by omega)
theorem zC65 {T : List zK} {d : Nat} {K : Option Value → zH → Prop} {a0 : Nat} {q : Nat} {t : Nat} {m : Nat} {J : Nat} {p1 : Int32} {a2 : Nat} {rr : Nat} {M0 : zH} (hW : z_W M0 T) (k0 : T[a0]? = some (.inl (3, q, t, m, J))) (u1 : 0 ≤ p1.toInt ∧ p1.toInt ≤ 9) (r2 : rr ≠ 99 ∧ 4 ≤ a2) (k2 : T[a2]? = some (.inr (rr, 0, 9, (-2147483648), 2147483647))) (kk : ∀ (x : Int32) (M1 : zH), z_X T zw65 M0 M1 → K (some (.int x)) M1) : z_ev d 65 0 [some (.ref a0), some (.int p1), some (.ref a2), none, none] [] M0 K := by
  have X : z_X T zw65 M0 M0 := .refl hW
  have g0 := X.1.p3 k0
  refine z_xP zt65 0 5 [some (.ref a0), some (.int p1), some (.ref a2), some (.int 0), some (.int 0)] [] rfl rfl ?_
  have q0 : ((0 : Int32)).toInt = 0 := rfl
  exact (zB65 k0 u1 r2 k2 kk 20) M0 (0) (0) X (by decide) (by omega)
def zw63 : List Nat := []
theorem zC63 {T : List zK} {d : Nat} {K : Option Value → zH → Prop} {p1 : Int32} {p2 : Int32} {p3 : Int32} {M0 : zH} (hW : z_W M0 T)  (hG : z_GG T M0) (kk : ∀ (x : Int32) (M1 : zH), z_X T zw63 M0 M1 → K (some (.int x)) M1) : z_ev (d + 1) 63 0 [some (.ref 4), some (.int p1), some (.int p2), some (.int p3), none] [] M0 K := by
  have X : z_X T zw63 M0 M0 := .refl hW
  refine z_xP zt63 0 2 [some (.ref 4), some (.int p1), some (.int p2), some (.int p3), none] [.int p1, .ref 4] rfl rfl ?_
  have f4 : T[4]? = some (.inl (0, 0, 0, 0, 0)) := X.1.k rfl (by decide)
  refine z_xcV (vs := [.ref 4, .int p1]) (r := []) (L2 := [some (.ref 4), some (.int p1)]) zt63 1 rfl zo63 zzcV0_85 (Or.inl rfl) rfl X f4 rfl rfl rfl (Nat.le_of_ble_eq_true rfl) zzm35 (Nat.le_of_ble_eq_true rfl) rfl ?_
  refine z_xP zt35 0 1 [some (.ref 4), some (.int p1)] [.int p1] rfl rfl ?_
  refine z_xZ zt35 1 rfl rfl (fun (h1 : p1.toInt < 0) => ?_) (fun (h1 : 0 ≤ p1.toInt) => ?_)
  · skip
    refine z_xP zt35 5 22 [some (.ref 4), some (.int p1)] [.null] rfl rfl ?_
    refine z_xrn zt35 10 rfl zzr35 ?_
    show z_ev (d + 1) 63 5 [some (.ref 4), some (.int p1), some (.int p2), some (.int p3), none] [.null] M0 _
    refine z_xP zt63 2 31 [some (.ref 4), some (.int p1), some (.int p2), some (.int p3), some (.null)] [] rfl rfl ?_
    refine z_xP zt63 11 32 [some (.ref 4), some (.int p1), some (.int p2), some (.int p3), some (.null)] [.int (-1)] rfl rfl ?_
    have qm1 : (((-1) : Int32)).toInt = (-1) := rfl
    exact z_xri zt63 12 rfl zzr63 (kk (-1) M0 X)
  refine z_xP zt35 2 6 [some (.ref 4), some (.int p1)] [.ref 4, .int p1] rfl rfl ?_
  refine z_xgI zt35 3 rfl zo35 zzf0_59 X f4 (by decide) (by decide) rfl (fun (x3 : Int32) h2 (h4 : 0 ≤ x3.toInt) (h5 : x3.toInt ≤ 8) => ?_)
  have h6 := z_b32 p1
  refine z_xJ zt35 4 rfl rfl (fun (h7 : p1.toInt < x3.toInt) => ?_) (fun (h7 : x3.toInt ≤ p1.toInt) => ?_)
  · skip
    refine z_xP zt35 6 17 [some (.ref 4), some (.int p1)] [.ref 4] rfl rfl ?_
    refine z_xgX (b := 10) zt35 7 rfl zo35 zzf0_18 X f4 (by decide) (by decide) rfl ?_
    refine z_xP zt35 8 21 [some (.ref 4), some (.int p1)] [.int p1, .ref 10] rfl rfl ?_
    have f10 : T[10]? = some (.inr (10, 2, 8, 9, 0)) := X.1.k rfl (by decide)
    refine z_xal zt35 9 rfl X f10 (by decide) (by decide) (by decide) (by omega) (by omega) (fun (a8 : Nat) h9 h10 => ?_) (fun h11 => absurd h11 (z_Gs (hG.go X (by decide)).2.1 h2 (by omega) (by omega)))
    obtain ⟨q12, t13, m14, k15⟩ : ∃ q t m, T[a8]? = some (.inl (3, q, t, m, 9)) := h10
    have g16 := X.1.p3 k15
    refine z_xra zt35 10 rfl zzr35 ?_
    show z_ev (d + 1) 63 5 [some (.ref 4), some (.int p1), some (.int p2), some (.int p3), none] [.ref a8] M0 _
    refine z_xP zt63 2 12 [some (.ref 4), some (.int p1), some (.int p2), some (.int p3), some (.ref a8)] [] rfl rfl ?_
    refine z_xP zt63 3 14 [some (.ref 4), some (.int p1), some (.int p2), some (.int p3), some (.ref a8)] [.ref a8] rfl rfl ?_
    refine z_xgR (κ := .inl (2, q12, t13, m14, 0)) zt63 4 rfl zo63 zzf0_89 X k15 (by decide) (by decide) rfl (fun (a18 : Nat) h17 k19 => ?_)
    have g20 := X.1.p2 k19
    refine z_xP zt63 5 18 [some (.ref 4), some (.int p1), some (.int p2), some (.int p3), some (.ref a8)] [.int p2, .ref a18] rfl rfl ?_
    refine z_xcV (vs := [.ref a18, .int p2]) (r := []) (L2 := [some (.ref a18), some (.int p2)]) zt63 6 rfl zo63 zzcV0_129 (Or.inl rfl) rfl X k19 rfl rfl rfl (Nat.le_of_ble_eq_true rfl) zzm48 (Nat.le_of_ble_eq_true rfl) rfl ?_
    refine z_xP zt48 0 1 [some (.ref a18), some (.int p2)] [.int p2] rfl rfl ?_
    refine z_xZ zt48 1 rfl rfl (fun (h21 : p2.toInt < 0) => ?_) (fun (h21 : 0 ≤ p2.toInt) => ?_)
    · skip
      refine z_xP zt48 6 17 [some (.ref a18), some (.int p2)] [.int 0] rfl rfl ?_
      refine z_xrz zt48 7 rfl zzr48 (by decide) (by decide) ?_
      show z_ev (d + 1) 63 21 [some (.ref 4), some (.int p1), some (.int p2), some (.int p3), some (.ref a8)] [.int 0] M0 _
      refine z_xZ zt63 7 rfl rfl (fun (h22 : (0 : Int) = 0) => ?_) (fun (h22 : (0 : Int) ≠ 0) => absurd h22 (by omega))
      refine z_xP zt63 11 32 [some (.ref 4), some (.int p1), some (.int p2), some (.int p3), some (.ref a8)] [.int (-1)] rfl rfl ?_
      have qm1 : (((-1) : Int32)).toInt = (-1) := rfl
      exact z_xri zt63 12 rfl zzr63 (kk (-1) M0 X)
    refine z_xP zt48 2 6 [some (.ref a18), some (.int p2)] [.ref a18, .int p2] rfl rfl ?_
    refine z_xgI zt48 3 rfl zo48 zzf2_15 X k19 (by decide) (by decide) rfl (fun (x24 : Int32) h23 (h25 : (q12 : Int) ≤ x24.toInt) (h26 : x24.toInt ≤ (q12 : Int)) => ?_)
    have h27 := z_b32 p2
    refine z_xJ zt48 4 rfl rfl (fun (h28 : x24.toInt ≤ p2.toInt) => ?_) (fun (h28 : p2.toInt < x24.toInt) => ?_)
    · skip
      refine z_xP zt48 6 17 [some (.ref a18), some (.int p2)] [.int 0] rfl rfl ?_
      refine z_xrz zt48 7 rfl zzr48 (by decide) (by decide) ?_
      show z_ev (d + 1) 63 21 [some (.ref 4), some (.int p1), some (.int p2), some (.int p3), some (.ref a8)] [.int 0] M0 _
      refine z_xZ zt63 7 rfl rfl (fun (h29 : (0 : Int) = 0) => ?_) (fun (h29 : (0 : Int) ≠ 0) => absurd h29 (by omega))
      refine z_xP zt63 11 32 [some (.ref 4), some (.int p1), some (.int p2), some (.int p3), some (.ref a8)] [.int (-1)] rfl rfl ?_
      have qm1 : (((-1) : Int32)).toInt = (-1) := rfl
      exact z_xri zt63 12 rfl zzr63 (kk (-1) M0 X)
    refine z_xP zt48 5 17 [some (.ref a18), some (.int p2)] [.int 1] rfl rfl ?_
    refine z_xrz zt48 7 rfl zzr48 (by decide) (by decide) ?_
    show z_ev (d + 1) 63 21 [some (.ref 4), some (.int p1), some (.int p2), some (.int p3), some (.ref a8)] [.int 1] M0 _
    refine z_xZ zt63 7 rfl rfl (fun (h30 : (1 : Int) = 0) => absurd h30 (by omega)) (fun (h30 : (1 : Int) ≠ 0) => ?_)
    refine z_xP zt63 8 25 [some (.ref 4), some (.int p1), some (.int p2), some (.int p3), some (.ref a8)] [.int p3] rfl rfl ?_
    refine z_xcS (vs := [.int p3]) (r := []) (L2 := [some (.int p3)]) zt63 9 rfl zo63 zzcS0_172 (Or.inl rfl) (Nat.le_of_ble_eq_true rfl) rfl rfl (Nat.le_of_ble_eq_true rfl) zzm64 (Nat.le_of_ble_eq_true rfl) rfl ?_
    refine z_xP zt64 0 1 [some (.int p3)] [.int p3] rfl rfl ?_
    refine z_xZ zt64 1 rfl rfl (fun (h31 : p3.toInt = 0) => ?_) (fun (h31 : p3.toInt ≠ 0) => ?_)
    · skip
      refine z_xP zt64 4 14 [some (.int p3)] [.int 1] rfl rfl ?_
      refine z_xrz zt64 6 rfl zzr64 (by decide) (by decide) ?_
      show z_ev (d + 1) 63 28 [some (.ref 4), some (.int p1), some (.int p2), some (.int p3), some (.ref a8)] [.int 1] M0 _
      refine z_xZ zt63 10 rfl rfl (fun (h32 : (1 : Int) ≠ 0) => ?_) (fun (h32 : (1 : Int) = 0) => absurd h32 (by omega))
      refine z_xP zt63 13 37 [some (.ref 4), some (.int p1), some (.int p2), some (.int p3), some (.ref a8)] [.int p3, .int p2, .ref a8] rfl rfl ?_
      refine z_xZ zt63 14 rfl rfl (fun (h33 : p3.toInt ≠ 0) => absurd h33 (by omega)) (fun (h33 : p3.toInt = 0) => ?_)
      refine z_xP zt63 15 42 [some (.ref 4), some (.int p1), some (.int p2), some (.int p3), some (.ref a8)] [.ref a8, .int p2, .ref a8] rfl rfl ?_
      refine z_xgR (κ := .inr (202, 0, 9, (-2147483648), 2147483647)) zt63 16 rfl zo63 zzf0_166 X k15 (by decide) (by decide) rfl (fun (a35 : Nat) h34 k36 => ?_)
      refine z_xP zt63 17 53 [some (.ref 4), some (.int p1), some (.int p2), some (.int p3), some (.ref a8)] [.ref a35, .int p2, .ref a8] rfl rfl ?_
      refine z_xcV (vs := [.ref a8, .int p2, .ref a35]) (r := []) (L2 := [some (.ref a8), some (.int p2), some (.ref a35), none, none]) zt63 20 rfl zo63 zzcV0_175 (Or.inl rfl) rfl X k15 rfl rfl rfl (Nat.le_of_ble_eq_true rfl) zzm65 (Nat.le_of_ble_eq_true rfl) rfl ?_
      refine zC65 X.1 k15 (by omega) ⟨(by decide), (X.1.g4 k36 (by decide))⟩ k36 (fun x39 M37 X38  => ?_)
      have X40 := X.go X38 (z_sb (by decide))
      show z_ev (d + 1) 63 56 [some (.ref 4), some (.int p1), some (.int p2), some (.int p3), some (.ref a8)] [.int x39] M37 _
      exact z_xri zt63 21 rfl zzr63 (kk x39 M37 X40)
    refine z_xP zt64 2 6 [some (.int p3)] [.int 1, .int p3] rfl rfl ?_
    refine z_xJ zt64 3 rfl rfl (fun (h42 : p3.toInt ≠ 1) => ?_) (fun (h42 : p3.toInt = 1) => ?_)
    · skip
      refine z_xP zt64 5 14 [some (.int p3)] [.int 0] rfl rfl ?_
      refine z_xrz zt64 6 rfl zzr64 (by decide) (by decide) ?_
      show z_ev (d + 1) 63 28 [some (.ref 4), some (.int p1), some (.int p2), some (.int p3), some (.ref a8)] [.int 0] M0 _
      refine z_xZ zt63 10 rfl rfl (fun (h43 : (0 : Int) ≠ 0) => absurd h43 (by omega)) (fun (h43 : (0 : Int) = 0) => ?_)
      refine z_xP zt63 11 32 [some (.ref 4), some (.int p1), some (.int p2), some (.int p3), some (.ref a8)] [.int (-1)] rfl rfl ?_
      have qm1 : (((-1) : Int32)).toInt = (-1) := rfl
      exact z_xri zt63 12 rfl zzr63 (kk (-1) M0 X)
    refine z_xP zt64 4 14 [some (.int p3)] [.int 1] rfl rfl ?_
    refine z_xrz zt64 6 rfl zzr64 (by decide) (by decide) ?_
    show z_ev (d + 1) 63 28 [some (.ref 4), some (.int p1), some (.int p2), some (.int p3), some (.ref a8)] [.int 1] M0 _
    refine z_xZ zt63 10 rfl rfl (fun (h44 : (1 : Int) ≠ 0) => ?_) (fun (h44 : (1 : Int) = 0) => absurd h44 (by omega))
    refine z_xP zt63 13 37 [some (.ref 4), some (.int p1), some (.int p2), some (.int p3), some (.ref a8)] [.int p3, .int p2, .ref a8] rfl rfl ?_
    refine z_xZ zt63 14 rfl rfl (fun (h45 : p3.toInt ≠ 0) => ?_) (fun (h45 : p3.toInt = 0) => absurd h45 (by omega))
    refine z_xP zt63 18 50 [some (.ref 4), some (.int p1), some (.int p2), some (.int p3), some (.ref a8)] [.ref a8, .int p2, .ref a8] rfl rfl ?_
    refine z_xgR (κ := .inr (203, 0, 9, (-2147483648), 2147483647)) zt63 19 rfl zo63 zzf0_169 X k15 (by decide) (by decide) rfl (fun (a47 : Nat) h46 k48 => ?_)
    refine z_xcV (vs := [.ref a8, .int p2, .ref a47]) (r := []) (L2 := [some (.ref a8), some (.int p2), some (.ref a47), none, none]) zt63 20 rfl zo63 zzcV0_175 (Or.inl rfl) rfl X k15 rfl rfl rfl (Nat.le_of_ble_eq_true rfl) zzm65 (Nat.le_of_ble_eq_true rfl) rfl ?_
    refine zC65 X.1 k15 (by omega) ⟨(by decide), (X.1.g4 k48 (by decide))⟩ k48 (fun x51 M49 X50  => ?_)
    have X52 := X.go X50 (z_sb (by decide))
    show z_ev (d + 1) 63 56 [some (.ref 4), some (.int p1), some (.int p2), some (.int p3), some (.ref a8)] [.int x51] M49 _
    exact z_xri zt63 21 rfl zzr63 (kk x51 M49 X52)
  refine z_xP zt35 5 22 [some (.ref 4), some (.int p1)] [.null] rfl rfl ?_
  refine z_xrn zt35 10 rfl zzr35 ?_
  show z_ev (d + 1) 63 5 [some (.ref 4), some (.int p1), some (.int p2), some (.int p3), none] [.null] M0 _
  refine z_xP zt63 2 31 [some (.ref 4), some (.int p1), some (.int p2), some (.int p3), some (.null)] [] rfl rfl ?_
  refine z_xP zt63 11 32 [some (.ref 4), some (.int p1), some (.int p2), some (.int p3), some (.null)] [.int (-1)] rfl rfl ?_
  have qm1 : (((-1) : Int32)).toInt = (-1) := rfl
  exact z_xri zt63 12 rfl zzr63 (kk (-1) M0 X)
def zw67 : List Nat := []
theorem zB67 {T : List zK} {d : Nat} {K : Option Value → zH → Prop} {a0 : Nat} {q : Nat} {t : Nat} {m : Nat} {J : Nat} {p1 : Int32} {M0 : zH} (k0 : T[a0]? = some (.inl (3, q, t, m, J))) (u1 : 0 ≤ p1.toInt ∧ p1.toInt ≤ 1023) (kk : ∀ (x : Int32) (M1 : zH), z_X T zw67 M0 M1 → K (some (.int x)) M1) : ∀ n : Nat, (∀ (M : zH) (b2 : Int32) (b3 : Int32), z_X T zw67 M0 M → 0 ≤ b3.toInt ∧ b3.toInt ≤ 9 → ((0) * 2 + 0) * 10 + (9 - b3.toInt) < (n : Int) → z_ev (d + 1) 67 4 [some (.ref a0), some (.int p1), some (.int b2), some (.int b3)] [] M K) := by
  intro n
  induction n with
  | zero => exact by intros; exfalso; omega
  | succ n ih =>
    intro M b2 b3 X hh0 hE
    have g0 := X.1.p3 k0
    refine z_xP zt67 1 6 [some (.ref a0), some (.int p1), some (.int b2), some (.int b3)] [.ref a0, .int b3] rfl rfl ?_
    refine z_xgI zt67 2 rfl zo67 zzf3_53 X k0 (by decide) (by decide) rfl (fun (x2 : Int32) h1 (h3 : 0 ≤ x2.toInt) (h4 : x2.toInt ≤ (J : Int)) => ?_)
    refine z_xJ zt67 3 rfl rfl (fun (h5 : x2.toInt ≤ b3.toInt) => ?_) (fun (h5 : b3.toInt < x2.toInt) => ?_)
    · skip
      refine z_xP zt67 28 51 [some (.ref a0), some (.int p1), some (.int b2), some (.int b3)] [.int b2] rfl rfl ?_
      exact z_xri zt67 29 rfl zzr67 (kk b2 M X)
    refine z_xP zt67 4 14 [some (.ref a0), some (.int p1), some (.int b2), some (.int b3)] [.ref a0, .int b2] rfl rfl ?_
    refine z_xgR (κ := .inr (201, 0, 9, (-2147483648), 2147483647)) zt67 5 rfl zo67 zzf3_9 X k0 (by decide) (by decide) rfl (fun (a7 : Nat) h6 k8 => ?_)
    refine z_xP zt67 6 18 [some (.ref a0), some (.int p1), some (.int b2), some (.int b3)] [.int b3, .ref a7, .int b2] rfl rfl ?_
    refine z_xil zt67 7 rfl X k8 (by decide) (by omega) (by omega) (fun (x9 : Int32) h10 (h11 : (-2147483648) ≤ x9.toInt) (h12 : x9.toInt ≤ 2147483647) => ?_)
    refine z_xP zt67 8 20 [some (.ref a0), some (.int p1), some (.int b2), some (.int b3)] [.ref a0, .int x9, .int b2] rfl rfl ?_
    refine z_xgR (κ := .inr (202, 0, 9, (-2147483648), 2147483647)) zt67 9 rfl zo67 zzf3_15 X k0 (by decide) (by decide) rfl (fun (a14 : Nat) h13 k15 => ?_)
    refine z_xP zt67 10 24 [some (.ref a0), some (.int p1), some (.int b2), some (.int b3)] [.int b3, .ref a14, .int x9, .int b2] rfl rfl ?_
    refine z_xil zt67 11 rfl X k15 (by decide) (by omega) (by omega) (fun (x16 : Int32) h17 (h18 : (-2147483648) ≤ x16.toInt) (h19 : x16.toInt ≤ 2147483647) => ?_)
    refine z_xP zt67 12 27 [some (.ref a0), some (.int p1), some (.int b2), some (.int b3)] [.int (-1), .int p1, .int x16, .int x9, .int b2] rfl rfl ?_
    refine z_xI zt67 13 rfl rfl (P := fun _ => True) (fun (x20 : Int32) _ => ?_) trivial
    refine z_xI zt67 14 rfl rfl (P := fun _ => True) (fun (x22 : Int32) _ => ?_) trivial
    refine z_xP zt67 15 30 [some (.ref a0), some (.int p1), some (.int b2), some (.int b3)] [.ref a0, .int x22, .int x9, .int b2] rfl rfl ?_
    refine z_xgR (κ := .inr (203, 0, 9, (-2147483648), 2147483647)) zt67 16 rfl zo67 zzf3_18 X k0 (by decide) (by decide) rfl (fun (a25 : Nat) h24 k26 => ?_)
    refine z_xP zt67 17 34 [some (.ref a0), some (.int p1), some (.int b2), some (.int b3)] [.int b3, .ref a25, .int x22, .int x9, .int b2] rfl rfl ?_
    refine z_xil zt67 18 rfl X k26 (by decide) (by omega) (by omega) (fun (x27 : Int32) h28 (h29 : (-2147483648) ≤ x27.toInt) (h30 : x27.toInt ≤ 2147483647) => ?_)
    refine z_xP zt67 19 36 [some (.ref a0), some (.int p1), some (.int b2), some (.int b3)] [.int p1, .int x27, .int x22, .int x9, .int b2] rfl rfl ?_
    refine z_xI zt67 20 rfl rfl (fun (x31 : Int32) (h32 : 0 ≤ x31.toInt ∧ x31.toInt ≤ p1.toInt) => ?_) (z_pAnd rfl (by omega))
    refine z_xI zt67 21 rfl rfl (P := fun _ => True) (fun (x33 : Int32) _ => ?_) trivial
    refine z_xcS (vs := [.int x33]) (r := [.int x9, .int b2]) (L2 := [some (.int x33)]) zt67 22 rfl zo67 zzcS3_72 (Or.inl rfl) (Nat.le_of_ble_eq_true rfl) rfl rfl (Nat.le_of_ble_eq_true rfl) zzm31 (Nat.le_of_ble_eq_true rfl) rfl ?_
    refine zC31 X.1 (fun x37 M35 X36 h38 h39 => ?_)
    have X40 := X.go X36 (z_sb (by decide))
    show z_ev (d + 1) 67 41 [some (.ref a0), some (.int p1), some (.int b2), some (.int b3)] [.int x37, .int x9, .int b2] M35 _
    have h42 := z_b32 x9
    refine z_xI zt67 23 rfl rfl (P := fun _ => True) (fun (x43 : Int32) _ => ?_) trivial
    have h45 := z_b32 b2
    have h46 := z_b32 x43
    refine z_xI zt67 24 rfl rfl (P := fun _ => True) (fun (x47 : Int32) _ => ?_) trivial
    refine z_xP zt67 25 44 [some (.ref a0), some (.int p1), some (.int x47), some (.int b3)] [] rfl rfl ?_
    refine z_xN zt67 26 rfl rfl (fun (x49 : Int32) (h50 : x49.toInt = b3.toInt + 1) => ?_) (z_pAdd rfl rfl (by omega) (by omega))
    show z_ev (d + 1) 67 47 [some (.ref a0), some (.int p1), some (.int x47), some (.int x49)] [] M35 _
    refine z_xP zt67 27 4 [some (.ref a0), some (.int p1), some (.int x47), some (.int x49)] [] rfl rfl ?_
    exact ih M35 x47 x49 X40 ⟨by omega, by omega⟩ (by omega)
theorem zC67 {T : List zK} {d : Nat} {K : Option Value → zH → Prop} {a0 : Nat} {q : Nat} {t : Nat} {m : Nat} {J : Nat} {p1 : Int32} {M0 : zH} (hW : z_W M0 T) (k0 : T[a0]? = some (.inl (3, q, t, m, J))) (u1 : 0 ≤ p1.toInt ∧ p1.toInt ≤ 1023) (kk : ∀ (x : Int32) (M1 : zH), z_X T zw67 M0 M1 → K (some (.int x)) M1) : z_ev (d + 1) 67 0 [some (.ref a0), some (.int p1), none, none] [] M0 K := by
  have X : z_X T zw67 M0 M0 := .refl hW
  have g0 := X.1.p3 k0
  refine z_xP zt67 0 4 [some (.ref a0), some (.int p1), some (.int 0), some (.int 0)] [] rfl rfl ?_
  have q0 : ((0 : Int32)).toInt = 0 := rfl
  exact (zB67 k0 u1 kk 20) M0 (0) (0) X (by decide) (by omega)
def zw66 : List Nat := []
theorem zC66 {T : List zK} {d : Nat} {K : Option Value → zH → Prop} {p1 : Int32} {p2 : Int32} {M0 : zH} (hW : z_W M0 T)  (hG : z_GG T M0) (kk : ∀ (x : Int32) (M1 : zH), z_X T zw66 M0 M1 → K (some (.int x)) M1) : z_ev (d + 2) 66 0 [some (.ref 4), some (.int p1), some (.int p2), none] [] M0 K := by
  have X : z_X T zw66 M0 M0 := .refl hW
  refine z_xP zt66 0 2 [some (.ref 4), some (.int p1), some (.int p2), none] [.int p1, .ref 4] rfl rfl ?_
  have f4 : T[4]? = some (.inl (0, 0, 0, 0, 0)) := X.1.k rfl (by decide)
  refine z_xcV (vs := [.ref 4, .int p1]) (r := []) (L2 := [some (.ref 4), some (.int p1)]) zt66 1 rfl zo66 zzcV0_85 (Or.inl rfl) rfl X f4 rfl rfl rfl (Nat.le_of_ble_eq_true rfl) zzm35 (Nat.le_of_ble_eq_true rfl) rfl ?_
  refine z_xP zt35 0 1 [some (.ref 4), some (.int p1)] [.int p1] rfl rfl ?_
  refine z_xZ zt35 1 rfl rfl (fun (h1 : p1.toInt < 0) => ?_) (fun (h1 : 0 ≤ p1.toInt) => ?_)
  · skip
    refine z_xP zt35 5 22 [some (.ref 4), some (.int p1)] [.null] rfl rfl ?_
    refine z_xrn zt35 10 rfl zzr35 ?_
    show z_ev (d + 2) 66 5 [some (.ref 4), some (.int p1), some (.int p2), none] [.null] M0 _
    refine z_xP zt66 2 21 [some (.ref 4), some (.int p1), some (.int p2), some (.null)] [] rfl rfl ?_
    refine z_xP zt66 8 22 [some (.ref 4), some (.int p1), some (.int p2), some (.null)] [.int (-1)] rfl rfl ?_
    have qm1 : (((-1) : Int32)).toInt = (-1) := rfl
    exact z_xri zt66 9 rfl zzr66 (kk (-1) M0 X)
  refine z_xP zt35 2 6 [some (.ref 4), some (.int p1)] [.ref 4, .int p1] rfl rfl ?_
  refine z_xgI zt35 3 rfl zo35 zzf0_59 X f4 (by decide) (by decide) rfl (fun (x3 : Int32) h2 (h4 : 0 ≤ x3.toInt) (h5 : x3.toInt ≤ 8) => ?_)
  have h6 := z_b32 p1
  refine z_xJ zt35 4 rfl rfl (fun (h7 : p1.toInt < x3.toInt) => ?_) (fun (h7 : x3.toInt ≤ p1.toInt) => ?_)
  · skip
    refine z_xP zt35 6 17 [some (.ref 4), some (.int p1)] [.ref 4] rfl rfl ?_
    refine z_xgX (b := 10) zt35 7 rfl zo35 zzf0_18 X f4 (by decide) (by decide) rfl ?_
    refine z_xP zt35 8 21 [some (.ref 4), some (.int p1)] [.int p1, .ref 10] rfl rfl ?_
    have f10 : T[10]? = some (.inr (10, 2, 8, 9, 0)) := X.1.k rfl (by decide)
    refine z_xal zt35 9 rfl X f10 (by decide) (by decide) (by decide) (by omega) (by omega) (fun (a8 : Nat) h9 h10 => ?_) (fun h11 => absurd h11 (z_Gs (hG.go X (by decide)).2.1 h2 (by omega) (by omega)))
    obtain ⟨q12, t13, m14, k15⟩ : ∃ q t m, T[a8]? = some (.inl (3, q, t, m, 9)) := h10
    have g16 := X.1.p3 k15
    refine z_xra zt35 10 rfl zzr35 ?_
    show z_ev (d + 2) 66 5 [some (.ref 4), some (.int p1), some (.int p2), none] [.ref a8] M0 _
    refine z_xP zt66 2 10 [some (.ref 4), some (.int p1), some (.int p2), some (.ref a8)] [] rfl rfl ?_
    refine z_xP zt66 3 11 [some (.ref 4), some (.int p1), some (.int p2), some (.ref a8)] [.ref a8] rfl rfl ?_
    refine z_xgR (κ := .inl (2, q12, t13, m14, 0)) zt66 4 rfl zo66 zzf0_89 X k15 (by decide) (by decide) rfl (fun (a18 : Nat) h17 k19 => ?_)
    have g20 := X.1.p2 k19
    refine z_xP zt66 5 15 [some (.ref 4), some (.int p1), some (.int p2), some (.ref a8)] [.int p2, .ref a18] rfl rfl ?_
    refine z_xcV (vs := [.ref a18, .int p2]) (r := []) (L2 := [some (.ref a18), some (.int p2)]) zt66 6 rfl zo66 zzcV0_112 (Or.inl rfl) rfl X k19 rfl rfl rfl (Nat.le_of_ble_eq_true rfl) zzm28 (Nat.le_of_ble_eq_true rfl) rfl ?_
    refine z_xP zt28 0 1 [some (.ref a18), some (.int p2)] [.int p2] rfl rfl ?_
    refine z_xZ zt28 1 rfl rfl (fun (h21 : p2.toInt < 0) => ?_) (fun (h21 : 0 ≤ p2.toInt) => ?_)
    · skip
      refine z_xP zt28 6 17 [some (.ref a18), some (.int p2)] [.int 0] rfl rfl ?_
      refine z_xrz zt28 7 rfl zzr28 (by decide) (by decide) ?_
      show z_ev (d + 2) 66 18 [some (.ref 4), some (.int p1), some (.int p2), some (.ref a8)] [.int 0] M0 _
      refine z_xZ zt66 7 rfl rfl (fun (h22 : (0 : Int) ≠ 0) => absurd h22 (by omega)) (fun (h22 : (0 : Int) = 0) => ?_)
      refine z_xP zt66 8 22 [some (.ref 4), some (.int p1), some (.int p2), some (.ref a8)] [.int (-1)] rfl rfl ?_
      have qm1 : (((-1) : Int32)).toInt = (-1) := rfl
      exact z_xri zt66 9 rfl zzr66 (kk (-1) M0 X)
    refine z_xP zt28 2 6 [some (.ref a18), some (.int p2)] [.ref a18, .int p2] rfl rfl ?_
    refine z_xgI zt28 3 rfl zo28 zzf2_32 X k19 (by decide) (by decide) rfl (fun (x24 : Int32) h23 (h25 : ((z_po q12 : Nat) : Int) - 1 ≤ x24.toInt) (h26 : x24.toInt ≤ ((z_po q12 : Nat) : Int) - 1) => ?_)
    have h27 := z_b32 p2
    refine z_xJ zt28 4 rfl rfl (fun (h28 : x24.toInt < p2.toInt) => ?_) (fun (h28 : p2.toInt ≤ x24.toInt) => ?_)
    · skip
      refine z_xP zt28 6 17 [some (.ref a18), some (.int p2)] [.int 0] rfl rfl ?_
      refine z_xrz zt28 7 rfl zzr28 (by decide) (by decide) ?_
      show z_ev (d + 2) 66 18 [some (.ref 4), some (.int p1), some (.int p2), some (.ref a8)] [.int 0] M0 _
      refine z_xZ zt66 7 rfl rfl (fun (h29 : (0 : Int) ≠ 0) => absurd h29 (by omega)) (fun (h29 : (0 : Int) = 0) => ?_)
      refine z_xP zt66 8 22 [some (.ref 4), some (.int p1), some (.int p2), some (.ref a8)] [.int (-1)] rfl rfl ?_
      have qm1 : (((-1) : Int32)).toInt = (-1) := rfl
      exact z_xri zt66 9 rfl zzr66 (kk (-1) M0 X)
    refine z_xP zt28 5 17 [some (.ref a18), some (.int p2)] [.int 1] rfl rfl ?_
    refine z_xrz zt28 7 rfl zzr28 (by decide) (by decide) ?_
    show z_ev (d + 2) 66 18 [some (.ref 4), some (.int p1), some (.int p2), some (.ref a8)] [.int 1] M0 _
    refine z_xZ zt66 7 rfl rfl (fun (h30 : (1 : Int) ≠ 0) => ?_) (fun (h30 : (1 : Int) = 0) => absurd h30 (by omega))
    refine z_xP zt66 10 25 [some (.ref 4), some (.int p1), some (.int p2), some (.ref a8)] [.int p2, .ref a8] rfl rfl ?_
    refine z_xcV (vs := [.ref a8, .int p2]) (r := []) (L2 := [some (.ref a8), some (.int p2), none, none]) zt66 11 rfl zo66 zzcV0_179 (Or.inl rfl) rfl X k15 rfl rfl rfl (Nat.le_of_ble_eq_true rfl) zzm67 (Nat.le_of_ble_eq_true rfl) rfl ?_
    refine zC67 X.1 k15 (by omega) (fun x33 M31 X32  => ?_)
    have X34 := X.go X32 (z_sb (by decide))
    show z_ev (d + 2) 66 28 [some (.ref 4), some (.int p1), some (.int p2), some (.ref a8)] [.int x33] M31 _
    exact z_xri zt66 12 rfl zzr66 (kk x33 M31 X34)
  refine z_xP zt35 5 22 [some (.ref 4), some (.int p1)] [.null] rfl rfl ?_
  refine z_xrn zt35 10 rfl zzr35 ?_
  show z_ev (d + 2) 66 5 [some (.ref 4), some (.int p1), some (.int p2), none] [.null] M0 _
  refine z_xP zt66 2 21 [some (.ref 4), some (.int p1), some (.int p2), some (.null)] [] rfl rfl ?_
  refine z_xP zt66 8 22 [some (.ref 4), some (.int p1), some (.int p2), some (.null)] [.int (-1)] rfl rfl ?_
  have qm1 : (((-1) : Int32)).toInt = (-1) := rfl
  exact z_xri zt66 9 rfl zzr66 (kk (-1) M0 X)
def zw70 : List Nat := [206, 207]
theorem zB70 {T : List zK} {d : Nat} {K : Option Value → zH → Prop} {a0 : Nat} {q : Nat} {t : Nat} {m : Nat} {J : Nat} {M0 : zH} (k0 : T[a0]? = some (.inl (3, q, t, m, J))) (kk : ∀ (M1 : zH), z_X T zw70 M0 M1 → K none M1) : ∀ n : Nat, (∀ (M : zH) (b1 : Int32) (b2 : Int32), z_X T zw70 M0 M → 1 ≤ b1.toInt ∧ b1.toInt ≤ 10 → 1 ≤ b2.toInt ∧ b2.toInt ≤ 32 → ((0) * 3 + 1) * 32 + (32 - b2.toInt) < (n : Int) → z_ev (d + 1) 70 10 [some (.ref a0), some (.int b1), some (.int b2)] [] M K) ∧ (∀ (M : zH) (b1 : Int32) (b2 : Int32), z_X T zw70 M0 M → 1 ≤ b1.toInt ∧ b1.toInt ≤ 10 → 1 ≤ b2.toInt ∧ b2.toInt ≤ 32 → ((0) * 3 + 0) * 32 + (32 - b2.toInt) < (n : Int) → z_ev (d + 1) 70 55 [some (.ref a0), some (.int b1), some (.int b2)] [] M K) := by
  intro n
  induction n with
  | zero => exact ⟨(by intros; exfalso; omega), (by intros; exfalso; omega)⟩
  | succ n ih =>
    refine ⟨?_, ?_⟩
    · skip
      intro M b1 b2 X hh0 hh1 hE
      have g0 := X.1.p3 k0
      refine z_xP zt70 4 14 [some (.ref a0), some (.int b1), some (.int b2)] [.int 5, .int b1, .int 1, .int b2] rfl rfl ?_
      have q5 : ((5 : Int32)).toInt = 5 := rfl
      refine z_xmn zt70 5 rfl zo70 zzcS3_78 (Nat.le_of_ble_eq_true rfl) (fun (x1 : Int32) h2 => ?_)
      refine z_xI zt70 6 rfl rfl (fun (x3 : Int32) (h4 : 1 ≤ x3.toInt ∧ x3.toInt ≤ 32) => ?_) (z_pShlB (a := 1) (b := 5) (c := 32) (r := 32) rfl rfl (by omega) (by omega) (by omega) (by omega) (by decide) (by decide) (by decide) (by decide))
      refine z_xJ zt70 7 rfl rfl (fun (h5 : x3.toInt ≤ b2.toInt) => ?_) (fun (h5 : b2.toInt < x3.toInt) => ?_)
      · skip
        refine z_xP zt70 25 55 [some (.ref a0), some (.int b1), some (.int 1)] [] rfl rfl ?_
        have q1 : ((1 : Int32)).toInt = 1 := rfl
        exact ih.2 M b1 (1) X ⟨by omega, by omega⟩ (by decide) (by omega)
      refine z_xP zt70 8 22 [some (.ref a0), some (.int b1), some (.int b2)] [.ref a0] rfl rfl ?_
      refine z_xgR (κ := .inr (206, 0, 32, (-2147483648), 2147483647)) zt70 9 rfl zo70 zzf3_24 X k0 (by decide) (by decide) rfl (fun (a7 : Nat) h6 k8 => ?_)
      refine z_xP zt70 10 27 [some (.ref a0), some (.int b1), some (.int b2)] [.ref a0, .int b2, .ref a7] rfl rfl ?_
      refine z_xgv zt70 11 rfl zo70 zzf3_24 X k0 (by decide) h6 ?_
      refine z_xP zt70 12 33 [some (.ref a0), some (.int b1), some (.int b2)] [.int 1, .int b2, .int b2, .ref a7, .int b2, .ref a7] rfl rfl ?_
      refine z_xI zt70 13 rfl rfl (fun (x9 : Int32) (h10 : x9.toInt = b2.toInt - 1) => ?_) (z_pSub rfl rfl (by omega) (by omega))
      refine z_xI zt70 14 rfl rfl (fun (x11 : Int32) (h12 : 0 ≤ x11.toInt ∧ x11.toInt ≤ b2.toInt ∧ x11.toInt ≤ x9.toInt) => ?_) (z_pAnd2 rfl rfl (by omega) (by omega))
      refine z_xil zt70 15 rfl X k8 (by decide) (by omega) (by omega) (fun (x13 : Int32) h14 (h15 : (-2147483648) ≤ x13.toInt) (h16 : x13.toInt ≤ 2147483647) => ?_)
      refine z_xP zt70 16 37 [some (.ref a0), some (.int b1), some (.int b2)] [.ref a0, .int x13, .int b2, .ref a7] rfl rfl ?_
      refine z_xgR (κ := .inr (205, 0, 10, (-2147483648), 2147483647)) zt70 17 rfl zo70 zzf3_21 X k0 (by decide) (by decide) rfl (fun (a18 : Nat) h17 k19 => ?_)
      refine z_xP zt70 18 41 [some (.ref a0), some (.int b1), some (.int b2)] [.int b2, .ref a18, .int x13, .int b2, .ref a7] rfl rfl ?_
      refine z_xcS (vs := [.int b2]) (r := [.ref a18, .int x13, .int b2, .ref a7]) (L2 := [some (.int b2), none]) zt70 19 rfl zo70 zzcS3_84 (Or.inl rfl) (Nat.le_of_ble_eq_true rfl) rfl rfl (Nat.le_of_ble_eq_true rfl) zzm71 (Nat.le_of_ble_eq_true rfl) rfl ?_
      refine zS71 (fun x20 h21 h22 h23 h24 => ?_)
      show z_ev (d + 1) 70 44 [some (.ref a0), some (.int b1), some (.int b2)] [.int x20, .ref a18, .int x13, .int b2, .ref a7] M _
      refine z_xil zt70 20 rfl X k19 (by decide) (by omega) (by omega) (fun (x25 : Int32) h26 (h27 : (-2147483648) ≤ x25.toInt) (h28 : x25.toInt ≤ 2147483647) => ?_)
      have h29 := z_b32 x13
      have h30 := z_b32 x25
      refine z_xI zt70 21 rfl rfl (P := fun _ => True) (fun (x31 : Int32) _ => ?_) trivial
      refine z_xis zt70 22 rfl X k8 (by decide) (X.1.g4 k8 (by decide)) (by omega) (by omega) (Int32.le_toInt _) (Int32.toInt_le _) (by decide) (fun M33 X34 e35 h36 => ?_)
      refine z_xN zt70 23 rfl rfl (fun (x37 : Int32) (h38 : x37.toInt = b2.toInt + 1) => ?_) (z_pAdd rfl rfl (by omega) (by omega))
      show z_ev (d + 1) 70 50 [some (.ref a0), some (.int b1), some (.int x37)] [] M33 _
      refine z_xP zt70 24 10 [some (.ref a0), some (.int b1), some (.int x37)] [] rfl rfl ?_
      exact ih.1 M33 b1 x37 X34 ⟨by omega, by omega⟩ ⟨by omega, by omega⟩ (by omega)
    · skip
      intro M b1 b2 X hh0 hh1 hE
      have g0 := X.1.p3 k0
      refine z_xP zt70 26 59 [some (.ref a0), some (.int b1), some (.int b2)] [.int 5, .int b1, .int 1, .int b2] rfl rfl ?_
      refine z_xI zt70 27 rfl rfl (fun (x1 : Int32) (h2 : x1.toInt = b1.toInt - 5) => ?_) (z_pSub rfl rfl (by omega) (by omega))
      refine z_xP zt70 28 61 [some (.ref a0), some (.int b1), some (.int b2)] [.int 0, .int x1, .int 1, .int b2] rfl rfl ?_
      have q0 : ((0 : Int32)).toInt = 0 := rfl
      refine z_xmx zt70 29 rfl zo70 zzcS3_87 (Nat.le_of_ble_eq_true rfl) (fun (x3 : Int32) h4 => ?_)
      refine z_xI zt70 30 rfl rfl (fun (x5 : Int32) (h6 : 1 ≤ x5.toInt ∧ x5.toInt ≤ 32) => ?_) (z_pShlB (a := 1) (b := 5) (c := 32) (r := 32) rfl rfl (by omega) (by omega) (by omega) (by omega) (by decide) (by decide) (by decide) (by decide))
      refine z_xJ zt70 31 rfl rfl (fun (h7 : x5.toInt ≤ b2.toInt) => ?_) (fun (h7 : b2.toInt < x5.toInt) => ?_)
      · skip
        exact z_xrv zt70 50 rfl zzr70 (kk M X)
      refine z_xP zt70 32 69 [some (.ref a0), some (.int b1), some (.int b2)] [.ref a0] rfl rfl ?_
      refine z_xgR (κ := .inr (207, 0, 32, (-2147483648), 2147483647)) zt70 33 rfl zo70 zzf3_27 X k0 (by decide) (by decide) rfl (fun (a9 : Nat) h8 k10 => ?_)
      refine z_xP zt70 34 74 [some (.ref a0), some (.int b1), some (.int b2)] [.ref a0, .int b2, .ref a9] rfl rfl ?_
      refine z_xgv zt70 35 rfl zo70 zzf3_27 X k0 (by decide) h8 ?_
      refine z_xP zt70 36 80 [some (.ref a0), some (.int b1), some (.int b2)] [.int 1, .int b2, .int b2, .ref a9, .int b2, .ref a9] rfl rfl ?_
      refine z_xI zt70 37 rfl rfl (fun (x11 : Int32) (h12 : x11.toInt = b2.toInt - 1) => ?_) (z_pSub rfl rfl (by omega) (by omega))
      refine z_xI zt70 38 rfl rfl (fun (x13 : Int32) (h14 : 0 ≤ x13.toInt ∧ x13.toInt ≤ b2.toInt ∧ x13.toInt ≤ x11.toInt) => ?_) (z_pAnd2 rfl rfl (by omega) (by omega))
      refine z_xil zt70 39 rfl X k10 (by decide) (by omega) (by omega) (fun (x15 : Int32) h16 (h17 : (-2147483648) ≤ x15.toInt) (h18 : x15.toInt ≤ 2147483647) => ?_)
      refine z_xP zt70 40 84 [some (.ref a0), some (.int b1), some (.int b2)] [.ref a0, .int x15, .int b2, .ref a9] rfl rfl ?_
      refine z_xgR (κ := .inr (205, 0, 10, (-2147483648), 2147483647)) zt70 41 rfl zo70 zzf3_21 X k0 (by decide) (by decide) rfl (fun (a20 : Nat) h19 k21 => ?_)
      refine z_xP zt70 42 89 [some (.ref a0), some (.int b1), some (.int b2)] [.int b2, .int 5, .ref a20, .int x15, .int b2, .ref a9] rfl rfl ?_
      refine z_xcS (vs := [.int b2]) (r := [.int 5, .ref a20, .int x15, .int b2, .ref a9]) (L2 := [some (.int b2), none]) zt70 43 rfl zo70 zzcS3_84 (Or.inl rfl) (Nat.le_of_ble_eq_true rfl) rfl rfl (Nat.le_of_ble_eq_true rfl) zzm71 (Nat.le_of_ble_eq_true rfl) rfl ?_
      refine zS71 (fun x22 h23 h24 h25 h26 => ?_)
      show z_ev (d + 1) 70 92 [some (.ref a0), some (.int b1), some (.int b2)] [.int x22, .int 5, .ref a20, .int x15, .int b2, .ref a9] M _
      refine z_xI zt70 44 rfl rfl (fun (x27 : Int32) (h28 : x27.toInt = 5 + x22.toInt) => ?_) (z_pAdd rfl rfl (by omega) (by omega))
      refine z_xil zt70 45 rfl X k21 (by decide) (by omega) (by omega) (fun (x29 : Int32) h30 (h31 : (-2147483648) ≤ x29.toInt) (h32 : x29.toInt ≤ 2147483647) => ?_)
      have h33 := z_b32 x15
      have h34 := z_b32 x29
      refine z_xI zt70 46 rfl rfl (P := fun _ => True) (fun (x35 : Int32) _ => ?_) trivial
      refine z_xis zt70 47 rfl X k10 (by decide) (X.1.g4 k10 (by decide)) (by omega) (by omega) (Int32.le_toInt _) (Int32.toInt_le _) (by decide) (fun M37 X38 e39 h40 => ?_)
      refine z_xN zt70 48 rfl rfl (fun (x41 : Int32) (h42 : x41.toInt = b2.toInt + 1) => ?_) (z_pAdd rfl rfl (by omega) (by omega))
      show z_ev (d + 1) 70 99 [some (.ref a0), some (.int b1), some (.int x41)] [] M37 _
      refine z_xP zt70 49 55 [some (.ref a0), some (.int b1), some (.int x41)] [] rfl rfl ?_
      exact ih.2 M37 b1 x41 X38 ⟨by omega, by omega⟩ ⟨by omega, by omega⟩ (by omega)
theorem zC70 {T : List zK} {d : Nat} {K : Option Value → zH → Prop} {a0 : Nat} {q : Nat} {t : Nat} {m : Nat} {J : Nat} {M0 : zH} (hW : z_W M0 T) (k0 : T[a0]? = some (.inl (3, q, t, m, J))) (kk : ∀ (M1 : zH), z_X T zw70 M0 M1 → K none M1) : z_ev (d + 1) 70 0 [some (.ref a0), none, none] [] M0 K := by
  have X : z_X T zw70 M0 M0 := .refl hW
  have g0 := X.1.p3 k0
  refine z_xP zt70 0 1 [some (.ref a0), none, none] [.ref a0] rfl rfl ?_
  refine z_xgR (κ := .inl (2, q, t, m, 0)) zt70 1 rfl zo70 zzf3_39 X k0 (by decide) (by decide) rfl (fun (a2 : Nat) h1 k3 => ?_)
  have g4 := X.1.p2 k3
  refine z_xgI zt70 2 rfl zo70 zzf3_63 X k3 (by decide) (by decide) rfl (fun (x6 : Int32) h5 (h7 : (q : Int) ≤ x6.toInt) (h8 : x6.toInt ≤ (q : Int)) => ?_)
  refine z_xP zt70 3 10 [some (.ref a0), some (.int x6), some (.int 1)] [] rfl rfl ?_
  have q1 : ((1 : Int32)).toInt = 1 := rfl
  exact (zB70 k0 kk 96).1 M0 x6 (1) X ⟨by omega, by omega⟩ (by decide) (by omega)
def zw69 : List Nat := [206, 207]
theorem zB69 {T : List zK} {d : Nat} {K : Option Value → zH → Prop} {a0 : Nat} {q : Nat} {t : Nat} {m : Nat} {J : Nat} {p1 : Int32} {M0 : zH} (k0 : T[a0]? = some (.inl (3, q, t, m, J))) (u1 : (-1) ≤ p1.toInt ∧ p1.toInt ≤ 2147483647) (kk : ∀ (x : Int32) (M1 : zH), z_X T zw69 M0 M1 → K (some (.int x)) M1) : ∀ n : Nat, (∀ (M : zH) (b2 : Int32) (b3 : Int32) (b4 : Int32) (o5 : Option Value), z_X T zw69 M0 M → 0 ≤ b4.toInt ∧ b4.toInt ≤ 1024 → ((0) * 3 + 1) * 1025 + (1024 - b4.toInt) < (n : Int) → z_ev (d + 2) 69 11 [some (.ref a0), some (.int p1), some (.int b2), some (.int b3), some (.int b4), o5] [] M K) ∧ (∀ (M : zH) (b2 : Int32) (b3 : Int32) (b4 : Int32) (b5 : Int32), z_X T zw69 M0 M → 0 ≤ p1.toInt ∧ p1.toInt ≤ 2147483647 → 0 ≤ b5.toInt ∧ b5.toInt ≤ 1024 → ((0) * 3 + 0) * 1025 + (1024 - b5.toInt) < (n : Int) → z_ev (d + 2) 69 83 [some (.ref a0), some (.int p1), some (.int b2), some (.int b3), some (.int b4), some (.int b5)] [] M K) := by
  intro n
  induction n with
  | zero => exact ⟨(by intros; exfalso; omega), (by intros; exfalso; omega)⟩
  | succ n ih =>
    refine ⟨?_, ?_⟩
    · skip
      intro M b2 b3 b4 o5 X hh0 hE
      have g0 := X.1.p3 k0
      refine z_xP zt69 3 14 [some (.ref a0), some (.int p1), some (.int b2), some (.int b3), some (.int b4), o5] [.ref a0, .int b4] rfl rfl ?_
      refine z_xgR (κ := .inl (2, q, t, m, 0)) zt69 4 rfl zo69 zzf3_39 X k0 (by decide) (by decide) rfl (fun (a2 : Nat) h1 k3 => ?_)
      have g4 := X.1.p2 k3
      refine z_xgR (κ := .inr (102, 0, m, 0, 1023)) zt69 5 rfl zo69 zzf3_101 X k3 (by decide) (by decide) rfl (fun (a6 : Nat) h5 k7 => ?_)
      refine z_xln zt69 6 rfl X k7 (by decide) (by omega) (fun (x8 : Int32) (h9 : x8.toInt = ((m : Nat) : Int)) => ?_)
      refine z_xJ zt69 7 rfl rfl (fun (h10 : x8.toInt ≤ b4.toInt) => ?_) (fun (h10 : b4.toInt < x8.toInt) => ?_)
      · skip
        refine z_xP zt69 24 72 [some (.ref a0), some (.int p1), some (.int b2), some (.int b3), some (.int b4), o5] [.int p1] rfl rfl ?_
        refine z_xZ zt69 25 rfl rfl (fun (h11 : 0 ≤ p1.toInt) => ?_) (fun (h11 : p1.toInt < 0) => ?_)
        · skip
          refine z_xP zt69 28 83 [some (.ref a0), some (.int p1), some (.int b2), some (.int b3), some (.int 0), some (.int 0)] [] rfl rfl ?_
          have h12 := z_b32 p1
          have q0 : ((0 : Int32)).toInt = 0 := rfl
          exact ih.2 M b2 b3 (0) (0) X ⟨by omega, by omega⟩ (by decide) (by omega)
        refine z_xP zt69 26 76 [some (.ref a0), some (.int p1), some (.int b2), some (.int b3), some (.int b4), o5] [.int b2] rfl rfl ?_
        exact z_xri zt69 27 rfl zzr69 (kk b2 M X)
      refine z_xP zt69 8 26 [some (.ref a0), some (.int p1), some (.int b2), some (.int b3), some (.int b4), o5] [.ref a0, .ref a0] rfl rfl ?_
      refine z_xgv zt69 9 rfl zo69 zzf3_39 X k0 (by decide) h1 ?_
      refine z_xgv zt69 10 rfl zo69 zzf3_101 X k3 (by decide) h5 ?_
      refine z_xP zt69 11 34 [some (.ref a0), some (.int p1), some (.int b2), some (.int b3), some (.int b4), o5] [.int b4, .ref a6, .ref a0] rfl rfl ?_
      refine z_xil zt69 12 rfl X k7 (by decide) (by omega) (by omega) (fun (x13 : Int32) h14 (h15 : 0 ≤ x13.toInt) (h16 : x13.toInt ≤ 1023) => ?_)
      refine z_xcV (vs := [.ref a0, .int x13]) (r := []) (L2 := [some (.ref a0), some (.int x13)]) zt69 13 rfl zo69 zzcV3_104 (Or.inl rfl) rfl X k0 rfl rfl rfl (Nat.le_of_ble_eq_true rfl) zzm72 (Nat.le_of_ble_eq_true rfl) rfl ?_
      refine z_xP zt72 0 1 [some (.ref a0), some (.int x13)] [.ref a0] rfl rfl ?_
      refine z_xgR (κ := .inr (206, 0, 32, (-2147483648), 2147483647)) zt72 1 rfl zo72 zzf3_24 X k0 (by decide) (by decide) rfl (fun (a18 : Nat) h17 k19 => ?_)
      refine z_xP zt72 2 7 [some (.ref a0), some (.int x13)] [.int 31, .int x13, .ref a18] rfl rfl ?_
      refine z_xI zt72 3 rfl rfl (fun (x20 : Int32) (h21 : 0 ≤ x20.toInt ∧ x20.toInt ≤ x13.toInt ∧ x20.toInt ≤ 31) => ?_) (z_pAnd2 rfl rfl (by omega) (by omega))
      refine z_xil zt72 4 rfl X k19 (by decide) (by omega) (by omega) (fun (x22 : Int32) h23 (h24 : (-2147483648) ≤ x22.toInt) (h25 : x22.toInt ≤ 2147483647) => ?_)
      refine z_xP zt72 5 10 [some (.ref a0), some (.int x13)] [.ref a0, .int x22] rfl rfl ?_
      refine z_xgR (κ := .inr (207, 0, 32, (-2147483648), 2147483647)) zt72 6 rfl zo72 zzf3_27 X k0 (by decide) (by decide) rfl (fun (a27 : Nat) h26 k28 => ?_)
      refine z_xP zt72 7 15 [some (.ref a0), some (.int x13)] [.int 5, .int x13, .ref a27, .int x22] rfl rfl ?_
      refine z_xI zt72 8 rfl rfl (fun (x29 : Int32) (h30 : x29.toInt = x13.toInt / 32) => ?_) (z_pShr (c := 32) 5 rfl rfl (by decide))
      refine z_xP zt72 9 18 [some (.ref a0), some (.int x13)] [.int 31, .int x29, .ref a27, .int x22] rfl rfl ?_
      refine z_xI zt72 10 rfl rfl (fun (x31 : Int32) (h32 : 0 ≤ x31.toInt ∧ x31.toInt ≤ x29.toInt ∧ x31.toInt ≤ 31) => ?_) (z_pAnd2 rfl rfl (by omega) (by omega))
      refine z_xil zt72 11 rfl X k28 (by decide) (by omega) (by omega) (fun (x33 : Int32) h34 (h35 : (-2147483648) ≤ x33.toInt) (h36 : x33.toInt ≤ 2147483647) => ?_)
      have h37 := z_b32 x22
      have h38 := z_b32 x33
      refine z_xI zt72 12 rfl rfl (P := fun _ => True) (fun (x39 : Int32) _ => ?_) trivial
      refine z_xri zt72 13 rfl zzr72 ?_
      show z_ev (d + 2) 69 38 [some (.ref a0), some (.int p1), some (.int b2), some (.int b3), some (.int b4), o5] [.int x39] M _
      refine z_xP zt69 14 42 [some (.ref a0), some (.int p1), some (.int b2), some (.int b3), some (.int b4), some (.int x39)] [.int b4] rfl rfl ?_
      refine z_xZ zt69 15 rfl rfl (fun (h41 : b4.toInt = 0) => ?_) (fun (h41 : b4.toInt ≠ 0) => ?_)
      · skip
        refine z_xP zt69 18 56 [some (.ref a0), some (.int p1), some (.int 0), some (.int x39), some (.int b4), some (.int x39)] [] rfl rfl ?_
        refine z_xP zt69 19 59 [some (.ref a0), some (.int p1), some (.int 0), some (.int x39), some (.int b4), some (.int x39)] [.int x39, .int x39] rfl rfl ?_
        have h42 := z_b32 x39
        refine z_xJ zt69 20 rfl rfl (fun (h43 : x39.toInt ≠ x39.toInt) => absurd h43 (by omega)) (fun (h43 : x39.toInt = x39.toInt) => ?_)
        refine z_xN zt69 21 rfl rfl (fun (x44 : Int32) (h45 : x44.toInt = 0 + 1) => ?_) (z_pAdd rfl rfl (by omega) (by omega))
        show z_ev (d + 2) 69 65 [some (.ref a0), some (.int p1), some (.int x44), some (.int x39), some (.int b4), some (.int x39)] [] M _
        refine z_xN zt69 22 rfl rfl (fun (x46 : Int32) (h47 : x46.toInt = b4.toInt + 1) => ?_) (z_pAdd rfl rfl (by omega) (by omega))
        show z_ev (d + 2) 69 68 [some (.ref a0), some (.int p1), some (.int x44), some (.int x39), some (.int x46), some (.int x39)] [] M _
        refine z_xP zt69 23 11 [some (.ref a0), some (.int p1), some (.int x44), some (.int x39), some (.int x46), some (.int x39)] [] rfl rfl ?_
        exact ih.1 M x44 x39 x46 (some (.int x39)) X ⟨by omega, by omega⟩ (by omega)
      refine z_xP zt69 16 48 [some (.ref a0), some (.int p1), some (.int b2), some (.int b3), some (.int b4), some (.int x39)] [.int b3, .int x39] rfl rfl ?_
      have h48 := z_b32 x39
      have h49 := z_b32 b3
      refine z_xJ zt69 17 rfl rfl (fun (h50 : x39.toInt ≤ b3.toInt) => ?_) (fun (h50 : b3.toInt < x39.toInt) => ?_)
      · skip
        refine z_xP zt69 19 59 [some (.ref a0), some (.int p1), some (.int b2), some (.int b3), some (.int b4), some (.int x39)] [.int b3, .int x39] rfl rfl ?_
        refine z_xJ zt69 20 rfl rfl (fun (h51 : x39.toInt ≠ b3.toInt) => ?_) (fun (h51 : x39.toInt = b3.toInt) => ?_)
        · skip
          refine z_xN zt69 22 rfl rfl (fun (x52 : Int32) (h53 : x52.toInt = b4.toInt + 1) => ?_) (z_pAdd rfl rfl (by omega) (by omega))
          show z_ev (d + 2) 69 68 [some (.ref a0), some (.int p1), some (.int b2), some (.int b3), some (.int x52), some (.int x39)] [] M _
          refine z_xP zt69 23 11 [some (.ref a0), some (.int p1), some (.int b2), some (.int b3), some (.int x52), some (.int x39)] [] rfl rfl ?_
          exact ih.1 M b2 b3 x52 (some (.int x39)) X ⟨by omega, by omega⟩ (by omega)
        have h54 := z_b32 b2
        refine z_xN zt69 21 rfl rfl (fun (x55 : Int32) (h56 : True) => ?_) (trivial)
        show z_ev (d + 2) 69 65 [some (.ref a0), some (.int p1), some (.int x55), some (.int b3), some (.int b4), some (.int x39)] [] M _
        refine z_xN zt69 22 rfl rfl (fun (x57 : Int32) (h58 : x57.toInt = b4.toInt + 1) => ?_) (z_pAdd rfl rfl (by omega) (by omega))
        show z_ev (d + 2) 69 68 [some (.ref a0), some (.int p1), some (.int x55), some (.int b3), some (.int x57), some (.int x39)] [] M _
        refine z_xP zt69 23 11 [some (.ref a0), some (.int p1), some (.int x55), some (.int b3), some (.int x57), some (.int x39)] [] rfl rfl ?_
        exact ih.1 M x55 b3 x57 (some (.int x39)) X ⟨by omega, by omega⟩ (by omega)
      refine z_xP zt69 18 56 [some (.ref a0), some (.int p1), some (.int 0), some (.int x39), some (.int b4), some (.int x39)] [] rfl rfl ?_
      refine z_xP zt69 19 59 [some (.ref a0), some (.int p1), some (.int 0), some (.int x39), some (.int b4), some (.int x39)] [.int x39, .int x39] rfl rfl ?_
      refine z_xJ zt69 20 rfl rfl (fun (h59 : x39.toInt ≠ x39.toInt) => absurd h59 (by omega)) (fun (h59 : x39.toInt = x39.toInt) => ?_)
      refine z_xN zt69 21 rfl rfl (fun (x60 : Int32) (h61 : x60.toInt = 0 + 1) => ?_) (z_pAdd rfl rfl (by omega) (by omega))
      show z_ev (d + 2) 69 65 [some (.ref a0), some (.int p1), some (.int x60), some (.int x39), some (.int b4), some (.int x39)] [] M _
      refine z_xN zt69 22 rfl rfl (fun (x62 : Int32) (h63 : x62.toInt = b4.toInt + 1) => ?_) (z_pAdd rfl rfl (by omega) (by omega))
      show z_ev (d + 2) 69 68 [some (.ref a0), some (.int p1), some (.int x60), some (.int x39), some (.int x62), some (.int x39)] [] M _
      refine z_xP zt69 23 11 [some (.ref a0), some (.int p1), some (.int x60), some (.int x39), some (.int x62), some (.int x39)] [] rfl rfl ?_
      exact ih.1 M x60 x39 x62 (some (.int x39)) X ⟨by omega, by omega⟩ (by omega)
    · skip
      intro M b2 b3 b4 b5 X hh0 hh1 hE
      have g0 := X.1.p3 k0
      refine z_xP zt69 29 86 [some (.ref a0), some (.int p1), some (.int b2), some (.int b3), some (.int b4), some (.int b5)] [.ref a0, .int b5] rfl rfl ?_
      refine z_xgR (κ := .inl (2, q, t, m, 0)) zt69 30 rfl zo69 zzf3_39 X k0 (by decide) (by decide) rfl (fun (a2 : Nat) h1 k3 => ?_)
      have g4 := X.1.p2 k3
      refine z_xgR (κ := .inr (102, 0, m, 0, 1023)) zt69 31 rfl zo69 zzf3_101 X k3 (by decide) (by decide) rfl (fun (a6 : Nat) h5 k7 => ?_)
      refine z_xln zt69 32 rfl X k7 (by decide) (by omega) (fun (x8 : Int32) (h9 : x8.toInt = ((m : Nat) : Int)) => ?_)
      refine z_xJ zt69 33 rfl rfl (fun (h10 : x8.toInt ≤ b5.toInt) => ?_) (fun (h10 : b5.toInt < x8.toInt) => ?_)
      · skip
        refine z_xP zt69 54 144 [some (.ref a0), some (.int p1), some (.int b2), some (.int b3), some (.int b4), some (.int b5)] [.int (-1)] rfl rfl ?_
        have qm1 : (((-1) : Int32)).toInt = (-1) := rfl
        exact z_xri zt69 55 rfl zzr69 (kk (-1) M X)
      refine z_xP zt69 34 98 [some (.ref a0), some (.int p1), some (.int b2), some (.int b3), some (.int b4), some (.int b5)] [.ref a0, .ref a0] rfl rfl ?_
      refine z_xgv zt69 35 rfl zo69 zzf3_39 X k0 (by decide) h1 ?_
      refine z_xgv zt69 36 rfl zo69 zzf3_101 X k3 (by decide) h5 ?_
      refine z_xP zt69 37 106 [some (.ref a0), some (.int p1), some (.int b2), some (.int b3), some (.int b4), some (.int b5)] [.int b5, .ref a6, .ref a0] rfl rfl ?_
      refine z_xil zt69 38 rfl X k7 (by decide) (by omega) (by omega) (fun (x11 : Int32) h12 (h13 : 0 ≤ x11.toInt) (h14 : x11.toInt ≤ 1023) => ?_)
      refine z_xcV (vs := [.ref a0, .int x11]) (r := []) (L2 := [some (.ref a0), some (.int x11)]) zt69 39 rfl zo69 zzcV3_104 (Or.inl rfl) rfl X k0 rfl rfl rfl (Nat.le_of_ble_eq_true rfl) zzm72 (Nat.le_of_ble_eq_true rfl) rfl ?_
      refine z_xP zt72 0 1 [some (.ref a0), some (.int x11)] [.ref a0] rfl rfl ?_
      refine z_xgR (κ := .inr (206, 0, 32, (-2147483648), 2147483647)) zt72 1 rfl zo72 zzf3_24 X k0 (by decide) (by decide) rfl (fun (a16 : Nat) h15 k17 => ?_)
      refine z_xP zt72 2 7 [some (.ref a0), some (.int x11)] [.int 31, .int x11, .ref a16] rfl rfl ?_
      refine z_xI zt72 3 rfl rfl (fun (x18 : Int32) (h19 : 0 ≤ x18.toInt ∧ x18.toInt ≤ x11.toInt ∧ x18.toInt ≤ 31) => ?_) (z_pAnd2 rfl rfl (by omega) (by omega))
      refine z_xil zt72 4 rfl X k17 (by decide) (by omega) (by omega) (fun (x20 : Int32) h21 (h22 : (-2147483648) ≤ x20.toInt) (h23 : x20.toInt ≤ 2147483647) => ?_)
      refine z_xP zt72 5 10 [some (.ref a0), some (.int x11)] [.ref a0, .int x20] rfl rfl ?_
      refine z_xgR (κ := .inr (207, 0, 32, (-2147483648), 2147483647)) zt72 6 rfl zo72 zzf3_27 X k0 (by decide) (by decide) rfl (fun (a25 : Nat) h24 k26 => ?_)
      refine z_xP zt72 7 15 [some (.ref a0), some (.int x11)] [.int 5, .int x11, .ref a25, .int x20] rfl rfl ?_
      refine z_xI zt72 8 rfl rfl (fun (x27 : Int32) (h28 : x27.toInt = x11.toInt / 32) => ?_) (z_pShr (c := 32) 5 rfl rfl (by decide))
      refine z_xP zt72 9 18 [some (.ref a0), some (.int x11)] [.int 31, .int x27, .ref a25, .int x20] rfl rfl ?_
      refine z_xI zt72 10 rfl rfl (fun (x29 : Int32) (h30 : 0 ≤ x29.toInt ∧ x29.toInt ≤ x27.toInt ∧ x29.toInt ≤ 31) => ?_) (z_pAnd2 rfl rfl (by omega) (by omega))
      refine z_xil zt72 11 rfl X k26 (by decide) (by omega) (by omega) (fun (x31 : Int32) h32 (h33 : (-2147483648) ≤ x31.toInt) (h34 : x31.toInt ≤ 2147483647) => ?_)
      have h35 := z_b32 x20
      have h36 := z_b32 x31
      refine z_xI zt72 12 rfl rfl (P := fun _ => True) (fun (x37 : Int32) _ => ?_) trivial
      refine z_xri zt72 13 rfl zzr72 ?_
      show z_ev (d + 2) 69 110 [some (.ref a0), some (.int p1), some (.int b2), some (.int b3), some (.int b4), some (.int b5)] [.int x37] M _
      refine z_xP zt69 40 111 [some (.ref a0), some (.int p1), some (.int b2), some (.int b3), some (.int b4), some (.int b5)] [.int b3, .int x37] rfl rfl ?_
      have h39 := z_b32 x37
      have h40 := z_b32 b3
      refine z_xJ zt69 41 rfl rfl (fun (h41 : x37.toInt = b3.toInt) => ?_) (fun (h41 : x37.toInt ≠ b3.toInt) => ?_)
      · skip
        refine z_xP zt69 43 120 [some (.ref a0), some (.int p1), some (.int b2), some (.int b3), some (.int b4), some (.int b5)] [.int p1, .int b4] rfl rfl ?_
        have h42 := z_b32 b4
        have h43 := z_b32 p1
        refine z_xJ zt69 44 rfl rfl (fun (h44 : b4.toInt ≠ p1.toInt) => ?_) (fun (h44 : b4.toInt = p1.toInt) => ?_)
        · skip
          refine z_xN zt69 51 rfl rfl (fun (x45 : Int32) (h46 : True) => ?_) (trivial)
          show z_ev (d + 2) 69 137 [some (.ref a0), some (.int p1), some (.int b2), some (.int b3), some (.int x45), some (.int b5)] [] M _
          refine z_xN zt69 52 rfl rfl (fun (x47 : Int32) (h48 : x47.toInt = b5.toInt + 1) => ?_) (z_pAdd rfl rfl (by omega) (by omega))
          show z_ev (d + 2) 69 140 [some (.ref a0), some (.int p1), some (.int b2), some (.int b3), some (.int x45), some (.int x47)] [] M _
          refine z_xP zt69 53 83 [some (.ref a0), some (.int p1), some (.int b2), some (.int b3), some (.int x45), some (.int x47)] [] rfl rfl ?_
          exact ih.2 M b2 b3 x45 x47 X ⟨by omega, by omega⟩ ⟨by omega, by omega⟩ (by omega)
        refine z_xP zt69 45 124 [some (.ref a0), some (.int p1), some (.int b2), some (.int b3), some (.int b4), some (.int b5)] [.ref a0] rfl rfl ?_
        refine z_xgv zt69 46 rfl zo69 zzf3_39 X k0 (by decide) h1 ?_
        refine z_xgv zt69 47 rfl zo69 zzf3_101 X k3 (by decide) h5 ?_
        refine z_xP zt69 48 132 [some (.ref a0), some (.int p1), some (.int b2), some (.int b3), some (.int b4), some (.int b5)] [.int b5, .ref a6] rfl rfl ?_
        refine z_xil zt69 49 rfl X k7 (by decide) (by omega) (by omega) (fun (x49 : Int32) h50 (h51 : 0 ≤ x49.toInt) (h52 : x49.toInt ≤ 1023) => ?_)
        have h53 := congrArg Int32.toInt (h50.symm.trans h12)
        exact z_xri zt69 50 rfl zzr69 (kk x49 M X)
      refine z_xP zt69 42 137 [some (.ref a0), some (.int p1), some (.int b2), some (.int b3), some (.int b4), some (.int b5)] [] rfl rfl ?_
      refine z_xN zt69 52 rfl rfl (fun (x54 : Int32) (h55 : x54.toInt = b5.toInt + 1) => ?_) (z_pAdd rfl rfl (by omega) (by omega))
      show z_ev (d + 2) 69 140 [some (.ref a0), some (.int p1), some (.int b2), some (.int b3), some (.int b4), some (.int x54)] [] M _
      refine z_xP zt69 53 83 [some (.ref a0), some (.int p1), some (.int b2), some (.int b3), some (.int b4), some (.int x54)] [] rfl rfl ?_
      have h56 := z_b32 p1
      exact ih.2 M b2 b3 b4 x54 X ⟨by omega, by omega⟩ ⟨by omega, by omega⟩ (by omega)
theorem zC69 {T : List zK} {d : Nat} {K : Option Value → zH → Prop} {a0 : Nat} {q : Nat} {t : Nat} {m : Nat} {J : Nat} {p1 : Int32} {M0 : zH} (hW : z_W M0 T) (k0 : T[a0]? = some (.inl (3, q, t, m, J))) (u1 : (-1) ≤ p1.toInt ∧ p1.toInt ≤ 2147483647) (kk : ∀ (x : Int32) (M1 : zH), z_X T zw69 M0 M1 → K (some (.int x)) M1) : z_ev (d + 2) 69 0 [some (.ref a0), some (.int p1), none, none, none, none] [] M0 K := by
  have X : z_X T zw69 M0 M0 := .refl hW
  have g0 := X.1.p3 k0
  refine z_xP zt69 0 1 [some (.ref a0), some (.int p1), none, none, none, none] [.ref a0] rfl rfl ?_
  refine z_xcV (vs := [.ref a0]) (r := []) (L2 := [some (.ref a0), none, none]) zt69 1 rfl zo69 zzcV3_98 (Or.inl rfl) rfl X k0 rfl rfl rfl (Nat.le_of_ble_eq_true rfl) zzm70 (Nat.le_of_ble_eq_true rfl) rfl ?_
  refine zC70 X.1 k0 (fun M1 X2  => ?_)
  have X3 := X.go X2 (z_sb (by decide))
  show z_ev (d + 2) 69 4 [some (.ref a0), some (.int p1), none, none, none, none] [] M1 _
  refine z_xP zt69 2 11 [some (.ref a0), some (.int p1), some (.int 0), some (.int 0), some (.int 0), none] [] rfl rfl ?_
  have q0 : ((0 : Int32)).toInt = 0 := rfl
  exact (zB69 k0 u1 kk 3075).1 M1 (0) (0) (0) none X3 (by decide) (by omega)
def zw68 : List Nat := [206, 207]
theorem zC68 {T : List zK} {d : Nat} {K : Option Value → zH → Prop} {p1 : Int32} {p2 : Int32} {M0 : zH} (hW : z_W M0 T)  (hG : z_GG T M0) (kk : ∀ (x : Int32) (M1 : zH), z_X T zw68 M0 M1 → K (some (.int x)) M1) : z_ev (d + 3) 68 0 [some (.ref 4), some (.int p1), some (.int p2), none] [] M0 K := by
  have X : z_X T zw68 M0 M0 := .refl hW
  refine z_xP zt68 0 2 [some (.ref 4), some (.int p1), some (.int p2), none] [.int p1, .ref 4] rfl rfl ?_
  have f4 : T[4]? = some (.inl (0, 0, 0, 0, 0)) := X.1.k rfl (by decide)
  refine z_xcV (vs := [.ref 4, .int p1]) (r := []) (L2 := [some (.ref 4), some (.int p1)]) zt68 1 rfl zo68 zzcV0_85 (Or.inl rfl) rfl X f4 rfl rfl rfl (Nat.le_of_ble_eq_true rfl) zzm35 (Nat.le_of_ble_eq_true rfl) rfl ?_
  refine z_xP zt35 0 1 [some (.ref 4), some (.int p1)] [.int p1] rfl rfl ?_
  refine z_xZ zt35 1 rfl rfl (fun (h1 : p1.toInt < 0) => ?_) (fun (h1 : 0 ≤ p1.toInt) => ?_)
  · skip
    refine z_xP zt35 5 22 [some (.ref 4), some (.int p1)] [.null] rfl rfl ?_
    refine z_xrn zt35 10 rfl zzr35 ?_
    show z_ev (d + 3) 68 5 [some (.ref 4), some (.int p1), some (.int p2), none] [.null] M0 _
    refine z_xP zt68 2 15 [some (.ref 4), some (.int p1), some (.int p2), some (.null)] [] rfl rfl ?_
    refine z_xP zt68 5 16 [some (.ref 4), some (.int p1), some (.int p2), some (.null)] [.int (-1)] rfl rfl ?_
    have qm1 : (((-1) : Int32)).toInt = (-1) := rfl
    exact z_xri zt68 6 rfl zzr68 (kk (-1) M0 X)
  refine z_xP zt35 2 6 [some (.ref 4), some (.int p1)] [.ref 4, .int p1] rfl rfl ?_
  refine z_xgI zt35 3 rfl zo35 zzf0_59 X f4 (by decide) (by decide) rfl (fun (x3 : Int32) h2 (h4 : 0 ≤ x3.toInt) (h5 : x3.toInt ≤ 8) => ?_)
  have h6 := z_b32 p1
  refine z_xJ zt35 4 rfl rfl (fun (h7 : p1.toInt < x3.toInt) => ?_) (fun (h7 : x3.toInt ≤ p1.toInt) => ?_)
  · skip
    refine z_xP zt35 6 17 [some (.ref 4), some (.int p1)] [.ref 4] rfl rfl ?_
    refine z_xgX (b := 10) zt35 7 rfl zo35 zzf0_18 X f4 (by decide) (by decide) rfl ?_
    refine z_xP zt35 8 21 [some (.ref 4), some (.int p1)] [.int p1, .ref 10] rfl rfl ?_
    have f10 : T[10]? = some (.inr (10, 2, 8, 9, 0)) := X.1.k rfl (by decide)
    refine z_xal zt35 9 rfl X f10 (by decide) (by decide) (by decide) (by omega) (by omega) (fun (a8 : Nat) h9 h10 => ?_) (fun h11 => absurd h11 (z_Gs (hG.go X (by decide)).2.1 h2 (by omega) (by omega)))
    obtain ⟨q12, t13, m14, k15⟩ : ∃ q t m, T[a8]? = some (.inl (3, q, t, m, 9)) := h10
    have g16 := X.1.p3 k15
    refine z_xra zt35 10 rfl zzr35 ?_
    show z_ev (d + 3) 68 5 [some (.ref 4), some (.int p1), some (.int p2), none] [.ref a8] M0 _
    refine z_xP zt68 2 10 [some (.ref 4), some (.int p1), some (.int p2), some (.ref a8)] [] rfl rfl ?_
    refine z_xP zt68 3 12 [some (.ref 4), some (.int p1), some (.int p2), some (.ref a8)] [.int (-1), .int p2] rfl rfl ?_
    refine z_xJ zt68 4 rfl rfl (fun (h17 : (-1) ≤ p2.toInt) => ?_) (fun (h17 : p2.toInt < (-1)) => ?_)
    · skip
      refine z_xP zt68 7 19 [some (.ref 4), some (.int p1), some (.int p2), some (.ref a8)] [.int p2, .ref a8] rfl rfl ?_
      refine z_xcV (vs := [.ref a8, .int p2]) (r := []) (L2 := [some (.ref a8), some (.int p2), none, none, none, none]) zt68 8 rfl zo68 zzcV0_182 (Or.inl rfl) rfl X k15 rfl rfl rfl (Nat.le_of_ble_eq_true rfl) zzm69 (Nat.le_of_ble_eq_true rfl) rfl ?_
      have h18 := z_b32 p2
      refine zC69 X.1 k15 (by omega) (fun x21 M19 X20  => ?_)
      have X22 := X.go X20 (z_sb (by decide))
      show z_ev (d + 3) 68 22 [some (.ref 4), some (.int p1), some (.int p2), some (.ref a8)] [.int x21] M19 _
      exact z_xri zt68 9 rfl zzr68 (kk x21 M19 X22)
    refine z_xP zt68 5 16 [some (.ref 4), some (.int p1), some (.int p2), some (.ref a8)] [.int (-1)] rfl rfl ?_
    have qm1 : (((-1) : Int32)).toInt = (-1) := rfl
    exact z_xri zt68 6 rfl zzr68 (kk (-1) M0 X)
  refine z_xP zt35 5 22 [some (.ref 4), some (.int p1)] [.null] rfl rfl ?_
  refine z_xrn zt35 10 rfl zzr35 ?_
  show z_ev (d + 3) 68 5 [some (.ref 4), some (.int p1), some (.int p2), none] [.null] M0 _
  refine z_xP zt68 2 15 [some (.ref 4), some (.int p1), some (.int p2), some (.null)] [] rfl rfl ?_
  refine z_xP zt68 5 16 [some (.ref 4), some (.int p1), some (.int p2), some (.null)] [.int (-1)] rfl rfl ?_
  have qm1 : (((-1) : Int32)).toInt = (-1) := rfl
  exact z_xri zt68 6 rfl zzr68 (kk (-1) M0 X)
def zw83 : List Nat := []
theorem zC83 {T : List zK} {d : Nat} {K : Option Value → zH → Prop} {p1 : Int32} {p2 : Int32} {M0 : zH} (hW : z_W M0 T)  (hG : z_GG T M0) (kk : ∀ (x : Int32) (M1 : zH), z_X T zw83 M0 M1 → (-1) ≤ x.toInt → x.toInt ≤ 9 → K (some (.int x)) M1) : z_ev (d + 1) 83 0 [some (.ref 4), some (.int p1), some (.int p2), none] [] M0 K := by
  have X : z_X T zw83 M0 M0 := .refl hW
  refine z_xP zt83 0 2 [some (.ref 4), some (.int p1), some (.int p2), none] [.int p1, .ref 4] rfl rfl ?_
  have f4 : T[4]? = some (.inl (0, 0, 0, 0, 0)) := X.1.k rfl (by decide)
  refine z_xcV (vs := [.ref 4, .int p1]) (r := []) (L2 := [some (.ref 4), some (.int p1)]) zt83 1 rfl zo83 zzcV0_221 (Or.inl rfl) rfl X f4 rfl rfl rfl (Nat.le_of_ble_eq_true rfl) zzm84 (Nat.le_of_ble_eq_true rfl) rfl ?_
  refine z_xP zt84 0 1 [some (.ref 4), some (.int p1)] [.int p1] rfl rfl ?_
  refine z_xZ zt84 1 rfl rfl (fun (h1 : p1.toInt < 0) => ?_) (fun (h1 : 0 ≤ p1.toInt) => ?_)
  · skip
    refine z_xP zt84 5 22 [some (.ref 4), some (.int p1)] [.null] rfl rfl ?_
    refine z_xrn zt84 10 rfl zzr84 ?_
    show z_ev (d + 1) 83 5 [some (.ref 4), some (.int p1), some (.int p2), none] [.null] M0 _
    refine z_xP zt83 2 10 [some (.ref 4), some (.int p1), some (.int p2), some (.null)] [] rfl rfl ?_
    refine z_xP zt83 3 11 [some (.ref 4), some (.int p1), some (.int p2), some (.null)] [.int (-1)] rfl rfl ?_
    have qm1 : (((-1) : Int32)).toInt = (-1) := rfl
    exact z_xri zt83 4 rfl zzr83 (kk (-1) M0 X (by omega) (by omega))
  refine z_xP zt84 2 6 [some (.ref 4), some (.int p1)] [.ref 4, .int p1] rfl rfl ?_
  refine z_xgI zt84 3 rfl zo84 zzf0_188 X f4 (by decide) (by decide) rfl (fun (x3 : Int32) h2 (h4 : 0 ≤ x3.toInt) (h5 : x3.toInt ≤ 20) => ?_)
  have h6 := z_b32 p1
  refine z_xJ zt84 4 rfl rfl (fun (h7 : p1.toInt < x3.toInt) => ?_) (fun (h7 : x3.toInt ≤ p1.toInt) => ?_)
  · skip
    refine z_xP zt84 6 17 [some (.ref 4), some (.int p1)] [.ref 4] rfl rfl ?_
    refine z_xgX (b := 12) zt84 7 rfl zo84 zzf0_27 X f4 (by decide) (by decide) rfl ?_
    refine z_xP zt84 8 21 [some (.ref 4), some (.int p1)] [.int p1, .ref 12] rfl rfl ?_
    have f12 : T[12]? = some (.inr (12, 3, 20, 0, 0)) := X.1.k rfl (by decide)
    refine z_xal zt84 9 rfl X f12 (by decide) (by decide) (by decide) (by omega) (by omega) (fun (a8 : Nat) h9 h10 => ?_) (fun h11 => absurd h11 (z_Gb (hG.go X (by decide)).2.1 h2 (by omega) (by omega)))
    obtain ⟨c12, w13l, w13u, k14⟩ : ∃ ci, 4 ≤ ci ∧ ci ≤ 11 ∧ T[a8]? = some (.inl (ci, 0, 0, 0, 0)) := h10
    have w13 := And.intro w13l w13u
    refine z_xra zt84 10 rfl zzr84 ?_
    show z_ev (d + 1) 83 5 [some (.ref 4), some (.int p1), some (.int p2), none] [.ref a8] M0 _
    refine z_xP zt83 2 12 [some (.ref 4), some (.int p1), some (.int p2), some (.ref a8)] [] rfl rfl ?_
    refine z_xP zt83 5 13 [some (.ref 4), some (.int p1), some (.int p2), some (.ref a8)] [.int p2] rfl rfl ?_
    by_cases h15 : p2.toInt = 0
    · refine z_xSC zt83 6 (z_sub (k := 0) h15 rfl) 40 rfl rfl ?_
      refine z_xP zt83 7 41 [some (.ref 4), some (.int p1), some (.int p2), some (.ref a8)] [.ref a8] rfl rfl ?_
      refine z_xgI zt83 8 rfl zo83 zzf0_225 X k14 (z_w8 (fun c => c ∈ ([4, 5, 6, 7, 8, 9, 10, 11] : List Nat)) (by decide) (by decide) (by decide) (by decide) (by decide) (by decide) (by decide) (by decide) w13) (z_nf8 w13 (by decide)) (z_fs8 w13) (fun (x17 : Int32) h16 (h18 : 0 ≤ x17.toInt) (h19 : x17.toInt ≤ 7) => ?_)
      exact z_xri zt83 9 rfl zzr83 (kk x17 M0 X (by omega) (by omega))
    by_cases h20 : p2.toInt = 1
    · refine z_xSC zt83 6 (z_sub (k := 1) h20 rfl) 45 rfl rfl ?_
      refine z_xP zt83 10 46 [some (.ref 4), some (.int p1), some (.int p2), some (.ref a8)] [.ref a8] rfl rfl ?_
      refine z_xgI zt83 11 rfl zo83 zzf0_228 X k14 (z_w8 (fun c => c ∈ ([4, 5, 6, 7, 8, 9, 10, 11] : List Nat)) (by decide) (by decide) (by decide) (by decide) (by decide) (by decide) (by decide) (by decide) w13) (z_nf8 w13 (by decide)) (z_fs8 w13) (fun (x22 : Int32) h21 (h23 : 0 ≤ x22.toInt) (h24 : x22.toInt ≤ 9) => ?_)
      exact z_xri zt83 12 rfl zzr83 (kk x22 M0 X (by omega) (by omega))
    by_cases h25 : p2.toInt = 2
    · refine z_xSC zt83 6 (z_sub (k := 2) h25 rfl) 50 rfl rfl ?_
      refine z_xP zt83 13 51 [some (.ref 4), some (.int p1), some (.int p2), some (.ref a8)] [.ref a8] rfl rfl ?_
      refine z_xgI zt83 14 rfl zo83 zzf0_231 X k14 (z_w8 (fun c => c ∈ ([4, 5, 6, 7, 8, 9, 10, 11] : List Nat)) (by decide) (by decide) (by decide) (by decide) (by decide) (by decide) (by decide) (by decide) w13) (z_nf8 w13 (by decide)) (z_fs8 w13) (fun (x27 : Int32) h26 (h28 : 0 ≤ x27.toInt) (h29 : x27.toInt ≤ 8) => ?_)
      exact z_xri zt83 15 rfl zzr83 (kk x27 M0 X (by omega) (by omega))
    refine z_xSD zt83 6 rfl rfl (by omega) ?_
    refine z_xP zt83 16 56 [some (.ref 4), some (.int p1), some (.int p2), some (.ref a8)] [.int (-1)] rfl rfl ?_
    have qm1 : (((-1) : Int32)).toInt = (-1) := rfl
    exact z_xri zt83 17 rfl zzr83 (kk (-1) M0 X (by omega) (by omega))
  refine z_xP zt84 5 22 [some (.ref 4), some (.int p1)] [.null] rfl rfl ?_
  refine z_xrn zt84 10 rfl zzr84 ?_
  show z_ev (d + 1) 83 5 [some (.ref 4), some (.int p1), some (.int p2), none] [.null] M0 _
  refine z_xP zt83 2 10 [some (.ref 4), some (.int p1), some (.int p2), some (.null)] [] rfl rfl ?_
  refine z_xP zt83 3 11 [some (.ref 4), some (.int p1), some (.int p2), some (.null)] [.int (-1)] rfl rfl ?_
  have qm1 : (((-1) : Int32)).toInt = (-1) := rfl
  exact z_xri zt83 4 rfl zzr83 (kk (-1) M0 X (by omega) (by omega))
def zw101 : List Nat := []
theorem zC101 {T : List zK} {d : Nat} {K : Option Value → zH → Prop} {a0 : Nat} {ci : Nat} {a1 : Nat} {q1 : Nat} {t1 : Nat} {m1 : Nat} {J1 : Nat} {M0 : zH} (hW : z_W M0 T) (w0 : 4 ≤ ci ∧ ci ≤ 11) (k0 : T[a0]? = some (.inl (ci, 0, 0, 0, 0))) (k1 : T[a1]? = some (.inl (3, q1, t1, m1, J1))) (kk : ∀ (x : Int32) (M1 : zH), z_X T zw101 M0 M1 → K (some (.int x)) M1) : z_ev d 101 0 [some (.ref a0), some (.ref a1)] [] M0 K := by
  have X : z_X T zw101 M0 M0 := .refl hW
  have g1 := X.1.p3 k1
  refine z_xP zt101 0 1 [some (.ref a0), some (.ref a1)] [.int 0] rfl rfl ?_
  have q0 : ((0 : Int32)).toInt = 0 := rfl
  exact z_xri zt101 1 rfl zzr101 (kk 0 M0 X)
def zw87 : List Nat := [208]
theorem zB87 {T : List zK} {d : Nat} {K : Option Value → zH → Prop} {a0 : Nat} {q : Nat} {t : Nat} {m : Nat} {J : Nat} {p1 : Int32} {M0 : zH} (k0 : T[a0]? = some (.inl (3, q, t, m, J))) (u1 : 0 ≤ p1.toInt ∧ p1.toInt ≤ 9) (kk : ∀ (M1 : zH), z_X T zw87 M0 M1 → K none M1) : ∀ n : Nat, (∀ (M : zH) (b2 : Int32) (b3 : Int32), z_X T zw87 M0 M → 1 ≤ b2.toInt ∧ b2.toInt ≤ 10 → 0 ≤ b3.toInt ∧ b3.toInt ≤ 10 → b2.toInt = (q : Int) → ((0) * 2 + 0) * 11 + (10 - b3.toInt) < (n : Int) → z_ev d 87 16 [some (.ref a0), some (.int p1), some (.int b2), some (.int b3)] [] M K) := by
  intro n
  induction n with
  | zero => exact by intros; exfalso; omega
  | succ n ih =>
    intro M b2 b3 X hh0 hh1 hh2 hE
    have g0 := X.1.p3 k0
    refine z_xP zt87 7 18 [some (.ref a0), some (.int p1), some (.int b2), some (.int b3)] [.int b2, .int b3] rfl rfl ?_
    refine z_xJ zt87 8 rfl rfl (fun (h1 : b2.toInt ≤ b3.toInt) => ?_) (fun (h1 : b3.toInt < b2.toInt) => ?_)
    · skip
      exact z_xrv zt87 18 rfl zzr87 (kk M X)
    refine z_xP zt87 9 22 [some (.ref a0), some (.int p1), some (.int b2), some (.int b3)] [.ref a0] rfl rfl ?_
    refine z_xgR (κ := .inr (208, 0, 10, 0, ((q : Nat) : Int) - 1)) zt87 10 rfl zo87 zzf3_30 X k0 (by decide) (by decide) rfl (fun (a3 : Nat) h2 k4 => ?_)
    refine z_xP zt87 11 28 [some (.ref a0), some (.int p1), some (.int b2), some (.int b3)] [.int b3, .int p1, .int b3, .ref a3] rfl rfl ?_
    refine z_xI zt87 12 rfl rfl (fun (x5 : Int32) (h6 : x5.toInt = p1.toInt + b3.toInt) => ?_) (z_pAdd rfl rfl (by omega) (by omega))
    refine z_xP zt87 13 30 [some (.ref a0), some (.int p1), some (.int b2), some (.int b3)] [.int b2, .int x5, .int b3, .ref a3] rfl rfl ?_
    refine z_xM zt87 14 rfl (by omega) (fun (x7 : Int32) (h8 : 0 ≤ x7.toInt ∧ x7.toInt < b2.toInt ∧ x7.toInt ≤ x5.toInt) => ?_) ((z_pRem rfl rfl (by omega) (by omega)).2)
    refine z_xis zt87 15 rfl X k4 (by decide) (X.1.g4 k4 (by decide)) (by omega) (by omega) (by omega) (by omega) (by decide) (fun M9 X10 e11 h12 => ?_)
    refine z_xN zt87 16 rfl rfl (fun (x13 : Int32) (h14 : x13.toInt = b3.toInt + 1) => ?_) (z_pAdd rfl rfl (by omega) (by omega))
    show z_ev d 87 35 [some (.ref a0), some (.int p1), some (.int b2), some (.int x13)] [] M9 _
    refine z_xP zt87 17 16 [some (.ref a0), some (.int p1), some (.int b2), some (.int x13)] [] rfl rfl ?_
    exact ih M9 b2 x13 X10 ⟨by omega, by omega⟩ ⟨by omega, by omega⟩ (by omega) (by omega)
theorem zC87 {T : List zK} {d : Nat} {K : Option Value → zH → Prop} {a0 : Nat} {q : Nat} {t : Nat} {m : Nat} {J : Nat} {p1 : Int32} {M0 : zH} (hW : z_W M0 T) (k0 : T[a0]? = some (.inl (3, q, t, m, J))) (u1 : 0 ≤ p1.toInt ∧ p1.toInt ≤ 9) (kk : ∀ (M1 : zH), z_X T zw87 M0 M1 → K none M1) : z_ev d 87 0 [some (.ref a0), some (.int p1), none, none] [] M0 K := by
  have X : z_X T zw87 M0 M0 := .refl hW
  have g0 := X.1.p3 k0
  refine z_xP zt87 0 1 [some (.ref a0), some (.int p1), none, none] [.ref a0] rfl rfl ?_
  refine z_xgR (κ := .inl (2, q, t, m, 0)) zt87 1 rfl zo87 zzf3_39 X k0 (by decide) (by decide) rfl (fun (a2 : Nat) h1 k3 => ?_)
  have g4 := X.1.p2 k3
  refine z_xgI zt87 2 rfl zo87 zzf3_63 X k3 (by decide) (by decide) rfl (fun (x6 : Int32) h5 (h7 : (q : Int) ≤ x6.toInt) (h8 : x6.toInt ≤ (q : Int)) => ?_)
  refine z_xP zt87 3 10 [some (.ref a0), some (.int p1), some (.int x6), none] [.int 1, .int x6] rfl rfl ?_
  refine z_xJ zt87 4 rfl rfl (fun (h9 : 1 ≤ x6.toInt) => ?_) (fun (h9 : x6.toInt < 1) => absurd h9 (by omega))
  refine z_xP zt87 6 16 [some (.ref a0), some (.int p1), some (.int x6), some (.int 0)] [] rfl rfl ?_
  have q0 : ((0 : Int32)).toInt = 0 := rfl
  exact (zB87 k0 u1 kk 22) M0 x6 (0) X ⟨by omega, by omega⟩ (by decide) (by omega) (by omega)
def zw89 : List Nat := []
theorem zC89 {T : List zK} {d : Nat} {K : Option Value → zH → Prop} {a0 : Nat} {ci : Nat} {a1 : Nat} {q1 : Nat} {t1 : Nat} {m1 : Nat} {J1 : Nat} {M0 : zH} (hW : z_W M0 T) (w0 : ci = 9 ∨ ci = 10) (k0 : T[a0]? = some (.inl (ci, 0, 0, 0, 0))) (k1 : T[a1]? = some (.inl (3, q1, t1, m1, J1))) (kk : ∀ (x : Int32) (M1 : zH), z_X T zw89 M0 M1 → 0 ≤ x.toInt → x.toInt ≤ 0 → K (some (.int x)) M1) : z_ev d 89 0 [some (.ref a0), some (.ref a1)] [] M0 K := by
  have X : z_X T zw89 M0 M0 := .refl hW
  have w0r : 4 ≤ ci ∧ ci ≤ 11 := by omega
  have g1 := X.1.p3 k1
  refine z_xP zt89 0 1 [some (.ref a0), some (.ref a1)] [.int 0] rfl rfl ?_
  have q0 : ((0 : Int32)).toInt = 0 := rfl
  exact z_xri zt89 1 rfl zzr89 (kk 0 M0 X (by omega) (by omega))
def zw88 : List Nat := []
theorem zC88 {T : List zK} {d : Nat} {K : Option Value → zH → Prop} {a0 : Nat} {a1 : Nat} {q1 : Nat} {t1 : Nat} {m1 : Nat} {J1 : Nat} {M0 : zH} (hW : z_W M0 T) (k0 : T[a0]? = some (.inl (10, 0, 0, 0, 0))) (k1 : T[a1]? = some (.inl (3, q1, t1, m1, J1))) (kk : ∀ (x : Int32) (M1 : zH), z_X T zw88 M0 M1 → K (some (.int x)) M1) : z_ev (d + 1) 88 0 [some (.ref a0), some (.ref a1)] [] M0 K := by
  have X : z_X T zw88 M0 M0 := .refl hW
  have g1 := X.1.p3 k1
  refine z_xP zt88 0 2 [some (.ref a0), some (.ref a1)] [.ref a0, .ref a1] rfl rfl ?_
  refine z_xgI zt88 1 rfl zo88 zzf10_7 X k0 (by decide) (by decide) rfl (fun (x2 : Int32) h1 (h3 : 0 ≤ x2.toInt) (h4 : x2.toInt ≤ 8) => ?_)
  refine z_xcV (vs := [.ref a1, .int x2]) (r := []) (L2 := [some (.ref a1), some (.int x2)]) zt88 2 rfl zo88 zzcV10_13 (Or.inl rfl) rfl X k1 rfl rfl rfl (Nat.le_of_ble_eq_true rfl) zzm56 (Nat.le_of_ble_eq_true rfl) rfl ?_
  refine z_xP zt56 0 1 [some (.ref a1), some (.int x2)] [.int x2] rfl rfl ?_
  refine z_xZ zt56 1 rfl rfl (fun (h5 : x2.toInt < 0) => absurd h5 (by omega)) (fun (h5 : 0 ≤ x2.toInt) => ?_)
  refine z_xP zt56 2 6 [some (.ref a1), some (.int x2)] [.ref a1, .int x2] rfl rfl ?_
  refine z_xgI zt56 3 rfl zo56 zzf3_53 X k1 (by decide) (by decide) rfl (fun (x7 : Int32) h6 (h8 : 0 ≤ x7.toInt) (h9 : x7.toInt ≤ (J1 : Int)) => ?_)
  refine z_xJ zt56 4 rfl rfl (fun (h10 : x7.toInt ≤ x2.toInt) => ?_) (fun (h10 : x2.toInt < x7.toInt) => ?_)
  · skip
    refine z_xP zt56 6 17 [some (.ref a1), some (.int x2)] [.int 0] rfl rfl ?_
    refine z_xrz zt56 7 rfl zzr56 (by decide) (by decide) ?_
    show z_ev (d + 1) 88 8 [some (.ref a0), some (.ref a1)] [.int 0] M0 _
    refine z_xZ zt88 3 rfl rfl (fun (h11 : (0 : Int) = 0) => ?_) (fun (h11 : (0 : Int) ≠ 0) => absurd h11 (by omega))
    refine z_xP zt88 10 24 [some (.ref a0), some (.ref a1)] [.int 0] rfl rfl ?_
    have q0 : ((0 : Int32)).toInt = 0 := rfl
    exact z_xri zt88 11 rfl zzr88 (kk 0 M0 X)
  refine z_xP zt56 5 17 [some (.ref a1), some (.int x2)] [.int 1] rfl rfl ?_
  refine z_xrz zt56 7 rfl zzr56 (by decide) (by decide) ?_
  show z_ev (d + 1) 88 8 [some (.ref a0), some (.ref a1)] [.int 1] M0 _
  refine z_xZ zt88 3 rfl rfl (fun (h12 : (1 : Int) = 0) => absurd h12 (by omega)) (fun (h12 : (1 : Int) ≠ 0) => ?_)
  refine z_xP zt88 4 12 [some (.ref a0), some (.ref a1)] [.ref a1] rfl rfl ?_
  refine z_xgR (κ := .inr (202, 0, 9, (-2147483648), 2147483647)) zt88 5 rfl zo88 zzf10_19 X k1 (by decide) (by decide) rfl (fun (a14 : Nat) h13 k15 => ?_)
  refine z_xP zt88 6 16 [some (.ref a0), some (.ref a1)] [.ref a0, .ref a14] rfl rfl ?_
  refine z_xgv zt88 7 rfl zo88 zzf10_7 X k0 (by decide) h1 ?_
  refine z_xil zt88 8 rfl X k15 (by decide) (by omega) (by omega) (fun (x16 : Int32) h17 (h18 : (-2147483648) ≤ x16.toInt) (h19 : x16.toInt ≤ 2147483647) => ?_)
  refine z_xP zt88 9 24 [some (.ref a0), some (.ref a1)] [.int x16] rfl rfl ?_
  exact z_xri zt88 11 rfl zzr88 (kk x16 M0 X)
def zwVopenYes : List Nat := []
theorem zVopenYes {j pc : Nat} {segs : List (List (Nat × Instr × Nat))} {idx : Nat} {d : Nat} {T : List zK} {rs : List Nat} {M0 M : zH} {L : zL} {r : zS} {K : Option Value → zH → Prop} {w c oc : Nat} {b0 q0 t0 m0 J0 : Nat} (ht : z_dcs j segs = true) (n : Nat) (hk : segs[n]? = some [(pc, .invokevirtual idx, 3)]) (ho : z_oc j = oc) (hq : (z_find z_cV oc idx).map (·.1) = some (2, 1, [(9, 89), (10, 88)])) (hX : z_X T rs M0 M) (hw : T[w]? = some (.inl (c, 0, 0, 0, 0))) (hc : 4 ≤ c ∧ c ≤ 11) (hc2 : c = 9 ∨ c = 10) (hr : z_ws r ≤ 8) (hb0 : T[b0]? = some (.inl (3, q0, t0, m0, J0))) (kk : ∀ (x : Int32) (M1 : zH), z_X T zwVopenYes M M1 → z_ev (d + 1 + 1) j (pc + 3) L (.int x :: r) M1 K) : z_ev (d + 1 + 1) j pc L (.ref b0 :: .ref w :: r) M K := by
  rcases hc2 with rfl | rfl
  · skip
    refine z_xcV (vs := [.ref w, .ref b0]) (r := r) (L2 := [some (.ref w), some (.ref b0)]) ht n hk ho hq (Or.inr rfl) rfl hX hw rfl rfl rfl hr zzm89 (Nat.le_of_ble_eq_true rfl) rfl ?_
    refine zC89 hX.1 (by decide) hw hb0 (fun x M1 X1 h1 h2 => ?_)
    exact kk x M1 ((z_X.refl hX.1).go X1 (z_sb (by decide)))
  · skip
    refine z_xcV (vs := [.ref w, .ref b0]) (r := r) (L2 := [some (.ref w), some (.ref b0)]) ht n hk ho hq (Or.inr rfl) rfl hX hw rfl rfl rfl hr zzm88 (Nat.le_of_ble_eq_true rfl) rfl ?_
    refine zC88 hX.1 hw hb0 (fun x M1 X1  => ?_)
    exact kk x M1 ((z_X.refl hX.1).go X1 (z_sb (by decide)))
def zw91 : List Nat := []
theorem zB91 {T : List zK} {d : Nat} {K : Option Value → zH → Prop} {a0 : Nat} {q : Nat} {t : Nat} {m : Nat} {J : Nat} {p1 : Int32} {p2 : Int32} {M0 : zH} (k0 : T[a0]? = some (.inl (3, q, t, m, J))) (u1 : 0 ≤ p1.toInt ∧ p1.toInt ≤ 9) (u2 : 0 ≤ p2.toInt ∧ p2.toInt ≤ 1) (hb0 : p1.toInt < (q : Int)) (kk : ∀ (x : Int32) (M1 : zH), z_X T zw91 M0 M1 → 0 ≤ x.toInt → x.toInt ≤ 1 → K (some (.int x)) M1) : ∀ n : Nat, (∀ (M : zH) (b3 : Int32) (b4 : Int32) (b5 : Int32), z_X T zw91 M0 M → 0 ≤ b3.toInt ∧ b3.toInt ≤ 1 → 0 ≤ b4.toInt ∧ b4.toInt ≤ 1 → 0 ≤ b5.toInt ∧ b5.toInt ≤ 16 → ((0) * 2 + 0) * 17 + (16 - b5.toInt) < (n : Int) → z_ev (d + 1) 91 8 [some (.ref a0), some (.int p1), some (.int p2), some (.int b3), some (.int b4), some (.int b5)] [] M K) := by
  intro n
  induction n with
  | zero => exact by intros; exfalso; omega
  | succ n ih =>
    intro M b3 b4 b5 X hh0 hh1 hh2 hE
    have g0 := X.1.p3 k0
    refine z_xP zt91 1 11 [some (.ref a0), some (.int p1), some (.int p2), some (.int b3), some (.int b4), some (.int b5)] [.ref a0, .int b5] rfl rfl ?_
    refine z_xgR (κ := .inr (209, 1, z_sp m, 0, 0)) zt91 2 rfl zo91 zzf3_49 X k0 (by decide) (by decide) rfl (fun (a2 : Nat) h1 k3 => ?_)
    refine z_xln zt91 3 rfl X k3 (by decide) (by omega) (fun (x4 : Int32) (h5 : x4.toInt = ((z_sp m : Nat) : Int)) => ?_)
    refine z_xJ zt91 4 rfl rfl (fun (h6 : x4.toInt ≤ b5.toInt) => ?_) (fun (h6 : b5.toInt < x4.toInt) => ?_)
    · skip
      refine z_xP zt91 42 102 [some (.ref a0), some (.int p1), some (.int p2), some (.int b3), some (.int b4), some (.int b5)] [.int b4, .int b3] rfl rfl ?_
      refine z_xJ zt91 43 rfl rfl (fun (h7 : b3.toInt = b4.toInt) => ?_) (fun (h7 : b3.toInt ≠ b4.toInt) => ?_)
      · skip
        refine z_xP zt91 46 108 [some (.ref a0), some (.int p1), some (.int p2), some (.int b3), some (.int b4), some (.int b5)] [.ref a0] rfl rfl ?_
        refine z_xgR (κ := .inr (205, 0, 10, (-2147483648), 2147483647)) zt91 47 rfl zo91 zzf3_21 X k0 (by decide) (by decide) rfl (fun (a9 : Nat) h8 k10 => ?_)
        refine z_xP zt91 48 112 [some (.ref a0), some (.int p1), some (.int p2), some (.int b3), some (.int b4), some (.int b5)] [.int p1, .ref a9] rfl rfl ?_
        refine z_xil zt91 49 rfl X k10 (by decide) (by omega) (by omega) (fun (x11 : Int32) h12 (h13 : (-2147483648) ≤ x11.toInt) (h14 : x11.toInt ≤ 2147483647) => ?_)
        refine z_xZ zt91 50 rfl rfl (fun (h15 : 0 < x11.toInt) => ?_) (fun (h15 : x11.toInt ≤ 0) => ?_)
        · skip
          refine z_xP zt91 58 134 [some (.ref a0), some (.int p1), some (.int p2), some (.int b3), some (.int b4), some (.int b5)] [.int 1] rfl rfl ?_
          have q1 : ((1 : Int32)).toInt = 1 := rfl
          exact z_xrz zt91 60 rfl zzr91 (by decide) (by decide) (kk 1 M X (by omega) (by omega))
        refine z_xP zt91 51 117 [some (.ref a0), some (.int p1), some (.int p2), some (.int b3), some (.int b4), some (.int b5)] [.ref a0] rfl rfl ?_
        refine z_xgv zt91 52 rfl zo91 zzf3_21 X k0 (by decide) h8 ?_
        refine z_xP zt91 53 121 [some (.ref a0), some (.int p1), some (.int p2), some (.int b3), some (.int b4), some (.int b5)] [.int p1, .ref a9] rfl rfl ?_
        refine z_xil zt91 54 rfl X k10 (by decide) (by omega) (by omega) (fun (x16 : Int32) h17 (h18 : (-2147483648) ≤ x16.toInt) (h19 : x16.toInt ≤ 2147483647) => ?_)
        have h20 := congrArg Int32.toInt (h17.symm.trans h12)
        refine z_xZ zt91 55 rfl rfl (fun (h21 : x16.toInt ≠ 0) => ?_) (fun (h21 : x16.toInt = 0) => ?_)
        · skip
          refine z_xP zt91 59 134 [some (.ref a0), some (.int p1), some (.int p2), some (.int b3), some (.int b4), some (.int b5)] [.int 0] rfl rfl ?_
          have q0 : ((0 : Int32)).toInt = 0 := rfl
          exact z_xrz zt91 60 rfl zzr91 (by decide) (by decide) (kk 0 M X (by omega) (by omega))
        refine z_xP zt91 56 126 [some (.ref a0), some (.int p1), some (.int p2), some (.int b3), some (.int b4), some (.int b5)] [.int p2] rfl rfl ?_
        refine z_xZ zt91 57 rfl rfl (fun (h22 : p2.toInt = 0) => ?_) (fun (h22 : p2.toInt ≠ 0) => ?_)
        · skip
          refine z_xP zt91 59 134 [some (.ref a0), some (.int p1), some (.int p2), some (.int b3), some (.int b4), some (.int b5)] [.int 0] rfl rfl ?_
          have q0 : ((0 : Int32)).toInt = 0 := rfl
          exact z_xrz zt91 60 rfl zzr91 (by decide) (by decide) (kk 0 M X (by omega) (by omega))
        refine z_xP zt91 58 134 [some (.ref a0), some (.int p1), some (.int p2), some (.int b3), some (.int b4), some (.int b5)] [.int 1] rfl rfl ?_
        have q1 : ((1 : Int32)).toInt = 1 := rfl
        exact z_xrz zt91 60 rfl zzr91 (by decide) (by decide) (kk 1 M X (by omega) (by omega))
      refine z_xP zt91 44 106 [some (.ref a0), some (.int p1), some (.int p2), some (.int b3), some (.int b4), some (.int b5)] [.int b3] rfl rfl ?_
      exact z_xrz zt91 45 rfl zzr91 (by omega) (by omega) (kk b3 M X (by omega) (by omega))
    refine z_xP zt91 5 19 [some (.ref a0), some (.int p1), some (.int p2), some (.int b3), some (.int b4), some (.int b5)] [.int b3] rfl rfl ?_
    refine z_xZ zt91 6 rfl rfl (fun (h23 : b3.toInt = 0) => ?_) (fun (h23 : b3.toInt ≠ 0) => ?_)
    · skip
      refine z_xP zt91 9 29 [some (.ref a0), some (.int p1), some (.int p2), some (.int b3), some (.int b4), some (.int b5)] [.ref a0, .int b3] rfl rfl ?_
      refine z_xgv zt91 10 rfl zo91 zzf3_49 X k0 (by decide) h1 ?_
      refine z_xP zt91 11 34 [some (.ref a0), some (.int p1), some (.int p2), some (.int b3), some (.int b4), some (.int b5)] [.int b5, .ref a2, .int b3] rfl rfl ?_
      refine z_xll zt91 12 rfl X k3 (by decide) (by omega) (by omega) (fun (y24 : Int64) => ?_)
      refine z_xP zt91 13 36 [some (.ref a0), some (.int p1), some (.int p2), some (.int b3), some (.int b4), some (.int b5)] [.ref a0, .long y24, .int b3] rfl rfl ?_
      refine z_xgR (κ := .inl (2, q, t, m, 0)) zt91 14 rfl zo91 zzf3_39 X k0 (by decide) (by decide) rfl (fun (a26 : Nat) h25 k27 => ?_)
      have g28 := X.1.p2 k27
      refine z_xP zt91 15 43 [some (.ref a0), some (.int p1), some (.int p2), some (.int b3), some (.int b4), some (.int b5)] [.int b5, .int 1, .int p1, .ref a26, .long y24, .int b3] rfl rfl ?_
      refine z_xcV (vs := [.ref a26, .int p1, .int 1, .int b5]) (r := [.long y24, .int b3]) (L2 := [some (.ref a26), some (.int p1), some (.int 1), some (.int b5), none, none]) zt91 16 rfl zo91 zzcV3_115 (Or.inl rfl) rfl X k27 rfl rfl rfl (Nat.le_of_ble_eq_true rfl) zzm92 (Nat.le_of_ble_eq_true rfl) rfl ?_
      refine z_xP zt92 0 1 [some (.ref a26), some (.int p1), some (.int 1), some (.int b5), none, none] [.ref a26] rfl rfl ?_
      refine z_xgR (κ := .inr (111, 1, q * z_sp m, 0, 0)) zt92 1 rfl zo92 zzf2_66 X k27 (by decide) (by decide) rfl (fun (a30 : Nat) h29 k31 => ?_)
      refine z_xP zt92 2 6 [some (.ref a26), some (.int p1), some (.int 1), some (.int b5), none, none] [.ref a26, .int p1, .ref a30] rfl rfl ?_
      refine z_xgI zt92 3 rfl zo92 zzf2_63 X k27 (by decide) (by decide) rfl (fun (x33 : Int32) h32 (h34 : ((z_sp m : Nat) : Int) ≤ x33.toInt) (h35 : x33.toInt ≤ ((z_sp m : Nat) : Int)) => ?_)
      refine z_xI zt92 4 rfl rfl (fun (x36 : Int32) (h37 : x36.toInt = p1.toInt * x33.toInt ∧ 0 ≤ x36.toInt ∧ x36.toInt ≤ 144) => ?_) (z_pMulB (a := 9) (b := 16) rfl rfl (by omega) (by omega) (by omega) (by omega) (by decide) (by decide))
      refine z_xP zt92 5 11 [some (.ref a26), some (.int p1), some (.int 1), some (.int b5), none, none] [.int b5, .int x36, .ref a30] rfl rfl ?_
      refine z_xI zt92 6 rfl rfl (fun (x38 : Int32) (h39 : x38.toInt = x36.toInt + b5.toInt) => ?_) (z_pAdd rfl rfl (by omega) (by omega))
      have h40 := z_nlx (p := x36.toInt) (x := p1.toInt) (y := x33.toInt) (s := b5.toInt) (z := x38.toInt) (A := q) (B := z_sp m) (by omega) (by omega) (by omega) (by omega) (by omega) (by omega) (by omega)
      refine z_xll zt92 7 rfl X k31 (by decide) h40.1 h40.2 (fun (y41 : Int64) => ?_)
      refine z_xP zt92 8 16 [some (.ref a26), some (.int p1), some (.int 1), some (.int b5), some (.long y41), none] [.int 1] rfl rfl ?_
      refine z_xZ zt92 9 rfl rfl (fun (h42 : (1 : Int) = 0) => absurd h42 (by omega)) (fun (h42 : (1 : Int) ≠ 0) => ?_)
      refine z_xP zt92 10 30 [some (.ref a26), some (.int p1), some (.int 1), some (.int b5), some (.long y41), none] [.long y41] rfl rfl ?_
      refine z_xrl zt92 14 rfl zzr92 ?_
      show z_ev (d + 1) 91 46 [some (.ref a0), some (.int p1), some (.int p2), some (.int b3), some (.int b4), some (.int b5)] [.long y41, .long y24, .int b3] M _
      refine z_xL zt91 17 rfl rfl (P := fun _ => True) (fun (y43 : Int64) _ => ?_) trivial
      refine z_xP zt91 18 48 [some (.ref a0), some (.int p1), some (.int p2), some (.int b3), some (.int b4), some (.int b5)] [.long 0, .long y43, .int b3] rfl rfl ?_
      refine z_xI zt91 19 rfl rfl (fun (x45 : Int32) (h46 : (x45.toInt < 0 ∧ y43.toInt < 0) ∨ (x45.toInt = 0 ∧ y43.toInt = 0) ∨ (0 < x45.toInt ∧ 0 < y43.toInt)) => ?_) (z_qCmp rfl rfl)
      refine z_xZ zt91 20 rfl rfl (fun (h47 : x45.toInt = 0) => ?_) (fun (h47 : x45.toInt ≠ 0) => ?_)
      · skip
        refine z_xP zt91 22 57 [some (.ref a0), some (.int p1), some (.int p2), some (.int b3), some (.int b4), some (.int b5)] [.int 0, .int b3] rfl rfl ?_
        refine z_xI zt91 23 rfl rfl (fun (x48 : Int32) (h49 : 0 ≤ x48.toInt ∧ x48.toInt < 1 ∧ b3.toInt ≤ x48.toInt ∧ 0 ≤ x48.toInt) => ?_) (z_pOr 0 rfl rfl (by omega) (by omega) (by decide) (by omega) (by omega) (by decide))
        refine z_xP zt91 24 62 [some (.ref a0), some (.int p1), some (.int p2), some (.int x48), some (.int b4), some (.int b5)] [.ref a0, .int b4] rfl rfl ?_
        refine z_xgv zt91 25 rfl zo91 zzf3_49 X k0 (by decide) h1 ?_
        refine z_xP zt91 26 67 [some (.ref a0), some (.int p1), some (.int p2), some (.int x48), some (.int b4), some (.int b5)] [.int b5, .ref a2, .int b4] rfl rfl ?_
        refine z_xll zt91 27 rfl X k3 (by decide) (by omega) (by omega) (fun (y50 : Int64) => ?_)
        refine z_xP zt91 28 69 [some (.ref a0), some (.int p1), some (.int p2), some (.int x48), some (.int b4), some (.int b5)] [.ref a0, .long y50, .int b4] rfl rfl ?_
        refine z_xgv zt91 29 rfl zo91 zzf3_39 X k0 (by decide) h25 ?_
        refine z_xP zt91 30 76 [some (.ref a0), some (.int p1), some (.int p2), some (.int x48), some (.int b4), some (.int b5)] [.int b5, .int 0, .int p1, .ref a26, .long y50, .int b4] rfl rfl ?_
        refine z_xcV (vs := [.ref a26, .int p1, .int 0, .int b5]) (r := [.long y50, .int b4]) (L2 := [some (.ref a26), some (.int p1), some (.int 0), some (.int b5), none, none]) zt91 31 rfl zo91 zzcV3_115 (Or.inl rfl) rfl X k27 rfl rfl rfl (Nat.le_of_ble_eq_true rfl) zzm92 (Nat.le_of_ble_eq_true rfl) rfl ?_
        refine z_xP zt92 0 1 [some (.ref a26), some (.int p1), some (.int 0), some (.int b5), none, none] [.ref a26] rfl rfl ?_
        refine z_xgv zt92 1 rfl zo92 zzf2_66 X k27 (by decide) h29 ?_
        refine z_xP zt92 2 6 [some (.ref a26), some (.int p1), some (.int 0), some (.int b5), none, none] [.ref a26, .int p1, .ref a30] rfl rfl ?_
        refine z_xgv zt92 3 rfl zo92 zzf2_63 X k27 (by decide) h32 ?_
        refine z_xI zt92 4 rfl rfl (fun (x51 : Int32) (h52 : x51.toInt = p1.toInt * x33.toInt ∧ 0 ≤ x51.toInt ∧ x51.toInt ≤ 144) => ?_) (z_pMulB (a := 9) (b := 16) rfl rfl (by omega) (by omega) (by omega) (by omega) (by decide) (by decide))
        refine z_xP zt92 5 11 [some (.ref a26), some (.int p1), some (.int 0), some (.int b5), none, none] [.int b5, .int x51, .ref a30] rfl rfl ?_
        refine z_xI zt92 6 rfl rfl (fun (x53 : Int32) (h54 : x53.toInt = x51.toInt + b5.toInt) => ?_) (z_pAdd rfl rfl (by omega) (by omega))
        have h55 := z_nlx (p := x51.toInt) (x := p1.toInt) (y := x33.toInt) (s := b5.toInt) (z := x53.toInt) (A := q) (B := z_sp m) (by omega) (by omega) (by omega) (by omega) (by omega) (by omega) (by omega)
        refine z_xll zt92 7 rfl X k31 (by decide) h55.1 h55.2 (fun (y56 : Int64) => ?_)
        refine z_xP zt92 8 16 [some (.ref a26), some (.int p1), some (.int 0), some (.int b5), some (.long y56), none] [.int 0] rfl rfl ?_
        refine z_xZ zt92 9 rfl rfl (fun (h57 : (0 : Int) = 0) => ?_) (fun (h57 : (0 : Int) ≠ 0) => absurd h57 (by omega))
        refine z_xP zt92 11 26 [some (.ref a26), some (.int p1), some (.int 0), some (.int b5), some (.long y56), none] [.long y56] rfl rfl ?_
        refine z_xl2 zt92 12 rfl zo92 zkl2_38 ?_
        refine z_xL zt92 13 rfl rfl (P := fun _ => True) (fun (y58 : Int64) _ => ?_) trivial
        refine z_xrl zt92 14 rfl zzr92 ?_
        show z_ev (d + 1) 91 79 [some (.ref a0), some (.int p1), some (.int p2), some (.int x48), some (.int b4), some (.int b5)] [.long y58, .long y50, .int b4] M _
        refine z_xL zt91 32 rfl rfl (P := fun _ => True) (fun (y60 : Int64) _ => ?_) trivial
        refine z_xP zt91 33 81 [some (.ref a0), some (.int p1), some (.int p2), some (.int x48), some (.int b4), some (.int b5)] [.long 0, .long y60, .int b4] rfl rfl ?_
        refine z_xI zt91 34 rfl rfl (fun (x62 : Int32) (h63 : (x62.toInt < 0 ∧ y60.toInt < 0) ∨ (x62.toInt = 0 ∧ y60.toInt = 0) ∨ (0 < x62.toInt ∧ 0 < y60.toInt)) => ?_) (z_qCmp rfl rfl)
        refine z_xZ zt91 35 rfl rfl (fun (h64 : x62.toInt = 0) => ?_) (fun (h64 : x62.toInt ≠ 0) => ?_)
        · skip
          refine z_xP zt91 37 90 [some (.ref a0), some (.int p1), some (.int p2), some (.int x48), some (.int b4), some (.int b5)] [.int 0, .int b4] rfl rfl ?_
          refine z_xI zt91 38 rfl rfl (fun (x65 : Int32) (h66 : 0 ≤ x65.toInt ∧ x65.toInt < 2 ∧ b4.toInt ≤ x65.toInt ∧ 0 ≤ x65.toInt) => ?_) (z_pOr 1 rfl rfl (by omega) (by omega) (by decide) (by omega) (by omega) (by decide))
          refine z_xP zt91 39 93 [some (.ref a0), some (.int p1), some (.int p2), some (.int x48), some (.int x65), some (.int b5)] [] rfl rfl ?_
          refine z_xN zt91 40 rfl rfl (fun (x67 : Int32) (h68 : x67.toInt = b5.toInt + 1) => ?_) (z_pAdd rfl rfl (by omega) (by omega))
          show z_ev (d + 1) 91 96 [some (.ref a0), some (.int p1), some (.int p2), some (.int x48), some (.int x65), some (.int x67)] [] M _
          refine z_xP zt91 41 8 [some (.ref a0), some (.int p1), some (.int p2), some (.int x48), some (.int x65), some (.int x67)] [] rfl rfl ?_
          exact ih M x48 x65 x67 X ⟨by omega, by omega⟩ ⟨by omega, by omega⟩ ⟨by omega, by omega⟩ (by omega)
        refine z_xP zt91 36 90 [some (.ref a0), some (.int p1), some (.int p2), some (.int x48), some (.int b4), some (.int b5)] [.int 1, .int b4] rfl rfl ?_
        refine z_xI zt91 38 rfl rfl (fun (x69 : Int32) (h70 : 0 ≤ x69.toInt ∧ x69.toInt < 2 ∧ b4.toInt ≤ x69.toInt ∧ 1 ≤ x69.toInt) => ?_) (z_pOr 1 rfl rfl (by omega) (by omega) (by decide) (by omega) (by omega) (by decide))
        refine z_xP zt91 39 93 [some (.ref a0), some (.int p1), some (.int p2), some (.int x48), some (.int x69), some (.int b5)] [] rfl rfl ?_
        refine z_xN zt91 40 rfl rfl (fun (x71 : Int32) (h72 : x71.toInt = b5.toInt + 1) => ?_) (z_pAdd rfl rfl (by omega) (by omega))
        show z_ev (d + 1) 91 96 [some (.ref a0), some (.int p1), some (.int p2), some (.int x48), some (.int x69), some (.int x71)] [] M _
        refine z_xP zt91 41 8 [some (.ref a0), some (.int p1), some (.int p2), some (.int x48), some (.int x69), some (.int x71)] [] rfl rfl ?_
        exact ih M x48 x69 x71 X ⟨by omega, by omega⟩ ⟨by omega, by omega⟩ ⟨by omega, by omega⟩ (by omega)
      refine z_xP zt91 21 57 [some (.ref a0), some (.int p1), some (.int p2), some (.int b3), some (.int b4), some (.int b5)] [.int 1, .int b3] rfl rfl ?_
      refine z_xI zt91 23 rfl rfl (fun (x73 : Int32) (h74 : 0 ≤ x73.toInt ∧ x73.toInt < 2 ∧ b3.toInt ≤ x73.toInt ∧ 1 ≤ x73.toInt) => ?_) (z_pOr 1 rfl rfl (by omega) (by omega) (by decide) (by omega) (by omega) (by decide))
      refine z_xP zt91 24 62 [some (.ref a0), some (.int p1), some (.int p2), some (.int x73), some (.int b4), some (.int b5)] [.ref a0, .int b4] rfl rfl ?_
      refine z_xgv zt91 25 rfl zo91 zzf3_49 X k0 (by decide) h1 ?_
      refine z_xP zt91 26 67 [some (.ref a0), some (.int p1), some (.int p2), some (.int x73), some (.int b4), some (.int b5)] [.int b5, .ref a2, .int b4] rfl rfl ?_
      refine z_xll zt91 27 rfl X k3 (by decide) (by omega) (by omega) (fun (y75 : Int64) => ?_)
      refine z_xP zt91 28 69 [some (.ref a0), some (.int p1), some (.int p2), some (.int x73), some (.int b4), some (.int b5)] [.ref a0, .long y75, .int b4] rfl rfl ?_
      refine z_xgv zt91 29 rfl zo91 zzf3_39 X k0 (by decide) h25 ?_
      refine z_xP zt91 30 76 [some (.ref a0), some (.int p1), some (.int p2), some (.int x73), some (.int b4), some (.int b5)] [.int b5, .int 0, .int p1, .ref a26, .long y75, .int b4] rfl rfl ?_
      refine z_xcV (vs := [.ref a26, .int p1, .int 0, .int b5]) (r := [.long y75, .int b4]) (L2 := [some (.ref a26), some (.int p1), some (.int 0), some (.int b5), none, none]) zt91 31 rfl zo91 zzcV3_115 (Or.inl rfl) rfl X k27 rfl rfl rfl (Nat.le_of_ble_eq_true rfl) zzm92 (Nat.le_of_ble_eq_true rfl) rfl ?_
      refine z_xP zt92 0 1 [some (.ref a26), some (.int p1), some (.int 0), some (.int b5), none, none] [.ref a26] rfl rfl ?_
      refine z_xgv zt92 1 rfl zo92 zzf2_66 X k27 (by decide) h29 ?_
      refine z_xP zt92 2 6 [some (.ref a26), some (.int p1), some (.int 0), some (.int b5), none, none] [.ref a26, .int p1, .ref a30] rfl rfl ?_
      refine z_xgv zt92 3 rfl zo92 zzf2_63 X k27 (by decide) h32 ?_
      refine z_xI zt92 4 rfl rfl (fun (x76 : Int32) (h77 : x76.toInt = p1.toInt * x33.toInt ∧ 0 ≤ x76.toInt ∧ x76.toInt ≤ 144) => ?_) (z_pMulB (a := 9) (b := 16) rfl rfl (by omega) (by omega) (by omega) (by omega) (by decide) (by decide))
      refine z_xP zt92 5 11 [some (.ref a26), some (.int p1), some (.int 0), some (.int b5), none, none] [.int b5, .int x76, .ref a30] rfl rfl ?_
      refine z_xI zt92 6 rfl rfl (fun (x78 : Int32) (h79 : x78.toInt = x76.toInt + b5.toInt) => ?_) (z_pAdd rfl rfl (by omega) (by omega))
      have h80 := z_nlx (p := x76.toInt) (x := p1.toInt) (y := x33.toInt) (s := b5.toInt) (z := x78.toInt) (A := q) (B := z_sp m) (by omega) (by omega) (by omega) (by omega) (by omega) (by omega) (by omega)
      refine z_xll zt92 7 rfl X k31 (by decide) h80.1 h80.2 (fun (y81 : Int64) => ?_)
      refine z_xP zt92 8 16 [some (.ref a26), some (.int p1), some (.int 0), some (.int b5), some (.long y81), none] [.int 0] rfl rfl ?_
      refine z_xZ zt92 9 rfl rfl (fun (h82 : (0 : Int) = 0) => ?_) (fun (h82 : (0 : Int) ≠ 0) => absurd h82 (by omega))
      refine z_xP zt92 11 26 [some (.ref a26), some (.int p1), some (.int 0), some (.int b5), some (.long y81), none] [.long y81] rfl rfl ?_
      refine z_xl2 zt92 12 rfl zo92 zkl2_38 ?_
      refine z_xL zt92 13 rfl rfl (P := fun _ => True) (fun (y83 : Int64) _ => ?_) trivial
      refine z_xrl zt92 14 rfl zzr92 ?_
      show z_ev (d + 1) 91 79 [some (.ref a0), some (.int p1), some (.int p2), some (.int x73), some (.int b4), some (.int b5)] [.long y83, .long y75, .int b4] M _
      refine z_xL zt91 32 rfl rfl (P := fun _ => True) (fun (y85 : Int64) _ => ?_) trivial
      refine z_xP zt91 33 81 [some (.ref a0), some (.int p1), some (.int p2), some (.int x73), some (.int b4), some (.int b5)] [.long 0, .long y85, .int b4] rfl rfl ?_
      refine z_xI zt91 34 rfl rfl (fun (x87 : Int32) (h88 : (x87.toInt < 0 ∧ y85.toInt < 0) ∨ (x87.toInt = 0 ∧ y85.toInt = 0) ∨ (0 < x87.toInt ∧ 0 < y85.toInt)) => ?_) (z_qCmp rfl rfl)
      refine z_xZ zt91 35 rfl rfl (fun (h89 : x87.toInt = 0) => ?_) (fun (h89 : x87.toInt ≠ 0) => ?_)
      · skip
        refine z_xP zt91 37 90 [some (.ref a0), some (.int p1), some (.int p2), some (.int x73), some (.int b4), some (.int b5)] [.int 0, .int b4] rfl rfl ?_
        refine z_xI zt91 38 rfl rfl (fun (x90 : Int32) (h91 : 0 ≤ x90.toInt ∧ x90.toInt < 2 ∧ b4.toInt ≤ x90.toInt ∧ 0 ≤ x90.toInt) => ?_) (z_pOr 1 rfl rfl (by omega) (by omega) (by decide) (by omega) (by omega) (by decide))
        refine z_xP zt91 39 93 [some (.ref a0), some (.int p1), some (.int p2), some (.int x73), some (.int x90), some (.int b5)] [] rfl rfl ?_
        refine z_xN zt91 40 rfl rfl (fun (x92 : Int32) (h93 : x92.toInt = b5.toInt + 1) => ?_) (z_pAdd rfl rfl (by omega) (by omega))
        show z_ev (d + 1) 91 96 [some (.ref a0), some (.int p1), some (.int p2), some (.int x73), some (.int x90), some (.int x92)] [] M _
        refine z_xP zt91 41 8 [some (.ref a0), some (.int p1), some (.int p2), some (.int x73), some (.int x90), some (.int x92)] [] rfl rfl ?_
        exact ih M x73 x90 x92 X ⟨by omega, by omega⟩ ⟨by omega, by omega⟩ ⟨by omega, by omega⟩ (by omega)
      refine z_xP zt91 36 90 [some (.ref a0), some (.int p1), some (.int p2), some (.int x73), some (.int b4), some (.int b5)] [.int 1, .int b4] rfl rfl ?_
      refine z_xI zt91 38 rfl rfl (fun (x94 : Int32) (h95 : 0 ≤ x94.toInt ∧ x94.toInt < 2 ∧ b4.toInt ≤ x94.toInt ∧ 1 ≤ x94.toInt) => ?_) (z_pOr 1 rfl rfl (by omega) (by omega) (by decide) (by omega) (by omega) (by decide))
      refine z_xP zt91 39 93 [some (.ref a0), some (.int p1), some (.int p2), some (.int x73), some (.int x94), some (.int b5)] [] rfl rfl ?_
      refine z_xN zt91 40 rfl rfl (fun (x96 : Int32) (h97 : x96.toInt = b5.toInt + 1) => ?_) (z_pAdd rfl rfl (by omega) (by omega))
      show z_ev (d + 1) 91 96 [some (.ref a0), some (.int p1), some (.int p2), some (.int x73), some (.int x94), some (.int x96)] [] M _
      refine z_xP zt91 41 8 [some (.ref a0), some (.int p1), some (.int p2), some (.int x73), some (.int x94), some (.int x96)] [] rfl rfl ?_
      exact ih M x73 x94 x96 X ⟨by omega, by omega⟩ ⟨by omega, by omega⟩ ⟨by omega, by omega⟩ (by omega)
    refine z_xP zt91 7 24 [some (.ref a0), some (.int p1), some (.int p2), some (.int b3), some (.int b4), some (.int b5)] [.int b4] rfl rfl ?_
    refine z_xZ zt91 8 rfl rfl (fun (h98 : b4.toInt ≠ 0) => ?_) (fun (h98 : b4.toInt = 0) => ?_)
    · skip
      refine z_xP zt91 42 102 [some (.ref a0), some (.int p1), some (.int p2), some (.int b3), some (.int b4), some (.int b5)] [.int b4, .int b3] rfl rfl ?_
      refine z_xJ zt91 43 rfl rfl (fun (h99 : b3.toInt = b4.toInt) => ?_) (fun (h99 : b3.toInt ≠ b4.toInt) => absurd h99 (by omega))
      refine z_xP zt91 46 108 [some (.ref a0), some (.int p1), some (.int p2), some (.int b3), some (.int b4), some (.int b5)] [.ref a0] rfl rfl ?_
      refine z_xgR (κ := .inr (205, 0, 10, (-2147483648), 2147483647)) zt91 47 rfl zo91 zzf3_21 X k0 (by decide) (by decide) rfl (fun (a101 : Nat) h100 k102 => ?_)
      refine z_xP zt91 48 112 [some (.ref a0), some (.int p1), some (.int p2), some (.int b3), some (.int b4), some (.int b5)] [.int p1, .ref a101] rfl rfl ?_
      refine z_xil zt91 49 rfl X k102 (by decide) (by omega) (by omega) (fun (x103 : Int32) h104 (h105 : (-2147483648) ≤ x103.toInt) (h106 : x103.toInt ≤ 2147483647) => ?_)
      refine z_xZ zt91 50 rfl rfl (fun (h107 : 0 < x103.toInt) => ?_) (fun (h107 : x103.toInt ≤ 0) => ?_)
      · skip
        refine z_xP zt91 58 134 [some (.ref a0), some (.int p1), some (.int p2), some (.int b3), some (.int b4), some (.int b5)] [.int 1] rfl rfl ?_
        have q1 : ((1 : Int32)).toInt = 1 := rfl
        exact z_xrz zt91 60 rfl zzr91 (by decide) (by decide) (kk 1 M X (by omega) (by omega))
      refine z_xP zt91 51 117 [some (.ref a0), some (.int p1), some (.int p2), some (.int b3), some (.int b4), some (.int b5)] [.ref a0] rfl rfl ?_
      refine z_xgv zt91 52 rfl zo91 zzf3_21 X k0 (by decide) h100 ?_
      refine z_xP zt91 53 121 [some (.ref a0), some (.int p1), some (.int p2), some (.int b3), some (.int b4), some (.int b5)] [.int p1, .ref a101] rfl rfl ?_
      refine z_xil zt91 54 rfl X k102 (by decide) (by omega) (by omega) (fun (x108 : Int32) h109 (h110 : (-2147483648) ≤ x108.toInt) (h111 : x108.toInt ≤ 2147483647) => ?_)
      have h112 := congrArg Int32.toInt (h109.symm.trans h104)
      refine z_xZ zt91 55 rfl rfl (fun (h113 : x108.toInt ≠ 0) => ?_) (fun (h113 : x108.toInt = 0) => ?_)
      · skip
        refine z_xP zt91 59 134 [some (.ref a0), some (.int p1), some (.int p2), some (.int b3), some (.int b4), some (.int b5)] [.int 0] rfl rfl ?_
        have q0 : ((0 : Int32)).toInt = 0 := rfl
        exact z_xrz zt91 60 rfl zzr91 (by decide) (by decide) (kk 0 M X (by omega) (by omega))
      refine z_xP zt91 56 126 [some (.ref a0), some (.int p1), some (.int p2), some (.int b3), some (.int b4), some (.int b5)] [.int p2] rfl rfl ?_
      refine z_xZ zt91 57 rfl rfl (fun (h114 : p2.toInt = 0) => ?_) (fun (h114 : p2.toInt ≠ 0) => ?_)
      · skip
        refine z_xP zt91 59 134 [some (.ref a0), some (.int p1), some (.int p2), some (.int b3), some (.int b4), some (.int b5)] [.int 0] rfl rfl ?_
        have q0 : ((0 : Int32)).toInt = 0 := rfl
        exact z_xrz zt91 60 rfl zzr91 (by decide) (by decide) (kk 0 M X (by omega) (by omega))
      refine z_xP zt91 58 134 [some (.ref a0), some (.int p1), some (.int p2), some (.int b3), some (.int b4), some (.int b5)] [.int 1] rfl rfl ?_
      have q1 : ((1 : Int32)).toInt = 1 := rfl
      exact z_xrz zt91 60 rfl zzr91 (by decide) (by decide) (kk 1 M X (by omega) (by omega))
    refine z_xP zt91 9 29 [some (.ref a0), some (.int p1), some (.int p2), some (.int b3), some (.int b4), some (.int b5)] [.ref a0, .int b3] rfl rfl ?_
    refine z_xgv zt91 10 rfl zo91 zzf3_49 X k0 (by decide) h1 ?_
    refine z_xP zt91 11 34 [some (.ref a0), some (.int p1), some (.int p2), some (.int b3), some (.int b4), some (.int b5)] [.int b5, .ref a2, .int b3] rfl rfl ?_
    refine z_xll zt91 12 rfl X k3 (by decide) (by omega) (by omega) (fun (y115 : Int64) => ?_)
    refine z_xP zt91 13 36 [some (.ref a0), some (.int p1), some (.int p2), some (.int b3), some (.int b4), some (.int b5)] [.ref a0, .long y115, .int b3] rfl rfl ?_
    refine z_xgR (κ := .inl (2, q, t, m, 0)) zt91 14 rfl zo91 zzf3_39 X k0 (by decide) (by decide) rfl (fun (a117 : Nat) h116 k118 => ?_)
    have g119 := X.1.p2 k118
    refine z_xP zt91 15 43 [some (.ref a0), some (.int p1), some (.int p2), some (.int b3), some (.int b4), some (.int b5)] [.int b5, .int 1, .int p1, .ref a117, .long y115, .int b3] rfl rfl ?_
    refine z_xcV (vs := [.ref a117, .int p1, .int 1, .int b5]) (r := [.long y115, .int b3]) (L2 := [some (.ref a117), some (.int p1), some (.int 1), some (.int b5), none, none]) zt91 16 rfl zo91 zzcV3_115 (Or.inl rfl) rfl X k118 rfl rfl rfl (Nat.le_of_ble_eq_true rfl) zzm92 (Nat.le_of_ble_eq_true rfl) rfl ?_
    refine z_xP zt92 0 1 [some (.ref a117), some (.int p1), some (.int 1), some (.int b5), none, none] [.ref a117] rfl rfl ?_
    refine z_xgR (κ := .inr (111, 1, q * z_sp m, 0, 0)) zt92 1 rfl zo92 zzf2_66 X k118 (by decide) (by decide) rfl (fun (a121 : Nat) h120 k122 => ?_)
    refine z_xP zt92 2 6 [some (.ref a117), some (.int p1), some (.int 1), some (.int b5), none, none] [.ref a117, .int p1, .ref a121] rfl rfl ?_
    refine z_xgI zt92 3 rfl zo92 zzf2_63 X k118 (by decide) (by decide) rfl (fun (x124 : Int32) h123 (h125 : ((z_sp m : Nat) : Int) ≤ x124.toInt) (h126 : x124.toInt ≤ ((z_sp m : Nat) : Int)) => ?_)
    refine z_xI zt92 4 rfl rfl (fun (x127 : Int32) (h128 : x127.toInt = p1.toInt * x124.toInt ∧ 0 ≤ x127.toInt ∧ x127.toInt ≤ 144) => ?_) (z_pMulB (a := 9) (b := 16) rfl rfl (by omega) (by omega) (by omega) (by omega) (by decide) (by decide))
    refine z_xP zt92 5 11 [some (.ref a117), some (.int p1), some (.int 1), some (.int b5), none, none] [.int b5, .int x127, .ref a121] rfl rfl ?_
    refine z_xI zt92 6 rfl rfl (fun (x129 : Int32) (h130 : x129.toInt = x127.toInt + b5.toInt) => ?_) (z_pAdd rfl rfl (by omega) (by omega))
    have h131 := z_nlx (p := x127.toInt) (x := p1.toInt) (y := x124.toInt) (s := b5.toInt) (z := x129.toInt) (A := q) (B := z_sp m) (by omega) (by omega) (by omega) (by omega) (by omega) (by omega) (by omega)
    refine z_xll zt92 7 rfl X k122 (by decide) h131.1 h131.2 (fun (y132 : Int64) => ?_)
    refine z_xP zt92 8 16 [some (.ref a117), some (.int p1), some (.int 1), some (.int b5), some (.long y132), none] [.int 1] rfl rfl ?_
    refine z_xZ zt92 9 rfl rfl (fun (h133 : (1 : Int) = 0) => absurd h133 (by omega)) (fun (h133 : (1 : Int) ≠ 0) => ?_)
    refine z_xP zt92 10 30 [some (.ref a117), some (.int p1), some (.int 1), some (.int b5), some (.long y132), none] [.long y132] rfl rfl ?_
    refine z_xrl zt92 14 rfl zzr92 ?_
    show z_ev (d + 1) 91 46 [some (.ref a0), some (.int p1), some (.int p2), some (.int b3), some (.int b4), some (.int b5)] [.long y132, .long y115, .int b3] M _
    refine z_xL zt91 17 rfl rfl (P := fun _ => True) (fun (y134 : Int64) _ => ?_) trivial
    refine z_xP zt91 18 48 [some (.ref a0), some (.int p1), some (.int p2), some (.int b3), some (.int b4), some (.int b5)] [.long 0, .long y134, .int b3] rfl rfl ?_
    refine z_xI zt91 19 rfl rfl (fun (x136 : Int32) (h137 : (x136.toInt < 0 ∧ y134.toInt < 0) ∨ (x136.toInt = 0 ∧ y134.toInt = 0) ∨ (0 < x136.toInt ∧ 0 < y134.toInt)) => ?_) (z_qCmp rfl rfl)
    refine z_xZ zt91 20 rfl rfl (fun (h138 : x136.toInt = 0) => ?_) (fun (h138 : x136.toInt ≠ 0) => ?_)
    · skip
      refine z_xP zt91 22 57 [some (.ref a0), some (.int p1), some (.int p2), some (.int b3), some (.int b4), some (.int b5)] [.int 0, .int b3] rfl rfl ?_
      refine z_xI zt91 23 rfl rfl (fun (x139 : Int32) (h140 : 0 ≤ x139.toInt ∧ x139.toInt < 2 ∧ b3.toInt ≤ x139.toInt ∧ 0 ≤ x139.toInt) => ?_) (z_pOr 1 rfl rfl (by omega) (by omega) (by decide) (by omega) (by omega) (by decide))
      refine z_xP zt91 24 62 [some (.ref a0), some (.int p1), some (.int p2), some (.int x139), some (.int b4), some (.int b5)] [.ref a0, .int b4] rfl rfl ?_
      refine z_xgv zt91 25 rfl zo91 zzf3_49 X k0 (by decide) h1 ?_
      refine z_xP zt91 26 67 [some (.ref a0), some (.int p1), some (.int p2), some (.int x139), some (.int b4), some (.int b5)] [.int b5, .ref a2, .int b4] rfl rfl ?_
      refine z_xll zt91 27 rfl X k3 (by decide) (by omega) (by omega) (fun (y141 : Int64) => ?_)
      refine z_xP zt91 28 69 [some (.ref a0), some (.int p1), some (.int p2), some (.int x139), some (.int b4), some (.int b5)] [.ref a0, .long y141, .int b4] rfl rfl ?_
      refine z_xgv zt91 29 rfl zo91 zzf3_39 X k0 (by decide) h116 ?_
      refine z_xP zt91 30 76 [some (.ref a0), some (.int p1), some (.int p2), some (.int x139), some (.int b4), some (.int b5)] [.int b5, .int 0, .int p1, .ref a117, .long y141, .int b4] rfl rfl ?_
      refine z_xcV (vs := [.ref a117, .int p1, .int 0, .int b5]) (r := [.long y141, .int b4]) (L2 := [some (.ref a117), some (.int p1), some (.int 0), some (.int b5), none, none]) zt91 31 rfl zo91 zzcV3_115 (Or.inl rfl) rfl X k118 rfl rfl rfl (Nat.le_of_ble_eq_true rfl) zzm92 (Nat.le_of_ble_eq_true rfl) rfl ?_
      refine z_xP zt92 0 1 [some (.ref a117), some (.int p1), some (.int 0), some (.int b5), none, none] [.ref a117] rfl rfl ?_
      refine z_xgv zt92 1 rfl zo92 zzf2_66 X k118 (by decide) h120 ?_
      refine z_xP zt92 2 6 [some (.ref a117), some (.int p1), some (.int 0), some (.int b5), none, none] [.ref a117, .int p1, .ref a121] rfl rfl ?_
      refine z_xgv zt92 3 rfl zo92 zzf2_63 X k118 (by decide) h123 ?_
      refine z_xI zt92 4 rfl rfl (fun (x142 : Int32) (h143 : x142.toInt = p1.toInt * x124.toInt ∧ 0 ≤ x142.toInt ∧ x142.toInt ≤ 144) => ?_) (z_pMulB (a := 9) (b := 16) rfl rfl (by omega) (by omega) (by omega) (by omega) (by decide) (by decide))
      refine z_xP zt92 5 11 [some (.ref a117), some (.int p1), some (.int 0), some (.int b5), none, none] [.int b5, .int x142, .ref a121] rfl rfl ?_
      refine z_xI zt92 6 rfl rfl (fun (x144 : Int32) (h145 : x144.toInt = x142.toInt + b5.toInt) => ?_) (z_pAdd rfl rfl (by omega) (by omega))
      have h146 := z_nlx (p := x142.toInt) (x := p1.toInt) (y := x124.toInt) (s := b5.toInt) (z := x144.toInt) (A := q) (B := z_sp m) (by omega) (by omega) (by omega) (by omega) (by omega) (by omega) (by omega)
      refine z_xll zt92 7 rfl X k122 (by decide) h146.1 h146.2 (fun (y147 : Int64) => ?_)
      refine z_xP zt92 8 16 [some (.ref a117), some (.int p1), some (.int 0), some (.int b5), some (.long y147), none] [.int 0] rfl rfl ?_
      refine z_xZ zt92 9 rfl rfl (fun (h148 : (0 : Int) = 0) => ?_) (fun (h148 : (0 : Int) ≠ 0) => absurd h148 (by omega))
      refine z_xP zt92 11 26 [some (.ref a117), some (.int p1), some (.int 0), some (.int b5), some (.long y147), none] [.long y147] rfl rfl ?_
      refine z_xl2 zt92 12 rfl zo92 zkl2_38 ?_
      refine z_xL zt92 13 rfl rfl (P := fun _ => True) (fun (y149 : Int64) _ => ?_) trivial
      refine z_xrl zt92 14 rfl zzr92 ?_
      show z_ev (d + 1) 91 79 [some (.ref a0), some (.int p1), some (.int p2), some (.int x139), some (.int b4), some (.int b5)] [.long y149, .long y141, .int b4] M _
      refine z_xL zt91 32 rfl rfl (P := fun _ => True) (fun (y151 : Int64) _ => ?_) trivial
      refine z_xP zt91 33 81 [some (.ref a0), some (.int p1), some (.int p2), some (.int x139), some (.int b4), some (.int b5)] [.long 0, .long y151, .int b4] rfl rfl ?_
      refine z_xI zt91 34 rfl rfl (fun (x153 : Int32) (h154 : (x153.toInt < 0 ∧ y151.toInt < 0) ∨ (x153.toInt = 0 ∧ y151.toInt = 0) ∨ (0 < x153.toInt ∧ 0 < y151.toInt)) => ?_) (z_qCmp rfl rfl)
      refine z_xZ zt91 35 rfl rfl (fun (h155 : x153.toInt = 0) => ?_) (fun (h155 : x153.toInt ≠ 0) => ?_)
      · skip
        refine z_xP zt91 37 90 [some (.ref a0), some (.int p1), some (.int p2), some (.int x139), some (.int b4), some (.int b5)] [.int 0, .int b4] rfl rfl ?_
        refine z_xI zt91 38 rfl rfl (fun (x156 : Int32) (h157 : 0 ≤ x156.toInt ∧ x156.toInt < 1 ∧ b4.toInt ≤ x156.toInt ∧ 0 ≤ x156.toInt) => ?_) (z_pOr 0 rfl rfl (by omega) (by omega) (by decide) (by omega) (by omega) (by decide))
        refine z_xP zt91 39 93 [some (.ref a0), some (.int p1), some (.int p2), some (.int x139), some (.int x156), some (.int b5)] [] rfl rfl ?_
        refine z_xN zt91 40 rfl rfl (fun (x158 : Int32) (h159 : x158.toInt = b5.toInt + 1) => ?_) (z_pAdd rfl rfl (by omega) (by omega))
        show z_ev (d + 1) 91 96 [some (.ref a0), some (.int p1), some (.int p2), some (.int x139), some (.int x156), some (.int x158)] [] M _
        refine z_xP zt91 41 8 [some (.ref a0), some (.int p1), some (.int p2), some (.int x139), some (.int x156), some (.int x158)] [] rfl rfl ?_
        exact ih M x139 x156 x158 X ⟨by omega, by omega⟩ ⟨by omega, by omega⟩ ⟨by omega, by omega⟩ (by omega)
      refine z_xP zt91 36 90 [some (.ref a0), some (.int p1), some (.int p2), some (.int x139), some (.int b4), some (.int b5)] [.int 1, .int b4] rfl rfl ?_
      refine z_xI zt91 38 rfl rfl (fun (x160 : Int32) (h161 : 0 ≤ x160.toInt ∧ x160.toInt < 2 ∧ b4.toInt ≤ x160.toInt ∧ 1 ≤ x160.toInt) => ?_) (z_pOr 1 rfl rfl (by omega) (by omega) (by decide) (by omega) (by omega) (by decide))
      refine z_xP zt91 39 93 [some (.ref a0), some (.int p1), some (.int p2), some (.int x139), some (.int x160), some (.int b5)] [] rfl rfl ?_
      refine z_xN zt91 40 rfl rfl (fun (x162 : Int32) (h163 : x162.toInt = b5.toInt + 1) => ?_) (z_pAdd rfl rfl (by omega) (by omega))
      show z_ev (d + 1) 91 96 [some (.ref a0), some (.int p1), some (.int p2), some (.int x139), some (.int x160), some (.int x162)] [] M _
      refine z_xP zt91 41 8 [some (.ref a0), some (.int p1), some (.int p2), some (.int x139), some (.int x160), some (.int x162)] [] rfl rfl ?_
      exact ih M x139 x160 x162 X ⟨by omega, by omega⟩ ⟨by omega, by omega⟩ ⟨by omega, by omega⟩ (by omega)
    refine z_xP zt91 21 57 [some (.ref a0), some (.int p1), some (.int p2), some (.int b3), some (.int b4), some (.int b5)] [.int 1, .int b3] rfl rfl ?_
    refine z_xI zt91 23 rfl rfl (fun (x164 : Int32) (h165 : 0 ≤ x164.toInt ∧ x164.toInt < 2 ∧ b3.toInt ≤ x164.toInt ∧ 1 ≤ x164.toInt) => ?_) (z_pOr 1 rfl rfl (by omega) (by omega) (by decide) (by omega) (by omega) (by decide))
    refine z_xP zt91 24 62 [some (.ref a0), some (.int p1), some (.int p2), some (.int x164), some (.int b4), some (.int b5)] [.ref a0, .int b4] rfl rfl ?_
    refine z_xgv zt91 25 rfl zo91 zzf3_49 X k0 (by decide) h1 ?_
    refine z_xP zt91 26 67 [some (.ref a0), some (.int p1), some (.int p2), some (.int x164), some (.int b4), some (.int b5)] [.int b5, .ref a2, .int b4] rfl rfl ?_
    refine z_xll zt91 27 rfl X k3 (by decide) (by omega) (by omega) (fun (y166 : Int64) => ?_)
    refine z_xP zt91 28 69 [some (.ref a0), some (.int p1), some (.int p2), some (.int x164), some (.int b4), some (.int b5)] [.ref a0, .long y166, .int b4] rfl rfl ?_
    refine z_xgv zt91 29 rfl zo91 zzf3_39 X k0 (by decide) h116 ?_
    refine z_xP zt91 30 76 [some (.ref a0), some (.int p1), some (.int p2), some (.int x164), some (.int b4), some (.int b5)] [.int b5, .int 0, .int p1, .ref a117, .long y166, .int b4] rfl rfl ?_
    refine z_xcV (vs := [.ref a117, .int p1, .int 0, .int b5]) (r := [.long y166, .int b4]) (L2 := [some (.ref a117), some (.int p1), some (.int 0), some (.int b5), none, none]) zt91 31 rfl zo91 zzcV3_115 (Or.inl rfl) rfl X k118 rfl rfl rfl (Nat.le_of_ble_eq_true rfl) zzm92 (Nat.le_of_ble_eq_true rfl) rfl ?_
    refine z_xP zt92 0 1 [some (.ref a117), some (.int p1), some (.int 0), some (.int b5), none, none] [.ref a117] rfl rfl ?_
    refine z_xgv zt92 1 rfl zo92 zzf2_66 X k118 (by decide) h120 ?_
    refine z_xP zt92 2 6 [some (.ref a117), some (.int p1), some (.int 0), some (.int b5), none, none] [.ref a117, .int p1, .ref a121] rfl rfl ?_
    refine z_xgv zt92 3 rfl zo92 zzf2_63 X k118 (by decide) h123 ?_
    refine z_xI zt92 4 rfl rfl (fun (x167 : Int32) (h168 : x167.toInt = p1.toInt * x124.toInt ∧ 0 ≤ x167.toInt ∧ x167.toInt ≤ 144) => ?_) (z_pMulB (a := 9) (b := 16) rfl rfl (by omega) (by omega) (by omega) (by omega) (by decide) (by decide))
    refine z_xP zt92 5 11 [some (.ref a117), some (.int p1), some (.int 0), some (.int b5), none, none] [.int b5, .int x167, .ref a121] rfl rfl ?_
    refine z_xI zt92 6 rfl rfl (fun (x169 : Int32) (h170 : x169.toInt = x167.toInt + b5.toInt) => ?_) (z_pAdd rfl rfl (by omega) (by omega))
    have h171 := z_nlx (p := x167.toInt) (x := p1.toInt) (y := x124.toInt) (s := b5.toInt) (z := x169.toInt) (A := q) (B := z_sp m) (by omega) (by omega) (by omega) (by omega) (by omega) (by omega) (by omega)
    refine z_xll zt92 7 rfl X k122 (by decide) h171.1 h171.2 (fun (y172 : Int64) => ?_)
    refine z_xP zt92 8 16 [some (.ref a117), some (.int p1), some (.int 0), some (.int b5), some (.long y172), none] [.int 0] rfl rfl ?_
    refine z_xZ zt92 9 rfl rfl (fun (h173 : (0 : Int) = 0) => ?_) (fun (h173 : (0 : Int) ≠ 0) => absurd h173 (by omega))
    refine z_xP zt92 11 26 [some (.ref a117), some (.int p1), some (.int 0), some (.int b5), some (.long y172), none] [.long y172] rfl rfl ?_
    refine z_xl2 zt92 12 rfl zo92 zkl2_38 ?_
    refine z_xL zt92 13 rfl rfl (P := fun _ => True) (fun (y174 : Int64) _ => ?_) trivial
    refine z_xrl zt92 14 rfl zzr92 ?_
    show z_ev (d + 1) 91 79 [some (.ref a0), some (.int p1), some (.int p2), some (.int x164), some (.int b4), some (.int b5)] [.long y174, .long y166, .int b4] M _
    refine z_xL zt91 32 rfl rfl (P := fun _ => True) (fun (y176 : Int64) _ => ?_) trivial
    refine z_xP zt91 33 81 [some (.ref a0), some (.int p1), some (.int p2), some (.int x164), some (.int b4), some (.int b5)] [.long 0, .long y176, .int b4] rfl rfl ?_
    refine z_xI zt91 34 rfl rfl (fun (x178 : Int32) (h179 : (x178.toInt < 0 ∧ y176.toInt < 0) ∨ (x178.toInt = 0 ∧ y176.toInt = 0) ∨ (0 < x178.toInt ∧ 0 < y176.toInt)) => ?_) (z_qCmp rfl rfl)
    refine z_xZ zt91 35 rfl rfl (fun (h180 : x178.toInt = 0) => ?_) (fun (h180 : x178.toInt ≠ 0) => ?_)
    · skip
      refine z_xP zt91 37 90 [some (.ref a0), some (.int p1), some (.int p2), some (.int x164), some (.int b4), some (.int b5)] [.int 0, .int b4] rfl rfl ?_
      refine z_xI zt91 38 rfl rfl (fun (x181 : Int32) (h182 : 0 ≤ x181.toInt ∧ x181.toInt < 1 ∧ b4.toInt ≤ x181.toInt ∧ 0 ≤ x181.toInt) => ?_) (z_pOr 0 rfl rfl (by omega) (by omega) (by decide) (by omega) (by omega) (by decide))
      refine z_xP zt91 39 93 [some (.ref a0), some (.int p1), some (.int p2), some (.int x164), some (.int x181), some (.int b5)] [] rfl rfl ?_
      refine z_xN zt91 40 rfl rfl (fun (x183 : Int32) (h184 : x183.toInt = b5.toInt + 1) => ?_) (z_pAdd rfl rfl (by omega) (by omega))
      show z_ev (d + 1) 91 96 [some (.ref a0), some (.int p1), some (.int p2), some (.int x164), some (.int x181), some (.int x183)] [] M _
      refine z_xP zt91 41 8 [some (.ref a0), some (.int p1), some (.int p2), some (.int x164), some (.int x181), some (.int x183)] [] rfl rfl ?_
      exact ih M x164 x181 x183 X ⟨by omega, by omega⟩ ⟨by omega, by omega⟩ ⟨by omega, by omega⟩ (by omega)
    refine z_xP zt91 36 90 [some (.ref a0), some (.int p1), some (.int p2), some (.int x164), some (.int b4), some (.int b5)] [.int 1, .int b4] rfl rfl ?_
    refine z_xI zt91 38 rfl rfl (fun (x185 : Int32) (h186 : 0 ≤ x185.toInt ∧ x185.toInt < 2 ∧ b4.toInt ≤ x185.toInt ∧ 1 ≤ x185.toInt) => ?_) (z_pOr 1 rfl rfl (by omega) (by omega) (by decide) (by omega) (by omega) (by decide))
    refine z_xP zt91 39 93 [some (.ref a0), some (.int p1), some (.int p2), some (.int x164), some (.int x185), some (.int b5)] [] rfl rfl ?_
    refine z_xN zt91 40 rfl rfl (fun (x187 : Int32) (h188 : x187.toInt = b5.toInt + 1) => ?_) (z_pAdd rfl rfl (by omega) (by omega))
    show z_ev (d + 1) 91 96 [some (.ref a0), some (.int p1), some (.int p2), some (.int x164), some (.int x185), some (.int x187)] [] M _
    refine z_xP zt91 41 8 [some (.ref a0), some (.int p1), some (.int p2), some (.int x164), some (.int x185), some (.int x187)] [] rfl rfl ?_
    exact ih M x164 x185 x187 X ⟨by omega, by omega⟩ ⟨by omega, by omega⟩ ⟨by omega, by omega⟩ (by omega)
theorem zC91 {T : List zK} {d : Nat} {K : Option Value → zH → Prop} {a0 : Nat} {q : Nat} {t : Nat} {m : Nat} {J : Nat} {p1 : Int32} {p2 : Int32} {M0 : zH} (hW : z_W M0 T) (k0 : T[a0]? = some (.inl (3, q, t, m, J))) (u1 : 0 ≤ p1.toInt ∧ p1.toInt ≤ 9) (u2 : 0 ≤ p2.toInt ∧ p2.toInt ≤ 1) (hb0 : p1.toInt < (q : Int)) (kk : ∀ (x : Int32) (M1 : zH), z_X T zw91 M0 M1 → 0 ≤ x.toInt → x.toInt ≤ 1 → K (some (.int x)) M1) : z_ev (d + 1) 91 0 [some (.ref a0), some (.int p1), some (.int p2), none, none, none] [] M0 K := by
  have X : z_X T zw91 M0 M0 := .refl hW
  have g0 := X.1.p3 k0
  refine z_xP zt91 0 8 [some (.ref a0), some (.int p1), some (.int p2), some (.int 0), some (.int 0), some (.int 0)] [] rfl rfl ?_
  have q0 : ((0 : Int32)).toInt = 0 := rfl
  exact (zB91 k0 u1 u2 hb0 kk 34) M0 (0) (0) (0) X (by decide) (by decide) (by decide) (by omega)
def zw90 : List Nat := [209]
theorem zB90 {T : List zK} {d : Nat} {K : Option Value → zH → Prop} {a0 : Nat} {q : Nat} {t : Nat} {m : Nat} {J : Nat} {p1 : Int32} {M0 : zH} (k0 : T[a0]? = some (.inl (3, q, t, m, J))) (kk : ∀ (x : Int32) (M1 : zH), z_X T zw90 M0 M1 → 0 ≤ x.toInt → x.toInt ≤ 1048575 → K (some (.int x)) M1) : ∀ n : Nat, (∀ (M : zH) (b2 : Int32), z_X T zw90 M0 M → 0 ≤ b2.toInt ∧ b2.toInt ≤ 16 → ((((0) * 4 + 2) * 17 + (16 - b2.toInt)) * 4 + 3) * 17 + (0) < (n : Int) → z_ev (d + 2) 90 2 [some (.ref a0), some (.int p1), some (.int b2), none, none, none, none] [] M K) ∧ (∀ (M : zH) (b2 : Int32) (b3 : Int32) (o4 : Option Value) (o5 : Option Value) (o6 : Option Value), z_X T zw90 M0 M → 0 ≤ b2.toInt ∧ b2.toInt ≤ 1048575 → 0 ≤ b3.toInt ∧ b3.toInt ≤ 10 → ((((0) * 4 + 1) * 17 + (10 - b3.toInt)) * 4 + 3) * 17 + (0) < (n : Int) → z_ev (d + 2) 90 35 [some (.ref a0), some (.int p1), some (.int b2), some (.int b3), o4, o5, o6] [] M K) ∧ (∀ (M : zH) (b2 : Int32) (b3 : Int32) (b4 : Int32) (b5 : Int32) (b6 : Int32), z_X T zw90 M0 M → 0 ≤ b2.toInt ∧ b2.toInt ≤ 1048575 → 0 ≤ b3.toInt ∧ b3.toInt ≤ 9 → 0 ≤ b4.toInt ∧ b4.toInt ≤ 9 → 0 ≤ b5.toInt ∧ b5.toInt ≤ 1 → 0 ≤ b6.toInt ∧ b6.toInt ≤ 16 → b4.toInt < ((q : Nat) : Int) → ((((0) * 4 + 1) * 17 + (10 - b3.toInt)) * 4 + 0) * 17 + (16 - b6.toInt) < (n : Int) → z_ev (d + 2) 90 79 [some (.ref a0), some (.int p1), some (.int b2), some (.int b3), some (.int b4), some (.int b5), some (.int b6)] [] M K) := by
  intro n
  induction n with
  | zero => exact ⟨(by intros; exfalso; omega), (by intros; exfalso; omega), (by intros; exfalso; omega)⟩
  | succ n ih =>
    refine ⟨?_, ?_, ?_⟩
    · skip
      intro M b2 X hh0 hE
      have g0 := X.1.p3 k0
      refine z_xP zt90 1 4 [some (.ref a0), some (.int p1), some (.int b2), none, none, none, none] [.ref a0, .int b2] rfl rfl ?_
      refine z_xgR (κ := .inr (209, 1, z_sp m, 0, 0)) zt90 2 rfl zo90 zzf3_49 X k0 (by decide) (by decide) rfl (fun (a2 : Nat) h1 k3 => ?_)
      refine z_xln zt90 3 rfl X k3 (by decide) (by omega) (fun (x4 : Int32) (h5 : x4.toInt = ((z_sp m : Nat) : Int)) => ?_)
      refine z_xJ zt90 4 rfl rfl (fun (h6 : x4.toInt ≤ b2.toInt) => ?_) (fun (h6 : b2.toInt < x4.toInt) => ?_)
      · skip
        refine z_xP zt90 14 35 [some (.ref a0), some (.int p1), some (.int 0), some (.int 0), none, none, none] [] rfl rfl ?_
        have q0 : ((0 : Int32)).toInt = 0 := rfl
        exact ih.2.1 M (0) (0) none none none X (by decide) (by decide) (by omega)
      refine z_xP zt90 5 12 [some (.ref a0), some (.int p1), some (.int b2), none, none, none, none] [.ref a0] rfl rfl ?_
      refine z_xgv zt90 6 rfl zo90 zzf3_49 X k0 (by decide) h1 ?_
      refine z_xP zt90 7 17 [some (.ref a0), some (.int p1), some (.int b2), none, none, none, none] [.ref a0, .int b2, .ref a2] rfl rfl ?_
      refine z_xgR (κ := .inl (2, q, t, m, 0)) zt90 8 rfl zo90 zzf3_39 X k0 (by decide) (by decide) rfl (fun (a8 : Nat) h7 k9 => ?_)
      have g10 := X.1.p2 k9
      refine z_xP zt90 9 21 [some (.ref a0), some (.int p1), some (.int b2), none, none, none, none] [.int b2, .ref a8, .int b2, .ref a2] rfl rfl ?_
      refine z_xcV (vs := [.ref a8, .int b2]) (r := [.int b2, .ref a2]) (L2 := [some (.ref a8), some (.int b2), none]) zt90 10 rfl zo90 zzcV3_107 (Or.inl rfl) rfl X k9 rfl rfl rfl (Nat.le_of_ble_eq_true rfl) zzm46 (Nat.le_of_ble_eq_true rfl) rfl ?_
      refine z_xP zt46 0 1 [some (.ref a8), some (.int b2), none] [.ref a8] rfl rfl ?_
      refine z_xgR (κ := .inr (102, 0, m, 0, 1023)) zt46 1 rfl zo46 zzf2_60 X k9 (by decide) (by decide) rfl (fun (a12 : Nat) h11 k13 => ?_)
      refine z_xln zt46 2 rfl X k13 (by decide) (by omega) (fun (x14 : Int32) (h15 : x14.toInt = ((m : Nat) : Int)) => ?_)
      refine z_xP zt46 3 8 [some (.ref a8), some (.int b2), none] [.int 6, .int b2, .int x14] rfl rfl ?_
      refine z_xI zt46 4 rfl rfl (fun (x16 : Int32) (h17 : x16.toInt = b2.toInt * 64) => ?_) (z_pShl 6 rfl rfl (by decide) (by decide) (by omega) rfl (by omega))
      refine z_xI zt46 5 rfl rfl (fun (x18 : Int32) (h19 : x18.toInt = x14.toInt - x16.toInt) => ?_) (z_pSub rfl rfl (by omega) (by omega))
      refine z_xP zt46 6 14 [some (.ref a8), some (.int b2), some (.int x18)] [.int 64, .int x18] rfl rfl ?_
      refine z_xJ zt46 7 rfl rfl (fun (h20 : x18.toInt < 64) => ?_) (fun (h20 : 64 ≤ x18.toInt) => ?_)
      · skip
        refine z_xP zt46 10 25 [some (.ref a8), some (.int b2), some (.int x18)] [.int x18, .long 1] rfl rfl ?_
        refine z_xL zt46 11 rfl rfl (P := fun _ => True) (fun (y21 : Int64) _ => ?_) trivial
        refine z_xP zt46 12 27 [some (.ref a8), some (.int b2), some (.int x18)] [.long 1, .long y21] rfl rfl ?_
        refine z_xL zt46 13 rfl rfl (P := fun _ => True) (fun (y23 : Int64) _ => ?_) trivial
        refine z_xrl zt46 14 rfl zzr46 ?_
        show z_ev (d + 2) 90 24 [some (.ref a0), some (.int p1), some (.int b2), none, none, none, none] [.long y23, .int b2, .ref a2] M _
        refine z_xls zt90 11 rfl X k3 (by decide) (X.1.g4 k3 (by decide)) (by omega) (by omega) (by decide) (fun M25 X26 e27 => ?_)
        refine z_xN zt90 12 rfl rfl (fun (x28 : Int32) (h29 : x28.toInt = b2.toInt + 1) => ?_) (z_pAdd rfl rfl (by omega) (by omega))
        show z_ev (d + 2) 90 28 [some (.ref a0), some (.int p1), some (.int x28), none, none, none, none] [] M25 _
        refine z_xP zt90 13 2 [some (.ref a0), some (.int p1), some (.int x28), none, none, none, none] [] rfl rfl ?_
        exact ih.1 M25 x28 X26 ⟨by omega, by omega⟩ (by omega)
      refine z_xl2 zt46 8 rfl zo46 zkl2_38 ?_
      refine z_xP zt46 9 28 [some (.ref a8), some (.int b2), some (.int x18)] [.long (-1)] rfl rfl ?_
      refine z_xrl zt46 14 rfl zzr46 ?_
      show z_ev (d + 2) 90 24 [some (.ref a0), some (.int p1), some (.int b2), none, none, none, none] [.long (-1), .int b2, .ref a2] M _
      refine z_xls zt90 11 rfl X k3 (by decide) (X.1.g4 k3 (by decide)) (by omega) (by omega) (by decide) (fun M30 X31 e32 => ?_)
      refine z_xN zt90 12 rfl rfl (fun (x33 : Int32) (h34 : x33.toInt = b2.toInt + 1) => ?_) (z_pAdd rfl rfl (by omega) (by omega))
      show z_ev (d + 2) 90 28 [some (.ref a0), some (.int p1), some (.int x33), none, none, none, none] [] M30 _
      refine z_xP zt90 13 2 [some (.ref a0), some (.int p1), some (.int x33), none, none, none, none] [] rfl rfl ?_
      exact ih.1 M30 x33 X31 ⟨by omega, by omega⟩ (by omega)
    · skip
      intro M b2 b3 o4 o5 o6 X hh0 hh1 hE
      have g0 := X.1.p3 k0
      refine z_xP zt90 15 37 [some (.ref a0), some (.int p1), some (.int b2), some (.int b3), o4, o5, o6] [.ref a0, .int b3] rfl rfl ?_
      refine z_xgR (κ := .inl (2, q, t, m, 0)) zt90 16 rfl zo90 zzf3_39 X k0 (by decide) (by decide) rfl (fun (a2 : Nat) h1 k3 => ?_)
      have g4 := X.1.p2 k3
      refine z_xgI zt90 17 rfl zo90 zzf3_63 X k3 (by decide) (by decide) rfl (fun (x6 : Int32) h5 (h7 : (q : Int) ≤ x6.toInt) (h8 : x6.toInt ≤ (q : Int)) => ?_)
      refine z_xJ zt90 18 rfl rfl (fun (h9 : x6.toInt ≤ b3.toInt) => ?_) (fun (h9 : b3.toInt < x6.toInt) => ?_)
      · skip
        refine z_xP zt90 60 147 [some (.ref a0), some (.int p1), some (.int b2), some (.int b3), o4, o5, o6] [.int b2] rfl rfl ?_
        exact z_xri zt90 61 rfl zzr90 (kk b2 M X (by omega) (by omega))
      refine z_xP zt90 19 47 [some (.ref a0), some (.int p1), some (.int b2), some (.int b3), o4, o5, o6] [.ref a0] rfl rfl ?_
      refine z_xgR (κ := .inr (208, 0, 10, 0, ((q : Nat) : Int) - 1)) zt90 20 rfl zo90 zzf3_30 X k0 (by decide) (by decide) rfl (fun (a11 : Nat) h10 k12 => ?_)
      refine z_xP zt90 21 51 [some (.ref a0), some (.int p1), some (.int b2), some (.int b3), o4, o5, o6] [.int b3, .ref a11] rfl rfl ?_
      refine z_xil zt90 22 rfl X k12 (by decide) (by omega) (by omega) (fun (x13 : Int32) h14 (h15 : 0 ≤ x13.toInt) (h16 : x13.toInt ≤ ((q : Nat) : Int) - 1) => ?_)
      refine z_xP zt90 23 60 [some (.ref a0), some (.int p1), some (.int b2), some (.int b3), some (.int x13), o5, o6] [.int x13, .int p1, .int x13, .ref a0] rfl rfl ?_
      have h17 := z_b32 p1
      refine z_xI zt90 24 rfl rfl (P := fun _ => True) (fun (x18 : Int32) _ => ?_) trivial
      refine z_xP zt90 25 62 [some (.ref a0), some (.int p1), some (.int b2), some (.int b3), some (.int x13), o5, o6] [.int 1, .int x18, .int x13, .ref a0] rfl rfl ?_
      refine z_xI zt90 26 rfl rfl (fun (x20 : Int32) (h21 : 0 ≤ x20.toInt ∧ x20.toInt ≤ 1) => ?_) (z_pAnd rfl (by omega))
      refine z_xZ zt90 27 rfl rfl (fun (h22 : x20.toInt = 0) => ?_) (fun (h22 : x20.toInt ≠ 0) => ?_)
      · skip
        refine z_xP zt90 29 71 [some (.ref a0), some (.int p1), some (.int b2), some (.int b3), some (.int x13), o5, o6] [.int 0, .int x13, .ref a0] rfl rfl ?_
        refine z_xcV (vs := [.ref a0, .int x13, .int 0]) (r := []) (L2 := [some (.ref a0), some (.int x13), some (.int 0), none, none, none]) zt90 30 rfl zo90 zzcV3_111 (Or.inl rfl) rfl X k0 rfl rfl rfl (Nat.le_of_ble_eq_true rfl) zzm91 (Nat.le_of_ble_eq_true rfl) rfl ?_
        have q0 : ((0 : Int32)).toInt = 0 := rfl
        have q0 : ((0 : Int32)).toInt = 0 := rfl
        refine zC91 X.1 k0 (by omega) (by decide) (by omega) (fun x25 M23 X24 h26 h27 => ?_)
        have X28 := X.go X24 (z_sb (by decide))
        show z_ev (d + 2) 90 74 [some (.ref a0), some (.int p1), some (.int b2), some (.int b3), some (.int x13), o5, o6] [.int x25] M23 _
        refine z_xP zt90 31 79 [some (.ref a0), some (.int p1), some (.int b2), some (.int b3), some (.int x13), some (.int x25), some (.int 0)] [] rfl rfl ?_
        have q0 : ((0 : Int32)).toInt = 0 := rfl
        exact ih.2.2 M23 b2 b3 x13 x25 (0) X28 ⟨by omega, by omega⟩ ⟨by omega, by omega⟩ ⟨by omega, by omega⟩ ⟨by omega, by omega⟩ (by decide) (by omega) (by omega)
      refine z_xP zt90 28 71 [some (.ref a0), some (.int p1), some (.int b2), some (.int b3), some (.int x13), o5, o6] [.int 1, .int x13, .ref a0] rfl rfl ?_
      refine z_xcV (vs := [.ref a0, .int x13, .int 1]) (r := []) (L2 := [some (.ref a0), some (.int x13), some (.int 1), none, none, none]) zt90 30 rfl zo90 zzcV3_111 (Or.inl rfl) rfl X k0 rfl rfl rfl (Nat.le_of_ble_eq_true rfl) zzm91 (Nat.le_of_ble_eq_true rfl) rfl ?_
      have q1 : ((1 : Int32)).toInt = 1 := rfl
      have q1 : ((1 : Int32)).toInt = 1 := rfl
      refine zC91 X.1 k0 (by omega) (by decide) (by omega) (fun x32 M30 X31 h33 h34 => ?_)
      have X35 := X.go X31 (z_sb (by decide))
      show z_ev (d + 2) 90 74 [some (.ref a0), some (.int p1), some (.int b2), some (.int b3), some (.int x13), o5, o6] [.int x32] M30 _
      refine z_xP zt90 31 79 [some (.ref a0), some (.int p1), some (.int b2), some (.int b3), some (.int x13), some (.int x32), some (.int 0)] [] rfl rfl ?_
      have q0 : ((0 : Int32)).toInt = 0 := rfl
      exact ih.2.2 M30 b2 b3 x13 x32 (0) X35 ⟨by omega, by omega⟩ ⟨by omega, by omega⟩ ⟨by omega, by omega⟩ ⟨by omega, by omega⟩ (by decide) (by omega) (by omega)
    · skip
      intro M b2 b3 b4 b5 b6 X hh0 hh1 hh2 hh3 hh4 hh5 hE
      have g0 := X.1.p3 k0
      refine z_xP zt90 32 82 [some (.ref a0), some (.int p1), some (.int b2), some (.int b3), some (.int b4), some (.int b5), some (.int b6)] [.ref a0, .int b6] rfl rfl ?_
      refine z_xgR (κ := .inr (209, 1, z_sp m, 0, 0)) zt90 33 rfl zo90 zzf3_49 X k0 (by decide) (by decide) rfl (fun (a2 : Nat) h1 k3 => ?_)
      refine z_xln zt90 34 rfl X k3 (by decide) (by omega) (fun (x4 : Int32) (h5 : x4.toInt = ((z_sp m : Nat) : Int)) => ?_)
      refine z_xJ zt90 35 rfl rfl (fun (h6 : x4.toInt ≤ b6.toInt) => ?_) (fun (h6 : b6.toInt < x4.toInt) => ?_)
      · skip
        refine z_xP zt90 48 121 [some (.ref a0), some (.int p1), some (.int b2), some (.int b3), some (.int b4), some (.int b5), some (.int b6)] [.int b5, .int b2] rfl rfl ?_
        refine z_xZ zt90 49 rfl rfl (fun (h7 : b5.toInt = 0) => ?_) (fun (h7 : b5.toInt ≠ 0) => ?_)
        · skip
          refine z_xP zt90 53 136 [some (.ref a0), some (.int p1), some (.int b2), some (.int b3), some (.int b4), some (.int b5), some (.int b6)] [.int 10, .int b4, .int 1, .int b2] rfl rfl ?_
          refine z_xI zt90 54 rfl rfl (fun (x8 : Int32) (h9 : x8.toInt = b4.toInt + 10) => ?_) (z_pAdd rfl rfl (by omega) (by omega))
          refine z_xI zt90 55 rfl rfl (fun (x10 : Int32) (h11 : 1 ≤ x10.toInt ∧ x10.toInt ≤ 524288) => ?_) (z_pShlB (a := 1) (b := 19) (c := 524288) (r := 524288) rfl rfl (by omega) (by omega) (by omega) (by omega) (by decide) (by decide) (by decide) (by decide))
          refine z_xI zt90 56 rfl rfl (fun (x12 : Int32) (h13 : 0 ≤ x12.toInt ∧ x12.toInt < 1048576 ∧ b2.toInt ≤ x12.toInt ∧ x10.toInt ≤ x12.toInt) => ?_) (z_pOr 20 rfl rfl (by omega) (by omega) (by decide) (by omega) (by omega) (by decide))
          refine z_xP zt90 57 140 [some (.ref a0), some (.int p1), some (.int x12), some (.int b3), some (.int b4), some (.int b5), some (.int b6)] [] rfl rfl ?_
          refine z_xN zt90 58 rfl rfl (fun (x14 : Int32) (h15 : x14.toInt = b3.toInt + 1) => ?_) (z_pAdd rfl rfl (by omega) (by omega))
          show z_ev (d + 2) 90 143 [some (.ref a0), some (.int p1), some (.int x12), some (.int x14), some (.int b4), some (.int b5), some (.int b6)] [] M _
          refine z_xP zt90 59 35 [some (.ref a0), some (.int p1), some (.int x12), some (.int x14), some (.int b4), some (.int b5), some (.int b6)] [] rfl rfl ?_
          exact ih.2.1 M x12 x14 (some (.int b4)) (some (.int b5)) (some (.int b6)) X ⟨by omega, by omega⟩ ⟨by omega, by omega⟩ (by omega)
        refine z_xP zt90 50 127 [some (.ref a0), some (.int p1), some (.int b2), some (.int b3), some (.int b4), some (.int b5), some (.int b6)] [.int b4, .int 1, .int b2] rfl rfl ?_
        refine z_xI zt90 51 rfl rfl (fun (x16 : Int32) (h17 : 1 ≤ x16.toInt ∧ x16.toInt ≤ 512) => ?_) (z_pShlB (a := 1) (b := 9) (c := 512) (r := 512) rfl rfl (by omega) (by omega) (by omega) (by omega) (by decide) (by decide) (by decide) (by decide))
        refine z_xP zt90 52 138 [some (.ref a0), some (.int p1), some (.int b2), some (.int b3), some (.int b4), some (.int b5), some (.int b6)] [.int x16, .int b2] rfl rfl ?_
        refine z_xI zt90 56 rfl rfl (fun (x18 : Int32) (h19 : 0 ≤ x18.toInt ∧ x18.toInt < 1048576 ∧ b2.toInt ≤ x18.toInt ∧ x16.toInt ≤ x18.toInt) => ?_) (z_pOr 20 rfl rfl (by omega) (by omega) (by decide) (by omega) (by omega) (by decide))
        refine z_xP zt90 57 140 [some (.ref a0), some (.int p1), some (.int x18), some (.int b3), some (.int b4), some (.int b5), some (.int b6)] [] rfl rfl ?_
        refine z_xN zt90 58 rfl rfl (fun (x20 : Int32) (h21 : x20.toInt = b3.toInt + 1) => ?_) (z_pAdd rfl rfl (by omega) (by omega))
        show z_ev (d + 2) 90 143 [some (.ref a0), some (.int p1), some (.int x18), some (.int x20), some (.int b4), some (.int b5), some (.int b6)] [] M _
        refine z_xP zt90 59 35 [some (.ref a0), some (.int p1), some (.int x18), some (.int x20), some (.int b4), some (.int b5), some (.int b6)] [] rfl rfl ?_
        exact ih.2.1 M x18 x20 (some (.int b4)) (some (.int b5)) (some (.int b6)) X ⟨by omega, by omega⟩ ⟨by omega, by omega⟩ (by omega)
      refine z_xP zt90 36 90 [some (.ref a0), some (.int p1), some (.int b2), some (.int b3), some (.int b4), some (.int b5), some (.int b6)] [.ref a0] rfl rfl ?_
      refine z_xgv zt90 37 rfl zo90 zzf3_49 X k0 (by decide) h1 ?_
      refine z_xP zt90 38 96 [some (.ref a0), some (.int p1), some (.int b2), some (.int b3), some (.int b4), some (.int b5), some (.int b6)] [.int b6, .ref a2, .int b6, .ref a2] rfl rfl ?_
      refine z_xll zt90 39 rfl X k3 (by decide) (by omega) (by omega) (fun (y22 : Int64) => ?_)
      refine z_xP zt90 40 98 [some (.ref a0), some (.int p1), some (.int b2), some (.int b3), some (.int b4), some (.int b5), some (.int b6)] [.ref a0, .long y22, .int b6, .ref a2] rfl rfl ?_
      refine z_xgR (κ := .inl (2, q, t, m, 0)) zt90 41 rfl zo90 zzf3_39 X k0 (by decide) (by decide) rfl (fun (a24 : Nat) h23 k25 => ?_)
      have g26 := X.1.p2 k25
      refine z_xP zt90 42 107 [some (.ref a0), some (.int p1), some (.int b2), some (.int b3), some (.int b4), some (.int b5), some (.int b6)] [.int b6, .int b5, .int b4, .ref a24, .long y22, .int b6, .ref a2] rfl rfl ?_
      refine z_xcV (vs := [.ref a24, .int b4, .int b5, .int b6]) (r := [.long y22, .int b6, .ref a2]) (L2 := [some (.ref a24), some (.int b4), some (.int b5), some (.int b6), none, none]) zt90 43 rfl zo90 zzcV3_115 (Or.inl rfl) rfl X k25 rfl rfl rfl (Nat.le_of_ble_eq_true rfl) zzm92 (Nat.le_of_ble_eq_true rfl) rfl ?_
      refine z_xP zt92 0 1 [some (.ref a24), some (.int b4), some (.int b5), some (.int b6), none, none] [.ref a24] rfl rfl ?_
      refine z_xgR (κ := .inr (111, 1, q * z_sp m, 0, 0)) zt92 1 rfl zo92 zzf2_66 X k25 (by decide) (by decide) rfl (fun (a28 : Nat) h27 k29 => ?_)
      refine z_xP zt92 2 6 [some (.ref a24), some (.int b4), some (.int b5), some (.int b6), none, none] [.ref a24, .int b4, .ref a28] rfl rfl ?_
      refine z_xgI zt92 3 rfl zo92 zzf2_63 X k25 (by decide) (by decide) rfl (fun (x31 : Int32) h30 (h32 : ((z_sp m : Nat) : Int) ≤ x31.toInt) (h33 : x31.toInt ≤ ((z_sp m : Nat) : Int)) => ?_)
      refine z_xI zt92 4 rfl rfl (fun (x34 : Int32) (h35 : x34.toInt = b4.toInt * x31.toInt ∧ 0 ≤ x34.toInt ∧ x34.toInt ≤ 144) => ?_) (z_pMulB (a := 9) (b := 16) rfl rfl (by omega) (by omega) (by omega) (by omega) (by decide) (by decide))
      refine z_xP zt92 5 11 [some (.ref a24), some (.int b4), some (.int b5), some (.int b6), none, none] [.int b6, .int x34, .ref a28] rfl rfl ?_
      refine z_xI zt92 6 rfl rfl (fun (x36 : Int32) (h37 : x36.toInt = x34.toInt + b6.toInt) => ?_) (z_pAdd rfl rfl (by omega) (by omega))
      have h38 := z_nlx (p := x34.toInt) (x := b4.toInt) (y := x31.toInt) (s := b6.toInt) (z := x36.toInt) (A := q) (B := z_sp m) (by omega) (by omega) (by omega) (by omega) (by omega) (by omega) (by omega)
      refine z_xll zt92 7 rfl X k29 (by decide) h38.1 h38.2 (fun (y39 : Int64) => ?_)
      refine z_xP zt92 8 16 [some (.ref a24), some (.int b4), some (.int b5), some (.int b6), some (.long y39), none] [.int b5] rfl rfl ?_
      refine z_xZ zt92 9 rfl rfl (fun (h40 : b5.toInt = 0) => ?_) (fun (h40 : b5.toInt ≠ 0) => ?_)
      · skip
        refine z_xP zt92 11 26 [some (.ref a24), some (.int b4), some (.int b5), some (.int b6), some (.long y39), none] [.long y39] rfl rfl ?_
        refine z_xl2 zt92 12 rfl zo92 zkl2_38 ?_
        refine z_xL zt92 13 rfl rfl (P := fun _ => True) (fun (y41 : Int64) _ => ?_) trivial
        refine z_xrl zt92 14 rfl zzr92 ?_
        show z_ev (d + 2) 90 110 [some (.ref a0), some (.int p1), some (.int b2), some (.int b3), some (.int b4), some (.int b5), some (.int b6)] [.long y41, .long y22, .int b6, .ref a2] M _
        refine z_xL zt90 44 rfl rfl (P := fun _ => True) (fun (y43 : Int64) _ => ?_) trivial
        refine z_xls zt90 45 rfl X k3 (by decide) (X.1.g4 k3 (by decide)) (by omega) (by omega) (by decide) (fun M45 X46 e47 => ?_)
        refine z_xN zt90 46 rfl rfl (fun (x48 : Int32) (h49 : x48.toInt = b6.toInt + 1) => ?_) (z_pAdd rfl rfl (by omega) (by omega))
        show z_ev (d + 2) 90 115 [some (.ref a0), some (.int p1), some (.int b2), some (.int b3), some (.int b4), some (.int b5), some (.int x48)] [] M45 _
        refine z_xP zt90 47 79 [some (.ref a0), some (.int p1), some (.int b2), some (.int b3), some (.int b4), some (.int b5), some (.int x48)] [] rfl rfl ?_
        exact ih.2.2 M45 b2 b3 b4 b5 x48 X46 ⟨by omega, by omega⟩ ⟨by omega, by omega⟩ ⟨by omega, by omega⟩ ⟨by omega, by omega⟩ ⟨by omega, by omega⟩ (by omega) (by omega)
      refine z_xP zt92 10 30 [some (.ref a24), some (.int b4), some (.int b5), some (.int b6), some (.long y39), none] [.long y39] rfl rfl ?_
      refine z_xrl zt92 14 rfl zzr92 ?_
      show z_ev (d + 2) 90 110 [some (.ref a0), some (.int p1), some (.int b2), some (.int b3), some (.int b4), some (.int b5), some (.int b6)] [.long y39, .long y22, .int b6, .ref a2] M _
      refine z_xL zt90 44 rfl rfl (P := fun _ => True) (fun (y50 : Int64) _ => ?_) trivial
      refine z_xls zt90 45 rfl X k3 (by decide) (X.1.g4 k3 (by decide)) (by omega) (by omega) (by decide) (fun M52 X53 e54 => ?_)
      refine z_xN zt90 46 rfl rfl (fun (x55 : Int32) (h56 : x55.toInt = b6.toInt + 1) => ?_) (z_pAdd rfl rfl (by omega) (by omega))
      show z_ev (d + 2) 90 115 [some (.ref a0), some (.int p1), some (.int b2), some (.int b3), some (.int b4), some (.int b5), some (.int x55)] [] M52 _
      refine z_xP zt90 47 79 [some (.ref a0), some (.int p1), some (.int b2), some (.int b3), some (.int b4), some (.int b5), some (.int x55)] [] rfl rfl ?_
      exact ih.2.2 M52 b2 b3 b4 b5 x55 X53 ⟨by omega, by omega⟩ ⟨by omega, by omega⟩ ⟨by omega, by omega⟩ ⟨by omega, by omega⟩ ⟨by omega, by omega⟩ (by omega) (by omega)
theorem zC90 {T : List zK} {d : Nat} {K : Option Value → zH → Prop} {a0 : Nat} {q : Nat} {t : Nat} {m : Nat} {J : Nat} {p1 : Int32} {M0 : zH} (hW : z_W M0 T) (k0 : T[a0]? = some (.inl (3, q, t, m, J))) (kk : ∀ (x : Int32) (M1 : zH), z_X T zw90 M0 M1 → 0 ≤ x.toInt → x.toInt ≤ 1048575 → K (some (.int x)) M1) : z_ev (d + 2) 90 0 [some (.ref a0), some (.int p1), none, none, none, none, none] [] M0 K := by
  have X : z_X T zw90 M0 M0 := .refl hW
  have g0 := X.1.p3 k0
  refine z_xP zt90 0 2 [some (.ref a0), some (.int p1), some (.int 0), none, none, none, none] [] rfl rfl ?_
  have q0 : ((0 : Int32)).toInt = 0 := rfl
  exact (zB90 k0 kk 4624).1 M0 (0) X (by decide) (by omega)
def zw86 : List Nat := [208, 209]
theorem zC86 {T : List zK} {d : Nat} {K : Option Value → zH → Prop} {a0 : Nat} {ci : Nat} {a1 : Nat} {q1 : Nat} {t1 : Nat} {m1 : Nat} {J1 : Nat} {M0 : zH} (hW : z_W M0 T) (w0 : ci = 9 ∨ ci = 10) (k0 : T[a0]? = some (.inl (ci, 0, 0, 0, 0))) (k1 : T[a1]? = some (.inl (3, q1, t1, m1, J1))) (kk : ∀ (x : Int32) (M1 : zH), z_X T zw86 M0 M1 → K (some (.int x)) M1) : z_ev (d + 3) 86 0 [some (.ref a0), some (.ref a1)] [] M0 K := by
  have X : z_X T zw86 M0 M0 := .refl hW
  have w0r : 4 ≤ ci ∧ ci ≤ 11 := by omega
  have g1 := X.1.p3 k1
  refine z_xP zt86 0 2 [some (.ref a0), some (.ref a1)] [.ref a0, .ref a1] rfl rfl ?_
  refine z_xgI zt86 1 rfl zo86 zzf9_7 X k0 (z_wE2 (fun c => c ∈ ([4, 5, 6, 7, 8, 9, 10, 11] : List Nat)) (by decide) (by decide) w0) (z_nf8 w0r (by decide)) (z_fs8 w0r) (fun (x2 : Int32) h1 (h3 : 0 ≤ x2.toInt) (h4 : x2.toInt ≤ 9) => ?_)
  refine z_xcV (vs := [.ref a1, .int x2]) (r := []) (L2 := [some (.ref a1), some (.int x2), none, none]) zt86 2 rfl zo86 zzcV9_13 (Or.inl rfl) rfl X k1 rfl rfl rfl (Nat.le_of_ble_eq_true rfl) zzm87 (Nat.le_of_ble_eq_true rfl) rfl ?_
  refine zC87 X.1 k1 (by omega) (fun M5 X6  => ?_)
  have X7 := X.go X6 (z_sb (by decide))
  show z_ev (d + 3) 86 8 [some (.ref a0), some (.ref a1)] [] M5 _
  refine z_xP zt86 3 11 [some (.ref a0), some (.ref a1)] [.ref a1, .ref a0, .ref a1] rfl rfl ?_
  refine zVopenYes zt86 4 rfl zo86 zzcV9_19 X7 k0 w0r w0 (Nat.le_of_ble_eq_true rfl) k1 (fun x11 M9 X10  => ?_)
  have X12 := X7.go X10 (z_sb (by decide))
  show z_ev (d + 3) 86 14 [some (.ref a0), some (.ref a1)] [.int x11, .ref a1] M9 _
  refine z_xcV (vs := [.ref a1, .int x11]) (r := []) (L2 := [some (.ref a1), some (.int x11), none, none, none, none, none]) zt86 5 rfl zo86 zzcV9_23 (Or.inl rfl) rfl X12 k1 rfl rfl rfl (Nat.le_of_ble_eq_true rfl) zzm90 (Nat.le_of_ble_eq_true rfl) rfl ?_
  refine zC90 X12.1 k1 (fun x16 M14 X15 h17 h18 => ?_)
  have X19 := X12.go X15 (z_sb (by decide))
  show z_ev (d + 3) 86 17 [some (.ref a0), some (.ref a1)] [.int x16] M14 _
  exact z_xri zt86 6 rfl zzr86 (kk x16 M14 X19)
def zw95 : List Nat := []
theorem zB95 {T : List zK} {d : Nat} {K : Option Value → zH → Prop} {a0 : Nat} {q : Nat} {t : Nat} {m : Nat} {J : Nat} {M0 : zH} (k0 : T[a0]? = some (.inl (3, q, t, m, J))) (kk : ∀ (x : Int32) (M1 : zH), z_X T zw95 M0 M1 → 0 ≤ x.toInt → x.toInt ≤ 1048575 → K (some (.int x)) M1) : ∀ n : Nat, (∀ (M : zH) (b1 : Int32) (b2 : Int32), z_X T zw95 M0 M → 0 ≤ b1.toInt ∧ b1.toInt ≤ 1048575 → 0 ≤ b2.toInt ∧ b2.toInt ≤ 10 → ((0) * 2 + 0) * 11 + (10 - b2.toInt) < (n : Int) → z_ev d 95 4 [some (.ref a0), some (.int b1), some (.int b2)] [] M K) := by
  intro n
  induction n with
  | zero => exact by intros; exfalso; omega
  | succ n ih =>
    intro M b1 b2 X hh0 hh1 hE
    have g0 := X.1.p3 k0
    refine z_xP zt95 1 6 [some (.ref a0), some (.int b1), some (.int b2)] [.ref a0, .int b2] rfl rfl ?_
    refine z_xgR (κ := .inl (2, q, t, m, 0)) zt95 2 rfl zo95 zzf3_39 X k0 (by decide) (by decide) rfl (fun (a2 : Nat) h1 k3 => ?_)
    have g4 := X.1.p2 k3
    refine z_xgI zt95 3 rfl zo95 zzf3_63 X k3 (by decide) (by decide) rfl (fun (x6 : Int32) h5 (h7 : (q : Int) ≤ x6.toInt) (h8 : x6.toInt ≤ (q : Int)) => ?_)
    refine z_xJ zt95 4 rfl rfl (fun (h9 : x6.toInt ≤ b2.toInt) => ?_) (fun (h9 : b2.toInt < x6.toInt) => ?_)
    · skip
      refine z_xP zt95 26 55 [some (.ref a0), some (.int b1), some (.int b2)] [.int b1] rfl rfl ?_
      exact z_xri zt95 27 rfl zzr95 (kk b1 M X (by omega) (by omega))
    refine z_xP zt95 5 16 [some (.ref a0), some (.int b1), some (.int b2)] [.ref a0] rfl rfl ?_
    refine z_xgR (κ := .inr (205, 0, 10, (-2147483648), 2147483647)) zt95 6 rfl zo95 zzf3_21 X k0 (by decide) (by decide) rfl (fun (a11 : Nat) h10 k12 => ?_)
    refine z_xP zt95 7 20 [some (.ref a0), some (.int b1), some (.int b2)] [.int b2, .ref a11] rfl rfl ?_
    refine z_xil zt95 8 rfl X k12 (by decide) (by omega) (by omega) (fun (x13 : Int32) h14 (h15 : (-2147483648) ≤ x13.toInt) (h16 : x13.toInt ≤ 2147483647) => ?_)
    refine z_xZ zt95 9 rfl rfl (fun (h17 : x13.toInt ≤ 0) => ?_) (fun (h17 : 0 < x13.toInt) => ?_)
    · skip
      refine z_xP zt95 14 31 [some (.ref a0), some (.int b1), some (.int b2)] [.ref a0] rfl rfl ?_
      refine z_xgv zt95 15 rfl zo95 zzf3_21 X k0 (by decide) h10 ?_
      refine z_xP zt95 16 35 [some (.ref a0), some (.int b1), some (.int b2)] [.int b2, .ref a11] rfl rfl ?_
      refine z_xil zt95 17 rfl X k12 (by decide) (by omega) (by omega) (fun (x18 : Int32) h19 (h20 : (-2147483648) ≤ x18.toInt) (h21 : x18.toInt ≤ 2147483647) => ?_)
      have h22 := congrArg Int32.toInt (h19.symm.trans h14)
      refine z_xZ zt95 18 rfl rfl (fun (h23 : 0 ≤ x18.toInt) => ?_) (fun (h23 : x18.toInt < 0) => ?_)
      · skip
        refine z_xN zt95 24 rfl rfl (fun (x24 : Int32) (h25 : x24.toInt = b2.toInt + 1) => ?_) (z_pAdd rfl rfl (by omega) (by omega))
        show z_ev d 95 51 [some (.ref a0), some (.int b1), some (.int x24)] [] M _
        refine z_xP zt95 25 4 [some (.ref a0), some (.int b1), some (.int x24)] [] rfl rfl ?_
        exact ih M b1 x24 X ⟨by omega, by omega⟩ ⟨by omega, by omega⟩ (by omega)
      refine z_xP zt95 19 44 [some (.ref a0), some (.int b1), some (.int b2)] [.int 10, .int b2, .int 1, .int b1] rfl rfl ?_
      refine z_xI zt95 20 rfl rfl (fun (x26 : Int32) (h27 : x26.toInt = b2.toInt + 10) => ?_) (z_pAdd rfl rfl (by omega) (by omega))
      refine z_xI zt95 21 rfl rfl (fun (x28 : Int32) (h29 : 1 ≤ x28.toInt ∧ x28.toInt ≤ 524288) => ?_) (z_pShlB (a := 1) (b := 19) (c := 524288) (r := 524288) rfl rfl (by omega) (by omega) (by omega) (by omega) (by decide) (by decide) (by decide) (by decide))
      refine z_xI zt95 22 rfl rfl (fun (x30 : Int32) (h31 : 0 ≤ x30.toInt ∧ x30.toInt < 1048576 ∧ b1.toInt ≤ x30.toInt ∧ x28.toInt ≤ x30.toInt) => ?_) (z_pOr 20 rfl rfl (by omega) (by omega) (by decide) (by omega) (by omega) (by decide))
      refine z_xP zt95 23 48 [some (.ref a0), some (.int x30), some (.int b2)] [] rfl rfl ?_
      refine z_xN zt95 24 rfl rfl (fun (x32 : Int32) (h33 : x32.toInt = b2.toInt + 1) => ?_) (z_pAdd rfl rfl (by omega) (by omega))
      show z_ev d 95 51 [some (.ref a0), some (.int x30), some (.int x32)] [] M _
      refine z_xP zt95 25 4 [some (.ref a0), some (.int x30), some (.int x32)] [] rfl rfl ?_
      exact ih M x30 x32 X ⟨by omega, by omega⟩ ⟨by omega, by omega⟩ (by omega)
    refine z_xP zt95 10 27 [some (.ref a0), some (.int b1), some (.int b2)] [.int b2, .int 1, .int b1] rfl rfl ?_
    refine z_xI zt95 11 rfl rfl (fun (x34 : Int32) (h35 : 1 ≤ x34.toInt ∧ x34.toInt ≤ 512) => ?_) (z_pShlB (a := 1) (b := 9) (c := 512) (r := 512) rfl rfl (by omega) (by omega) (by omega) (by omega) (by decide) (by decide) (by decide) (by decide))
    refine z_xI zt95 12 rfl rfl (fun (x36 : Int32) (h37 : 0 ≤ x36.toInt ∧ x36.toInt < 1048576 ∧ b1.toInt ≤ x36.toInt ∧ x34.toInt ≤ x36.toInt) => ?_) (z_pOr 20 rfl rfl (by omega) (by omega) (by decide) (by omega) (by omega) (by decide))
    refine z_xP zt95 13 30 [some (.ref a0), some (.int x36), some (.int b2)] [] rfl rfl ?_
    refine z_xP zt95 14 31 [some (.ref a0), some (.int x36), some (.int b2)] [.ref a0] rfl rfl ?_
    refine z_xgv zt95 15 rfl zo95 zzf3_21 X k0 (by decide) h10 ?_
    refine z_xP zt95 16 35 [some (.ref a0), some (.int x36), some (.int b2)] [.int b2, .ref a11] rfl rfl ?_
    refine z_xil zt95 17 rfl X k12 (by decide) (by omega) (by omega) (fun (x38 : Int32) h39 (h40 : (-2147483648) ≤ x38.toInt) (h41 : x38.toInt ≤ 2147483647) => ?_)
    have h42 := congrArg Int32.toInt (h39.symm.trans h14)
    refine z_xZ zt95 18 rfl rfl (fun (h43 : 0 ≤ x38.toInt) => ?_) (fun (h43 : x38.toInt < 0) => absurd h43 (by omega))
    refine z_xN zt95 24 rfl rfl (fun (x44 : Int32) (h45 : x44.toInt = b2.toInt + 1) => ?_) (z_pAdd rfl rfl (by omega) (by omega))
    show z_ev d 95 51 [some (.ref a0), some (.int x36), some (.int x44)] [] M _
    refine z_xP zt95 25 4 [some (.ref a0), some (.int x36), some (.int x44)] [] rfl rfl ?_
    exact ih M x36 x44 X ⟨by omega, by omega⟩ ⟨by omega, by omega⟩ (by omega)
theorem zC95 {T : List zK} {d : Nat} {K : Option Value → zH → Prop} {a0 : Nat} {q : Nat} {t : Nat} {m : Nat} {J : Nat} {M0 : zH} (hW : z_W M0 T) (k0 : T[a0]? = some (.inl (3, q, t, m, J))) (kk : ∀ (x : Int32) (M1 : zH), z_X T zw95 M0 M1 → 0 ≤ x.toInt → x.toInt ≤ 1048575 → K (some (.int x)) M1) : z_ev d 95 0 [some (.ref a0), none, none] [] M0 K := by
  have X : z_X T zw95 M0 M0 := .refl hW
  have g0 := X.1.p3 k0
  refine z_xP zt95 0 4 [some (.ref a0), some (.int 0), some (.int 0)] [] rfl rfl ?_
  have q0 : ((0 : Int32)).toInt = 0 := rfl
  exact (zB95 k0 kk 22) M0 (0) (0) X (by decide) (by decide) (by omega)
def zw96 : List Nat := [206, 207]
theorem zB96 {T : List zK} {d : Nat} {K : Option Value → zH → Prop} {a0 : Nat} {q : Nat} {t : Nat} {m : Nat} {J : Nat} {p1 : Int32} {M0 : zH} (k0 : T[a0]? = some (.inl (3, q, t, m, J))) (u1 : 0 ≤ p1.toInt ∧ p1.toInt ≤ 2147483647) (kk : ∀ (x : Int32) (M1 : zH), z_X T zw96 M0 M1 → (-1) ≤ x.toInt → x.toInt ≤ 1023 → K (some (.int x)) M1) : ∀ n : Nat, (∀ (M : zH) (b2 : Int32) (b3 : Int32) (b4 : Int32) (b5 : Int32) (b6 : Int32) (b7 : Int32) (o8 : Option Value) (o9 : Option Value), z_X T zw96 M0 M → 0 ≤ b2.toInt ∧ b2.toInt ≤ 1023 → 0 ≤ b3.toInt ∧ b3.toInt ≤ 1023 → 0 ≤ b4.toInt ∧ b4.toInt ≤ 2097151 → (-1) ≤ b5.toInt ∧ b5.toInt ≤ 1023 → 0 ≤ b7.toInt ∧ b7.toInt ≤ 1024 → ((0) * 2 + 0) * 1025 + (1024 - b7.toInt) < (n : Int) → z_ev (d + 2) 96 49 [some (.ref a0), some (.int p1), some (.int b2), some (.int b3), some (.int b4), some (.int b5), some (.int b6), some (.int b7), o8, o9] [] M K) := by
  intro n
  induction n with
  | zero => exact by intros; exfalso; omega
  | succ n ih =>
    intro M b2 b3 b4 b5 b6 b7 o8 o9 X hh0 hh1 hh2 hh3 hh4 hE
    have g0 := X.1.p3 k0
    refine z_xP zt96 19 52 [some (.ref a0), some (.int p1), some (.int b2), some (.int b3), some (.int b4), some (.int b5), some (.int b6), some (.int b7), o8, o9] [.ref a0, .int b7] rfl rfl ?_
    refine z_xgR (κ := .inl (2, q, t, m, 0)) zt96 20 rfl zo96 zzf3_39 X k0 (by decide) (by decide) rfl (fun (a2 : Nat) h1 k3 => ?_)
    have g4 := X.1.p2 k3
    refine z_xgR (κ := .inr (102, 0, m, 0, 1023)) zt96 21 rfl zo96 zzf3_101 X k3 (by decide) (by decide) rfl (fun (a6 : Nat) h5 k7 => ?_)
    refine z_xln zt96 22 rfl X k7 (by decide) (by omega) (fun (x8 : Int32) (h9 : x8.toInt = ((m : Nat) : Int)) => ?_)
    refine z_xJ zt96 23 rfl rfl (fun (h10 : x8.toInt ≤ b7.toInt) => ?_) (fun (h10 : b7.toInt < x8.toInt) => ?_)
    · skip
      refine z_xP zt96 43 122 [some (.ref a0), some (.int p1), some (.int b2), some (.int b3), some (.int b4), some (.int b5), some (.int b6), some (.int b7), o8, o9] [.int b5] rfl rfl ?_
      exact z_xri zt96 44 rfl zzr96 (kk b5 M X (by omega) (by omega))
    refine z_xP zt96 24 63 [some (.ref a0), some (.int p1), some (.int b2), some (.int b3), some (.int b4), some (.int b5), some (.int b6), some (.int b7), o8, o9] [.ref a0] rfl rfl ?_
    refine z_xgv zt96 25 rfl zo96 zzf3_39 X k0 (by decide) h1 ?_
    refine z_xgv zt96 26 rfl zo96 zzf3_101 X k3 (by decide) h5 ?_
    refine z_xP zt96 27 71 [some (.ref a0), some (.int p1), some (.int b2), some (.int b3), some (.int b4), some (.int b5), some (.int b6), some (.int b7), o8, o9] [.int b7, .ref a6] rfl rfl ?_
    refine z_xil zt96 28 rfl X k7 (by decide) (by omega) (by omega) (fun (x11 : Int32) h12 (h13 : 0 ≤ x11.toInt) (h14 : x11.toInt ≤ 1023) => ?_)
    refine z_xP zt96 29 78 [some (.ref a0), some (.int p1), some (.int b2), some (.int b3), some (.int b4), some (.int b5), some (.int b6), some (.int b7), some (.int x11), o9] [.int b4, .int x11] rfl rfl ?_
    refine z_xI zt96 30 rfl rfl (fun (x15 : Int32) (h16 : 0 ≤ x15.toInt ∧ x15.toInt ≤ x11.toInt ∧ x15.toInt ≤ b4.toInt) => ?_) (z_pAnd2 rfl rfl (by omega) (by omega))
    refine z_xP zt96 31 80 [some (.ref a0), some (.int p1), some (.int b2), some (.int b3), some (.int b4), some (.int b5), some (.int b6), some (.int b7), some (.int x11), o9] [.int b3, .int x15] rfl rfl ?_
    refine z_xJ zt96 32 rfl rfl (fun (h17 : x15.toInt = b3.toInt) => ?_) (fun (h17 : x15.toInt ≠ b3.toInt) => ?_)
    · skip
      refine z_xP zt96 34 89 [some (.ref a0), some (.int p1), some (.int b2), some (.int b3), some (.int b4), some (.int b5), some (.int b6), some (.int b7), some (.int x11), o9] [.int x11, .ref a0] rfl rfl ?_
      refine z_xcV (vs := [.ref a0, .int x11]) (r := []) (L2 := [some (.ref a0), some (.int x11)]) zt96 35 rfl zo96 zzcV3_104 (Or.inl rfl) rfl X k0 rfl rfl rfl (Nat.le_of_ble_eq_true rfl) zzm72 (Nat.le_of_ble_eq_true rfl) rfl ?_
      refine z_xP zt72 0 1 [some (.ref a0), some (.int x11)] [.ref a0] rfl rfl ?_
      refine z_xgR (κ := .inr (206, 0, 32, (-2147483648), 2147483647)) zt72 1 rfl zo72 zzf3_24 X k0 (by decide) (by decide) rfl (fun (a19 : Nat) h18 k20 => ?_)
      refine z_xP zt72 2 7 [some (.ref a0), some (.int x11)] [.int 31, .int x11, .ref a19] rfl rfl ?_
      refine z_xI zt72 3 rfl rfl (fun (x21 : Int32) (h22 : 0 ≤ x21.toInt ∧ x21.toInt ≤ x11.toInt ∧ x21.toInt ≤ 31) => ?_) (z_pAnd2 rfl rfl (by omega) (by omega))
      refine z_xil zt72 4 rfl X k20 (by decide) (by omega) (by omega) (fun (x23 : Int32) h24 (h25 : (-2147483648) ≤ x23.toInt) (h26 : x23.toInt ≤ 2147483647) => ?_)
      refine z_xP zt72 5 10 [some (.ref a0), some (.int x11)] [.ref a0, .int x23] rfl rfl ?_
      refine z_xgR (κ := .inr (207, 0, 32, (-2147483648), 2147483647)) zt72 6 rfl zo72 zzf3_27 X k0 (by decide) (by decide) rfl (fun (a28 : Nat) h27 k29 => ?_)
      refine z_xP zt72 7 15 [some (.ref a0), some (.int x11)] [.int 5, .int x11, .ref a28, .int x23] rfl rfl ?_
      refine z_xI zt72 8 rfl rfl (fun (x30 : Int32) (h31 : x30.toInt = x11.toInt / 32) => ?_) (z_pShr (c := 32) 5 rfl rfl (by decide))
      refine z_xP zt72 9 18 [some (.ref a0), some (.int x11)] [.int 31, .int x30, .ref a28, .int x23] rfl rfl ?_
      refine z_xI zt72 10 rfl rfl (fun (x32 : Int32) (h33 : 0 ≤ x32.toInt ∧ x32.toInt ≤ x30.toInt ∧ x32.toInt ≤ 31) => ?_) (z_pAnd2 rfl rfl (by omega) (by omega))
      refine z_xil zt72 11 rfl X k29 (by decide) (by omega) (by omega) (fun (x34 : Int32) h35 (h36 : (-2147483648) ≤ x34.toInt) (h37 : x34.toInt ≤ 2147483647) => ?_)
      have h38 := z_b32 x23
      have h39 := z_b32 x34
      refine z_xI zt72 12 rfl rfl (P := fun _ => True) (fun (x40 : Int32) _ => ?_) trivial
      refine z_xri zt72 13 rfl zzr72 ?_
      show z_ev (d + 2) 96 92 [some (.ref a0), some (.int p1), some (.int b2), some (.int b3), some (.int b4), some (.int b5), some (.int b6), some (.int b7), some (.int x11), o9] [.int x40] M _
      refine z_xP zt96 36 96 [some (.ref a0), some (.int p1), some (.int b2), some (.int b3), some (.int b4), some (.int b5), some (.int b6), some (.int b7), some (.int x11), some (.int x40)] [.int b5] rfl rfl ?_
      refine z_xZ zt96 37 rfl rfl (fun (h42 : b5.toInt < 0) => ?_) (fun (h42 : 0 ≤ b5.toInt) => ?_)
      · skip
        refine z_xP zt96 40 114 [some (.ref a0), some (.int p1), some (.int b2), some (.int b3), some (.int b4), some (.int x11), some (.int x40), some (.int b7), some (.int x11), some (.int x40)] [] rfl rfl ?_
        refine z_xN zt96 41 rfl rfl (fun (x43 : Int32) (h44 : x43.toInt = b7.toInt + 1) => ?_) (z_pAdd rfl rfl (by omega) (by omega))
        show z_ev (d + 2) 96 117 [some (.ref a0), some (.int p1), some (.int b2), some (.int b3), some (.int b4), some (.int x11), some (.int x40), some (.int x43), some (.int x11), some (.int x40)] [] M _
        refine z_xP zt96 42 49 [some (.ref a0), some (.int p1), some (.int b2), some (.int b3), some (.int b4), some (.int x11), some (.int x40), some (.int x43), some (.int x11), some (.int x40)] [] rfl rfl ?_
        exact ih M b2 b3 b4 x11 x40 x43 (some (.int x11)) (some (.int x40)) X ⟨by omega, by omega⟩ ⟨by omega, by omega⟩ ⟨by omega, by omega⟩ ⟨by omega, by omega⟩ ⟨by omega, by omega⟩ (by omega)
      refine z_xP zt96 38 103 [some (.ref a0), some (.int p1), some (.int b2), some (.int b3), some (.int b4), some (.int b5), some (.int b6), some (.int b7), some (.int x11), some (.int x40)] [.int b6, .int x40] rfl rfl ?_
      have h45 := z_b32 x40
      have h46 := z_b32 b6
      refine z_xJ zt96 39 rfl rfl (fun (h47 : x40.toInt ≤ b6.toInt) => ?_) (fun (h47 : b6.toInt < x40.toInt) => ?_)
      · skip
        refine z_xN zt96 41 rfl rfl (fun (x48 : Int32) (h49 : x48.toInt = b7.toInt + 1) => ?_) (z_pAdd rfl rfl (by omega) (by omega))
        show z_ev (d + 2) 96 117 [some (.ref a0), some (.int p1), some (.int b2), some (.int b3), some (.int b4), some (.int b5), some (.int b6), some (.int x48), some (.int x11), some (.int x40)] [] M _
        refine z_xP zt96 42 49 [some (.ref a0), some (.int p1), some (.int b2), some (.int b3), some (.int b4), some (.int b5), some (.int b6), some (.int x48), some (.int x11), some (.int x40)] [] rfl rfl ?_
        exact ih M b2 b3 b4 b5 b6 x48 (some (.int x11)) (some (.int x40)) X ⟨by omega, by omega⟩ ⟨by omega, by omega⟩ ⟨by omega, by omega⟩ ⟨by omega, by omega⟩ ⟨by omega, by omega⟩ (by omega)
      refine z_xP zt96 40 114 [some (.ref a0), some (.int p1), some (.int b2), some (.int b3), some (.int b4), some (.int x11), some (.int x40), some (.int b7), some (.int x11), some (.int x40)] [] rfl rfl ?_
      refine z_xN zt96 41 rfl rfl (fun (x50 : Int32) (h51 : x50.toInt = b7.toInt + 1) => ?_) (z_pAdd rfl rfl (by omega) (by omega))
      show z_ev (d + 2) 96 117 [some (.ref a0), some (.int p1), some (.int b2), some (.int b3), some (.int b4), some (.int x11), some (.int x40), some (.int x50), some (.int x11), some (.int x40)] [] M _
      refine z_xP zt96 42 49 [some (.ref a0), some (.int p1), some (.int b2), some (.int b3), some (.int b4), some (.int x11), some (.int x40), some (.int x50), some (.int x11), some (.int x40)] [] rfl rfl ?_
      exact ih M b2 b3 b4 x11 x40 x50 (some (.int x11)) (some (.int x40)) X ⟨by omega, by omega⟩ ⟨by omega, by omega⟩ ⟨by omega, by omega⟩ ⟨by omega, by omega⟩ ⟨by omega, by omega⟩ (by omega)
    refine z_xP zt96 33 114 [some (.ref a0), some (.int p1), some (.int b2), some (.int b3), some (.int b4), some (.int b5), some (.int b6), some (.int b7), some (.int x11), o9] [] rfl rfl ?_
    refine z_xN zt96 41 rfl rfl (fun (x52 : Int32) (h53 : x52.toInt = b7.toInt + 1) => ?_) (z_pAdd rfl rfl (by omega) (by omega))
    show z_ev (d + 2) 96 117 [some (.ref a0), some (.int p1), some (.int b2), some (.int b3), some (.int b4), some (.int b5), some (.int b6), some (.int x52), some (.int x11), o9] [] M _
    refine z_xP zt96 42 49 [some (.ref a0), some (.int p1), some (.int b2), some (.int b3), some (.int b4), some (.int b5), some (.int b6), some (.int x52), some (.int x11), o9] [] rfl rfl ?_
    exact ih M b2 b3 b4 b5 b6 x52 (some (.int x11)) (o9) X ⟨by omega, by omega⟩ ⟨by omega, by omega⟩ ⟨by omega, by omega⟩ ⟨by omega, by omega⟩ ⟨by omega, by omega⟩ (by omega)
theorem zC96 {T : List zK} {d : Nat} {K : Option Value → zH → Prop} {a0 : Nat} {q : Nat} {t : Nat} {m : Nat} {J : Nat} {p1 : Int32} {M0 : zH} (hW : z_W M0 T) (k0 : T[a0]? = some (.inl (3, q, t, m, J))) (u1 : 0 ≤ p1.toInt ∧ p1.toInt ≤ 2147483647) (kk : ∀ (x : Int32) (M1 : zH), z_X T zw96 M0 M1 → (-1) ≤ x.toInt → x.toInt ≤ 1023 → K (some (.int x)) M1) : z_ev (d + 2) 96 0 [some (.ref a0), some (.int p1), none, none, none, none, none, none, none, none] [] M0 K := by
  have X : z_X T zw96 M0 M0 := .refl hW
  have g0 := X.1.p3 k0
  refine z_xP zt96 0 1 [some (.ref a0), some (.int p1), none, none, none, none, none, none, none, none] [.ref a0] rfl rfl ?_
  refine z_xcV (vs := [.ref a0]) (r := []) (L2 := [some (.ref a0), none, none]) zt96 1 rfl zo96 zzcV3_90 (Or.inl rfl) rfl X k0 rfl rfl rfl (Nat.le_of_ble_eq_true rfl) zzm95 (Nat.le_of_ble_eq_true rfl) rfl ?_
  refine zC95 X.1 k0 (fun x3 M1 X2 h4 h5 => ?_)
  have X6 := X.go X2 (z_sb (by decide))
  show z_ev (d + 2) 96 4 [some (.ref a0), some (.int p1), none, none, none, none, none, none, none, none] [.int x3] M1 _
  refine z_xP zt96 2 7 [some (.ref a0), some (.int p1), none, none, none, none, none, none, none, none] [.int 1023, .int x3] rfl rfl ?_
  refine z_xI zt96 3 rfl rfl (fun (x8 : Int32) (h9 : 0 ≤ x8.toInt ∧ x8.toInt ≤ x3.toInt ∧ x8.toInt ≤ 1023) => ?_) (z_pAnd2 rfl rfl (by omega) (by omega))
  refine z_xP zt96 4 10 [some (.ref a0), some (.int p1), some (.int x8), none, none, none, none, none, none, none] [.ref a0] rfl rfl ?_
  refine z_xgR (κ := .inl (2, q, t, m, 0)) zt96 5 rfl zo96 zzf3_39 X6 k0 (by decide) (by decide) rfl (fun (a11 : Nat) h10 k12 => ?_)
  have g13 := X6.1.p2 k12
  refine z_xP zt96 6 14 [some (.ref a0), some (.int p1), some (.int x8), none, none, none, none, none, none, none] [.int x8, .ref a11] rfl rfl ?_
  refine z_xcV (vs := [.ref a11, .int x8]) (r := []) (L2 := [some (.ref a11), some (.int x8)]) zt96 7 rfl zo96 zzcV3_94 (Or.inl rfl) rfl X6 k12 rfl rfl rfl (Nat.le_of_ble_eq_true rfl) zzm27 (Nat.le_of_ble_eq_true rfl) rfl ?_
  refine z_xP zt27 0 2 [some (.ref a11), some (.int x8)] [.int x8, .ref a11] rfl rfl ?_
  refine z_xcV (vs := [.ref a11, .int x8]) (r := []) (L2 := [some (.ref a11), some (.int x8)]) zt27 1 rfl zo27 zzcV2_76 (Or.inl rfl) rfl X6 k12 rfl rfl rfl (Nat.le_of_ble_eq_true rfl) zzm28 (Nat.le_of_ble_eq_true rfl) rfl ?_
  refine z_xP zt28 0 1 [some (.ref a11), some (.int x8)] [.int x8] rfl rfl ?_
  refine z_xZ zt28 1 rfl rfl (fun (h14 : x8.toInt < 0) => absurd h14 (by omega)) (fun (h14 : 0 ≤ x8.toInt) => ?_)
  refine z_xP zt28 2 6 [some (.ref a11), some (.int x8)] [.ref a11, .int x8] rfl rfl ?_
  refine z_xgI zt28 3 rfl zo28 zzf2_32 X6 k12 (by decide) (by decide) rfl (fun (x16 : Int32) h15 (h17 : ((z_po q : Nat) : Int) - 1 ≤ x16.toInt) (h18 : x16.toInt ≤ ((z_po q : Nat) : Int) - 1) => ?_)
  refine z_xJ zt28 4 rfl rfl (fun (h19 : x16.toInt < x8.toInt) => ?_) (fun (h19 : x8.toInt ≤ x16.toInt) => ?_)
  · skip
    refine z_xP zt28 6 17 [some (.ref a11), some (.int x8)] [.int 0] rfl rfl ?_
    refine z_xrz zt28 7 rfl zzr28 (by decide) (by decide) ?_
    show z_ev (d + 1) 27 5 [some (.ref a11), some (.int x8)] [.int 0] M1 _
    refine z_xZ zt27 2 rfl rfl (fun (h20 : (0 : Int) = 0) => ?_) (fun (h20 : (0 : Int) ≠ 0) => absurd h20 (by omega))
    refine z_xP zt27 17 34 [some (.ref a11), some (.int x8)] [.int 0] rfl rfl ?_
    refine z_xrz zt27 18 rfl zzr27 (by decide) (by decide) ?_
    show z_ev (d + 2) 96 17 [some (.ref a0), some (.int p1), some (.int x8), none, none, none, none, none, none, none] [.int 0] M1 _
    refine z_xZ zt96 8 rfl rfl (fun (h21 : (0 : Int) = 0) => ?_) (fun (h21 : (0 : Int) ≠ 0) => absurd h21 (by omega))
    refine z_xP zt96 11 23 [some (.ref a0), some (.int p1), some (.int x8), none, none, none, none, none, none, none] [.ref a0] rfl rfl ?_
    refine z_xcV (vs := [.ref a0]) (r := []) (L2 := [some (.ref a0), none, none]) zt96 12 rfl zo96 zzcV3_98 (Or.inl rfl) rfl X6 k0 rfl rfl rfl (Nat.le_of_ble_eq_true rfl) zzm70 (Nat.le_of_ble_eq_true rfl) rfl ?_
    refine zC70 X6.1 k0 (fun M22 X23  => ?_)
    have X24 := X6.go X23 (z_sb (by decide))
    show z_ev (d + 2) 96 26 [some (.ref a0), some (.int p1), some (.int x8), none, none, none, none, none, none, none] [] M22 _
    refine z_xP zt96 13 30 [some (.ref a0), some (.int p1), some (.int x8), none, none, none, none, none, none, none] [.int 1023, .int p1] rfl rfl ?_
    refine z_xI zt96 14 rfl rfl (fun (x26 : Int32) (h27 : 0 ≤ x26.toInt ∧ x26.toInt ≤ p1.toInt ∧ x26.toInt ≤ 1023) => ?_) (z_pAnd2 rfl rfl (by omega) (by omega))
    refine z_xP zt96 15 36 [some (.ref a0), some (.int p1), some (.int x8), some (.int x26), none, none, none, none, none, none] [.int 10, .int p1, .int x26] rfl rfl ?_
    have h28 := z_b32 p1
    refine z_xI zt96 16 rfl rfl (fun (x29 : Int32) (h30 : x29.toInt = p1.toInt / 1024) => ?_) (z_pShr (c := 1024) 10 rfl rfl (by decide))
    refine z_xI zt96 17 rfl rfl (fun (x31 : Int32) (h32 : 0 ≤ x31.toInt ∧ x31.toInt < 2097152 ∧ x26.toInt ≤ x31.toInt ∧ x29.toInt ≤ x31.toInt) => ?_) (z_pOr 21 rfl rfl (by omega) (by omega) (by decide) (by omega) (by omega) (by decide))
    refine z_xP zt96 18 49 [some (.ref a0), some (.int p1), some (.int x8), some (.int x26), some (.int x31), some (.int (-1)), some (.int 0), some (.int 0), none, none] [] rfl rfl ?_
    have qm1 : (((-1) : Int32)).toInt = (-1) := rfl
    have q0 : ((0 : Int32)).toInt = 0 := rfl
    exact (zB96 k0 u1 kk 2050) M22 x8 x26 x31 ((-1)) (0) (0) none none X24 ⟨by omega, by omega⟩ ⟨by omega, by omega⟩ ⟨by omega, by omega⟩ (by decide) (by decide) (by omega)
  refine z_xP zt28 5 17 [some (.ref a11), some (.int x8)] [.int 1] rfl rfl ?_
  refine z_xrz zt28 7 rfl zzr28 (by decide) (by decide) ?_
  show z_ev (d + 1) 27 5 [some (.ref a11), some (.int x8)] [.int 1] M1 _
  refine z_xZ zt27 2 rfl rfl (fun (h33 : (1 : Int) = 0) => absurd h33 (by omega)) (fun (h33 : (1 : Int) ≠ 0) => ?_)
  refine z_xP zt27 3 9 [some (.ref a11), some (.int x8)] [.ref a11] rfl rfl ?_
  refine z_xgR (κ := .inr (109, 1, z_bl q, 0, 0)) zt27 4 rfl zo27 zzf2_44 X6 k12 (by decide) (by decide) rfl (fun (a35 : Nat) h34 k36 => ?_)
  refine z_xP zt27 5 15 [some (.ref a11), some (.int x8)] [.int 6, .int x8, .ref a35] rfl rfl ?_
  refine z_xI zt27 6 rfl rfl (fun (x37 : Int32) (h38 : x37.toInt = x8.toInt / 64) => ?_) (z_pShr (c := 64) 6 rfl rfl (by decide))
  refine z_xll zt27 7 rfl X6 k36 (by decide) (by omega) (by omega) (fun (y39 : Int64) => ?_)
  refine z_xP zt27 8 20 [some (.ref a11), some (.int x8)] [.int 63, .int x8, .long y39] rfl rfl ?_
  refine z_xI zt27 9 rfl rfl (fun (x40 : Int32) (h41 : 0 ≤ x40.toInt ∧ x40.toInt ≤ x8.toInt ∧ x40.toInt ≤ 63) => ?_) (z_pAnd2 rfl rfl (by omega) (by omega))
  refine z_xL zt27 10 rfl rfl (P := fun _ => True) (fun (y42 : Int64) _ => ?_) trivial
  refine z_xP zt27 11 23 [some (.ref a11), some (.int x8)] [.long 1, .long y42] rfl rfl ?_
  refine z_xL zt27 12 rfl rfl (P := fun _ => True) (fun (y44 : Int64) _ => ?_) trivial
  refine z_xP zt27 13 25 [some (.ref a11), some (.int x8)] [.long 0, .long y44] rfl rfl ?_
  refine z_xI zt27 14 rfl rfl (fun (x46 : Int32) (h47 : (x46.toInt < 0 ∧ y44.toInt < 0) ∨ (x46.toInt = 0 ∧ y44.toInt = 0) ∨ (0 < x46.toInt ∧ 0 < y44.toInt)) => ?_) (z_qCmp rfl rfl)
  refine z_xZ zt27 15 rfl rfl (fun (h48 : x46.toInt = 0) => ?_) (fun (h48 : x46.toInt ≠ 0) => ?_)
  · skip
    refine z_xP zt27 17 34 [some (.ref a11), some (.int x8)] [.int 0] rfl rfl ?_
    refine z_xrz zt27 18 rfl zzr27 (by decide) (by decide) ?_
    show z_ev (d + 2) 96 17 [some (.ref a0), some (.int p1), some (.int x8), none, none, none, none, none, none, none] [.int 0] M1 _
    refine z_xZ zt96 8 rfl rfl (fun (h49 : (0 : Int) = 0) => ?_) (fun (h49 : (0 : Int) ≠ 0) => absurd h49 (by omega))
    refine z_xP zt96 11 23 [some (.ref a0), some (.int p1), some (.int x8), none, none, none, none, none, none, none] [.ref a0] rfl rfl ?_
    refine z_xcV (vs := [.ref a0]) (r := []) (L2 := [some (.ref a0), none, none]) zt96 12 rfl zo96 zzcV3_98 (Or.inl rfl) rfl X6 k0 rfl rfl rfl (Nat.le_of_ble_eq_true rfl) zzm70 (Nat.le_of_ble_eq_true rfl) rfl ?_
    refine zC70 X6.1 k0 (fun M50 X51  => ?_)
    have X52 := X6.go X51 (z_sb (by decide))
    show z_ev (d + 2) 96 26 [some (.ref a0), some (.int p1), some (.int x8), none, none, none, none, none, none, none] [] M50 _
    refine z_xP zt96 13 30 [some (.ref a0), some (.int p1), some (.int x8), none, none, none, none, none, none, none] [.int 1023, .int p1] rfl rfl ?_
    refine z_xI zt96 14 rfl rfl (fun (x54 : Int32) (h55 : 0 ≤ x54.toInt ∧ x54.toInt ≤ p1.toInt ∧ x54.toInt ≤ 1023) => ?_) (z_pAnd2 rfl rfl (by omega) (by omega))
    refine z_xP zt96 15 36 [some (.ref a0), some (.int p1), some (.int x8), some (.int x54), none, none, none, none, none, none] [.int 10, .int p1, .int x54] rfl rfl ?_
    have h56 := z_b32 p1
    refine z_xI zt96 16 rfl rfl (fun (x57 : Int32) (h58 : x57.toInt = p1.toInt / 1024) => ?_) (z_pShr (c := 1024) 10 rfl rfl (by decide))
    refine z_xI zt96 17 rfl rfl (fun (x59 : Int32) (h60 : 0 ≤ x59.toInt ∧ x59.toInt < 2097152 ∧ x54.toInt ≤ x59.toInt ∧ x57.toInt ≤ x59.toInt) => ?_) (z_pOr 21 rfl rfl (by omega) (by omega) (by decide) (by omega) (by omega) (by decide))
    refine z_xP zt96 18 49 [some (.ref a0), some (.int p1), some (.int x8), some (.int x54), some (.int x59), some (.int (-1)), some (.int 0), some (.int 0), none, none] [] rfl rfl ?_
    have qm1 : (((-1) : Int32)).toInt = (-1) := rfl
    have q0 : ((0 : Int32)).toInt = 0 := rfl
    exact (zB96 k0 u1 kk 2050) M50 x8 x54 x59 ((-1)) (0) (0) none none X52 ⟨by omega, by omega⟩ ⟨by omega, by omega⟩ ⟨by omega, by omega⟩ (by decide) (by decide) (by omega)
  refine z_xP zt27 16 34 [some (.ref a11), some (.int x8)] [.int 1] rfl rfl ?_
  refine z_xrz zt27 18 rfl zzr27 (by decide) (by decide) ?_
  show z_ev (d + 2) 96 17 [some (.ref a0), some (.int p1), some (.int x8), none, none, none, none, none, none, none] [.int 1] M1 _
  refine z_xZ zt96 8 rfl rfl (fun (h61 : (1 : Int) = 0) => absurd h61 (by omega)) (fun (h61 : (1 : Int) ≠ 0) => ?_)
  refine z_xP zt96 9 21 [some (.ref a0), some (.int p1), some (.int x8), none, none, none, none, none, none, none] [.int x8] rfl rfl ?_
  exact z_xri zt96 10 rfl zzr96 (kk x8 M1 X6 (by omega) (by omega))
def zw93 : List Nat := [206, 207]
theorem zC93 {T : List zK} {d : Nat} {K : Option Value → zH → Prop} {a0 : Nat} {a1 : Nat} {q1 : Nat} {t1 : Nat} {m1 : Nat} {J1 : Nat} {M0 : zH} (hW : z_W M0 T) (k0 : T[a0]? = some (.inl (7, 0, 0, 0, 0))) (k1 : T[a1]? = some (.inl (3, q1, t1, m1, J1))) (kk : ∀ (x : Int32) (M1 : zH), z_X T zw93 M0 M1 → K (some (.int x)) M1) : z_ev (d + 3) 93 0 [some (.ref a0), some (.ref a1), none, none, none] [] M0 K := by
  have X : z_X T zw93 M0 M0 := .refl hW
  have g1 := X.1.p3 k1
  refine z_xP zt93 0 1 [some (.ref a0), some (.ref a1), none, none, none] [.ref a1] rfl rfl ?_
  refine z_xgR (κ := .inl (2, q1, t1, m1, 0)) zt93 1 rfl zo93 zzf7_7 X k1 (by decide) (by decide) rfl (fun (a2 : Nat) h1 k3 => ?_)
  have g4 := X.1.p2 k3
  refine z_xgI zt93 2 rfl zo93 zzf7_13 X k3 (by decide) (by decide) rfl (fun (x6 : Int32) h5 (h7 : (-2147483648) ≤ x6.toInt) (h8 : x6.toInt ≤ 2147483647) => ?_)
  refine z_xcS (vs := [.int x6]) (r := []) (L2 := [some (.int x6)]) zt93 3 rfl zo93 zzcS7_19 (Or.inl rfl) (Nat.le_of_ble_eq_true rfl) rfl rfl (Nat.le_of_ble_eq_true rfl) zzm94 (Nat.le_of_ble_eq_true rfl) rfl ?_
  refine z_xP zt94 0 4 [some (.int x6)] [.int 10, .int x6, .int x6] rfl rfl ?_
  refine z_xI zt94 1 rfl rfl (P := fun _ => True) (fun (x9 : Int32) _ => ?_) trivial
  refine z_xI zt94 2 rfl rfl (P := fun _ => True) (fun (x11 : Int32) _ => ?_) trivial
  refine z_xri zt94 3 rfl zzr94 ?_
  show z_ev (d + 3) 93 10 [some (.ref a0), some (.ref a1), none, none, none] [.int x11] M0 _
  refine z_xP zt93 4 12 [some (.ref a0), some (.ref a1), some (.int x11), none, none] [.ref a1] rfl rfl ?_
  refine z_xcV (vs := [.ref a1]) (r := []) (L2 := [some (.ref a1), none, none]) zt93 5 rfl zo93 zzcV7_23 (Or.inl rfl) rfl X k1 rfl rfl rfl (Nat.le_of_ble_eq_true rfl) zzm95 (Nat.le_of_ble_eq_true rfl) rfl ?_
  refine zC95 X.1 k1 (fun x15 M13 X14 h16 h17 => ?_)
  have X18 := X.go X14 (z_sb (by decide))
  show z_ev (d + 3) 93 15 [some (.ref a0), some (.ref a1), some (.int x11), none, none] [.int x15] M13 _
  refine z_xP zt93 6 16 [some (.ref a0), some (.ref a1), some (.int x11), none, none] [.int x11, .int x15] rfl rfl ?_
  refine z_xI zt93 7 rfl rfl (fun (x20 : Int32) (h21 : 0 ≤ x20.toInt ∧ x20.toInt ≤ x15.toInt) => ?_) (z_pAndL rfl (by omega))
  refine z_xP zt93 8 20 [some (.ref a0), some (.ref a1), some (.int x11), some (.int x20), none] [.int x20, .ref a1] rfl rfl ?_
  refine z_xcV (vs := [.ref a1, .int x20]) (r := []) (L2 := [some (.ref a1), some (.int x20), none, none, none, none, none, none, none, none]) zt93 9 rfl zo93 zzcV7_27 (Or.inl rfl) rfl X18 k1 rfl rfl rfl (Nat.le_of_ble_eq_true rfl) zzm96 (Nat.le_of_ble_eq_true rfl) rfl ?_
  refine zC96 X18.1 k1 (by omega) (fun x24 M22 X23 h25 h26 => ?_)
  have X27 := X18.go X23 (z_sb (by decide))
  show z_ev (d + 3) 93 23 [some (.ref a0), some (.ref a1), some (.int x11), some (.int x20), none] [.int x24] M22 _
  refine z_xP zt93 10 27 [some (.ref a0), some (.ref a1), some (.int x11), some (.int x20), some (.int x24)] [.int x24] rfl rfl ?_
  refine z_xZ zt93 11 rfl rfl (fun (h29 : 0 ≤ x24.toInt) => ?_) (fun (h29 : x24.toInt < 0) => ?_)
  · skip
    refine z_xP zt93 13 36 [some (.ref a0), some (.ref a1), some (.int x11), some (.int x20), some (.int x24)] [.ref a1, .int x20] rfl rfl ?_
    have h30 := (X23.2.f k1 (by decide) (X14.2.f k1 (by decide) h1))
    refine z_xgv zt93 14 rfl zo93 zzf7_7 X27 k1 (by decide) h30 ?_
    refine z_xP zt93 15 41 [some (.ref a0), some (.ref a1), some (.int x11), some (.int x20), some (.int x24)] [.int x24, .ref a2, .int x20] rfl rfl ?_
    refine z_xcV (vs := [.ref a2, .int x24]) (r := [.int x20]) (L2 := [some (.ref a2), some (.int x24)]) zt93 16 rfl zo93 zzcV7_30 (Or.inl rfl) rfl X27 k3 rfl rfl rfl (Nat.le_of_ble_eq_true rfl) zzm39 (Nat.le_of_ble_eq_true rfl) rfl ?_
    refine z_xP zt39 0 2 [some (.ref a2), some (.int x24)] [.ref a2, .int x24] rfl rfl ?_
    refine z_xgI zt39 1 rfl zo39 zzf2_32 X27 k3 (by decide) (by decide) rfl (fun (x32 : Int32) h31 (h33 : ((z_po q1 : Nat) : Int) - 1 ≤ x32.toInt) (h34 : x32.toInt ≤ ((z_po q1 : Nat) : Int) - 1) => ?_)
    refine z_xP zt39 2 7 [some (.ref a2), some (.int x24)] [.int (-1), .int x24, .int x32, .int x24] rfl rfl ?_
    refine z_xI zt39 3 rfl rfl (P := fun _ => True) (fun (x35 : Int32) _ => ?_) trivial
    refine z_xI zt39 4 rfl rfl (fun (x37 : Int32) (h38 : 0 ≤ x37.toInt ∧ x37.toInt ≤ x32.toInt) => ?_) (z_pAndL rfl (by omega))
    refine z_xP zt39 5 11 [some (.ref a2), some (.int x24)] [.int 10, .int x37, .int x24] rfl rfl ?_
    refine z_xI zt39 6 rfl rfl (fun (x39 : Int32) (h40 : x39.toInt = x37.toInt * 1024) => ?_) (z_pShl 10 rfl rfl (by decide) (by decide) (by omega) rfl (by omega))
    refine z_xI zt39 7 rfl rfl (fun (x41 : Int32) (h42 : 0 ≤ x41.toInt ∧ x41.toInt < 1048576 ∧ x24.toInt ≤ x41.toInt ∧ x39.toInt ≤ x41.toInt) => ?_) (z_pOr 20 rfl rfl (by omega) (by omega) (by decide) (by omega) (by omega) (by decide))
    refine z_xri zt39 8 rfl zzr39 ?_
    show z_ev (d + 3) 93 44 [some (.ref a0), some (.ref a1), some (.int x11), some (.int x20), some (.int x24)] [.int x41, .int x20] M22 _
    refine z_xP zt93 17 46 [some (.ref a0), some (.ref a1), some (.int x11), some (.int x20), some (.int x24)] [.int (-1), .int x11, .int x41, .int x20] rfl rfl ?_
    refine z_xI zt93 18 rfl rfl (P := fun _ => True) (fun (x43 : Int32) _ => ?_) trivial
    refine z_xI zt93 19 rfl rfl (fun (x45 : Int32) (h46 : 0 ≤ x45.toInt ∧ x45.toInt ≤ x41.toInt) => ?_) (z_pAndL rfl (by omega))
    refine z_xI zt93 20 rfl rfl (fun (x47 : Int32) (h48 : 0 ≤ x47.toInt ∧ x47.toInt < 1048576 ∧ x20.toInt ≤ x47.toInt ∧ x45.toInt ≤ x47.toInt) => ?_) (z_pOr 20 rfl rfl (by omega) (by omega) (by decide) (by omega) (by omega) (by decide))
    exact z_xri zt93 21 rfl zzr93 (kk x47 M22 X27)
  refine z_xP zt93 12 49 [some (.ref a0), some (.ref a1), some (.int x11), some (.int x20), some (.int x24)] [.int x20] rfl rfl ?_
  exact z_xri zt93 21 rfl zzr93 (kk x20 M22 X27)
def zw97 : List Nat := []
theorem zC97 {T : List zK} {d : Nat} {K : Option Value → zH → Prop} {a0 : Nat} {ci : Nat} {a1 : Nat} {q1 : Nat} {t1 : Nat} {m1 : Nat} {J1 : Nat} {M0 : zH} (hW : z_W M0 T) (w0 : ci = 5 ∨ ci = 6 ∨ ci = 7) (k0 : T[a0]? = some (.inl (ci, 0, 0, 0, 0))) (k1 : T[a1]? = some (.inl (3, q1, t1, m1, J1))) (kk : ∀ (x : Int32) (M1 : zH), z_X T zw97 M0 M1 → K (some (.int x)) M1) : z_ev (d + 1) 97 0 [some (.ref a0), some (.ref a1)] [] M0 K := by
  have X : z_X T zw97 M0 M0 := .refl hW
  have w0r : 4 ≤ ci ∧ ci ≤ 11 := by omega
  have g1 := X.1.p3 k1
  refine z_xP zt97 0 1 [some (.ref a0), some (.ref a1)] [.ref a1] rfl rfl ?_
  refine z_xcV (vs := [.ref a1]) (r := []) (L2 := [some (.ref a1), none, none]) zt97 1 rfl zo97 zzcV5_7 (Or.inl rfl) rfl X k1 rfl rfl rfl (Nat.le_of_ble_eq_true rfl) zzm95 (Nat.le_of_ble_eq_true rfl) rfl ?_
  refine zC95 X.1 k1 (fun x3 M1 X2 h4 h5 => ?_)
  have X6 := X.go X2 (z_sb (by decide))
  show z_ev (d + 1) 97 4 [some (.ref a0), some (.ref a1)] [.int x3] M1 _
  exact z_xri zt97 2 rfl zzr97 (kk x3 M1 X6)
def zw98 : List Nat := []
theorem zC98 {T : List zK} {d : Nat} {K : Option Value → zH → Prop} {a0 : Nat} {a1 : Nat} {q1 : Nat} {t1 : Nat} {m1 : Nat} {J1 : Nat} {M0 : zH} (hW : z_W M0 T) (k0 : T[a0]? = some (.inl (11, 0, 0, 0, 0))) (k1 : T[a1]? = some (.inl (3, q1, t1, m1, J1))) (kk : ∀ (x : Int32) (M1 : zH), z_X T zw98 M0 M1 → K (some (.int x)) M1) : z_ev (d + 3) 98 0 [some (.ref a0), some (.ref a1), none, none] [] M0 K := by
  have X : z_X T zw98 M0 M0 := .refl hW
  have g1 := X.1.p3 k1
  refine z_xP zt98 0 2 [some (.ref a0), some (.ref a1), none, none] [.ref a0, .ref a1] rfl rfl ?_
  refine z_xgI zt98 1 rfl zo98 zzf11_9 X k0 (by decide) (by decide) rfl (fun (x2 : Int32) h1 (h3 : 0 ≤ x2.toInt) (h4 : x2.toInt ≤ 8) => ?_)
  refine z_xcV (vs := [.ref a1, .int x2]) (r := []) (L2 := [some (.ref a1), some (.int x2)]) zt98 2 rfl zo98 zzcV11_15 (Or.inl rfl) rfl X k1 rfl rfl rfl (Nat.le_of_ble_eq_true rfl) zzm56 (Nat.le_of_ble_eq_true rfl) rfl ?_
  refine z_xP zt56 0 1 [some (.ref a1), some (.int x2)] [.int x2] rfl rfl ?_
  refine z_xZ zt56 1 rfl rfl (fun (h5 : x2.toInt < 0) => absurd h5 (by omega)) (fun (h5 : 0 ≤ x2.toInt) => ?_)
  refine z_xP zt56 2 6 [some (.ref a1), some (.int x2)] [.ref a1, .int x2] rfl rfl ?_
  refine z_xgI zt56 3 rfl zo56 zzf3_53 X k1 (by decide) (by decide) rfl (fun (x7 : Int32) h6 (h8 : 0 ≤ x7.toInt) (h9 : x7.toInt ≤ (J1 : Int)) => ?_)
  refine z_xJ zt56 4 rfl rfl (fun (h10 : x7.toInt ≤ x2.toInt) => ?_) (fun (h10 : x2.toInt < x7.toInt) => ?_)
  · skip
    refine z_xP zt56 6 17 [some (.ref a1), some (.int x2)] [.int 0] rfl rfl ?_
    refine z_xrz zt56 7 rfl zzr56 (by decide) (by decide) ?_
    show z_ev (d + 3) 98 8 [some (.ref a0), some (.ref a1), none, none] [.int 0] M0 _
    refine z_xZ zt98 3 rfl rfl (fun (h11 : (0 : Int) ≠ 0) => absurd h11 (by omega)) (fun (h11 : (0 : Int) = 0) => ?_)
    refine z_xP zt98 4 12 [some (.ref a0), some (.ref a1), none, none] [.int 0] rfl rfl ?_
    have q0 : ((0 : Int32)).toInt = 0 := rfl
    exact z_xri zt98 5 rfl zzr98 (kk 0 M0 X)
  refine z_xP zt56 5 17 [some (.ref a1), some (.int x2)] [.int 1] rfl rfl ?_
  refine z_xrz zt56 7 rfl zzr56 (by decide) (by decide) ?_
  show z_ev (d + 3) 98 8 [some (.ref a0), some (.ref a1), none, none] [.int 1] M0 _
  refine z_xZ zt98 3 rfl rfl (fun (h12 : (1 : Int) ≠ 0) => ?_) (fun (h12 : (1 : Int) = 0) => absurd h12 (by omega))
  refine z_xP zt98 6 14 [some (.ref a0), some (.ref a1), none, none] [.ref a1] rfl rfl ?_
  refine z_xgR (κ := .inr (202, 0, 9, (-2147483648), 2147483647)) zt98 7 rfl zo98 zzf11_21 X k1 (by decide) (by decide) rfl (fun (a14 : Nat) h13 k15 => ?_)
  refine z_xP zt98 8 18 [some (.ref a0), some (.ref a1), none, none] [.ref a0, .ref a14] rfl rfl ?_
  refine z_xgv zt98 9 rfl zo98 zzf11_9 X k0 (by decide) h1 ?_
  refine z_xil zt98 10 rfl X k15 (by decide) (by omega) (by omega) (fun (x16 : Int32) h17 (h18 : (-2147483648) ≤ x16.toInt) (h19 : x16.toInt ≤ 2147483647) => ?_)
  refine z_xP zt98 11 23 [some (.ref a0), some (.ref a1), none, none] [.ref a1, .int x16] rfl rfl ?_
  refine z_xgR (κ := .inr (203, 0, 9, (-2147483648), 2147483647)) zt98 12 rfl zo98 zzf11_25 X k1 (by decide) (by decide) rfl (fun (a21 : Nat) h20 k22 => ?_)
  refine z_xP zt98 13 27 [some (.ref a0), some (.ref a1), none, none] [.ref a0, .ref a21, .int x16] rfl rfl ?_
  refine z_xgv zt98 14 rfl zo98 zzf11_9 X k0 (by decide) h1 ?_
  refine z_xil zt98 15 rfl X k22 (by decide) (by omega) (by omega) (fun (x23 : Int32) h24 (h25 : (-2147483648) ≤ x23.toInt) (h26 : x23.toInt ≤ 2147483647) => ?_)
  refine z_xP zt98 16 33 [some (.ref a0), some (.ref a1), none, none] [.int 10, .int x23, .int x16] rfl rfl ?_
  refine z_xI zt98 17 rfl rfl (P := fun _ => True) (fun (x27 : Int32) _ => ?_) trivial
  refine z_xI zt98 18 rfl rfl (P := fun _ => True) (fun (x29 : Int32) _ => ?_) trivial
  refine z_xP zt98 19 37 [some (.ref a0), some (.ref a1), some (.int x29), none] [.ref a1] rfl rfl ?_
  refine z_xgR (κ := .inl (2, q1, t1, m1, 0)) zt98 20 rfl zo98 zzf11_28 X k1 (by decide) (by decide) rfl (fun (a32 : Nat) h31 k33 => ?_)
  have g34 := X.1.p2 k33
  refine z_xP zt98 21 41 [some (.ref a0), some (.ref a1), some (.int x29), none] [.int x29, .ref a32] rfl rfl ?_
  refine z_xcV (vs := [.ref a32, .int x29]) (r := []) (L2 := [some (.ref a32), some (.int x29), none, none, none, none, none, none, none, none]) zt98 22 rfl zo98 zzcV11_32 (Or.inl rfl) rfl X k33 rfl rfl rfl (Nat.le_of_ble_eq_true rfl) zzm49 (Nat.le_of_ble_eq_true rfl) rfl ?_
  refine zC49 X.1 k33 (fun x37 M35 X36 h38 h39 => ?_)
  have X40 := X.go X36 (z_sb (by decide))
  show z_ev (d + 3) 98 44 [some (.ref a0), some (.ref a1), some (.int x29), none] [.int x37] M35 _
  refine z_xP zt98 23 46 [some (.ref a0), some (.ref a1), some (.int x29), some (.int x37)] [.int x37] rfl rfl ?_
  refine z_xZ zt98 24 rfl rfl (fun (h42 : 0 ≤ x37.toInt) => ?_) (fun (h42 : x37.toInt < 0) => ?_)
  · skip
    refine z_xP zt98 26 54 [some (.ref a0), some (.ref a1), some (.int x29), some (.int x37)] [.int x37] rfl rfl ?_
    exact z_xri zt98 27 rfl zzr98 (kk x37 M35 X40)
  refine z_xP zt98 25 54 [some (.ref a0), some (.ref a1), some (.int x29), some (.int x37)] [.int x29] rfl rfl ?_
  exact z_xri zt98 27 rfl zzr98 (kk x29 M35 X40)
