/-! 70, 69, 68, told -/
theorem zUB70 {T : List zK} {d : Nat} {K : Option Value → zH → Prop} {a0 : Nat} {q : Nat} {t : Nat} {m : Nat} {J : Nat} {M0 : zH} (k0 : T[a0]? = some (.inl (3, q, t, m, J))) (hW0 : z_W M0 T) (hbk : z_blk T M0) (hz5 : z_Ar M0 (a0 + 5) 0 = 0) (hz6 : z_Ar M0 (a0 + 6) 0 = 0) (kk : ∀ (M1 : zH), z_X T zw70 M0 M1 → z_low M0 M1 a0 q → K none M1) : ∀ n : Nat, (∀ (M : zH) (b1 : Int32) (b2 : Int32), z_X T zw70 M0 M → 1 ≤ b1.toInt ∧ b1.toInt ≤ 10 → 1 ≤ b2.toInt ∧ b2.toInt ≤ 32 → b1.toInt = (q : Int) → z_lw (z_Ar M0 (a0 + 4)) (z_Ar M (a0 + 5)) b2.toInt → z_Ar M (a0 + 6) = z_Ar M0 (a0 + 6) → ((0) * 3 + 1) * 32 + (32 - b2.toInt) < (n : Int) → z_ev (d + 1) 70 10 [some (.ref a0), some (.int b1), some (.int b2)] [] M K) ∧ (∀ (M : zH) (b1 : Int32) (b2 : Int32), z_X T zw70 M0 M → 1 ≤ b1.toInt ∧ b1.toInt ≤ 10 → 1 ≤ b2.toInt ∧ b2.toInt ≤ 32 → b1.toInt = (q : Int) → z_lo5 (z_Ar M0 (a0 + 4)) (z_Ar M (a0 + 5)) (min q 5) → z_lw (fun k => z_Ar M0 (a0 + 4) (5 + k)) (z_Ar M (a0 + 6)) b2.toInt → ((0) * 3 + 0) * 32 + (32 - b2.toInt) < (n : Int) → z_ev (d + 1) 70 55 [some (.ref a0), some (.int b1), some (.int b2)] [] M K) := by
  intro n
  induction n with
  | zero => exact ⟨(by intros; exfalso; omega), (by intros; exfalso; omega)⟩
  | succ n ih =>
    refine ⟨?_, ?_⟩
    · skip
      intro M b1 b2 X hh0 hh1 hh2 hI hF hE
      have g0 := X.1.p3 k0
      refine z_xP zt70 4 14 [some (.ref a0), some (.int b1), some (.int b2)] [.int 5, .int b1, .int 1, .int b2] rfl rfl ?_
      have q5 : ((5 : Int32)).toInt = 5 := rfl
      refine z_xmn zt70 5 rfl zo70 zzcS3_78 (Nat.le_of_ble_eq_true rfl) (fun (x1 : Int32) h2 => ?_)
      refine z_xI zt70 6 rfl rfl (fun (x3 : Int32) (h4 : x3 = (1 : Int32) <<< (x1 &&& 31) ∧ 1 ≤ x3.toInt ∧ x3.toInt ≤ 32) => ?_) (⟨rfl, z_pShlB (a := 1) (b := 5) (c := 32) (r := 32) rfl rfl (by omega) (by omega) (by omega) (by omega) (by decide) (by decide) (by decide) (by decide)⟩)
      refine z_xJ zt70 7 rfl rfl (fun (h5 : x3.toInt ≤ b2.toInt) => ?_) (fun (h5 : b2.toInt < x3.toInt) => ?_)
      · skip
        refine z_xP zt70 25 55 [some (.ref a0), some (.int b1), some (.int 1)] [] rfl rfl ?_
        have q1 : ((1 : Int32)).toInt = 1 := rfl
        exact ih.2 M b1 (1) X ⟨by omega, by omega⟩ (by decide) (by omega) (z_lwE hI h4.1 (by omega) (by omega) (by omega)) (z_lw0 ((congrFun hF 0).trans hz6) (by omega)) (by omega)
      refine z_xP zt70 8 22 [some (.ref a0), some (.int b1), some (.int b2)] [.ref a0] rfl rfl ?_
      refine z_xgR (κ := .inr (206, 0, 32, (-2147483648), 2147483647)) zt70 9 rfl zo70 zzf3_24 X k0 (by decide) (by decide) rfl (fun (a7 : Nat) h6 k8 => ?_)
      refine z_xP zt70 10 27 [some (.ref a0), some (.int b1), some (.int b2)] [.ref a0, .int b2, .ref a7] rfl rfl ?_
      refine z_xgv zt70 11 rfl zo70 zzf3_24 X k0 (by decide) h6 ?_
      refine z_xP zt70 12 33 [some (.ref a0), some (.int b1), some (.int b2)] [.int 1, .int b2, .int b2, .ref a7, .int b2, .ref a7] rfl rfl ?_
      refine z_xI zt70 13 rfl rfl (fun (x9 : Int32) (h10 : x9.toInt = b2.toInt - 1) => ?_) (z_pSub rfl rfl (by omega) (by omega))
      refine z_xI zt70 14 rfl rfl (fun (x11 : Int32) (h12 : x11 = b2 &&& x9 ∧ 0 ≤ x11.toInt ∧ x11.toInt ≤ b2.toInt ∧ x11.toInt ≤ x9.toInt) => ?_) (⟨rfl, z_pAnd2 rfl rfl (by omega) (by omega)⟩)
      refine z_xil zt70 15 rfl X k8 (by decide) (by omega) (by omega) (fun (x13 : Int32) h14 (h15 : (-2147483648) ≤ x13.toInt) (h16 : x13.toInt ≤ 2147483647) => ?_)
      refine z_xP zt70 16 37 [some (.ref a0), some (.int b1), some (.int b2)] [.ref a0, .int x13, .int b2, .ref a7] rfl rfl ?_
      refine z_xgR (κ := .inr (205, 0, 10, (-2147483648), 2147483647)) zt70 17 rfl zo70 zzf3_21 X k0 (by decide) (by decide) rfl (fun (a18 : Nat) h17 k19 => ?_)
      refine z_xP zt70 18 41 [some (.ref a0), some (.int b1), some (.int b2)] [.int b2, .ref a18, .int x13, .int b2, .ref a7] rfl rfl ?_
      refine z_xcS (vs := [.int b2]) (r := [.ref a18, .int x13, .int b2, .ref a7]) (L2 := [some (.int b2), none]) zt70 19 rfl zo70 zzcS3_84 (Or.inl rfl) (Nat.le_of_ble_eq_true rfl) rfl rfl (Nat.le_of_ble_eq_true rfl) zzm71 (Nat.le_of_ble_eq_true rfl) rfl ?_
      refine zX71 (fun x20 h21 h22 h23 h24 => ?_)
      show z_ev (d + 1) 70 44 [some (.ref a0), some (.int b1), some (.int b2)] [.int x20, .ref a18, .int x13, .int b2, .ref a7] M _
      refine z_xil zt70 20 rfl X k19 (by decide) (by omega) (by omega) (fun (x25 : Int32) h26 (h27 : (-2147483648) ≤ x25.toInt) (h28 : x25.toInt ≤ 2147483647) => ?_)
      have h29 := z_b32 x13
      have h30 := z_b32 x25
      refine z_xI zt70 21 rfl rfl (fun (x31 : Int32) (h32 : x31 = x13 + x25) => ?_) (rfl)
      refine z_xis zt70 22 rfl X k8 (by decide) (X.1.g4 k8 (by decide)) (by omega) (by omega) (Int32.le_toInt _) (Int32.toInt_le _) (by decide) (fun M33 X34 e35 h36 => ?_)
      have h37 := (e35.f k0 (by decide) h6)
      have ia38 := z_rfe h37 (X34.2.f k0 (by decide) (hbk _ _ _ _ _ k0).2.2.2.2.1)
      rw [ia38] at h36
      refine z_xN zt70 23 rfl rfl (fun (x39 : Int32) (h40 : x39.toInt = b2.toInt + 1) => ?_) (z_pAdd rfl rfl (by omega) (by omega))
      show z_ev (d + 1) 70 50 [some (.ref a0), some (.int b1), some (.int x39)] [] M33 _
      refine z_xP zt70 24 10 [some (.ref a0), some (.int b1), some (.int x39)] [] rfl rfl ?_
      have ia41 := z_rfe h37 (X34.2.f k0 (by decide) (hbk _ _ _ _ _ k0).2.2.2.2.1)
      rw [ia41] at h14
      have h42 := (e35.f k0 (by decide) h17)
      have ia43 := z_rfe h42 (X34.2.f k0 (by decide) (hbk _ _ _ _ _ k0).2.2.2.1)
      rw [ia43] at h26
      exact ih.1 M33 b1 x39 X34 ⟨by omega, by omega⟩ ⟨by omega, by omega⟩ (by omega) (z_lwS (f := (z_Ar M0 (a0 + 4))) hI (by omega) (by omega) (by omega) h14 h12.1 h32 h36 (((congrFun (X.2.a (hbk.k4 hW0 k0) (by decide)) _).symm.trans h26)) h24 (by omega) (by omega)) ((e35.a (hbk.k6 hW0 k0) (by decide)).trans hF) (by omega)
    · skip
      intro M b1 b2 X hh0 hh1 hh2 hA hI hE
      have g0 := X.1.p3 k0
      refine z_xP zt70 26 59 [some (.ref a0), some (.int b1), some (.int b2)] [.int 5, .int b1, .int 1, .int b2] rfl rfl ?_
      refine z_xI zt70 27 rfl rfl (fun (x1 : Int32) (h2 : x1.toInt = b1.toInt - 5) => ?_) (z_pSub rfl rfl (by omega) (by omega))
      refine z_xP zt70 28 61 [some (.ref a0), some (.int b1), some (.int b2)] [.int 0, .int x1, .int 1, .int b2] rfl rfl ?_
      have q0 : ((0 : Int32)).toInt = 0 := rfl
      refine z_xmx zt70 29 rfl zo70 zzcS3_87 (Nat.le_of_ble_eq_true rfl) (fun (x3 : Int32) h4 => ?_)
      refine z_xI zt70 30 rfl rfl (fun (x5 : Int32) (h6 : x5 = (1 : Int32) <<< (x3 &&& 31) ∧ 1 ≤ x5.toInt ∧ x5.toInt ≤ 32) => ?_) (⟨rfl, z_pShlB (a := 1) (b := 5) (c := 32) (r := 32) rfl rfl (by omega) (by omega) (by omega) (by omega) (by decide) (by decide) (by decide) (by decide)⟩)
      refine z_xJ zt70 31 rfl rfl (fun (h7 : x5.toInt ≤ b2.toInt) => ?_) (fun (h7 : b2.toInt < x5.toInt) => ?_)
      · skip
        exact z_xrv zt70 50 rfl zzr70 (kk M X ⟨hA, z_lwE hI h6.1 (by omega) (by omega) (by omega)⟩)
      refine z_xP zt70 32 69 [some (.ref a0), some (.int b1), some (.int b2)] [.ref a0] rfl rfl ?_
      refine z_xgR (κ := .inr (207, 0, 32, (-2147483648), 2147483647)) zt70 33 rfl zo70 zzf3_27 X k0 (by decide) (by decide) rfl (fun (a9 : Nat) h8 k10 => ?_)
      refine z_xP zt70 34 74 [some (.ref a0), some (.int b1), some (.int b2)] [.ref a0, .int b2, .ref a9] rfl rfl ?_
      refine z_xgv zt70 35 rfl zo70 zzf3_27 X k0 (by decide) h8 ?_
      refine z_xP zt70 36 80 [some (.ref a0), some (.int b1), some (.int b2)] [.int 1, .int b2, .int b2, .ref a9, .int b2, .ref a9] rfl rfl ?_
      refine z_xI zt70 37 rfl rfl (fun (x11 : Int32) (h12 : x11.toInt = b2.toInt - 1) => ?_) (z_pSub rfl rfl (by omega) (by omega))
      refine z_xI zt70 38 rfl rfl (fun (x13 : Int32) (h14 : x13 = b2 &&& x11 ∧ 0 ≤ x13.toInt ∧ x13.toInt ≤ b2.toInt ∧ x13.toInt ≤ x11.toInt) => ?_) (⟨rfl, z_pAnd2 rfl rfl (by omega) (by omega)⟩)
      refine z_xil zt70 39 rfl X k10 (by decide) (by omega) (by omega) (fun (x15 : Int32) h16 (h17 : (-2147483648) ≤ x15.toInt) (h18 : x15.toInt ≤ 2147483647) => ?_)
      refine z_xP zt70 40 84 [some (.ref a0), some (.int b1), some (.int b2)] [.ref a0, .int x15, .int b2, .ref a9] rfl rfl ?_
      refine z_xgR (κ := .inr (205, 0, 10, (-2147483648), 2147483647)) zt70 41 rfl zo70 zzf3_21 X k0 (by decide) (by decide) rfl (fun (a20 : Nat) h19 k21 => ?_)
      refine z_xP zt70 42 89 [some (.ref a0), some (.int b1), some (.int b2)] [.int b2, .int 5, .ref a20, .int x15, .int b2, .ref a9] rfl rfl ?_
      refine z_xcS (vs := [.int b2]) (r := [.int 5, .ref a20, .int x15, .int b2, .ref a9]) (L2 := [some (.int b2), none]) zt70 43 rfl zo70 zzcS3_84 (Or.inl rfl) (Nat.le_of_ble_eq_true rfl) rfl rfl (Nat.le_of_ble_eq_true rfl) zzm71 (Nat.le_of_ble_eq_true rfl) rfl ?_
      refine zX71 (fun x22 h23 h24 h25 h26 => ?_)
      show z_ev (d + 1) 70 92 [some (.ref a0), some (.int b1), some (.int b2)] [.int x22, .int 5, .ref a20, .int x15, .int b2, .ref a9] M _
      refine z_xI zt70 44 rfl rfl (fun (x27 : Int32) (h28 : x27.toInt = 5 + x22.toInt) => ?_) (z_pAdd rfl rfl (by omega) (by omega))
      refine z_xil zt70 45 rfl X k21 (by decide) (by omega) (by omega) (fun (x29 : Int32) h30 (h31 : (-2147483648) ≤ x29.toInt) (h32 : x29.toInt ≤ 2147483647) => ?_)
      have h33 := z_b32 x15
      have h34 := z_b32 x29
      refine z_xI zt70 46 rfl rfl (fun (x35 : Int32) (h36 : x35 = x15 + x29) => ?_) (rfl)
      refine z_xis zt70 47 rfl X k10 (by decide) (X.1.g4 k10 (by decide)) (by omega) (by omega) (Int32.le_toInt _) (Int32.toInt_le _) (by decide) (fun M37 X38 e39 h40 => ?_)
      have h41 := (e39.f k0 (by decide) h8)
      have ia42 := z_rfe h41 (X38.2.f k0 (by decide) (hbk _ _ _ _ _ k0).2.2.2.2.2.1)
      rw [ia42] at h40
      refine z_xN zt70 48 rfl rfl (fun (x43 : Int32) (h44 : x43.toInt = b2.toInt + 1) => ?_) (z_pAdd rfl rfl (by omega) (by omega))
      show z_ev (d + 1) 70 99 [some (.ref a0), some (.int b1), some (.int x43)] [] M37 _
      refine z_xP zt70 49 55 [some (.ref a0), some (.int b1), some (.int x43)] [] rfl rfl ?_
      have ia45 := z_rfe h41 (X38.2.f k0 (by decide) (hbk _ _ _ _ _ k0).2.2.2.2.2.1)
      rw [ia45] at h16
      have h46 := (e39.f k0 (by decide) h19)
      have ia47 := z_rfe h46 (X38.2.f k0 (by decide) (hbk _ _ _ _ _ k0).2.2.2.1)
      rw [ia47] at h30
      exact ih.2 M37 b1 x43 X38 ⟨by omega, by omega⟩ ⟨by omega, by omega⟩ (by omega) (by rw [((e39.a (hbk.k5 hW0 k0) (by decide)).trans rfl)]; exact hA) (z_lwS (f := (fun k => z_Ar M0 (a0 + 4) (5 + k))) hI (by omega) (by omega) (by omega) h16 h14.1 h36 h40 ((by rw [show 5 + x22.toNatClampNeg = x27.toNatClampNeg from by unfold Int32.toNatClampNeg; omega]; exact ((congrFun (X.2.a (hbk.k4 hW0 k0) (by decide)) _).symm.trans h30))) h26 (by omega) (by omega)) (by omega)
theorem zUC70 {T : List zK} {d : Nat} {K : Option Value → zH → Prop} {a0 : Nat} {q : Nat} {t : Nat} {m : Nat} {J : Nat} {M0 : zH} (hW : z_W M0 T) (k0 : T[a0]? = some (.inl (3, q, t, m, J))) (hW0 : z_W M0 T) (hbk : z_blk T M0) (hz5 : z_Ar M0 (a0 + 5) 0 = 0) (hz6 : z_Ar M0 (a0 + 6) 0 = 0) (kk : ∀ (M1 : zH), z_X T zw70 M0 M1 → z_low M0 M1 a0 q → K none M1) : z_ev (d + 1) 70 0 [some (.ref a0), none, none] [] M0 K := by
  have X : z_X T zw70 M0 M0 := .refl hW
  have g0 := X.1.p3 k0
  refine z_xP zt70 0 1 [some (.ref a0), none, none] [.ref a0] rfl rfl ?_
  refine z_xgR (κ := .inl (2, q, t, m, 0)) zt70 1 rfl zo70 zzf3_39 X k0 (by decide) (by decide) rfl (fun (a2 : Nat) h1 k3 => ?_)
  have g4 := X.1.p2 k3
  refine z_xgI zt70 2 rfl zo70 zzf3_63 X k3 (by decide) (by decide) rfl (fun (x6 : Int32) h5 (h7 : (q : Int) ≤ x6.toInt) (h8 : x6.toInt ≤ (q : Int)) => ?_)
  refine z_xP zt70 3 10 [some (.ref a0), some (.int x6), some (.int 1)] [] rfl rfl ?_
  have q1 : ((1 : Int32)).toInt = 1 := rfl
  exact (zUB70 k0 hW0 hbk hz5 hz6 kk 96).1 M0 x6 (1) X ⟨by omega, by omega⟩ (by decide) (by omega) (z_lw0 hz5 (by omega)) rfl (by omega)
theorem zUB69 {T : List zK} {d : Nat} {K : Option Value → zH → Prop} {a0 : Nat} {q : Nat} {t : Nat} {m : Nat} {J : Nat} {p1 : Int32} {N sa t2 pr en : Nat} {B : Nat → Nat} {M0 : zH} (k0 : T[a0]? = some (.inl (3, q, t, m, J))) (u1 : (-1) ≤ p1.toInt ∧ p1.toInt ≤ 2147483647) (hW0 : z_W M0 T) (hbk : z_blk T M0) (hN0 : z_F M0 a0 0 = some (.ref N)) (hag : z_AGO T M0 N q t2 m pr en B) (hsa : z_F M0 N 5 = some (.ref sa)) (ksa : T[sa]? = some (.inr (102, 0, m, 0, 1023))) (hz5 : z_Ar M0 (a0 + 5) 0 = 0) (hz6 : z_Ar M0 (a0 + 6) 0 = 0) (kk : ∀ (x : Int32) (M1 : zH), z_X T zw69 M0 M1 → (-1) ≤ x.toInt → x.toInt ≤ 1025 → z_nrP (fun k => (z_sbL (z_Ar M0 (a0 + 4)) (z_Ar M0 sa k).toInt.toNat 10).toInt) (z_Ar M0 sa) m p1.toInt x.toInt → z_lz M1 a0 → K (some (.int x)) M1) : ∀ n : Nat, (∀ (M : zH) (b2 : Int32) (b3 : Int32) (b4 : Int32) (o5 : Option Value), z_X T zw69 M0 M → 0 ≤ b2.toInt ∧ b2.toInt ≤ 1025 → 0 ≤ b4.toInt ∧ b4.toInt ≤ 1024 → b4.toInt ≤ (m : Int) → 0 ≤ b2.toInt → b2.toInt ≤ b4.toInt → z_low M0 M a0 q → z_nr1 (fun k => (z_sbL (z_Ar M0 (a0 + 4)) (z_Ar M0 sa k).toInt.toNat 10).toInt) b4.toInt.toNat b3.toInt b2.toInt → ((0) * 3 + 1) * 1025 + (1024 - b4.toInt) < (n : Int) → z_ev (d + 2) 69 11 [some (.ref a0), some (.int p1), some (.int b2), some (.int b3), some (.int b4), o5] [] M K) ∧ (∀ (M : zH) (b2 : Int32) (b3 : Int32) (b4 : Int32) (b5 : Int32), z_X T zw69 M0 M → 0 ≤ p1.toInt ∧ p1.toInt ≤ 2147483647 → 0 ≤ b2.toInt ∧ b2.toInt ≤ 1025 → 0 ≤ b4.toInt ∧ b4.toInt ≤ 1025 → 0 ≤ b5.toInt ∧ b5.toInt ≤ 1024 → b5.toInt ≤ (m : Int) → 0 ≤ b4.toInt → b4.toInt ≤ b5.toInt → b4.toInt ≤ p1.toInt → 0 ≤ p1.toInt → z_low M0 M a0 q → z_mxm (fun k => (z_sbL (z_Ar M0 (a0 + 4)) (z_Ar M0 sa k).toInt.toNat 10).toInt) m b3.toInt → b4.toInt = ((z_cq (fun k => (z_sbL (z_Ar M0 (a0 + 4)) (z_Ar M0 sa k).toInt.toNat 10).toInt) b3.toInt b5.toInt.toNat : Nat) : Int) → ((0) * 3 + 0) * 1025 + (1024 - b5.toInt) < (n : Int) → z_ev (d + 2) 69 83 [some (.ref a0), some (.int p1), some (.int b2), some (.int b3), some (.int b4), some (.int b5)] [] M K) := by
  intro n
  induction n with
  | zero => exact ⟨(by intros; exfalso; omega), (by intros; exfalso; omega)⟩
  | succ n ih =>
    refine ⟨?_, ?_⟩
    · skip
      intro M b2 b3 b4 o5 X hh0 hh1 hh2 hh3 hh4 hlo hI hE
      have g0 := X.1.p3 k0
      refine z_xP zt69 3 14 [some (.ref a0), some (.int p1), some (.int b2), some (.int b3), some (.int b4), o5] [.ref a0, .int b4] rfl rfl ?_
      refine z_xgR (κ := .inl (2, q, t, m, 0)) zt69 4 rfl zo69 zzf3_39 X k0 (by decide) (by decide) rfl (fun (a2 : Nat) h1 k3 => ?_)
      have g4 := X.1.p2 k3
      refine z_xgR (κ := .inr (102, 0, m, 0, 1023)) zt69 5 rfl zo69 zzf3_101 X k3 (by decide) (by decide) rfl (fun (a6 : Nat) h5 k7 => ?_)
      refine z_xln zt69 6 rfl X k7 (by decide) (by omega) (fun (x8 : Int32) (h9 : x8.toInt = ((m : Nat) : Int)) => ?_)
      refine z_xJ zt69 7 rfl rfl (fun (h10 : x8.toInt ≤ b4.toInt) => ?_) (fun (h10 : b4.toInt < x8.toInt) => ?_)
      · skip
        refine z_xP zt69 24 72 [some (.ref a0), some (.int p1), some (.int b2), some (.int b3), some (.int b4), o5] [.int p1] rfl rfl ?_
        refine z_xZ zt69 25 rfl rfl (fun (h11 : 0 ≤ p1.toInt) => ?_) (fun (h11 : p1.toInt < 0) => ?_)
        · skip
          refine z_xP zt69 28 83 [some (.ref a0), some (.int p1), some (.int b2), some (.int b3), some (.int 0), some (.int 0)] [] rfl rfl ?_
          have h12 := z_b32 p1
          have q0 : ((0 : Int32)).toInt = 0 := rfl
          exact ih.2 M b2 b3 (0) (0) X ⟨by omega, by omega⟩ ⟨by omega, by omega⟩ (by decide) (by decide) (by omega) (by omega) (by omega) (by omega) (by omega) hlo (z_nrE hI (by omega) (by omega)) (z_cq0 rfl rfl) (by omega)
        refine z_xP zt69 26 76 [some (.ref a0), some (.int p1), some (.int b2), some (.int b3), some (.int b4), o5] [.int b2] rfl rfl ?_
        exact z_xri zt69 27 rfl zzr69 (kk b2 M X (by omega) (by omega) ⟨_, z_nrE hI (by omega) (by omega), Or.inl ⟨by omega, z_nrC hI (by omega) (by omega)⟩⟩ (z_low.lz hlo))
      refine z_xP zt69 8 26 [some (.ref a0), some (.int p1), some (.int b2), some (.int b3), some (.int b4), o5] [.ref a0, .ref a0] rfl rfl ?_
      refine z_xgv zt69 9 rfl zo69 zzf3_39 X k0 (by decide) h1 ?_
      refine z_xgv zt69 10 rfl zo69 zzf3_101 X k3 (by decide) h5 ?_
      refine z_xP zt69 11 34 [some (.ref a0), some (.int p1), some (.int b2), some (.int b3), some (.int b4), o5] [.int b4, .ref a6, .ref a0] rfl rfl ?_
      refine z_xil zt69 12 rfl X k7 (by decide) (by omega) (by omega) (fun (x13 : Int32) h14 (h15 : 0 ≤ x13.toInt) (h16 : x13.toInt ≤ 1023) => ?_)
      refine z_xcV (vs := [.ref a0, .int x13]) (r := []) (L2 := [some (.ref a0), some (.int x13)]) zt69 13 rfl zo69 zzcV3_104 (Or.inl rfl) rfl X k0 rfl rfl rfl (Nat.le_of_ble_eq_true rfl) zzm72 (Nat.le_of_ble_eq_true rfl) rfl ?_
      refine z_xP zt72 0 1 [some (.ref a0), some (.int x13)] [.ref a0] rfl rfl ?_
      refine z_xgR (κ := .inr (206, 0, 32, (-2147483648), 2147483647)) zt72 1 rfl zo72 zzf3_24 X k0 (by decide) (by decide) rfl (fun (a18 : Nat) h17 k19 => ?_)
      refine z_xP zt72 2 7 [some (.ref a0), some (.int x13)] [.int 31, .int x13, .ref a18] rfl rfl ?_
      refine z_xI zt72 3 rfl rfl (fun (x20 : Int32) (h21 : x20 = x13 &&& (31 : Int32) ∧ 0 ≤ x20.toInt ∧ x20.toInt ≤ x13.toInt ∧ x20.toInt ≤ 31) => ?_) (⟨rfl, z_pAnd2 rfl rfl (by omega) (by omega)⟩)
      refine z_xil zt72 4 rfl X k19 (by decide) (by omega) (by omega) (fun (x22 : Int32) h23 (h24 : (-2147483648) ≤ x22.toInt) (h25 : x22.toInt ≤ 2147483647) => ?_)
      refine z_xP zt72 5 10 [some (.ref a0), some (.int x13)] [.ref a0, .int x22] rfl rfl ?_
      refine z_xgR (κ := .inr (207, 0, 32, (-2147483648), 2147483647)) zt72 6 rfl zo72 zzf3_27 X k0 (by decide) (by decide) rfl (fun (a27 : Nat) h26 k28 => ?_)
      refine z_xP zt72 7 15 [some (.ref a0), some (.int x13)] [.int 5, .int x13, .ref a27, .int x22] rfl rfl ?_
      refine z_xI zt72 8 rfl rfl (fun (x29 : Int32) (h30 : x29.toInt = x13.toInt / 32) => ?_) (z_pShr (c := 32) 5 rfl rfl (by decide))
      refine z_xP zt72 9 18 [some (.ref a0), some (.int x13)] [.int 31, .int x29, .ref a27, .int x22] rfl rfl ?_
      refine z_xI zt72 10 rfl rfl (fun (x31 : Int32) (h32 : x31 = x29 &&& (31 : Int32) ∧ 0 ≤ x31.toInt ∧ x31.toInt ≤ x29.toInt ∧ x31.toInt ≤ 31) => ?_) (⟨rfl, z_pAnd2 rfl rfl (by omega) (by omega)⟩)
      refine z_xil zt72 11 rfl X k28 (by decide) (by omega) (by omega) (fun (x33 : Int32) h34 (h35 : (-2147483648) ≤ x33.toInt) (h36 : x33.toInt ≤ 2147483647) => ?_)
      have h37 := z_b32 x22
      have h38 := z_b32 x33
      refine z_xI zt72 12 rfl rfl (fun (x39 : Int32) (h40 : x39 = x22 + x33) => ?_) (rfl)
      refine z_xri zt72 13 rfl zzr72 ?_
      show z_ev (d + 2) 69 38 [some (.ref a0), some (.int p1), some (.int b2), some (.int b3), some (.int b4), o5] [.int x39] M _
      refine z_xP zt69 14 42 [some (.ref a0), some (.int p1), some (.int b2), some (.int b3), some (.int b4), some (.int x39)] [.int b4] rfl rfl ?_
      refine z_xZ zt69 15 rfl rfl (fun (h41 : b4.toInt = 0) => ?_) (fun (h41 : b4.toInt ≠ 0) => ?_)
      · skip
        refine z_xP zt69 18 56 [some (.ref a0), some (.int p1), some (.int 0), some (.int x39), some (.int b4), some (.int x39)] [] rfl rfl ?_
        refine z_xP zt69 19 59 [some (.ref a0), some (.int p1), some (.int 0), some (.int x39), some (.int b4), some (.int x39)] [.int x39, .int x39] rfl rfl ?_
        have h42 := z_b32 x39
        refine z_xJ zt69 20 rfl rfl (fun (h43 : x39.toInt ≠ x39.toInt) => absurd h43 (by omega)) (fun (h43 : x39.toInt = x39.toInt) => ?_)
        refine z_xN zt69 21 rfl rfl (fun (x44 : Int32) (h45 : x44.toInt = 0 + 1) => ?_) (z_pAdd rfl rfl (by omega) (by omega))
        show z_ev (d + 2) 69 65 [some (.ref a0), some (.int p1), some (.int x44), some (.int x39), some (.int b4), some (.int x39)] [] M _
        refine z_xN zt69 22 rfl rfl (fun (x46 : Int32) (h47 : x46.toInt = b4.toInt + 1) => ?_) (z_pAdd rfl rfl (by omega) (by omega))
        show z_ev (d + 2) 69 68 [some (.ref a0), some (.int p1), some (.int x44), some (.int x39), some (.int x46), some (.int x39)] [] M _
        refine z_xP zt69 23 11 [some (.ref a0), some (.int p1), some (.int x44), some (.int x39), some (.int x46), some (.int x39)] [] rfl rfl ?_
        have ia48 := z_rfe h17 (X.2.f k0 (by decide) (hbk _ _ _ _ _ k0).2.2.2.2.1)
        rw [ia48] at h23
        have ia49 := z_rfe h26 (X.2.f k0 (by decide) (hbk _ _ _ _ _ k0).2.2.2.2.2.1)
        rw [ia49] at h34
        have iN50 := z_rfe h1 (X.2.f k0 (by decide) hN0)
        have h52 := h5
        rw [iN50] at h52
        have is51 := z_rfe h52 (X.2.f hag.1 (by decide) hsa)
        have h53 := h14
        rw [is51] at h53
        have hL54 : (z_sbL (z_Ar M0 (a0 + 4)) (z_Ar M0 sa b4.toInt.toNat).toInt.toNat 10).toInt = x39.toInt := z_lnOf hlo ((congrFun (X.2.a ksa (by decide)) _).symm.trans h53) (z_LSlt hag hsa (show b4.toInt.toNat < m by omega)) (by omega) h21.1 h30 h32.1 h23 h34 h40
        have i55 : x46.toInt.toNat = b4.toInt.toNat + 1 := by omega
        exact ih.1 M x44 x39 x46 (some (.int x39)) X ⟨by omega, by omega⟩ ⟨by omega, by omega⟩ (by omega) (by omega) (by omega) hlo (by rw [i55]; exact z_nrS hI hL54 (by omega)) (by omega)
      refine z_xP zt69 16 48 [some (.ref a0), some (.int p1), some (.int b2), some (.int b3), some (.int b4), some (.int x39)] [.int b3, .int x39] rfl rfl ?_
      have h56 := z_b32 x39
      have h57 := z_b32 b3
      refine z_xJ zt69 17 rfl rfl (fun (h58 : x39.toInt ≤ b3.toInt) => ?_) (fun (h58 : b3.toInt < x39.toInt) => ?_)
      · skip
        refine z_xP zt69 19 59 [some (.ref a0), some (.int p1), some (.int b2), some (.int b3), some (.int b4), some (.int x39)] [.int b3, .int x39] rfl rfl ?_
        refine z_xJ zt69 20 rfl rfl (fun (h59 : x39.toInt ≠ b3.toInt) => ?_) (fun (h59 : x39.toInt = b3.toInt) => ?_)
        · skip
          refine z_xN zt69 22 rfl rfl (fun (x60 : Int32) (h61 : x60.toInt = b4.toInt + 1) => ?_) (z_pAdd rfl rfl (by omega) (by omega))
          show z_ev (d + 2) 69 68 [some (.ref a0), some (.int p1), some (.int b2), some (.int b3), some (.int x60), some (.int x39)] [] M _
          refine z_xP zt69 23 11 [some (.ref a0), some (.int p1), some (.int b2), some (.int b3), some (.int x60), some (.int x39)] [] rfl rfl ?_
          have ia62 := z_rfe h17 (X.2.f k0 (by decide) (hbk _ _ _ _ _ k0).2.2.2.2.1)
          rw [ia62] at h23
          have ia63 := z_rfe h26 (X.2.f k0 (by decide) (hbk _ _ _ _ _ k0).2.2.2.2.2.1)
          rw [ia63] at h34
          have iN64 := z_rfe h1 (X.2.f k0 (by decide) hN0)
          have h66 := h5
          rw [iN64] at h66
          have is65 := z_rfe h66 (X.2.f hag.1 (by decide) hsa)
          have h67 := h14
          rw [is65] at h67
          have hL68 : (z_sbL (z_Ar M0 (a0 + 4)) (z_Ar M0 sa b4.toInt.toNat).toInt.toNat 10).toInt = x39.toInt := z_lnOf hlo ((congrFun (X.2.a ksa (by decide)) _).symm.trans h67) (z_LSlt hag hsa (show b4.toInt.toNat < m by omega)) (by omega) h21.1 h30 h32.1 h23 h34 h40
          have i69 : x60.toInt.toNat = b4.toInt.toNat + 1 := by omega
          exact ih.1 M b2 b3 x60 (some (.int x39)) X ⟨by omega, by omega⟩ ⟨by omega, by omega⟩ (by omega) (by omega) (by omega) hlo (by rw [i69]; exact z_nrS hI hL68 (by omega)) (by omega)
        refine z_xN zt69 21 rfl rfl (fun (x70 : Int32) (h71 : x70.toInt = b2.toInt + 1) => ?_) (z_pAdd rfl rfl (by omega) (by omega))
        show z_ev (d + 2) 69 65 [some (.ref a0), some (.int p1), some (.int x70), some (.int b3), some (.int b4), some (.int x39)] [] M _
        refine z_xN zt69 22 rfl rfl (fun (x72 : Int32) (h73 : x72.toInt = b4.toInt + 1) => ?_) (z_pAdd rfl rfl (by omega) (by omega))
        show z_ev (d + 2) 69 68 [some (.ref a0), some (.int p1), some (.int x70), some (.int b3), some (.int x72), some (.int x39)] [] M _
        refine z_xP zt69 23 11 [some (.ref a0), some (.int p1), some (.int x70), some (.int b3), some (.int x72), some (.int x39)] [] rfl rfl ?_
        have ia74 := z_rfe h17 (X.2.f k0 (by decide) (hbk _ _ _ _ _ k0).2.2.2.2.1)
        rw [ia74] at h23
        have ia75 := z_rfe h26 (X.2.f k0 (by decide) (hbk _ _ _ _ _ k0).2.2.2.2.2.1)
        rw [ia75] at h34
        have iN76 := z_rfe h1 (X.2.f k0 (by decide) hN0)
        have h78 := h5
        rw [iN76] at h78
        have is77 := z_rfe h78 (X.2.f hag.1 (by decide) hsa)
        have h79 := h14
        rw [is77] at h79
        have hL80 : (z_sbL (z_Ar M0 (a0 + 4)) (z_Ar M0 sa b4.toInt.toNat).toInt.toNat 10).toInt = x39.toInt := z_lnOf hlo ((congrFun (X.2.a ksa (by decide)) _).symm.trans h79) (z_LSlt hag hsa (show b4.toInt.toNat < m by omega)) (by omega) h21.1 h30 h32.1 h23 h34 h40
        have i81 : x72.toInt.toNat = b4.toInt.toNat + 1 := by omega
        exact ih.1 M x70 b3 x72 (some (.int x39)) X ⟨by omega, by omega⟩ ⟨by omega, by omega⟩ (by omega) (by omega) (by omega) hlo (by rw [i81]; exact z_nrS hI hL80 (by omega)) (by omega)
      refine z_xP zt69 18 56 [some (.ref a0), some (.int p1), some (.int 0), some (.int x39), some (.int b4), some (.int x39)] [] rfl rfl ?_
      refine z_xP zt69 19 59 [some (.ref a0), some (.int p1), some (.int 0), some (.int x39), some (.int b4), some (.int x39)] [.int x39, .int x39] rfl rfl ?_
      refine z_xJ zt69 20 rfl rfl (fun (h82 : x39.toInt ≠ x39.toInt) => absurd h82 (by omega)) (fun (h82 : x39.toInt = x39.toInt) => ?_)
      refine z_xN zt69 21 rfl rfl (fun (x83 : Int32) (h84 : x83.toInt = 0 + 1) => ?_) (z_pAdd rfl rfl (by omega) (by omega))
      show z_ev (d + 2) 69 65 [some (.ref a0), some (.int p1), some (.int x83), some (.int x39), some (.int b4), some (.int x39)] [] M _
      refine z_xN zt69 22 rfl rfl (fun (x85 : Int32) (h86 : x85.toInt = b4.toInt + 1) => ?_) (z_pAdd rfl rfl (by omega) (by omega))
      show z_ev (d + 2) 69 68 [some (.ref a0), some (.int p1), some (.int x83), some (.int x39), some (.int x85), some (.int x39)] [] M _
      refine z_xP zt69 23 11 [some (.ref a0), some (.int p1), some (.int x83), some (.int x39), some (.int x85), some (.int x39)] [] rfl rfl ?_
      have ia87 := z_rfe h17 (X.2.f k0 (by decide) (hbk _ _ _ _ _ k0).2.2.2.2.1)
      rw [ia87] at h23
      have ia88 := z_rfe h26 (X.2.f k0 (by decide) (hbk _ _ _ _ _ k0).2.2.2.2.2.1)
      rw [ia88] at h34
      have iN89 := z_rfe h1 (X.2.f k0 (by decide) hN0)
      have h91 := h5
      rw [iN89] at h91
      have is90 := z_rfe h91 (X.2.f hag.1 (by decide) hsa)
      have h92 := h14
      rw [is90] at h92
      have hL93 : (z_sbL (z_Ar M0 (a0 + 4)) (z_Ar M0 sa b4.toInt.toNat).toInt.toNat 10).toInt = x39.toInt := z_lnOf hlo ((congrFun (X.2.a ksa (by decide)) _).symm.trans h92) (z_LSlt hag hsa (show b4.toInt.toNat < m by omega)) (by omega) h21.1 h30 h32.1 h23 h34 h40
      have i94 : x85.toInt.toNat = b4.toInt.toNat + 1 := by omega
      exact ih.1 M x83 x39 x85 (some (.int x39)) X ⟨by omega, by omega⟩ ⟨by omega, by omega⟩ (by omega) (by omega) (by omega) hlo (by rw [i94]; exact z_nrS hI hL93 (by omega)) (by omega)
    · skip
      intro M b2 b3 b4 b5 X hh0 hh1 hh2 hh3 hh4 hh5 hh6 hh7 hh8 hlo hB hI hE
      have g0 := X.1.p3 k0
      refine z_xP zt69 29 86 [some (.ref a0), some (.int p1), some (.int b2), some (.int b3), some (.int b4), some (.int b5)] [.ref a0, .int b5] rfl rfl ?_
      refine z_xgR (κ := .inl (2, q, t, m, 0)) zt69 30 rfl zo69 zzf3_39 X k0 (by decide) (by decide) rfl (fun (a2 : Nat) h1 k3 => ?_)
      have g4 := X.1.p2 k3
      refine z_xgR (κ := .inr (102, 0, m, 0, 1023)) zt69 31 rfl zo69 zzf3_101 X k3 (by decide) (by decide) rfl (fun (a6 : Nat) h5 k7 => ?_)
      refine z_xln zt69 32 rfl X k7 (by decide) (by omega) (fun (x8 : Int32) (h9 : x8.toInt = ((m : Nat) : Int)) => ?_)
      refine z_xJ zt69 33 rfl rfl (fun (h10 : x8.toInt ≤ b5.toInt) => ?_) (fun (h10 : b5.toInt < x8.toInt) => ?_)
      · skip
        refine z_xP zt69 54 144 [some (.ref a0), some (.int p1), some (.int b2), some (.int b3), some (.int b4), some (.int b5)] [.int (-1)] rfl rfl ?_
        have qm1 : (((-1) : Int32)).toInt = (-1) := rfl
        have i11 : b5.toInt.toNat = m := by omega
        rw [i11] at hI
        have qm1 : (((-1) : Int32)).toInt = (-1) := rfl
        exact z_xri zt69 55 rfl zzr69 (kk (-1) M X (by omega) (by omega) ⟨_, hB, Or.inr ⟨by omega, Or.inr ⟨by omega, by omega⟩⟩⟩ (z_low.lz hlo))
      refine z_xP zt69 34 98 [some (.ref a0), some (.int p1), some (.int b2), some (.int b3), some (.int b4), some (.int b5)] [.ref a0, .ref a0] rfl rfl ?_
      refine z_xgv zt69 35 rfl zo69 zzf3_39 X k0 (by decide) h1 ?_
      refine z_xgv zt69 36 rfl zo69 zzf3_101 X k3 (by decide) h5 ?_
      refine z_xP zt69 37 106 [some (.ref a0), some (.int p1), some (.int b2), some (.int b3), some (.int b4), some (.int b5)] [.int b5, .ref a6, .ref a0] rfl rfl ?_
      refine z_xil zt69 38 rfl X k7 (by decide) (by omega) (by omega) (fun (x12 : Int32) h13 (h14 : 0 ≤ x12.toInt) (h15 : x12.toInt ≤ 1023) => ?_)
      refine z_xcV (vs := [.ref a0, .int x12]) (r := []) (L2 := [some (.ref a0), some (.int x12)]) zt69 39 rfl zo69 zzcV3_104 (Or.inl rfl) rfl X k0 rfl rfl rfl (Nat.le_of_ble_eq_true rfl) zzm72 (Nat.le_of_ble_eq_true rfl) rfl ?_
      refine z_xP zt72 0 1 [some (.ref a0), some (.int x12)] [.ref a0] rfl rfl ?_
      refine z_xgR (κ := .inr (206, 0, 32, (-2147483648), 2147483647)) zt72 1 rfl zo72 zzf3_24 X k0 (by decide) (by decide) rfl (fun (a17 : Nat) h16 k18 => ?_)
      refine z_xP zt72 2 7 [some (.ref a0), some (.int x12)] [.int 31, .int x12, .ref a17] rfl rfl ?_
      refine z_xI zt72 3 rfl rfl (fun (x19 : Int32) (h20 : x19 = x12 &&& (31 : Int32) ∧ 0 ≤ x19.toInt ∧ x19.toInt ≤ x12.toInt ∧ x19.toInt ≤ 31) => ?_) (⟨rfl, z_pAnd2 rfl rfl (by omega) (by omega)⟩)
      refine z_xil zt72 4 rfl X k18 (by decide) (by omega) (by omega) (fun (x21 : Int32) h22 (h23 : (-2147483648) ≤ x21.toInt) (h24 : x21.toInt ≤ 2147483647) => ?_)
      refine z_xP zt72 5 10 [some (.ref a0), some (.int x12)] [.ref a0, .int x21] rfl rfl ?_
      refine z_xgR (κ := .inr (207, 0, 32, (-2147483648), 2147483647)) zt72 6 rfl zo72 zzf3_27 X k0 (by decide) (by decide) rfl (fun (a26 : Nat) h25 k27 => ?_)
      refine z_xP zt72 7 15 [some (.ref a0), some (.int x12)] [.int 5, .int x12, .ref a26, .int x21] rfl rfl ?_
      refine z_xI zt72 8 rfl rfl (fun (x28 : Int32) (h29 : x28.toInt = x12.toInt / 32) => ?_) (z_pShr (c := 32) 5 rfl rfl (by decide))
      refine z_xP zt72 9 18 [some (.ref a0), some (.int x12)] [.int 31, .int x28, .ref a26, .int x21] rfl rfl ?_
      refine z_xI zt72 10 rfl rfl (fun (x30 : Int32) (h31 : x30 = x28 &&& (31 : Int32) ∧ 0 ≤ x30.toInt ∧ x30.toInt ≤ x28.toInt ∧ x30.toInt ≤ 31) => ?_) (⟨rfl, z_pAnd2 rfl rfl (by omega) (by omega)⟩)
      refine z_xil zt72 11 rfl X k27 (by decide) (by omega) (by omega) (fun (x32 : Int32) h33 (h34 : (-2147483648) ≤ x32.toInt) (h35 : x32.toInt ≤ 2147483647) => ?_)
      have h36 := z_b32 x21
      have h37 := z_b32 x32
      refine z_xI zt72 12 rfl rfl (fun (x38 : Int32) (h39 : x38 = x21 + x32) => ?_) (rfl)
      refine z_xri zt72 13 rfl zzr72 ?_
      show z_ev (d + 2) 69 110 [some (.ref a0), some (.int p1), some (.int b2), some (.int b3), some (.int b4), some (.int b5)] [.int x38] M _
      refine z_xP zt69 40 111 [some (.ref a0), some (.int p1), some (.int b2), some (.int b3), some (.int b4), some (.int b5)] [.int b3, .int x38] rfl rfl ?_
      have h40 := z_b32 x38
      have h41 := z_b32 b3
      refine z_xJ zt69 41 rfl rfl (fun (h42 : x38.toInt = b3.toInt) => ?_) (fun (h42 : x38.toInt ≠ b3.toInt) => ?_)
      · skip
        refine z_xP zt69 43 120 [some (.ref a0), some (.int p1), some (.int b2), some (.int b3), some (.int b4), some (.int b5)] [.int p1, .int b4] rfl rfl ?_
        have h43 := z_b32 p1
        refine z_xJ zt69 44 rfl rfl (fun (h44 : b4.toInt ≠ p1.toInt) => ?_) (fun (h44 : b4.toInt = p1.toInt) => ?_)
        · skip
          refine z_xN zt69 51 rfl rfl (fun (x45 : Int32) (h46 : x45.toInt = b4.toInt + 1) => ?_) (z_pAdd rfl rfl (by omega) (by omega))
          show z_ev (d + 2) 69 137 [some (.ref a0), some (.int p1), some (.int b2), some (.int b3), some (.int x45), some (.int b5)] [] M _
          refine z_xN zt69 52 rfl rfl (fun (x47 : Int32) (h48 : x47.toInt = b5.toInt + 1) => ?_) (z_pAdd rfl rfl (by omega) (by omega))
          show z_ev (d + 2) 69 140 [some (.ref a0), some (.int p1), some (.int b2), some (.int b3), some (.int x45), some (.int x47)] [] M _
          refine z_xP zt69 53 83 [some (.ref a0), some (.int p1), some (.int b2), some (.int b3), some (.int x45), some (.int x47)] [] rfl rfl ?_
          have ia49 := z_rfe h16 (X.2.f k0 (by decide) (hbk _ _ _ _ _ k0).2.2.2.2.1)
          rw [ia49] at h22
          have ia50 := z_rfe h25 (X.2.f k0 (by decide) (hbk _ _ _ _ _ k0).2.2.2.2.2.1)
          rw [ia50] at h33
          have iN51 := z_rfe h1 (X.2.f k0 (by decide) hN0)
          have h53 := h5
          rw [iN51] at h53
          have is52 := z_rfe h53 (X.2.f hag.1 (by decide) hsa)
          have h54 := h13
          rw [is52] at h54
          have hL55 : (z_sbL (z_Ar M0 (a0 + 4)) (z_Ar M0 sa b5.toInt.toNat).toInt.toNat 10).toInt = x38.toInt := z_lnOf hlo ((congrFun (X.2.a ksa (by decide)) _).symm.trans h54) (z_LSlt hag hsa (show b5.toInt.toNat < m by omega)) (by omega) h20.1 h29 h31.1 h22 h33 h39
          have i56 : x47.toInt.toNat = b5.toInt.toNat + 1 := by omega
          exact ih.2 M b2 b3 x45 x47 X ⟨by omega, by omega⟩ ⟨by omega, by omega⟩ ⟨by omega, by omega⟩ ⟨by omega, by omega⟩ (by omega) (by omega) (by omega) (by omega) (by omega) hlo hB (by rw [i56]; exact z_cqS hI hL55 (by omega)) (by omega)
        refine z_xP zt69 45 124 [some (.ref a0), some (.int p1), some (.int b2), some (.int b3), some (.int b4), some (.int b5)] [.ref a0] rfl rfl ?_
        refine z_xgv zt69 46 rfl zo69 zzf3_39 X k0 (by decide) h1 ?_
        refine z_xgv zt69 47 rfl zo69 zzf3_101 X k3 (by decide) h5 ?_
        refine z_xP zt69 48 132 [some (.ref a0), some (.int p1), some (.int b2), some (.int b3), some (.int b4), some (.int b5)] [.int b5, .ref a6] rfl rfl ?_
        refine z_xil zt69 49 rfl X k7 (by decide) (by omega) (by omega) (fun (x57 : Int32) h58 (h59 : 0 ≤ x57.toInt) (h60 : x57.toInt ≤ 1023) => ?_)
        have h61 := congrArg Int32.toInt (h58.symm.trans h13)
        have ia62 := z_rfe h16 (X.2.f k0 (by decide) (hbk _ _ _ _ _ k0).2.2.2.2.1)
        rw [ia62] at h22
        have ia63 := z_rfe h25 (X.2.f k0 (by decide) (hbk _ _ _ _ _ k0).2.2.2.2.2.1)
        rw [ia63] at h33
        have iN64 := z_rfe h1 (X.2.f k0 (by decide) hN0)
        have h66 := h5
        rw [iN64] at h66
        have is65 := z_rfe h66 (X.2.f hag.1 (by decide) hsa)
        have h67 := h13
        rw [is65] at h67
        have hL68 : (z_sbL (z_Ar M0 (a0 + 4)) (z_Ar M0 sa b5.toInt.toNat).toInt.toNat 10).toInt = x38.toInt := z_lnOf hlo ((congrFun (X.2.a ksa (by decide)) _).symm.trans h67) (z_LSlt hag hsa (show b5.toInt.toNat < m by omega)) (by omega) h20.1 h29 h31.1 h22 h33 h39
        exact z_xri zt69 50 rfl zzr69 (kk x57 M X (by omega) (by omega) ⟨_, hB, Or.inr ⟨by omega, Or.inl ⟨b5.toInt.toNat, by omega, hL68.trans (by omega), by omega, ((congrArg Int32.toInt ((congrFun (X.2.a ksa (by decide)) _).symm.trans h67)).trans (by omega)).symm⟩⟩⟩ (z_low.lz hlo))
      refine z_xP zt69 42 137 [some (.ref a0), some (.int p1), some (.int b2), some (.int b3), some (.int b4), some (.int b5)] [] rfl rfl ?_
      refine z_xN zt69 52 rfl rfl (fun (x69 : Int32) (h70 : x69.toInt = b5.toInt + 1) => ?_) (z_pAdd rfl rfl (by omega) (by omega))
      show z_ev (d + 2) 69 140 [some (.ref a0), some (.int p1), some (.int b2), some (.int b3), some (.int b4), some (.int x69)] [] M _
      refine z_xP zt69 53 83 [some (.ref a0), some (.int p1), some (.int b2), some (.int b3), some (.int b4), some (.int x69)] [] rfl rfl ?_
      have h71 := z_b32 p1
      have ia72 := z_rfe h16 (X.2.f k0 (by decide) (hbk _ _ _ _ _ k0).2.2.2.2.1)
      rw [ia72] at h22
      have ia73 := z_rfe h25 (X.2.f k0 (by decide) (hbk _ _ _ _ _ k0).2.2.2.2.2.1)
      rw [ia73] at h33
      have iN74 := z_rfe h1 (X.2.f k0 (by decide) hN0)
      have h76 := h5
      rw [iN74] at h76
      have is75 := z_rfe h76 (X.2.f hag.1 (by decide) hsa)
      have h77 := h13
      rw [is75] at h77
      have hL78 : (z_sbL (z_Ar M0 (a0 + 4)) (z_Ar M0 sa b5.toInt.toNat).toInt.toNat 10).toInt = x38.toInt := z_lnOf hlo ((congrFun (X.2.a ksa (by decide)) _).symm.trans h77) (z_LSlt hag hsa (show b5.toInt.toNat < m by omega)) (by omega) h20.1 h29 h31.1 h22 h33 h39
      have i79 : x69.toInt.toNat = b5.toInt.toNat + 1 := by omega
      exact ih.2 M b2 b3 b4 x69 X ⟨by omega, by omega⟩ ⟨by omega, by omega⟩ ⟨by omega, by omega⟩ ⟨by omega, by omega⟩ (by omega) (by omega) (by omega) (by omega) (by omega) hlo hB (by rw [i79]; exact z_cqS hI hL78 (by omega)) (by omega)
theorem zUC69 {T : List zK} {d : Nat} {K : Option Value → zH → Prop} {a0 : Nat} {q : Nat} {t : Nat} {m : Nat} {J : Nat} {p1 : Int32} {N sa t2 pr en : Nat} {B : Nat → Nat} {M0 : zH} (hW : z_W M0 T) (k0 : T[a0]? = some (.inl (3, q, t, m, J))) (u1 : (-1) ≤ p1.toInt ∧ p1.toInt ≤ 2147483647) (hW0 : z_W M0 T) (hbk : z_blk T M0) (hN0 : z_F M0 a0 0 = some (.ref N)) (hag : z_AGO T M0 N q t2 m pr en B) (hsa : z_F M0 N 5 = some (.ref sa)) (ksa : T[sa]? = some (.inr (102, 0, m, 0, 1023))) (hz5 : z_Ar M0 (a0 + 5) 0 = 0) (hz6 : z_Ar M0 (a0 + 6) 0 = 0) (kk : ∀ (x : Int32) (M1 : zH), z_X T zw69 M0 M1 → (-1) ≤ x.toInt → x.toInt ≤ 1025 → z_nrP (fun k => (z_sbL (z_Ar M0 (a0 + 4)) (z_Ar M0 sa k).toInt.toNat 10).toInt) (z_Ar M0 sa) m p1.toInt x.toInt → z_lz M1 a0 → K (some (.int x)) M1) : z_ev (d + 2) 69 0 [some (.ref a0), some (.int p1), none, none, none, none] [] M0 K := by
  have X : z_X T zw69 M0 M0 := .refl hW
  have g0 := X.1.p3 k0
  refine z_xP zt69 0 1 [some (.ref a0), some (.int p1), none, none, none, none] [.ref a0] rfl rfl ?_
  refine z_xcV (vs := [.ref a0]) (r := []) (L2 := [some (.ref a0), none, none]) zt69 1 rfl zo69 zzcV3_98 (Or.inl rfl) rfl X k0 rfl rfl rfl (Nat.le_of_ble_eq_true rfl) zzm70 (Nat.le_of_ble_eq_true rfl) rfl ?_
  refine zUC70 X.1 k0 X.1 hbk hz5 hz6 (fun M1 X2 h3 => ?_)
  have X4 := X.go X2 (z_sb (by decide))
  show z_ev (d + 2) 69 4 [some (.ref a0), some (.int p1), none, none, none, none] [] M1 _
  refine z_xP zt69 2 11 [some (.ref a0), some (.int p1), some (.int 0), some (.int 0), some (.int 0), none] [] rfl rfl ?_
  have q0 : ((0 : Int32)).toInt = 0 := rfl
  exact (zUB69 k0 u1 hW0 hbk hN0 hag hsa ksa hz5 hz6 kk 3075).1 M1 (0) (0) (0) none X4 (by decide) (by decide) (by omega) (by omega) (by omega) h3 (z_nr0 rfl rfl) (by omega)
theorem zUC68 {T : List zK} {d : Nat} {K : Option Value → zH → Prop} {p1 : Int32} {p2 : Int32} {M0 : zH} (hW : z_W M0 T) (hW0 : z_W M0 T) (hbk : z_blk T M0) (hR6 : z_R6 T M0) (hR9 : z_R9 T M0) (hG : z_GG T M0) (kk : ∀ (x : Int32) (M1 : zH), z_X T zw68 M0 M1 → (-1) ≤ x.toInt → x.toInt ≤ 1025 → z_qB T M0 p1 x.toInt (z_ke T [] M0 M1) (fun b q B => (x.toInt = -1 ∧ p2.toInt < -1 ∧ z_ke T [] M0 M1) ∨ (-1 ≤ p2.toInt ∧ z_oth T (fun w => w = b) M0 M1 ∧ z_lz M1 b ∧ ∃ S : Nat → Int32, z_LS B (2 ^ q) S ∧ z_nrP (fun k => (z_sbL (z_Ar M0 (b + 4)) (S k).toInt.toNat 10).toInt) S (z_lc B (2 ^ q)) p2.toInt x.toInt)) → K (some (.int x)) M1) : z_ev (d + 3) 68 0 [some (.ref 4), some (.int p1), some (.int p2), none] [] M0 K := by
  have X : z_X T zw68 M0 M0 := .refl hW
  refine z_xP zt68 0 2 [some (.ref 4), some (.int p1), some (.int p2), none] [.int p1, .ref 4] rfl rfl ?_
  have f4 : T[4]? = some (.inl (0, 0, 0, 0, 0)) := X.1.k rfl (by decide)
  refine z_xcV (vs := [.ref 4, .int p1]) (r := []) (L2 := [some (.ref 4), some (.int p1)]) zt68 1 rfl zo68 zzcV0_85 (Or.inl rfl) rfl X f4 rfl rfl rfl (Nat.le_of_ble_eq_true rfl) zzm35 (Nat.le_of_ble_eq_true rfl) rfl ?_
  refine z_xP zt35 0 1 [some (.ref 4), some (.int p1)] [.int p1] rfl rfl ?_
  refine z_xZ zt35 1 rfl rfl (fun (h1 : p1.toInt < 0) => ?_) (fun (h1 : 0 ≤ p1.toInt) => ?_)
  · skip
    refine z_xP zt35 5 22 [some (.ref 4), some (.int p1)] [.null] rfl rfl ?_
    refine z_xrn zt35 10 rfl zzr35 ?_
    show z_ev (d + 3) 68 5 [some (.ref 4), some (.int p1), some (.int p2), none] [.null] M0 _
    refine z_xP zt68 2 15 [some (.ref 4), some (.int p1), some (.int p2), some (.null)] [] rfl rfl ?_
    refine z_xP zt68 5 16 [some (.ref 4), some (.int p1), some (.int p2), some (.null)] [.int (-1)] rfl rfl ?_
    have qm1 : (((-1) : Int32)).toInt = (-1) := rfl
    obtain ⟨x2, h3, h4, h5⟩ := z_W.fi X.1 f4 (k := 3) (lo := 0) (hi := 8) (by decide) rfl
    have qm1 : (((-1) : Int32)).toInt = (-1) := rfl
    exact z_xri zt68 6 rfl zzr68 (kk (-1) M0 X (by omega) (by omega) (z_qB0 h3 (by omega) (by omega) z_ke.refl))
  refine z_xP zt35 2 6 [some (.ref 4), some (.int p1)] [.ref 4, .int p1] rfl rfl ?_
  refine z_xgI zt35 3 rfl zo35 zzf0_59 X f4 (by decide) (by decide) rfl (fun (x7 : Int32) h6 (h8 : 0 ≤ x7.toInt) (h9 : x7.toInt ≤ 8) => ?_)
  have h10 := z_b32 p1
  refine z_xJ zt35 4 rfl rfl (fun (h11 : p1.toInt < x7.toInt) => ?_) (fun (h11 : x7.toInt ≤ p1.toInt) => ?_)
  · skip
    refine z_xP zt35 6 17 [some (.ref 4), some (.int p1)] [.ref 4] rfl rfl ?_
    refine z_xgX (b := 10) zt35 7 rfl zo35 zzf0_18 X f4 (by decide) (by decide) rfl ?_
    refine z_xP zt35 8 21 [some (.ref 4), some (.int p1)] [.int p1, .ref 10] rfl rfl ?_
    have f10 : T[10]? = some (.inr (10, 2, 8, 9, 0)) := X.1.k rfl (by decide)
    refine z_xal zt35 9 rfl X f10 (by decide) (by decide) (by decide) (by omega) (by omega) (fun (a12 : Nat) h13 h14 => ?_) (fun h15 => absurd h15 (z_Gs (hG.go X (by decide)).2.1 h6 (by omega) (by omega)))
    obtain ⟨q16, t17, m18, k19⟩ : ∃ q t m, T[a12]? = some (.inl (3, q, t, m, 9)) := h14
    have g20 := X.1.p3 k19
    refine z_xra zt35 10 rfl zzr35 ?_
    show z_ev (d + 3) 68 5 [some (.ref 4), some (.int p1), some (.int p2), none] [.ref a12] M0 _
    refine z_xP zt68 2 10 [some (.ref 4), some (.int p1), some (.int p2), some (.ref a12)] [] rfl rfl ?_
    refine z_xP zt68 3 12 [some (.ref 4), some (.int p1), some (.int p2), some (.ref a12)] [.int (-1), .int p2] rfl rfl ?_
    refine z_xJ zt68 4 rfl rfl (fun (h21 : (-1) ≤ p2.toInt) => ?_) (fun (h21 : p2.toInt < (-1)) => ?_)
    · skip
      refine z_xP zt68 7 19 [some (.ref 4), some (.int p1), some (.int p2), some (.ref a12)] [.int p2, .ref a12] rfl rfl ?_
      refine z_xcV (vs := [.ref a12, .int p2]) (r := []) (L2 := [some (.ref a12), some (.int p2), none, none, none, none]) zt68 8 rfl zo68 zzcV0_182 (Or.inl rfl) rfl X k19 rfl rfl rfl (Nat.le_of_ble_eq_true rfl) zzm69 (Nat.le_of_ble_eq_true rfl) rfl ?_
      have h22 := z_b32 p2
      obtain ⟨N23, pr24, en25, B26, hAB27⟩ := hR6.at2 h6 (by omega) (by omega) h13 k19
      obtain ⟨-, -, -, -, -, -, ⟨sa28, e529, k530, f531⟩, -⟩ := hAB27.2.2.2.1
      refine z_ev.told (fun w => w = a12) (hbk.ke X.2 (by decide)) X.1 (z_qLc (z_rvr (z_pb.ben k19 rfl)) (z_qLc z_rvi (z_qLn (z_qLn (z_qLn (z_qLn z_qL0)))))) z_qS0 ?_
      refine zUC69 X.1 k19 (by omega) X.1 (hbk.ke X.2 (by decide)) hAB27.2.2.1 hAB27.2.2.2.1 e529 k530 (hR9 _ _ _ _ k19).1 (hR9 _ _ _ _ k19).2 (fun x36 M32 X33 h37 h38 h34 h35 => ?_)
      intro ho39
      have X40 := X.go X33 (z_sb (by decide))
      show z_ev (d + 3) 68 22 [some (.ref 4), some (.int p1), some (.int p2), some (.ref a12)] [.int x36] M32 _
      exact z_xri zt68 9 rfl zzr68 (kk x36 M32 X40 (by omega) (by omega) (z_qB1 h6 ⟨by omega, by omega⟩ hAB27 (Or.inr ⟨by omega, (z_oth.refl.trans ho39), h35, _, f531, by rw [← hAB27.2.2.2.1.2.2.1]; exact h34⟩)))
    refine z_xP zt68 5 16 [some (.ref 4), some (.int p1), some (.int p2), some (.ref a12)] [.int (-1)] rfl rfl ?_
    have qm1 : (((-1) : Int32)).toInt = (-1) := rfl
    obtain ⟨N42, pr43, en44, B45, hAB46⟩ := hR6.at2 h6 (by omega) (by omega) h13 k19
    have qm1 : (((-1) : Int32)).toInt = (-1) := rfl
    exact z_xri zt68 6 rfl zzr68 (kk (-1) M0 X (by omega) (by omega) (z_qB1 h6 ⟨by omega, by omega⟩ hAB46 (Or.inl ⟨by omega, by omega, z_ke.refl⟩)))
  refine z_xP zt35 5 22 [some (.ref 4), some (.int p1)] [.null] rfl rfl ?_
  refine z_xrn zt35 10 rfl zzr35 ?_
  show z_ev (d + 3) 68 5 [some (.ref 4), some (.int p1), some (.int p2), none] [.null] M0 _
  refine z_xP zt68 2 15 [some (.ref 4), some (.int p1), some (.int p2), some (.null)] [] rfl rfl ?_
  refine z_xP zt68 5 16 [some (.ref 4), some (.int p1), some (.int p2), some (.null)] [.int (-1)] rfl rfl ?_
  have qm1 : (((-1) : Int32)).toInt = (-1) := rfl
  have qm1 : (((-1) : Int32)).toInt = (-1) := rfl
  exact z_xri zt68 6 rfl zzr68 (kk (-1) M0 X (by omega) (by omega) (z_qB0 h6 (by omega) (by omega) z_ke.refl))
