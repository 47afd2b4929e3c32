/-! twisted: what the class works out, told -/
/-- CHOOSE as it was made -/
def z_cA (M : zH) : Prop := z_Ar M 1 = fun j => z_tc.getD j 0
theorem z_chO.cA {M : zH} (h : z_chO M) : z_cA M := by
  unfold z_cA z_Ar
  rw [h]
theorem z_cA.ke {T : List zK} {M M1 : zH} {rs : List Nat} (h : z_cA M) (hW : z_W M T) (ke : z_ke T rs M M1) (hr : (!rs.elem 1) = true) : z_cA M1 := (ke.a (hW.k (k := 1) (κ := z_ai 1 102 0 4368) rfl (by decide)) (fun hm => by rw [List.elem_iff.mpr hm] at hr; cases hr)).trans h
def zw105 : List Nat := []
def zw128 : List Nat := []
def zw122 : List Nat := [202, 203, 205, 206, 207, 208, 209, 300]
theorem zUC105 {T : List zK} {d : Nat} {K : Option Value → zH → Prop} {p0 : Int32} {p1 : Int32} {M0 : zH} {a b : Nat} (hW : z_W M0 T) (hcA : z_cA M0) (ha : p0.toInt = (a : Int)) (hb : p1.toInt = (b : Int)) (a17 : a < 17) (b6 : b < 6) (kk : ∀ (x : Int32) (M1 : zH), z_X T zw105 M0 M1 → x.toInt = ((z_Cb a b : Nat) : Int) → K (some (.int x)) M1) : z_ev d 105 0 [some (.int p0), some (.int p1)] [] M0 K := by
  have X : z_X T zw105 M0 M0 := .refl hW
  refine z_xP zt105 0 1 [some (.int p0), some (.int p1)] [.int p0] rfl rfl ?_
  refine z_xZ zt105 1 rfl rfl (fun (h1 : p0.toInt < 0) => ?_) (fun (h1 : 0 ≤ p0.toInt) => ?_)
  · skip
    refine z_xP zt105 13 27 [some (.int p0), some (.int p1)] [.int 0] rfl rfl ?_
    have q0 : ((0 : Int32)).toInt = 0 := rfl
    exact z_xri zt105 14 rfl zzr105 (kk 0 M0 X (by exfalso; omega))
  refine z_xP zt105 2 5 [some (.int p0), some (.int p1)] [.int p1] rfl rfl ?_
  refine z_xZ zt105 3 rfl rfl (fun (h2 : p1.toInt < 0) => ?_) (fun (h2 : 0 ≤ p1.toInt) => ?_)
  · skip
    refine z_xP zt105 13 27 [some (.int p0), some (.int p1)] [.int 0] rfl rfl ?_
    have q0 : ((0 : Int32)).toInt = 0 := rfl
    exact z_xri zt105 14 rfl zzr105 (kk 0 M0 X (by exfalso; omega))
  refine z_xP zt105 4 10 [some (.int p0), some (.int p1)] [.int 5, .int p1] rfl rfl ?_
  refine z_xJ zt105 5 rfl rfl (fun (h3 : 5 < p1.toInt) => ?_) (fun (h3 : p1.toInt ≤ 5) => ?_)
  · skip
    refine z_xP zt105 13 27 [some (.int p0), some (.int p1)] [.int 0] rfl rfl ?_
    have q0 : ((0 : Int32)).toInt = 0 := rfl
    exact z_xri zt105 14 rfl zzr105 (kk 0 M0 X (by exfalso; omega))
  refine z_xP zt105 6 16 [some (.int p0), some (.int p1)] [.int p0, .int 6] rfl rfl ?_
  have h4 := z_b32 p0
  refine z_xI zt105 7 rfl rfl (fun (x5 : Int32) (ex5 : x5.toInt = 6 * p0.toInt) => ?_) (z_pMul rfl rfl (by omega) (by omega))
  refine z_xP zt105 8 18 [some (.int p0), some (.int p1)] [.int p1, .int x5] rfl rfl ?_
  have h7 := z_b32 x5
  refine z_xI zt105 9 rfl rfl (fun (x8 : Int32) (ex8 : x8.toInt = x5.toInt + p1.toInt) => ?_) (z_pAdd rfl rfl (by omega) (by omega))
  refine z_xgs zt105 10 rfl zo105 zg0_340 ?_
  have f1 : T[1]? = some (.inr (1, 0, 102, 0, 4368)) := X.1.k rfl (by decide)
  refine z_xln zt105 11 rfl X f1 (by decide) (by decide) (fun (x10 : Int32) (h11 : x10.toInt = ((102 : Nat) : Int)) => ?_)
  have h12 := z_b32 x8
  refine z_xJ zt105 12 rfl rfl (fun (h13 : x8.toInt < x10.toInt) => ?_) (fun (h13 : x10.toInt ≤ x8.toInt) => ?_)
  · skip
    refine z_xgs zt105 15 rfl zo105 zg0_340 ?_
    refine z_xP zt105 16 34 [some (.int p0), some (.int p1)] [.int p0, .int 6, .ref 1] rfl rfl ?_
    refine z_xI zt105 17 rfl rfl (fun (x14 : Int32) (ex14 : x14.toInt = 6 * p0.toInt) => ?_) (z_pMul rfl rfl (by omega) (by omega))
    refine z_xP zt105 18 36 [some (.int p0), some (.int p1)] [.int p1, .int x14, .ref 1] rfl rfl ?_
    have h16 := z_b32 x14
    refine z_xI zt105 19 rfl rfl (fun (x17 : Int32) (ex17 : x17.toInt = x14.toInt + p1.toInt) => ?_) (z_pAdd rfl rfl (by omega) (by omega))
    refine z_xil zt105 20 rfl X f1 (by decide) (by omega) (by omega) (fun (x19 : Int32) h20 (h21 : 0 ≤ x19.toInt) (h22 : x19.toInt ≤ 4368) => ?_)
    exact z_xri zt105 21 rfl zzr105 (kk x19 M0 X (by
      rw [← h20, hcA]
      have e : x17.toNatClampNeg = 6 * a + b := by
        show x17.toInt.toNat = 6 * a + b
        omega
      show (z_tc.getD x17.toNatClampNeg 0).toInt = _
      rw [e]
      exact z_tcC a a17 b b6))
  refine z_xP zt105 13 27 [some (.int p0), some (.int p1)] [.int 0] rfl rfl ?_
  have q0 : ((0 : Int32)).toInt = 0 := rfl
  exact z_xri zt105 14 rfl zzr105 (kk 0 M0 X (by exfalso; omega))
theorem zUC128 {T : List zK} {d : Nat} {K : Option Value → zH → Prop} {a0 : Nat} {p1 : Int32} {p2 : Int32} {M0 : zH} {N q t m pr en sa n : Nat} {B F G : Nat → Nat} {S : Nat → Int32} {A : Int32} (hS : z_TSG T M0 a0 N q t m pr en sa n B F G S A) (hi : 0 ≤ p2.toInt ∧ p2.toInt + 1 < (n : Int)) (hj : 0 ≤ p1.toInt ∧ p1.toInt ≤ 4) (kk : ∀ (x : Int32) (M1 : zH), z_X T zw128 M0 M1 → x.toInt = ((z_wo F p1.toInt.toNat p2.toInt.toNat : Nat) : Int) → K (some (.int x)) M1) : z_ev d 128 0 [some (.ref a0), some (.int p1), some (.int p2)] [] M0 K := by
  obtain ⟨⟨hWM, hbk⟩, kb, ⟨hN0, hag⟩, ⟨hsa, ksa, hSS⟩, hA, ⟨n5, jv4, hj4, ejv4⟩, hnu, har, hln, hlz⟩ := id hS
  have hW := hWM
  have k0 := kb
  have X : z_X T zw128 M0 M0 := .refl hW
  have g0 := X.1.p3 k0
  refine z_xP zt128 0 1 [some (.ref a0), some (.int p1), some (.int p2)] [.ref a0] rfl rfl ?_
  refine z_xgR (κ := .inr (210, 0, 5, 0, ((m : Nat) : Int) - 1)) zt128 1 rfl zo128 zzf3_33 X k0 (by decide) (by decide) rfl (fun (a2 : Nat) h1 k3 => ?_)
  refine z_xP zt128 2 6 [some (.ref a0), some (.int p1), some (.int p2)] [.int p1, .int p2, .ref a2] rfl rfl ?_
  have h4 := z_b32 p2
  have h5 := z_b32 p1
  refine z_xJ zt128 3 rfl rfl (fun (h6 : p1.toInt ≤ p2.toInt) => ?_) (fun (h6 : p2.toInt < p1.toInt) => ?_)
  · skip
    refine z_xP zt128 5 15 [some (.ref a0), some (.int p1), some (.int p2)] [.int 1, .int p2, .ref a2] rfl rfl ?_
    refine z_xI zt128 6 rfl rfl (fun (x7 : Int32) (e7 : x7.toInt = p2.toInt + 1) => ?_) (z_pAdd rfl rfl (by omega) (by omega))
    refine z_xil zt128 7 rfl X k3 (by decide) (by omega) (by omega) (fun (x9 : Int32) h10 (h11 : 0 ≤ x9.toInt) (h12 : x9.toInt ≤ ((m : Nat) : Int) - 1) => ?_)
    exact z_xri zt128 8 rfl zzr128 (kk x9 M0 X (by
    rw [z_rfe h1 (hbk _ _ _ _ _ k0).2.2.2.2.2.2.2.1] at h10
    have e := hnu x7.toInt.toNat (by omega)
    rw [← h10]
    show (z_Ar M0 (a0 + 8) x7.toInt.toNat).toInt = ((F (if p2.toInt.toNat < p1.toInt.toNat then p2.toInt.toNat else p2.toInt.toNat + 1) : Nat) : Int)
    rw [if_neg (by omega), show p2.toInt.toNat + 1 = x7.toInt.toNat by omega]
    exact e))
  refine z_xP zt128 4 16 [some (.ref a0), some (.int p1), some (.int p2)] [.int p2, .ref a2] rfl rfl ?_
  refine z_xil zt128 7 rfl X k3 (by decide) (by omega) (by omega) (fun (x13 : Int32) h14 (h15 : 0 ≤ x13.toInt) (h16 : x13.toInt ≤ ((m : Nat) : Int) - 1) => ?_)
  exact z_xri zt128 8 rfl zzr128 (kk x13 M0 X (by
    rw [z_rfe h1 (hbk _ _ _ _ _ k0).2.2.2.2.2.2.2.1] at h14
    have e := hnu p2.toInt.toNat (by omega)
    rw [← h14]
    show (z_Ar M0 (a0 + 8) p2.toInt.toNat).toInt = ((F (if p2.toInt.toNat < p1.toInt.toNat then p2.toInt.toNat else p2.toInt.toNat + 1) : Nat) : Int)
    rw [if_pos (by omega)]
    exact e))
theorem zUB121 {T : List zK} {d : Nat} {K : Option Value → zH → Prop} {a0 : Nat} {M0 : zH} {N q t m pr en sa n : Nat} {B F G : Nat → Nat} {S : Nat → Int32} {A : Int32} (hS : z_TSG T M0 a0 N q t m pr en sa n B F G S A) (hF : ∀ j, j < n → F j < 12) (hcA : z_cA M0) (kk : ∀ (x : Int32) (M1 : zH), z_X T zw121 M0 M1 → x.toInt = ((z_Rk F n : Nat) : Int) → K (some (.int x)) M1) : ∀ nn : Nat, (∀ (M : zH) (b1 : Int32) (b2 : Int32), z_X T zw121 M0 M → 0 ≤ b2.toInt ∧ b2.toInt ≤ 5 → b2.toInt ≤ (n : Int) → b1.toInt = ((z_Rk F b2.toInt.toNat : Nat) : Int) → ((0) * 2 + 0) * 6 + (5 - b2.toInt) < (nn : Int) → z_ev (d + 1) 121 4 [some (.ref a0), some (.int b1), some (.int b2)] [] M K) := by
  intro nn
  induction nn with
  | zero => exact by intros; exfalso; omega
  | succ nn ih =>
    intro M b1 b2 X hh0 hb2 hI hE
    have hSM := hS.ke X (by decide)
    obtain ⟨⟨hWM, hbk⟩, kb, ⟨hN0, hag⟩, ⟨hsa, ksa, hSS⟩, hA, ⟨n5, jv4, hj4, ejv4⟩, hnu, har, hln, hlz⟩ := id hSM
    have k0 := kb
    have hRU := z_RkU (H := F) b2.toInt.toNat (by omega) (fun i hi => hF i (by omega))
    have g0 := X.1.p3 k0
    refine z_xP zt121 1 6 [some (.ref a0), some (.int b1), some (.int b2)] [.ref a0, .int b2] rfl rfl ?_
    refine z_xgI zt121 2 rfl zo121 zzf3_53 X k0 (by decide) (by decide) rfl (fun (x2 : Int32) h1 (h3 : 0 ≤ x2.toInt) (h4 : x2.toInt ≤ (5 : Int)) => ?_)
    have e2 : x2.toInt = (n : Int) := by
      rw [z_ive h1 hj4]
      exact ejv4
    refine z_xJ zt121 3 rfl rfl (fun (h5 : x2.toInt ≤ b2.toInt) => ?_) (fun (h5 : b2.toInt < x2.toInt) => ?_)
    · skip
      refine z_xP zt121 17 36 [some (.ref a0), some (.int b1), some (.int b2)] [.int b1] rfl rfl ?_
      exact z_xri zt121 18 rfl zzr121 (kk b1 M X (by rw [hI, show b2.toInt.toNat = n by omega]))
    refine z_xP zt121 4 14 [some (.ref a0), some (.int b1), some (.int b2)] [.ref a0, .int b1] rfl rfl ?_
    refine z_xgR (κ := .inr (210, 0, 5, 0, ((m : Nat) : Int) - 1)) zt121 5 rfl zo121 zzf3_33 X k0 (by decide) (by decide) rfl (fun (a7 : Nat) h6 k8 => ?_)
    refine z_xP zt121 6 18 [some (.ref a0), some (.int b1), some (.int b2)] [.int b2, .ref a7, .int b1] rfl rfl ?_
    refine z_xil zt121 7 rfl X k8 (by decide) (by omega) (by omega) (fun (x9 : Int32) h10 (h11 : 0 ≤ x9.toInt) (h12 : x9.toInt ≤ ((m : Nat) : Int) - 1) => ?_)
    rw [z_rfe h6 (hbk _ _ _ _ _ k0).2.2.2.2.2.2.2.1] at h10
    have e9 : x9.toInt = (F b2.toInt.toNat : Int) := (congrArg Int32.toInt h10).symm.trans (hnu b2.toInt.toNat (by omega))
    have l9 := hF b2.toInt.toNat (by omega)
    refine z_xP zt121 8 20 [some (.ref a0), some (.int b1), some (.int b2)] [.int b2, .int x9, .int b1] rfl rfl ?_
    refine z_xI zt121 9 rfl rfl (fun (x13 : Int32) (h14 : x13.toInt = x9.toInt + b2.toInt) => ?_) (z_pAdd rfl rfl (by omega) (by omega))
    refine z_xP zt121 10 23 [some (.ref a0), some (.int b1), some (.int b2)] [.int 1, .int b2, .int x13, .int b1] rfl rfl ?_
    refine z_xI zt121 11 rfl rfl (fun (x15 : Int32) (h16 : x15.toInt = b2.toInt + 1) => ?_) (z_pAdd rfl rfl (by omega) (by omega))
    refine z_xcS (vs := [.int x13, .int x15]) (r := [.int b1]) (L2 := [some (.int x13), some (.int x15)]) zt121 12 rfl zo121 zzcS3_136 (Or.inr rfl) (Nat.le_of_ble_eq_true rfl) rfl rfl (Nat.le_of_ble_eq_true rfl) zzm105 (Nat.le_of_ble_eq_true rfl) rfl ?_
    refine zUC105 (a := F b2.toInt.toNat + b2.toInt.toNat) (b := b2.toInt.toNat + 1) X.1 (hcA.ke hS.1.1 X.2 (by decide)) (by omega) (by omega) (by omega) (by omega) (fun x19 M17 X18 h20 => ?_)
    have hC5 := z_Cb5 (F b2.toInt.toNat + b2.toInt.toNat) (by omega) (b2.toInt.toNat + 1) (by omega)
    have X22 := X.go X18 (z_sb (by decide))
    show z_ev (d + 1) 121 27 [some (.ref a0), some (.int b1), some (.int b2)] [.int x19, .int b1] M17 _
    have h24 := z_b32 b1
    refine z_xI zt121 13 rfl rfl (fun (x25 : Int32) (e25 : x25.toInt = b1.toInt + x19.toInt) => ?_) (z_pAdd rfl rfl (by omega) (by omega))
    refine z_xP zt121 14 29 [some (.ref a0), some (.int x25), some (.int b2)] [] rfl rfl ?_
    refine z_xN zt121 15 rfl rfl (fun (x27 : Int32) (h28 : x27.toInt = b2.toInt + 1) => ?_) (z_pAdd rfl rfl (by omega) (by omega))
    show z_ev (d + 1) 121 32 [some (.ref a0), some (.int x25), some (.int x27)] [] M17 _
    refine z_xP zt121 16 4 [some (.ref a0), some (.int x25), some (.int x27)] [] rfl rfl ?_
    have es : x27.toInt.toNat = b2.toInt.toNat + 1 := by omega
    refine ih M17 x25 x27 X22 ⟨by omega, by omega⟩ (by omega) ?_ (by omega)
    rw [es]
    show x25.toInt = ((z_Rk F b2.toInt.toNat + z_Cb (F b2.toInt.toNat + b2.toInt.toNat) (b2.toInt.toNat + 1) : Nat) : Int)
    omega
theorem zUC121 {T : List zK} {d : Nat} {K : Option Value → zH → Prop} {a0 : Nat} {M0 : zH} {N q t m pr en sa n : Nat} {B F G : Nat → Nat} {S : Nat → Int32} {A : Int32} (hS : z_TSG T M0 a0 N q t m pr en sa n B F G S A) (hF : ∀ j, j < n → F j < 12) (hcA : z_cA M0) (kk : ∀ (x : Int32) (M1 : zH), z_X T zw121 M0 M1 → x.toInt = ((z_Rk F n : Nat) : Int) → K (some (.int x)) M1) : z_ev (d + 1) 121 0 [some (.ref a0), none, none] [] M0 K := by
  have hW := hS.1.1
  have k0 := hS.2.1
  have X : z_X T zw121 M0 M0 := .refl hW
  have g0 := X.1.p3 k0
  refine z_xP zt121 0 4 [some (.ref a0), some (.int 0), some (.int 0)] [] rfl rfl ?_
  have q0 : ((0 : Int32)).toInt = 0 := rfl
  exact (zUB121 hS hF hcA kk 12) M0 (0) (0) X (by decide) (by omega) rfl (by omega)
theorem zUB127 {T : List zK} {d : Nat} {K : Option Value → zH → Prop} {a0 : Nat} {p1 : Int32} {M0 : zH} {N q t m pr en sa n : Nat} {B F G : Nat → Nat} {S : Nat → Int32} {A : Int32} (hS : z_TSG T M0 a0 N q t m pr en sa n B F G S A) (hF : ∀ j, j < n → F j < 12) (hcA : z_cA M0) (u1 : 0 ≤ p1.toInt ∧ p1.toInt ≤ 4) (n1 : 1 ≤ n) (kk : ∀ (x : Int32) (M1 : zH), z_X T zw127 M0 M1 → x.toInt = ((z_Ro (z_wo F p1.toInt.toNat) 0 (n - 1) : Nat) : Int) → K (some (.int x)) M1) : ∀ nn : Nat, (∀ (M : zH) (b2 : Int32) (b3 : Int32), z_X T zw127 M0 M → 0 ≤ b3.toInt ∧ b3.toInt ≤ 4 → b3.toInt + 1 ≤ (n : Int) → b2.toInt = ((z_Ro (z_wo F p1.toInt.toNat) 0 b3.toInt.toNat : Nat) : Int) → ((0) * 2 + 0) * 5 + (4 - b3.toInt) < (nn : Int) → z_ev (d + 1) 127 4 [some (.ref a0), some (.int p1), some (.int b2), some (.int b3)] [] M K) := by
  intro nn
  induction nn with
  | zero => exact by intros; exfalso; omega
  | succ nn ih =>
    intro M b2 b3 X hh0 hb3 hI hE
    have hSM := hS.ke X (by decide)
    obtain ⟨⟨hWM, hbk⟩, kb, ⟨hN0, hag⟩, ⟨hsa, ksa, hSS⟩, hA, ⟨n5, jv4, hj4, ejv4⟩, hnu, har, hln, hlz⟩ := id hSM
    have k0 := kb
    have hwo : ∀ i, i + 1 < n → z_wo F p1.toInt.toNat i < 12 := fun i hi => by
      show F (if i < p1.toInt.toNat then i else i + 1) < 12
      split
      · exact hF _ (by omega)
      · exact hF _ (by omega)
    have hRU := z_RoU (o := z_wo F p1.toInt.toNat) (b := 0) b3.toInt.toNat (by omega) (fun i hi => hwo i (by omega))
    have g0 := X.1.p3 k0
    refine z_xP zt127 1 6 [some (.ref a0), some (.int p1), some (.int b2), some (.int b3)] [.ref a0, .int b3] rfl rfl ?_
    refine z_xgI zt127 2 rfl zo127 zzf3_53 X k0 (by decide) (by decide) rfl (fun (x2 : Int32) h1 (h3 : 0 ≤ x2.toInt) (h4 : x2.toInt ≤ (5 : Int)) => ?_)
    have e2 : x2.toInt = (n : Int) := by
      rw [z_ive h1 hj4]
      exact ejv4
    refine z_xP zt127 3 10 [some (.ref a0), some (.int p1), some (.int b2), some (.int b3)] [.int 1, .int x2, .int b3] rfl rfl ?_
    refine z_xI zt127 4 rfl rfl (fun (x5 : Int32) (h6 : x5.toInt = x2.toInt - 1) => ?_) (z_pSub rfl rfl (by omega) (by omega))
    refine z_xJ zt127 5 rfl rfl (fun (h7 : x5.toInt ≤ b3.toInt) => ?_) (fun (h7 : b3.toInt < x5.toInt) => ?_)
    · skip
      refine z_xP zt127 19 40 [some (.ref a0), some (.int p1), some (.int b2), some (.int b3)] [.int b2] rfl rfl ?_
      exact z_xri zt127 20 rfl zzr127 (kk b2 M X (by rw [hI, show b3.toInt.toNat = n - 1 by omega]))
    refine z_xP zt127 6 18 [some (.ref a0), some (.int p1), some (.int b2), some (.int b3)] [.int b3, .int p1, .ref a0, .int b2] rfl rfl ?_
    refine z_xcV (vs := [.ref a0, .int p1, .int b3]) (r := [.int b2]) (L2 := [some (.ref a0), some (.int p1), some (.int b3)]) zt127 7 rfl zo127 zzcV3_151 (Or.inl rfl) rfl X k0 rfl rfl rfl (Nat.le_of_ble_eq_true rfl) zzm128 (Nat.le_of_ble_eq_true rfl) rfl ?_
    refine zUC128 hSM ⟨by omega, by omega⟩ u1 (fun x10 M8 X9 h11 => ?_)
    have h12 := hwo b3.toInt.toNat (by omega)
    have X13 := X.go X9 (z_sb (by decide))
    show z_ev (d + 1) 127 21 [some (.ref a0), some (.int p1), some (.int b2), some (.int b3)] [.int x10, .int b2] M8 _
    refine z_xP zt127 8 22 [some (.ref a0), some (.int p1), some (.int b2), some (.int b3)] [.int b3, .int x10, .int b2] rfl rfl ?_
    refine z_xI zt127 9 rfl rfl (fun (x15 : Int32) (h16 : x15.toInt = x10.toInt + b3.toInt) => ?_) (z_pAdd rfl rfl (by omega) (by omega))
    refine z_xP zt127 10 24 [some (.ref a0), some (.int p1), some (.int b2), some (.int b3)] [.int 1, .int x15, .int b2] rfl rfl ?_
    refine z_xI zt127 11 rfl rfl (fun (x17 : Int32) (h18 : x17.toInt = x15.toInt + 1) => ?_) (z_pAdd rfl rfl (by omega) (by omega))
    refine z_xP zt127 12 27 [some (.ref a0), some (.int p1), some (.int b2), some (.int b3)] [.int 2, .int b3, .int x17, .int b2] rfl rfl ?_
    refine z_xI zt127 13 rfl rfl (fun (x19 : Int32) (h20 : x19.toInt = b3.toInt + 2) => ?_) (z_pAdd rfl rfl (by omega) (by omega))
    refine z_xcS (vs := [.int x17, .int x19]) (r := [.int b2]) (L2 := [some (.int x17), some (.int x19)]) zt127 14 rfl zo127 zzcS3_136 (Or.inr rfl) (Nat.le_of_ble_eq_true rfl) rfl rfl (Nat.le_of_ble_eq_true rfl) zzm105 (Nat.le_of_ble_eq_true rfl) rfl ?_
    refine zUC105 (a := z_wo F p1.toInt.toNat b3.toInt.toNat + (b3.toInt.toNat + 1)) (b := b3.toInt.toNat + 2) X13.1 (hcA.ke hS.1.1 X13.2 (by decide)) (by omega) (by omega) (by omega) (by omega) (fun x23 M21 X22 h24 => ?_)
    have hC5 := z_Cb5 (z_wo F p1.toInt.toNat b3.toInt.toNat + (b3.toInt.toNat + 1)) (by omega) (b3.toInt.toNat + 2) (by omega)
    have X26 := X13.go X22 (z_sb (by decide))
    show z_ev (d + 1) 127 31 [some (.ref a0), some (.int p1), some (.int b2), some (.int b3)] [.int x23, .int b2] M21 _
    have h28 := z_b32 b2
    refine z_xI zt127 15 rfl rfl (fun (x29 : Int32) (e29 : x29.toInt = b2.toInt + x23.toInt) => ?_) (z_pAdd rfl rfl (by omega) (by omega))
    refine z_xP zt127 16 33 [some (.ref a0), some (.int p1), some (.int x29), some (.int b3)] [] rfl rfl ?_
    refine z_xN zt127 17 rfl rfl (fun (x31 : Int32) (h32 : x31.toInt = b3.toInt + 1) => ?_) (z_pAdd rfl rfl (by omega) (by omega))
    show z_ev (d + 1) 127 36 [some (.ref a0), some (.int p1), some (.int x29), some (.int x31)] [] M21 _
    refine z_xP zt127 18 4 [some (.ref a0), some (.int p1), some (.int x29), some (.int x31)] [] rfl rfl ?_
    have es : x31.toInt.toNat = b3.toInt.toNat + 1 := by omega
    refine ih M21 x29 x31 X26 ⟨by omega, by omega⟩ (by omega) ?_ (by omega)
    have eR : z_Ro (z_wo F p1.toInt.toNat) 0 (b3.toInt.toNat + 1) = z_Ro (z_wo F p1.toInt.toNat) 0 b3.toInt.toNat + z_Cb (z_wo F p1.toInt.toNat b3.toInt.toNat + (b3.toInt.toNat + 1)) (b3.toInt.toNat + 2) := by
      show z_Ro (z_wo F p1.toInt.toNat) 0 b3.toInt.toNat + (if b3.toInt.toNat < 0 then z_Cb (z_wo F p1.toInt.toNat b3.toInt.toNat + b3.toInt.toNat) (b3.toInt.toNat + 1) else z_Cb (z_wo F p1.toInt.toNat b3.toInt.toNat + (b3.toInt.toNat + 1)) (b3.toInt.toNat + 2)) = _
      rw [if_neg (Nat.not_lt_zero _)]
    rw [es, eR]
    omega
theorem zUC127 {T : List zK} {d : Nat} {K : Option Value → zH → Prop} {a0 : Nat} {p1 : Int32} {M0 : zH} {N q t m pr en sa n : Nat} {B F G : Nat → Nat} {S : Nat → Int32} {A : Int32} (hS : z_TSG T M0 a0 N q t m pr en sa n B F G S A) (hF : ∀ j, j < n → F j < 12) (hcA : z_cA M0) (u1 : 0 ≤ p1.toInt ∧ p1.toInt ≤ 4) (n1 : 1 ≤ n) (kk : ∀ (x : Int32) (M1 : zH), z_X T zw127 M0 M1 → x.toInt = ((z_Ro (z_wo F p1.toInt.toNat) 0 (n - 1) : Nat) : Int) → K (some (.int x)) M1) : z_ev (d + 1) 127 0 [some (.ref a0), some (.int p1), none, none] [] M0 K := by
  have hW := hS.1.1
  have k0 := hS.2.1
  have X : z_X T zw127 M0 M0 := .refl hW
  have g0 := X.1.p3 k0
  refine z_xP zt127 0 4 [some (.ref a0), some (.int p1), some (.int 0), some (.int 0)] [] rfl rfl ?_
  have q0 : ((0 : Int32)).toInt = 0 := rfl
  exact (zUB127 hS hF hcA u1 n1 kk 10) M0 (0) (0) X (by decide) (by omega) rfl (by omega)
theorem zUC123 {T : List zK} {d : Nat} {K : Option Value → zH → Prop} {a0 : Nat} {a1 : Nat} {p2 : Int32} {M0 : zH} {N q t m pr en sa n r : Nat} {B F G : Nat → Nat} {S : Nat → Int32} {A ch : Int32} (k0 : T[a0]? = some (.inl (10, 0, 0, 0, 0))) (hS : z_TSG T M0 a1 N q t m pr en sa n B F G S A) (fc : z_F M0 a0 2 = some (.int ch)) (hr : p2.toInt = (r : Int)) (r3 : r ≤ 30000) (m12 : m ≤ 12) (kk : ∀ (x : Int32) (M1 : zH), z_X T zw123 M0 M1 → x.toInt = ((z_plc 10 m n ch.toInt.toNat r F : Nat) : Int) → K (some (.int x)) M1) : z_ev d 123 0 [some (.ref a0), some (.ref a1), some (.int p2), none] [] M0 K := by
  obtain ⟨⟨hWM, hbk⟩, kb, ⟨hN0, hag⟩, ⟨hsa, ksa, hSS⟩, hA, ⟨n5, jv4, hj4, ejv4⟩, hnu, har, hln, hlz⟩ := id hS
  have hW := hWM
  have k1 := kb
  have X : z_X T zw123 M0 M0 := .refl hW
  have g1 := X.1.p3 k1
  refine z_xP zt123 0 1 [some (.ref a0), some (.ref a1), some (.int p2), none] [.ref a0] rfl rfl ?_
  refine z_xgI zt123 1 rfl zo123 zzf10_7 X k0 (by decide) (by decide) rfl (fun (x2 : Int32) h1 (h3 : 0 ≤ x2.toInt) (h4 : x2.toInt ≤ 8) => ?_)
  have e2 : x2 = ch := z_ive h1 fc
  refine z_xP zt123 2 5 [some (.ref a0), some (.ref a1), some (.int p2), none] [.ref a1, .int x2] rfl rfl ?_
  refine z_xgI zt123 3 rfl zo123 zzf10_23 X k1 (by decide) (by decide) rfl (fun (x6 : Int32) h5 (h7 : 0 ≤ x6.toInt) (h8 : x6.toInt ≤ (5 : Int)) => ?_)
  have e6 : x6.toInt = (n : Int) := by
    rw [z_ive h5 hj4]
    exact ejv4
  refine z_xJ zt123 4 rfl rfl (fun (h9 : x6.toInt ≤ x2.toInt) => ?_) (fun (h9 : x2.toInt < x6.toInt) => ?_)
  · skip
    refine z_xP zt123 17 37 [some (.ref a0), some (.ref a1), some (.int p2), none] [.int 0] rfl rfl ?_
    refine z_xP zt123 18 39 [some (.ref a0), some (.ref a1), some (.int p2), some (.int 0)] [.int 0] rfl rfl ?_
    refine z_xZ zt123 19 rfl rfl (fun (h10 : (0 : Int) = 0) => ?_) (fun (h10 : (0 : Int) ≠ 0) => absurd h10 (by omega))
    refine z_xP zt123 32 66 [some (.ref a0), some (.ref a1), some (.int p2), some (.int 0)] [.int p2] rfl rfl ?_
    exact z_xri zt123 33 rfl zzr123 (kk p2 M0 X (by
      have e : z_plc 10 m n ch.toInt.toNat r F = r := by
        unfold z_plc
        rw [if_neg (by decide), if_neg (by rw [← e2]; omega)]
      rw [e]
      exact hr))
  refine z_xP zt123 5 12 [some (.ref a0), some (.ref a1), some (.int p2), none] [.ref a0] rfl rfl ?_
  refine z_xgv zt123 6 rfl zo123 zzf10_7 X k0 (by decide) h1 ?_
  refine z_xP zt123 7 16 [some (.ref a0), some (.ref a1), some (.int p2), none] [.ref a1, .int x2] rfl rfl ?_
  refine z_xgR (κ := .inr (210, 0, 5, 0, ((m : Nat) : Int) - 1)) zt123 8 rfl zo123 zzf10_26 X k1 (by decide) (by decide) rfl (fun (a12 : Nat) h11 k13 => ?_)
  refine z_xln zt123 9 rfl X k13 (by decide) (by decide) (fun (x14 : Int32) (h15 : x14.toInt = ((5 : Nat) : Int)) => ?_)
  refine z_xJ zt123 10 rfl rfl (fun (h16 : x14.toInt ≤ x2.toInt) => absurd h16 (by omega)) (fun (h16 : x2.toInt < x14.toInt) => ?_)
  refine z_xP zt123 11 24 [some (.ref a0), some (.ref a1), some (.int p2), none] [.ref a1] rfl rfl ?_
  refine z_xgv zt123 12 rfl zo123 zzf10_23 X k1 (by decide) h5 ?_
  refine z_xP zt123 13 28 [some (.ref a0), some (.ref a1), some (.int p2), none] [.int 2, .int x6] rfl rfl ?_
  have q2 : ((2 : Int32)).toInt = 2 := rfl
  refine z_xM zt123 14 rfl (by omega) (fun (x17 : Int32) (h18 : x17.toInt = x6.toInt % 2 ∧ 0 ≤ x17.toInt ∧ x17.toInt < 2 ∧ x17.toInt ≤ x6.toInt) => ?_) (z_pRem rfl rfl (by omega) (by omega))
  refine z_xZ zt123 15 rfl rfl (fun (h19 : x17.toInt ≠ 0) => ?_) (fun (h19 : x17.toInt = 0) => ?_)
  · skip
    refine z_xP zt123 17 37 [some (.ref a0), some (.ref a1), some (.int p2), none] [.int 0] rfl rfl ?_
    refine z_xP zt123 18 39 [some (.ref a0), some (.ref a1), some (.int p2), some (.int 0)] [.int 0] rfl rfl ?_
    refine z_xZ zt123 19 rfl rfl (fun (h20 : (0 : Int) = 0) => ?_) (fun (h20 : (0 : Int) ≠ 0) => absurd h20 (by omega))
    refine z_xP zt123 32 66 [some (.ref a0), some (.ref a1), some (.int p2), some (.int 0)] [.int p2] rfl rfl ?_
    exact z_xri zt123 33 rfl zzr123 (kk p2 M0 X (by
      have e : z_plc 10 m n ch.toInt.toNat r F = r := by
        unfold z_plc
        rw [if_neg (by decide), if_neg (by rw [← e2]; omega)]
      rw [e]
      exact hr))
  refine z_xP zt123 16 37 [some (.ref a0), some (.ref a1), some (.int p2), none] [.int 1] rfl rfl ?_
  refine z_xP zt123 18 39 [some (.ref a0), some (.ref a1), some (.int p2), some (.int 1)] [.int 1] rfl rfl ?_
  refine z_xZ zt123 19 rfl rfl (fun (h21 : (1 : Int) = 0) => absurd h21 (by omega)) (fun (h21 : (1 : Int) ≠ 0) => ?_)
  refine z_xP zt123 20 44 [some (.ref a0), some (.ref a1), some (.int p2), some (.int 1)] [.ref a1, .int p2] rfl rfl ?_
  refine z_xgR (κ := .inl (2, q, t, m, 0)) zt123 21 rfl zo123 zzf10_29 X k1 (by decide) (by decide) rfl (fun (a23 : Nat) h22 k24 => ?_)
  have g25 := X.1.p2 k24
  refine z_xgR (κ := .inr (102, 0, m, 0, 1023)) zt123 22 rfl zo123 zzf10_33 X k24 (by decide) (by decide) rfl (fun (a27 : Nat) h26 k28 => ?_)
  refine z_xln zt123 23 rfl X k28 (by decide) (by omega) (fun (x29 : Int32) (h30 : x29.toInt = ((m : Nat) : Int)) => ?_)
  have h31 := z_b32 p2
  refine z_xI zt123 24 rfl rfl (fun (x32 : Int32) (e32 : x32.toInt = p2.toInt * x29.toInt ∧ 0 ≤ x32.toInt ∧ x32.toInt ≤ 360000) => ?_) (z_pMulB (a := 30000) (b := 12) rfl rfl (by omega) (by omega) (by omega) (by omega) (by decide) (by decide))
  refine z_xP zt123 25 53 [some (.ref a0), some (.ref a1), some (.int p2), some (.int 1)] [.ref a1, .int x32] rfl rfl ?_
  refine z_xgv zt123 26 rfl zo123 zzf10_26 X k1 (by decide) h11 ?_
  refine z_xP zt123 27 57 [some (.ref a0), some (.ref a1), some (.int p2), some (.int 1)] [.ref a0, .ref a12, .int x32] rfl rfl ?_
  refine z_xgv zt123 28 rfl zo123 zzf10_7 X k0 (by decide) h1 ?_
  refine z_xil zt123 29 rfl X k13 (by decide) (by omega) (by omega) (fun (x34 : Int32) h35 (h36 : 0 ≤ x34.toInt) (h37 : x34.toInt ≤ ((m : Nat) : Int) - 1) => ?_)
  have h38 := z_b32 x32
  refine z_xI zt123 30 rfl rfl (fun (x39 : Int32) (e39 : x39.toInt = x32.toInt + x34.toInt) => ?_) (z_pAdd rfl rfl (by omega) (by omega))
  refine z_xP zt123 31 66 [some (.ref a0), some (.ref a1), some (.int p2), some (.int 1)] [.int x39] rfl rfl ?_
  exact z_xri zt123 33 rfl zzr123 (kk x39 M0 X (by
    rw [z_rfe h11 (hbk _ _ _ _ _ k1).2.2.2.2.2.2.2.1] at h35
    have e34 : x34.toInt = (F ch.toInt.toNat : Int) := by
      rw [← h35, ← hnu ch.toInt.toNat (by rw [← e2]; omega), ← e2]
      rfl
    have e : z_plc 10 m n ch.toInt.toNat r F = r * m + F ch.toInt.toNat := by
      unfold z_plc
      rw [if_neg (by decide), if_pos ⟨rfl, by rw [← e2]; omega, by omega⟩]
    rw [e, e39, e32.1, hr, h30, e34, Int.natCast_add, Int.natCast_mul]))
theorem zUC124 {T : List zK} {d : Nat} {K : Option Value → zH → Prop} {a0 : Nat} {a1 : Nat} {p2 : Int32} {M0 : zH} {N q t m pr en sa n r : Nat} {B F G : Nat → Nat} {S : Nat → Int32} {A ch : Int32} (k0 : T[a0]? = some (.inl (11, 0, 0, 0, 0))) (hS : z_TSG T M0 a1 N q t m pr en sa n B F G S A) (fc : z_F M0 a0 2 = some (.int ch)) (kk : ∀ (x : Int32) (M1 : zH), z_X T zw124 M0 M1 → x.toInt = ((z_plc 11 m n ch.toInt.toNat r F : Nat) : Int) → K (some (.int x)) M1) : z_ev d 124 0 [some (.ref a0), some (.ref a1), some (.int p2)] [] M0 K := by
  obtain ⟨⟨hWM, hbk⟩, kb, ⟨hN0, hag⟩, ⟨hsa, ksa, hSS⟩, hA, ⟨n5, jv4, hj4, ejv4⟩, hnu, har, hln, hlz⟩ := id hS
  have hW := hWM
  have k1 := kb
  have X : z_X T zw124 M0 M0 := .refl hW
  have g1 := X.1.p3 k1
  refine z_xP zt124 0 1 [some (.ref a0), some (.ref a1), some (.int p2)] [.ref a0] rfl rfl ?_
  refine z_xgI zt124 1 rfl zo124 zzf11_9 X k0 (by decide) (by decide) rfl (fun (x2 : Int32) h1 (h3 : 0 ≤ x2.toInt) (h4 : x2.toInt ≤ 8) => ?_)
  have e2 : x2 = ch := z_ive h1 fc
  refine z_xP zt124 2 5 [some (.ref a0), some (.ref a1), some (.int p2)] [.ref a1, .int x2] rfl rfl ?_
  refine z_xgI zt124 3 rfl zo124 zzf11_38 X k1 (by decide) (by decide) rfl (fun (x6 : Int32) h5 (h7 : 0 ≤ x6.toInt) (h8 : x6.toInt ≤ (5 : Int)) => ?_)
  have e6 : x6.toInt = (n : Int) := by
    rw [z_ive h5 hj4]
    exact ejv4
  refine z_xJ zt124 4 rfl rfl (fun (h9 : x6.toInt ≤ x2.toInt) => ?_) (fun (h9 : x2.toInt < x6.toInt) => ?_)
  · skip
    refine z_xP zt124 17 36 [some (.ref a0), some (.ref a1), some (.int p2)] [.int 0] rfl rfl ?_
    have q0 : ((0 : Int32)).toInt = 0 := rfl
    exact z_xri zt124 18 rfl zzr124 (kk 0 M0 X (by
      have e : z_plc 11 m n ch.toInt.toNat r F = 0 := by
        unfold z_plc
        rw [if_pos rfl, if_neg (by rw [← e2]; omega)]
      rw [e]
      rfl))
  refine z_xP zt124 5 12 [some (.ref a0), some (.ref a1), some (.int p2)] [.ref a0] rfl rfl ?_
  refine z_xgv zt124 6 rfl zo124 zzf11_9 X k0 (by decide) h1 ?_
  refine z_xP zt124 7 16 [some (.ref a0), some (.ref a1), some (.int p2)] [.ref a1, .int x2] rfl rfl ?_
  refine z_xgR (κ := .inr (210, 0, 5, 0, ((m : Nat) : Int) - 1)) zt124 8 rfl zo124 zzf11_41 X k1 (by decide) (by decide) rfl (fun (a11 : Nat) h10 k12 => ?_)
  refine z_xln zt124 9 rfl X k12 (by decide) (by decide) (fun (x13 : Int32) (h14 : x13.toInt = ((5 : Nat) : Int)) => ?_)
  refine z_xJ zt124 10 rfl rfl (fun (h15 : x13.toInt ≤ x2.toInt) => absurd h15 (by omega)) (fun (h15 : x2.toInt < x13.toInt) => ?_)
  refine z_xP zt124 11 24 [some (.ref a0), some (.ref a1), some (.int p2)] [.ref a1] rfl rfl ?_
  refine z_xgv zt124 12 rfl zo124 zzf11_41 X k1 (by decide) h10 ?_
  refine z_xP zt124 13 28 [some (.ref a0), some (.ref a1), some (.int p2)] [.ref a0, .ref a11] rfl rfl ?_
  refine z_xgv zt124 14 rfl zo124 zzf11_9 X k0 (by decide) h1 ?_
  refine z_xil zt124 15 rfl X k12 (by decide) (by omega) (by omega) (fun (x16 : Int32) h17 (h18 : 0 ≤ x16.toInt) (h19 : x16.toInt ≤ ((m : Nat) : Int) - 1) => ?_)
  refine z_xP zt124 16 36 [some (.ref a0), some (.ref a1), some (.int p2)] [.int x16] rfl rfl ?_
  exact z_xri zt124 18 rfl zzr124 (kk x16 M0 X (by
    rw [z_rfe h10 (hbk _ _ _ _ _ k1).2.2.2.2.2.2.2.1] at h17
    have e : z_plc 11 m n ch.toInt.toNat r F = F ch.toInt.toNat := by
      unfold z_plc
      rw [if_pos rfl, if_pos (by rw [← e2]; omega)]
    rw [e, ← h17, ← hnu ch.toInt.toNat (by rw [← e2]; omega), ← e2]
    rfl))
theorem zUC125 {T : List zK} {d : Nat} {K : Option Value → zH → Prop} {a0 : Nat} {ci : Nat} {a1 : Nat} {p2 : Int32} {M0 : zH} {N q t m pr en sa n r : Nat} {B F G : Nat → Nat} {S : Nat → Int32} {A ch : Int32} (hci : ci ≠ 10 ∧ ci ≠ 11) (hS : z_TSG T M0 a1 N q t m pr en sa n B F G S A) (hr : p2.toInt = (r : Int)) (kk : ∀ (x : Int32) (M1 : zH), z_X T zw125 M0 M1 → x.toInt = ((z_plc ci m n ch.toInt.toNat r F : Nat) : Int) → K (some (.int x)) M1) : z_ev d 125 0 [some (.ref a0), some (.ref a1), some (.int p2)] [] M0 K := by
  have hW := hS.1.1
  have k1 := hS.2.1
  have X : z_X T zw125 M0 M0 := .refl hW
  have g1 := X.1.p3 k1
  refine z_xP zt125 0 1 [some (.ref a0), some (.ref a1), some (.int p2)] [.int p2] rfl rfl ?_
  exact z_xri zt125 1 rfl zzr125 (kk p2 M0 X (by
    have e : z_plc ci m n ch.toInt.toNat r F = r := by
      unfold z_plc
      rw [if_neg hci.2, if_neg (fun h => hci.1 h.1)]
    rw [e]
    exact hr))
theorem zWplaceOf {j pc : Nat} {segs : List (List (Nat × Instr × Nat))} {idx : Nat} {d : Nat} {T : List zK} {rs : List Nat} {M0 M : zH} {L : zL} {r0 : zS} {K : Option Value → zH → Prop} {w c oc : Nat} {b0 : Nat} {N q t m pr en sa n r : Nat} {B F G : Nat → Nat} {S : Nat → Int32} {A ch : Int32} {x1 : Int32} (ht : z_dcs j segs = true) (n0 : Nat) (hk : segs[n0]? = some [(pc, .invokevirtual idx, 3)]) (ho : z_oc j = oc) (hq : (z_find z_cV oc idx).map (·.1) = some (2, 2, [(4, 125), (10, 123), (7, 125), (5, 125), (11, 124), (8, 125), (6, 125), (9, 125)])) (hX : z_X T rs M0 M) (hw : T[w]? = some (.inl (c, 0, 0, 0, 0))) (hc : 4 ≤ c ∧ c ≤ 11) (hr : z_ws r0 ≤ 8) (hS : z_TSG T M b0 N q t m pr en sa n B F G S A) (fc : z_F M w 2 = some (.int ch)) (hr1 : x1.toInt = (r : Int)) (r3 : r ≤ 30000) (m12 : m ≤ 12) (kk : (∀ (x : Int32) (M1 : zH), z_X T zwVplaceOf M M1 → x.toInt = ((z_plc c m n ch.toInt.toNat r F : Nat) : Int) → z_ev (d + 1 + 0) j (pc + 3) L (.int x :: r0) M1 K)) : z_ev (d + 1 + 0) j pc L (.int x1 :: .ref b0 :: .ref w :: r0) M K := by
  refine z_w8 (fun c => T[w]? = some (.inl (c, 0, 0, 0, 0)) → (∀ (x : Int32) (M1 : zH), z_X T zwVplaceOf M M1 → x.toInt = ((z_plc c m n ch.toInt.toNat r F : Nat) : Int) → z_ev (d + 1 + 0) j (pc + 3) L (.int x :: r0) M1 K) → z_ev (d + 1 + 0) j pc L (.int x1 :: .ref b0 :: .ref w :: r0) M K) ?_ ?_ ?_ ?_ ?_ ?_ ?_ ?_ hc hw kk
  · intro hw kk
    refine z_xcV (vs := [.ref w, .ref b0, .int x1]) (r := r0) (L2 := [some (.ref w), some (.ref b0), some (.int x1)]) ht n0 hk ho hq (Or.inr rfl) rfl hX hw rfl rfl rfl hr zzm125 (Nat.le_of_ble_eq_true rfl) rfl ?_
    refine zUC125 (ci := 4) (ch := ch) (by decide) hS hr1 (fun x M1 X1 h => ?_)
    exact kk x M1 ((z_X.refl hX.1).go X1 (z_sb (by decide))) h
  · intro hw kk
    refine z_xcV (vs := [.ref w, .ref b0, .int x1]) (r := r0) (L2 := [some (.ref w), some (.ref b0), some (.int x1)]) ht n0 hk ho hq (Or.inr rfl) rfl hX hw rfl rfl rfl hr zzm125 (Nat.le_of_ble_eq_true rfl) rfl ?_
    refine zUC125 (ci := 5) (ch := ch) (by decide) hS hr1 (fun x M1 X1 h => ?_)
    exact kk x M1 ((z_X.refl hX.1).go X1 (z_sb (by decide))) h
  · intro hw kk
    refine z_xcV (vs := [.ref w, .ref b0, .int x1]) (r := r0) (L2 := [some (.ref w), some (.ref b0), some (.int x1)]) ht n0 hk ho hq (Or.inr rfl) rfl hX hw rfl rfl rfl hr zzm125 (Nat.le_of_ble_eq_true rfl) rfl ?_
    refine zUC125 (ci := 6) (ch := ch) (by decide) hS hr1 (fun x M1 X1 h => ?_)
    exact kk x M1 ((z_X.refl hX.1).go X1 (z_sb (by decide))) h
  · intro hw kk
    refine z_xcV (vs := [.ref w, .ref b0, .int x1]) (r := r0) (L2 := [some (.ref w), some (.ref b0), some (.int x1)]) ht n0 hk ho hq (Or.inr rfl) rfl hX hw rfl rfl rfl hr zzm125 (Nat.le_of_ble_eq_true rfl) rfl ?_
    refine zUC125 (ci := 7) (ch := ch) (by decide) hS hr1 (fun x M1 X1 h => ?_)
    exact kk x M1 ((z_X.refl hX.1).go X1 (z_sb (by decide))) h
  · intro hw kk
    refine z_xcV (vs := [.ref w, .ref b0, .int x1]) (r := r0) (L2 := [some (.ref w), some (.ref b0), some (.int x1)]) ht n0 hk ho hq (Or.inr rfl) rfl hX hw rfl rfl rfl hr zzm125 (Nat.le_of_ble_eq_true rfl) rfl ?_
    refine zUC125 (ci := 8) (ch := ch) (by decide) hS hr1 (fun x M1 X1 h => ?_)
    exact kk x M1 ((z_X.refl hX.1).go X1 (z_sb (by decide))) h
  · intro hw kk
    refine z_xcV (vs := [.ref w, .ref b0, .int x1]) (r := r0) (L2 := [some (.ref w), some (.ref b0), some (.int x1)]) ht n0 hk ho hq (Or.inr rfl) rfl hX hw rfl rfl rfl hr zzm125 (Nat.le_of_ble_eq_true rfl) rfl ?_
    refine zUC125 (ci := 9) (ch := ch) (by decide) hS hr1 (fun x M1 X1 h => ?_)
    exact kk x M1 ((z_X.refl hX.1).go X1 (z_sb (by decide))) h
  · intro hw kk
    refine z_xcV (vs := [.ref w, .ref b0, .int x1]) (r := r0) (L2 := [some (.ref w), some (.ref b0), some (.int x1), none]) ht n0 hk ho hq (Or.inr rfl) rfl hX hw rfl rfl rfl hr zzm123 (Nat.le_of_ble_eq_true rfl) rfl ?_
    refine zUC123 hw hS fc hr1 r3 m12 (fun x M1 X1 h => ?_)
    exact kk x M1 ((z_X.refl hX.1).go X1 (z_sb (by decide))) h
  · intro hw kk
    refine z_xcV (vs := [.ref w, .ref b0, .int x1]) (r := r0) (L2 := [some (.ref w), some (.ref b0), some (.int x1)]) ht n0 hk ho hq (Or.inr rfl) rfl hX hw rfl rfl rfl hr zzm124 (Nat.le_of_ble_eq_true rfl) rfl ?_
    refine zUC124 (r := r) hw hS fc (fun x M1 X1 h => ?_)
    exact kk x M1 ((z_X.refl hX.1).go X1 (z_sb (by decide))) h
/-- a word is a way's outcome at a bench of these numbers -/
def z_oW (c : Nat) (B : Nat → Nat) (q pr en sh ch n : Nat) (S : Nat → Int32) (A : Int32) (F : Nat → Nat) (x : Int) : Prop := (0 ≤ x ∧ x < 1048576) ∧ z_oJ c B q pr en sh n ch z_w1 (z_yS S F) (z_nS S A F) (x.toNat % 1024) (x.toNat / 1024)
/-- what is remembered is so -/
def z_RM (M : zH) (a3 c : Nat) (B : Nat → Nat) (q pr en sh ch m n : Nat) (S : Nat → Int32) (A : Int32) : Prop := ∀ p : Nat, p < 16380 → (z_Ar M a3 p).toInt < 0 ∨ ∃ F H : Nat → Nat, (∀ j, j < n → F j < m) ∧ z_sr H n ∧ z_eqm F H n ∧ z_plc c m n ch (z_Rk H n) F = p ∧ z_oW c B q pr en sh ch n S A F (z_Ar M a3 p).toInt
theorem z_RM.eq {M M1 : zH} {a3 c : Nat} {B : Nat → Nat} {q pr en sh ch m n : Nat} {S : Nat → Int32} {A : Int32} (h : z_RM M a3 c B q pr en sh ch m n S A) (e : z_Ar M1 a3 = z_Ar M a3) : z_RM M1 a3 c B q pr en sh ch m n S A := by
  unfold z_RM
  rw [e]
  exact h
theorem zUC122 {T : List zK} {d : Nat} {K : Option Value → zH → Prop} {a0 : Nat} {ci : Nat} {a1 : Nat} {p2 : Int32} {a3 : Nat} {M0 : zH} {N q t m pr en sa n : Nat} {B F G H : Nat → Nat} {S : Nat → Int32} {A sh ch : Int32} (w0 : 4 ≤ ci ∧ ci ≤ 11) (k0 : T[a0]? = some (.inl (ci, 0, 0, 0, 0))) (k3 : T[a3]? = some (.inr (300, 0, 16380, (-2147483648), 2147483647))) (hS : z_TSG T M0 a1 N q t m pr en sa n B F G S A) (hF : ∀ j, j < n → F j < m) (hH : z_sr H n) (hE : z_eqm F H n) (hr : p2.toInt = ((z_Rk H n : Nat) : Int)) (r3 : z_Rk H n ≤ 30000) (m12 : m ≤ 12) (hSA : z_SA q m S A) (hpe : pr < 1024 ∧ en < 1024) (fs : z_F M0 a0 1 = some (.int sh)) (fc : z_F M0 a0 2 = some (.int ch)) (hRM : z_RM M0 a3 ci B q pr en sh.toInt.toNat ch.toInt.toNat m n S A) (kk : ∀ (x : Int32) (M1 : zH) (G2 : Nat → Nat), z_X T zw122 M0 M1 → z_TSG T M1 a1 N q t m pr en sa n B F G2 S A → z_RM M1 a3 ci B q pr en sh.toInt.toNat ch.toInt.toNat m n S A → z_oW ci B q pr en sh.toInt.toNat ch.toInt.toNat n S A F x.toInt → K (some (.int x)) M1) : z_ev (d + 4) 122 0 [some (.ref a0), some (.ref a1), some (.int p2), some (.ref a3), none] [] M0 K := by
  obtain ⟨⟨hWM, hbk⟩, kb, ⟨hN0, hag⟩, ⟨hsa, ksa, hSS⟩, hA, ⟨n5, jv4, hj4, ejv4⟩, hnu, har, hln, hlz⟩ := id hS
  have hW := hWM
  have k1 := kb
  have hw : ∀ k, k < 4 → ¬ (1000 + 100 * ci + k) ∈ zw122 := fun k hk hm => by
    have h : ∀ x ∈ zw122, x < 1400 := by decide
    have := h _ hm
    omega
  have X : z_X T zw122 M0 M0 := .refl hW
  have g1 := X.1.p3 k1
  refine z_xP zt122 0 3 [some (.ref a0), some (.ref a1), some (.int p2), some (.ref a3), none] [.int p2, .ref a1, .ref a0] rfl rfl ?_
  refine zWplaceOf zt122 1 rfl zo122 zzcV4_128 X k0 w0 (Nat.le_of_ble_eq_true rfl) hS fc hr r3 m12 (fun x3 M1 X2 h3 => ?_)
  have X4 := X.go X2 (z_sb (by decide))
  have hS1 := hS.ke X2 (by decide)
  have eR1 : z_Ar M1 a3 = z_Ar M0 a3 := X2.2.a k3 (by decide)
  show z_ev (d + 4) 122 6 [some (.ref a0), some (.ref a1), some (.int p2), some (.ref a3), none] [.int x3] M1 _
  refine z_xP zt122 2 10 [some (.ref a0), some (.ref a1), some (.int p2), some (.ref a3), some (.int x3)] [.int x3] rfl rfl ?_
  refine z_xZ zt122 3 rfl rfl (fun (h6 : x3.toInt < 0) => by exfalso; omega) (fun (h6 : 0 ≤ x3.toInt) => ?_)
  refine z_xP zt122 4 16 [some (.ref a0), some (.ref a1), some (.int p2), some (.ref a3), some (.int x3)] [.ref a3, .int x3] rfl rfl ?_
  refine z_xln zt122 5 rfl X4 k3 (by decide) (by decide) (fun (x16 : Int32) (h17 : x16.toInt = ((16380 : Nat) : Int)) => ?_)
  have h18 := z_b32 x3
  refine z_xJ zt122 6 rfl rfl (fun (h19 : x3.toInt < x16.toInt) => ?_) (fun (h19 : x16.toInt ≤ x3.toInt) => ?_)
  · skip
    refine z_xP zt122 12 33 [some (.ref a0), some (.ref a1), some (.int p2), some (.ref a3), some (.int x3)] [.int x3, .ref a3] rfl rfl ?_
    refine z_xil zt122 13 rfl X4 k3 (by decide) (by omega) (by omega) (fun (x20 : Int32) h21 (h22 : (-2147483648) ≤ x20.toInt) (h23 : x20.toInt ≤ 2147483647) => ?_)
    refine z_xZ zt122 14 rfl rfl (fun (h24 : 0 ≤ x20.toInt) => ?_) (fun (h24 : x20.toInt < 0) => ?_)
    · skip
      refine z_xP zt122 20 53 [some (.ref a0), some (.ref a1), some (.int p2), some (.ref a3), some (.int x3)] [.int x3, .ref a3] rfl rfl ?_
      refine z_xil zt122 21 rfl X4 k3 (by decide) (by omega) (by omega) (fun (x25 : Int32) h26 (h27 : (-2147483648) ≤ x25.toInt) (h28 : x25.toInt ≤ 2147483647) => ?_)
      have h29 := congrArg Int32.toInt (h26.symm.trans h21)
      exact z_xri zt122 22 rfl zzr122 (kk x25 M1 G X4 hS1 (hRM.eq eR1) (by
        have hp : x3.toInt.toNat < 16380 := by omega
        have e20 : z_Ar M0 a3 x3.toInt.toNat = x20 := by
          rw [← h21, eR1]
          rfl
        have hR := hRM x3.toInt.toNat hp
        rw [e20] at hR
        rw [h29]
        rcases hR with g | ⟨F2, H2, g1, g2, g3, g4, g5, g6⟩
        · exact absurd g (by omega)
        · exact ⟨g5, z_oJcd hSA (by omega) g1 hF (z_plC g1 hF g2 hH g3 hE (by rw [g4]; omega)) g6⟩))
    refine z_xP zt122 15 38 [some (.ref a0), some (.ref a1), some (.int p2), some (.ref a3), some (.int x3)] [.ref a1] rfl rfl ?_
    refine z_xcV (vs := [.ref a1]) (r := []) (L2 := [some (.ref a1), none, none]) zt122 16 rfl zo122 zzcV4_132 (Or.inl rfl) rfl X4 k1 rfl rfl rfl (Nat.le_of_ble_eq_true rfl) zzm111 (Nat.le_of_ble_eq_true rfl) rfl ?_
    refine zUC111 X4.1 k1 hS1 hF (fun M30 X31 hS30 => ?_)
    have X32 := X4.go X31 (z_sb (by decide))
    show z_ev (d + 4) 122 41 [some (.ref a0), some (.ref a1), some (.int p2), some (.ref a3), some (.int x3)] [] M30 _
    refine z_xP zt122 17 46 [some (.ref a0), some (.ref a1), some (.int p2), some (.ref a3), some (.int x3)] [.ref a1, .ref a0, .int x3, .ref a3] rfl rfl ?_
    obtain ⟨jv, ejv, hD, hLL, hcj⟩ := hS30.dp hF hpe (X32.2.f k0 (hw 1 (by decide)) fs) (X32.2.f k0 (hw 2 (by decide)) fc)
    refine zWdecide zt122 18 rfl zo122 zzcV4_54 X32 k0 w0 (Nat.le_of_ble_eq_true rfl) hD (fun x36 M34 X35 hdq hlz2 _ => ?_)
    have hoW : z_oW ci B q pr en sh.toInt.toNat ch.toInt.toNat n S A F x36.toInt := ⟨hdq.1, z_oJdq ejv hcj hLL hdq⟩
    have hS34 := hS30.dc X35 hlz2
    have eR34 : z_Ar M34 a3 = z_Ar M0 a3 := (X35.2.a k3 (by decide)).trans ((X31.2.a k3 (by decide)).trans eR1)
    have X37 := X32.go X35 (z_sb (by decide))
    show z_ev (d + 4) 122 49 [some (.ref a0), some (.ref a1), some (.int p2), some (.ref a3), some (.int x3)] [.int x36, .int x3, .ref a3] M34 _
    refine z_xis zt122 19 rfl X37 k3 (by decide) (X37.1.g4 k3 (by decide)) (by omega) (by omega) (Int32.le_toInt _) (Int32.toInt_le _) (by decide) (fun M39 X40 e41 h42 => ?_)
    refine z_xP zt122 20 53 [some (.ref a0), some (.ref a1), some (.int p2), some (.ref a3), some (.int x3)] [.int x3, .ref a3] rfl rfl ?_
    refine z_xil zt122 21 rfl X40 k3 (by decide) (by omega) (by omega) (fun (x43 : Int32) h44 (h45 : (-2147483648) ≤ x43.toInt) (h46 : x43.toInt ≤ 2147483647) => ?_)
    have h47 := congrArg Int32.toInt (h44.symm.trans (z_upe h42))
    exact z_xri zt122 22 rfl zzr122 (kk x43 M39 F X40 (hS34.ke ⟨X40.1, e41⟩ (by decide)) (fun p hp => by
      rw [h42, eR34]
      show (if p = x3.toInt.toNat then x36 else z_Ar M0 a3 p).toInt < 0 ∨ ∃ F H : Nat → Nat, (∀ j, j < n → F j < m) ∧ z_sr H n ∧ z_eqm F H n ∧ z_plc ci m n ch.toInt.toNat (z_Rk H n) F = p ∧ z_oW ci B q pr en sh.toInt.toNat ch.toInt.toNat n S A F (if p = x3.toInt.toNat then x36 else z_Ar M0 a3 p).toInt
      by_cases cp : p = x3.toInt.toNat
      · rw [if_pos cp]
        exact Or.inr ⟨F, H, hF, hH, hE, by omega, hoW⟩
      · rw [if_neg cp]
        exact hRM p hp) (by rw [h47]; exact hoW))
  refine z_xP zt122 7 21 [some (.ref a0), some (.ref a1), some (.int p2), some (.ref a3), some (.int x3)] [.ref a1] rfl rfl ?_
  refine z_xcV (vs := [.ref a1]) (r := []) (L2 := [some (.ref a1), none, none]) zt122 8 rfl zo122 zzcV4_132 (Or.inl rfl) rfl X4 k1 rfl rfl rfl (Nat.le_of_ble_eq_true rfl) zzm111 (Nat.le_of_ble_eq_true rfl) rfl ?_
  refine zUC111 X4.1 k1 hS1 hF (fun M48 X49 hS48 => ?_)
  have X50 := X4.go X49 (z_sb (by decide))
  show z_ev (d + 4) 122 24 [some (.ref a0), some (.ref a1), some (.int p2), some (.ref a3), some (.int x3)] [] M48 _
  refine z_xP zt122 9 26 [some (.ref a0), some (.ref a1), some (.int p2), some (.ref a3), some (.int x3)] [.ref a1, .ref a0] rfl rfl ?_
  obtain ⟨jv, ejv, hD, hLL, hcj⟩ := hS48.dp hF hpe (X50.2.f k0 (hw 1 (by decide)) fs) (X50.2.f k0 (hw 2 (by decide)) fc)
  refine zWdecide zt122 10 rfl zo122 zzcV4_54 X50 k0 w0 (Nat.le_of_ble_eq_true rfl) hD (fun x54 M52 X53 hdq hlz2 _ => ?_)
  have hoW : z_oW ci B q pr en sh.toInt.toNat ch.toInt.toNat n S A F x54.toInt := ⟨hdq.1, z_oJdq ejv hcj hLL hdq⟩
  have hS52 := hS48.dc X53 hlz2
  have eR52 : z_Ar M52 a3 = z_Ar M0 a3 := (X53.2.a k3 (by decide)).trans ((X49.2.a k3 (by decide)).trans eR1)
  have X55 := X50.go X53 (z_sb (by decide))
  show z_ev (d + 4) 122 29 [some (.ref a0), some (.ref a1), some (.int p2), some (.ref a3), some (.int x3)] [.int x54] M52 _
  exact z_xri zt122 11 rfl zzr122 (kk x54 M52 F X55 hS52 (hRM.eq eR52) hoW)
