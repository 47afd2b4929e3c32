/-! rows, the class -/
def zw133 : List Nat := [202, 203, 205, 210]
theorem z_pMulN {x y : Int32} {a b : Nat} (hx : x.toInt = (a : Int)) (hy : y.toInt = (b : Int)) (h : a * b ≤ 2147483647) : (x * y).toInt = ((a * b : Nat) : Int) := by
  have e : (a : Int) * (b : Int) = ((a * b : Nat) : Int) := (Int.natCast_mul a b).symm
  rw [z_pMul hx hy (by rw [e]; omega) (by rw [e]; omega), e]
theorem z_pDivN {x y : Int32} {a b : Nat} (hx : x.toInt = (a : Int)) (hy : y.toInt = (b : Int)) (h : 0 < b) : (x / y).toInt = ((a / b : Nat) : Int) := by
  rw [(z_pDiv hx hy (by omega) (by omega)).1]
  exact (Int.natCast_ediv a b).symm
theorem z_pRemN {x y : Int32} {a b : Nat} (hx : x.toInt = (a : Int)) (hy : y.toInt = (b : Int)) (h : 0 < b) : (x - x / y * y).toInt = ((a % b : Nat) : Int) := by
  rw [(z_pRem hx hy (by omega) (by omega)).1]
  exact (Int.natCast_emod a b).symm
theorem zUB132 {T : List zK} {d : Nat} {K : Option Value → zH → Prop} {a0 : Nat} {M0 : zH} {N q t m pr en sa n : Nat} {B F G : Nat → Nat} {S : Nat → Int32} {A : Int32} (hS : z_TSG T M0 a0 N q t m pr en sa n B F G S A) (m6 : m ≤ 6) (n3 : n ≤ 3) (kk : ∀ (x : Int32) (M1 : zH), z_X T zw132 M0 M1 → x.toInt = ((m ^ n : Nat) : Int) → K (some (.int x)) M1) : ∀ nn : Nat, (∀ (b1 : Int32) (b2 : Int32), (0 ≤ b2.toInt ∧ b2.toInt ≤ (n : Int)) → b1.toInt = ((m ^ b2.toInt.toNat : Nat) : Int) → (5 - b2.toInt) < (nn : Int) → z_ev d 132 4 [some (.ref a0), some (.int b1), some (.int b2)] [] M0 K) := by
  intro nn
  induction nn with
  | zero => exact by intros; exfalso; omega
  | succ nn ih =>
    intro b1 b2 hb2 e1 hE
    obtain ⟨⟨hWM, hbk⟩, kb, ⟨hN0, hag⟩, ⟨hsa, ksa, hSS⟩, hA, ⟨n5, jv4, hj4, ejv4⟩, hnu, har, hln, hlz⟩ := id hS
    have X : z_X T zw132 M0 M0 := .refl hWM
    have k0 := kb
    have g0 := X.1.p3 k0
    refine z_xP zt132 1 6 [some (.ref a0), some (.int b1), some (.int b2)] [.ref a0, .int b2] rfl rfl ?_
    refine z_xgv zt132 2 rfl zo132 zzf3_53 X k0 (by decide) hj4 ?_
    refine z_xJ zt132 3 rfl rfl (fun (h1 : jv4.toInt ≤ b2.toInt) => ?_) (fun (h1 : b2.toInt < jv4.toInt) => ?_)
    · skip
      refine z_xP zt132 12 30 [some (.ref a0), some (.int b1), some (.int b2)] [.int b1] rfl rfl ?_
      exact z_xri zt132 13 rfl zzr132 (kk b1 M0 X (by rw [e1, show b2.toInt.toNat = n by omega]))
    refine z_xP zt132 4 14 [some (.ref a0), some (.int b1), some (.int b2)] [.ref a0, .int b1] rfl rfl ?_
    refine z_xgR (κ := .inl (2, q, t, m, 0)) zt132 5 rfl zo132 zzf3_39 X k0 (by decide) (by decide) rfl (fun (a3 : Nat) h2 k4 => ?_)
    have g5 := X.1.p2 k4
    refine z_xgR (κ := .inr (102, 0, m, 0, 1023)) zt132 6 rfl zo132 zzf3_101 X k4 (by decide) (by decide) rfl (fun (a7 : Nat) h6 k8 => ?_)
    refine z_xln zt132 7 rfl X k8 (by decide) (by omega) (fun (x9 : Int32) (h10 : x9.toInt = ((m : Nat) : Int)) => ?_)
    have hmk : m ^ b2.toInt.toNat * m ≤ 2147483647 := by
      have h := z_mk (k := b2.toInt.toNat + 1) m6 (by omega)
      rw [Nat.pow_succ] at h
      omega
    refine z_xI zt132 8 rfl rfl (fun (x12 : Int32) (h12 : x12.toInt = ((m ^ b2.toInt.toNat * m : Nat) : Int)) => ?_) (z_pMulN e1 h10 hmk)
    refine z_xP zt132 9 23 [some (.ref a0), some (.int x12), some (.int b2)] [] rfl rfl ?_
    refine z_xN zt132 10 rfl rfl (fun (x14 : Int32) (h15 : x14.toInt = b2.toInt + 1) => ?_) (z_pAdd rfl rfl (by omega) (by omega))
    show z_ev d 132 26 [some (.ref a0), some (.int x12), some (.int x14)] [] M0 _
    refine z_xP zt132 11 4 [some (.ref a0), some (.int x12), some (.int x14)] [] rfl rfl ?_
    have es : x14.toInt.toNat = b2.toInt.toNat + 1 := by omega
    exact ih x12 x14 ⟨by omega, by omega⟩ (by rw [es, Nat.pow_succ]; exact h12) (by omega)
theorem zUC132 {T : List zK} {d : Nat} {K : Option Value → zH → Prop} {a0 : Nat} {M0 : zH} {N q t m pr en sa n : Nat} {B F G : Nat → Nat} {S : Nat → Int32} {A : Int32} (hS : z_TSG T M0 a0 N q t m pr en sa n B F G S A) (m6 : m ≤ 6) (n3 : n ≤ 3) (kk : ∀ (x : Int32) (M1 : zH), z_X T zw132 M0 M1 → x.toInt = ((m ^ n : Nat) : Int) → K (some (.int x)) M1) : z_ev d 132 0 [some (.ref a0), none, none] [] M0 K := by
  have X : z_X T zw132 M0 M0 := .refl hS.1.1
  refine z_xP zt132 0 4 [some (.ref a0), some (.int 1), some (.int 0)] [] rfl rfl ?_
  have q0 : ((0 : Int32)).toInt = 0 := rfl
  exact zUB132 hS m6 n3 kk 8 (1) (0) ⟨by omega, by omega⟩ rfl (by omega)
theorem zUB135 {T : List zK} {d : Nat} {K : Option Value → zH → Prop} {a0 : Nat} {p1 : Int32} {p2 : Int32} {M0 : zH} {N q t m pr en sa n : Nat} {B F G : Nat → Nat} {S : Nat → Int32} {A : Int32} (hS : z_TSG T M0 a0 N q t m pr en sa n B F G S A) (m1 : 1 ≤ m) (u1 : 0 ≤ p1.toInt ∧ p1.toInt ≤ 215) (u2 : 0 ≤ p2.toInt ∧ p2.toInt < (n : Int)) (kk : ∀ (x : Int32) (M1 : zH), z_X T zw135 M0 M1 → x.toInt = ((z_rw m n p1.toInt.toNat p2.toInt.toNat : Nat) : Int) → K (some (.int x)) M1) {b3 : Int32} (e3 : b3.toInt = (m : Int)) : ∀ nn : Nat, (∀ (b4 : Int32) (b5 : Int32), (p2.toInt ≤ b5.toInt ∧ b5.toInt < (n : Int)) → b4.toInt = ((p1.toInt.toNat / m ^ (n - 1 - b5.toInt.toNat) : Nat) : Int) → b5.toInt < (nn : Int) → z_ev d 135 27 [some (.ref a0), some (.int p1), some (.int p2), some (.int b3), some (.int b4), some (.int b5)] [] M0 K) := by
  intro nn
  induction nn with
  | zero => exact by intros; exfalso; omega
  | succ nn ih =>
    intro b4 b5 hb5 e4 hE
    obtain ⟨⟨hWM, hbk⟩, kb, ⟨hN0, hag⟩, ⟨hsa, ksa, hSS⟩, hA, ⟨n5, jv4, hj4, ejv4⟩, hnu, har, hln, hlz⟩ := id hS
    have X : z_X T zw135 M0 M0 := .refl hWM
    refine z_xP zt135 13 30 [some (.ref a0), some (.int p1), some (.int p2), some (.int b3), some (.int b4), some (.int b5)] [.int p2, .int b5] rfl rfl ?_
    refine z_xJ zt135 14 rfl rfl (fun (h1 : b5.toInt ≤ p2.toInt) => ?_) (fun (h1 : p2.toInt < b5.toInt) => ?_)
    · skip
      refine z_xP zt135 20 48 [some (.ref a0), some (.int p1), some (.int p2), some (.int b3), some (.int b4), some (.int b5)] [.int b3, .int b4] rfl rfl ?_
      refine z_xM zt135 21 rfl (by omega) (fun (x2 : Int32) (h3 : x2.toInt = ((p1.toInt.toNat / m ^ (n - 1 - b5.toInt.toNat) % m : Nat) : Int)) => ?_) (z_pRemN e4 e3 m1)
      exact z_xri zt135 22 rfl zzr135 (kk x2 M0 X (by rw [h3, show b5.toInt.toNat = p2.toInt.toNat by omega]; rfl))
    refine z_xP zt135 15 36 [some (.ref a0), some (.int p1), some (.int p2), some (.int b3), some (.int b4), some (.int b5)] [.int b3, .int b4] rfl rfl ?_
    refine z_xV zt135 16 rfl (by omega) (fun (x4 : Int32) (h5 : x4.toInt = ((p1.toInt.toNat / m ^ (n - 1 - b5.toInt.toNat) / m : Nat) : Int)) => ?_) (z_pDivN e4 e3 m1)
    refine z_xP zt135 17 39 [some (.ref a0), some (.int p1), some (.int p2), some (.int b3), some (.int x4), some (.int b5)] [] rfl rfl ?_
    refine z_xN zt135 18 rfl rfl (fun (x6 : Int32) (h7 : x6.toInt = b5.toInt + (-1)) => ?_) (z_pAdd rfl rfl (by omega) (by omega))
    show z_ev d 135 42 [some (.ref a0), some (.int p1), some (.int p2), some (.int b3), some (.int x4), some (.int x6)] [] M0 _
    refine z_xP zt135 19 27 [some (.ref a0), some (.int p1), some (.int p2), some (.int b3), some (.int x4), some (.int x6)] [] rfl rfl ?_
    refine ih x4 x6 ⟨by omega, by omega⟩ ?_ (by omega)
    rw [h5, Nat.div_div_eq_div_mul, ← Nat.pow_succ, show (n - 1 - b5.toInt.toNat).succ = n - 1 - x6.toInt.toNat by omega]
theorem zUC135 {T : List zK} {d : Nat} {K : Option Value → zH → Prop} {a0 : Nat} {p1 : Int32} {p2 : Int32} {M0 : zH} {N q t m pr en sa n : Nat} {B F G : Nat → Nat} {S : Nat → Int32} {A : Int32} (hS : z_TSG T M0 a0 N q t m pr en sa n B F G S A) (m1 : 1 ≤ m) (u1 : 0 ≤ p1.toInt ∧ p1.toInt ≤ 215) (u2 : 0 ≤ p2.toInt ∧ p2.toInt < (n : Int)) (kk : ∀ (x : Int32) (M1 : zH), z_X T zw135 M0 M1 → x.toInt = ((z_rw m n p1.toInt.toNat p2.toInt.toNat : Nat) : Int) → K (some (.int x)) M1) : z_ev d 135 0 [some (.ref a0), some (.int p1), some (.int p2), none, none, none] [] M0 K := by
  obtain ⟨⟨hWM, hbk⟩, kb, ⟨hN0, hag⟩, ⟨hsa, ksa, hSS⟩, hA, ⟨n5, jv4, hj4, ejv4⟩, hnu, har, hln, hlz⟩ := id hS
  have X : z_X T zw135 M0 M0 := .refl hWM
  have k0 := kb
  have g0 := X.1.p3 k0
  refine z_xP zt135 0 1 [some (.ref a0), some (.int p1), some (.int p2), none, none, none] [.ref a0] rfl rfl ?_
  refine z_xgR (κ := .inl (2, q, t, m, 0)) zt135 1 rfl zo135 zzf3_39 X k0 (by decide) (by decide) rfl (fun (a2 : Nat) h1 k3 => ?_)
  have g4 := X.1.p2 k3
  refine z_xgR (κ := .inr (102, 0, m, 0, 1023)) zt135 2 rfl zo135 zzf3_101 X k3 (by decide) (by decide) rfl (fun (a6 : Nat) h5 k7 => ?_)
  refine z_xln zt135 3 rfl X k7 (by decide) (by omega) (fun (x8 : Int32) (h9 : x8.toInt = ((m : Nat) : Int)) => ?_)
  refine z_xP zt135 4 14 [some (.ref a0), some (.int p1), some (.int p2), some (.int x8), some (.int p1), none] [.int 1, .int x8] rfl rfl ?_
  refine z_xJ zt135 5 rfl rfl (fun (h10 : 1 ≤ x8.toInt) => ?_) (fun (h10 : x8.toInt < 1) => by exfalso; omega)
  refine z_xP zt135 8 20 [some (.ref a0), some (.int p1), some (.int p2), some (.int x8), some (.int p1), none] [.ref a0] rfl rfl ?_
  refine z_xgv zt135 9 rfl zo135 zzf3_53 X k0 (by decide) hj4 ?_
  refine z_xP zt135 10 24 [some (.ref a0), some (.int p1), some (.int p2), some (.int x8), some (.int p1), none] [.int 1, .int jv4] rfl rfl ?_
  refine z_xI zt135 11 rfl rfl (fun (x15 : Int32) (h16 : x15.toInt = jv4.toInt - 1) => ?_) (z_pSub rfl rfl (by omega) (by omega))
  refine z_xP zt135 12 27 [some (.ref a0), some (.int p1), some (.int p2), some (.int x8), some (.int p1), some (.int x15)] [] rfl rfl ?_
  refine zUB135 hS m1 u1 u2 kk h9 12 p1 x15 ⟨by omega, by omega⟩ ?_ (by omega)
  rw [show n - 1 - x15.toInt.toNat = 0 by omega, Nat.pow_zero, Nat.div_one]
  omega
theorem zUB134 {T : List zK} {d : Nat} {K : Option Value → zH → Prop} {a0 : Nat} {p1 : Int32} {M0 : zH} {N q t m pr en sa n : Nat} {B F G : Nat → Nat} {S : Nat → Int32} {A : Int32} (m1 : 1 ≤ m) (u1 : 0 ≤ p1.toInt ∧ p1.toInt ≤ 215) (kk : ∀ (M1 : zH), z_X T zw134 M0 M1 → z_TSG T M1 a0 N q t m pr en sa n B (z_rw m n p1.toInt.toNat) G S A → K none M1) : ∀ nn : Nat, (∀ (M : zH) (b2 : Int32), z_X T zw134 M0 M → (0 ≤ b2.toInt ∧ b2.toInt ≤ (n : Int)) → z_TSG T M a0 N q t m pr en sa n B (fun j => if j < b2.toInt.toNat then z_rw m n p1.toInt.toNat j else F j) G S A → (5 - b2.toInt) < (nn : Int) → z_ev (d + 1) 134 2 [some (.ref a0), some (.int p1), some (.int b2)] [] M K) := by
  intro nn
  induction nn with
  | zero =>
    intro M b2 X hb2 hS hE
    obtain ⟨⟨hWM, hbk⟩, kb, ⟨hN0, hag⟩, ⟨hsa, ksa, hSS⟩, hA, ⟨n5, jv4, hj4, ejv4⟩, hnu, har, hln, hlz⟩ := id hS
    exfalso
    omega
  | succ nn ih =>
    intro M b2 X hb2 hS hE
    obtain ⟨⟨hWM, hbk⟩, kb, ⟨hN0, hag⟩, ⟨hsa, ksa, hSS⟩, hA, ⟨n5, jv4, hj4, ejv4⟩, hnu, har, hln, hlz⟩ := id hS
    have k0 := kb
    have g0 := X.1.p3 k0
    refine z_xP zt134 1 4 [some (.ref a0), some (.int p1), some (.int b2)] [.ref a0, .int b2] rfl rfl ?_
    refine z_xgv zt134 2 rfl zo134 zzf3_53 X k0 (by decide) hj4 ?_
    refine z_xJ zt134 3 rfl rfl (fun (h1 : jv4.toInt ≤ b2.toInt) => ?_) (fun (h1 : b2.toInt < jv4.toInt) => ?_)
    · skip
      exact z_xrv zt134 11 rfl zzr134 (kk M X (hS.C (fun j hj => by (try dsimp only); rw [if_pos (by omega)]) fun _ _ => rfl))
    refine z_xP zt134 4 11 [some (.ref a0), some (.int p1), some (.int b2)] [.ref a0] rfl rfl ?_
    refine z_xgR (κ := .inr (210, 0, 5, 0, ((m : Nat) : Int) - 1)) zt134 5 rfl zo134 zzf3_33 X k0 (by decide) (by decide) rfl (fun (a3 : Nat) h2 k4 => ?_)
    obtain rfl : a3 = a0 + 8 := z_rfe h2 (hbk _ _ _ _ _ k0).2.2.2.2.2.2.2.1
    refine z_xP zt134 6 18 [some (.ref a0), some (.int p1), some (.int b2)] [.int b2, .int p1, .ref a0, .int b2, .ref (a0 + 8)] rfl rfl ?_
    refine z_xcV (vs := [.ref a0, .int p1, .int b2]) (r := [.int b2, .ref (a0 + 8)]) (L2 := [some (.ref a0), some (.int p1), some (.int b2), none, none, none]) zt134 7 rfl zo134 zzcV3_154 (Or.inl rfl) rfl X k0 rfl rfl rfl (Nat.le_of_ble_eq_true rfl) zzm135 (Nat.le_of_ble_eq_true rfl) rfl ?_
    refine zUC135 hS m1 u1 ⟨by omega, by omega⟩ (fun x8 M5 X6 h9 => ?_)
    have hrB := z_rwB (m := m) (n := n) (r := p1.toInt.toNat) m1 b2.toInt.toNat
    have hS5 := hS.ke X6 (by decide)
    have hnu5 := hS5.2.2.2.2.2.2.1
    have X11 := X.go X6 (z_sb (by decide))
    show z_ev (d + 1) 134 21 [some (.ref a0), some (.int p1), some (.int b2)] [.int x8, .int b2, .ref (a0 + 8)] M5 _
    refine z_xis zt134 8 rfl X11 k4 (by decide) (X11.1.g4 k4 (by decide)) (by omega) (by omega) (by omega) (by omega) (by decide) (fun M13 X14 e15 h16 => ?_)
    refine z_xN zt134 9 rfl rfl (fun (x17 : Int32) (h18 : x17.toInt = b2.toInt + 1) => ?_) (z_pAdd rfl rfl (by omega) (by omega))
    show z_ev (d + 1) 134 25 [some (.ref a0), some (.int p1), some (.int x17)] [] M13 _
    refine z_xP zt134 10 2 [some (.ref a0), some (.int p1), some (.int x17)] [] rfl rfl ?_
    refine ih M13 x17 X14 ⟨by omega, by omega⟩ (hS5.nu X14.1 e15 (fun j hj => ?_)) (by omega)
    rw [h16]
    show (if j = b2.toInt.toNat then x8 else z_Ar M5 (a0 + 8) j).toInt = ((if j < x17.toInt.toNat then z_rw m n p1.toInt.toNat j else F j : Nat) : Int)
    by_cases c : j = b2.toInt.toNat
    · rw [if_pos c, if_pos (by omega), c]
      exact h9
    · rw [if_neg c, hnu5 j hj]
      show ((if j < b2.toInt.toNat then z_rw m n p1.toInt.toNat j else F j : Nat) : Int) = ((if j < x17.toInt.toNat then z_rw m n p1.toInt.toNat j else F j : Nat) : Int)
      by_cases c2 : j < b2.toInt.toNat
      · rw [if_pos c2, if_pos (by omega)]
      · rw [if_neg c2, if_neg (by omega)]
theorem zUC134 {T : List zK} {d : Nat} {K : Option Value → zH → Prop} {a0 : Nat} {p1 : Int32} {M0 : zH} {N q t m pr en sa n : Nat} {B F G : Nat → Nat} {S : Nat → Int32} {A : Int32} (m1 : 1 ≤ m) (u1 : 0 ≤ p1.toInt ∧ p1.toInt ≤ 215) (hS : z_TSG T M0 a0 N q t m pr en sa n B F G S A) (kk : ∀ (M1 : zH), z_X T zw134 M0 M1 → z_TSG T M1 a0 N q t m pr en sa n B (z_rw m n p1.toInt.toNat) G S A → K none M1) : z_ev (d + 1) 134 0 [some (.ref a0), some (.int p1), none] [] M0 K := by
  have X : z_X T zw134 M0 M0 := .refl hS.1.1
  refine z_xP zt134 0 2 [some (.ref a0), some (.int p1), some (.int 0)] [] rfl rfl ?_
  have q0 : ((0 : Int32)).toInt = 0 := rfl
  exact zUB134 m1 u1 kk 8 M0 (0) X ⟨by omega, by omega⟩ (hS.C (fun j hj => by (try dsimp only); rw [if_neg (by omega)]) fun _ _ => rfl) (by omega)
theorem zUC133 {T : List zK} {d : Nat} {K : Option Value → zH → Prop} {a0 : Nat} {p1 : Int32} {M0 : zH} {N q t m pr en sa n : Nat} {B F G : Nat → Nat} {S : Nat → Int32} {A : Int32} (m1 : 1 ≤ m) (u1 : 0 ≤ p1.toInt ∧ p1.toInt ≤ 215) (hS : z_TSG T M0 a0 N q t m pr en sa n B F G S A) (kk : ∀ (M1 : zH), z_X T zw133 M0 M1 → z_TSG T M1 a0 N q t m pr en sa n B (z_rw m n p1.toInt.toNat) (z_rw m n p1.toInt.toNat) S A → K none M1) : z_ev (d + 2) 133 0 [some (.ref a0), some (.int p1)] [] M0 K := by
  have k0 := hS.2.1
  have X : z_X T zw133 M0 M0 := .refl hS.1.1
  refine z_xP zt133 0 2 [some (.ref a0), some (.int p1)] [.int p1, .ref a0] rfl rfl ?_
  refine z_xcV (vs := [.ref a0, .int p1]) (r := []) (L2 := [some (.ref a0), some (.int p1), none]) zt133 1 rfl zo133 zzcV3_157 (Or.inl rfl) rfl X k0 rfl rfl rfl (Nat.le_of_ble_eq_true rfl) zzm134 (Nat.le_of_ble_eq_true rfl) rfl ?_
  refine zUC134 m1 u1 hS (fun M2 X3 hS2 => ?_)
  have X7 := X.go X3 (z_sb (by decide))
  show z_ev (d + 2) 133 5 [some (.ref a0), some (.int p1)] [] M2 _
  refine z_xP zt133 2 6 [some (.ref a0), some (.int p1)] [.ref a0] rfl rfl ?_
  refine z_xcV (vs := [.ref a0]) (r := []) (L2 := [some (.ref a0), none, none]) zt133 3 rfl zo133 zzcV3_148 (Or.inl rfl) rfl X7 k0 rfl rfl rfl (Nat.le_of_ble_eq_true rfl) zzm111 (Nat.le_of_ble_eq_true rfl) rfl ?_
  refine zUC111 X7.1 k0 hS2 (fun j _ => z_rwB m1 j) (fun M9 X10 hS9 => ?_)
  have X11 := X7.go X10 (z_sb (by decide))
  show z_ev (d + 2) 133 9 [some (.ref a0), some (.int p1)] [] M9 _
  exact z_xrv zt133 4 rfl zzr133 (kk M9 X11 hS9)
theorem zUB131 {T : List zK} {d : Nat} {K : Option Value → zH → Prop} {a0 ci a1 N q1 t1 m1 pr en sa : Nat} {B : Nat → Nat} {S : Nat → Int32} {A sh ch p2 : Int32} {M0 : zH} (w0 : 4 ≤ ci ∧ ci ≤ 11) (k0 : T[a0]? = some (.inl (ci, 0, 0, 0, 0))) (k1 : T[a1]? = some (.inl (3, q1, t1, m1, 5))) (u2 : 1 ≤ p2.toInt ∧ p2.toInt ≤ 3) (hpe : pr < 1024 ∧ en < 1024) (fs : z_F M0 a0 1 = some (.int sh)) (fc : z_F M0 a0 2 = some (.int ch)) (m12 : 1 ≤ m1 ∧ m1 ≤ 6) (kk : ∀ (M1 : zH), z_X T zw131 M0 M1 → (∃ F G : Nat → Nat, (∀ j, j < p2.toInt.toNat → F j < m1) ∧ z_TSG T M1 a1 N q1 t1 m1 pr en sa p2.toInt.toNat B F G S A) → (∀ r, r < m1 ^ p2.toInt.toNat → z_oW ci B q1 pr en sh.toInt.toNat ch.toInt.toNat p2.toInt.toNat S A (z_rw m1 p2.toInt.toNat r) (z_Ar M1 18 r).toInt) → K none M1) : ∀ nn : Nat, (∀ (M : zH) (b4 : Int32) (b5 : Int32), z_X T zw131 M0 M → (∃ F G : Nat → Nat, (∀ j, j < p2.toInt.toNat → F j < m1) ∧ z_TSG T M a1 N q1 t1 m1 pr en sa p2.toInt.toNat B F G S A) → b4.toInt = ((m1 ^ p2.toInt.toNat : Nat) : Int) → (0 ≤ b5.toInt ∧ b5.toInt ≤ b4.toInt) → (∀ r, r < b5.toInt.toNat → z_oW ci B q1 pr en sh.toInt.toNat ch.toInt.toNat p2.toInt.toNat S A (z_rw m1 p2.toInt.toNat r) (z_Ar M 18 r).toInt) → (216 - b5.toInt) < (nn : Int) → z_ev (d + 4) 131 15 [some (.ref a0), some (.ref a1), some (.int p2), some (.ref 18), some (.int b4), some (.int b5)] [] M K) := by
  intro nn
  induction nn with
  | zero =>
    intro M b4 b5 X hS e4 hb5 hO hE
    have hm := z_mk (m := m1) (k := p2.toInt.toNat) m12.2 (by omega)
    exfalso
    omega
  | succ nn ih =>
    intro M b4 b5 X hSx e4 hb5 hO hE
    have hm := z_mk (m := m1) (k := p2.toInt.toNat) m12.2 (by omega)
    obtain ⟨F, G, _, hS⟩ := id hSx
    have hw : ∀ k, k < 4 → ¬ (1000 + 100 * ci + k) ∈ zw131 := fun k hk hm => by
      have h : ∀ x ∈ zw131, x < 1400 := by decide
      have := h _ hm
      omega
    refine z_xP zt131 5 19 [some (.ref a0), some (.ref a1), some (.int p2), some (.ref 18), some (.int b4), some (.int b5)] [.int b4, .int b5] rfl rfl ?_
    refine z_xJ zt131 6 rfl rfl (fun (h2 : b4.toInt ≤ b5.toInt) => ?_) (fun (h2 : b5.toInt < b4.toInt) => ?_)
    · skip
      exact z_xrv zt131 17 rfl zzr131 (kk M X hSx (fun r hr => hO r (by omega)))
    refine z_xP zt131 7 25 [some (.ref a0), some (.ref a1), some (.int p2), some (.ref 18), some (.int b4), some (.int b5)] [.ref 18, .int b5] rfl rfl ?_
    have f18 : T[18]? = some (.inr (18, 0, 216, (-2147483648), 2147483647)) := X.1.k rfl (by decide)
    refine z_xln zt131 8 rfl X f18 (by decide) (by decide) (fun (x3 : Int32) (h4 : x3.toInt = ((216 : Nat) : Int)) => ?_)
    refine z_xJ zt131 9 rfl rfl (fun (h5 : x3.toInt ≤ b5.toInt) => by exfalso; omega) (fun (h5 : b5.toInt < x3.toInt) => ?_)
    refine z_xP zt131 10 32 [some (.ref a0), some (.ref a1), some (.int p2), some (.ref 18), some (.int b4), some (.int b5)] [.int b5, .ref a1] rfl rfl ?_
    refine z_xcV (vs := [.ref a1, .int b5]) (r := []) (L2 := [some (.ref a1), some (.int b5)]) zt131 11 rfl zo131 zzcV4_138 (Or.inl rfl) rfl X k1 rfl rfl rfl (Nat.le_of_ble_eq_true rfl) zzm133 (Nat.le_of_ble_eq_true rfl) rfl ?_
    refine zUC133 m12.1 ⟨by omega, by omega⟩ hS (fun M6 X7 hS6 => ?_)
    have X11 := X.go X7 (z_sb (by decide))
    show z_ev (d + 4) 131 35 [some (.ref a0), some (.ref a1), some (.int p2), some (.ref 18), some (.int b4), some (.int b5)] [] M6 _
    refine z_xP zt131 12 40 [some (.ref a0), some (.ref a1), some (.int p2), some (.ref 18), some (.int b4), some (.int b5)] [.ref a1, .ref a0, .int b5, .ref 18] rfl rfl ?_
    obtain ⟨jv, ejv, hD, hLL, hcj⟩ := hS6.dp (fun j _ => z_rwB m12.1 j) hpe (X11.2.f k0 (hw 1 (by decide)) fs) (X11.2.f k0 (hw 2 (by decide)) fc)
    refine zWdecide zt131 13 rfl zo131 zzcV4_54 X11 k0 w0 (Nat.le_of_ble_eq_true rfl) hD (fun x15 M13 X14 hdq hlz13 _ => ?_)
    have hoW : z_oW ci B q1 pr en sh.toInt.toNat ch.toInt.toNat p2.toInt.toNat S A (z_rw m1 p2.toInt.toNat b5.toInt.toNat) x15.toInt := ⟨hdq.1, z_oJdq ejv hcj hLL hdq⟩
    have hS13 := hS6.dc X14 hlz13
    have X16 := X11.go X14 (z_sb (by decide))
    show z_ev (d + 4) 131 43 [some (.ref a0), some (.ref a1), some (.int p2), some (.ref 18), some (.int b4), some (.int b5)] [.int x15, .int b5, .ref 18] M13 _
    refine z_xis zt131 14 rfl X16 f18 (by decide) (by decide) (by omega) (by omega) (Int32.le_toInt _) (Int32.toInt_le _) (by decide) (fun M18 X19 e20 h21 => ?_)
    refine z_xN zt131 15 rfl rfl (fun (x22 : Int32) (h23 : x22.toInt = b5.toInt + 1) => ?_) (z_pAdd rfl rfl (by omega) (by omega))
    show z_ev (d + 4) 131 47 [some (.ref a0), some (.ref a1), some (.int p2), some (.ref 18), some (.int b4), some (.int x22)] [] M18 _
    refine z_xP zt131 16 15 [some (.ref a0), some (.ref a1), some (.int p2), some (.ref 18), some (.int b4), some (.int x22)] [] rfl rfl ?_
    have e18 : z_Ar M13 18 = z_Ar M 18 := (X14.2.a f18 (by decide)).trans (X7.2.a f18 (by decide))
    refine ih M18 b4 x22 X19 ⟨_, _, fun j _ => z_rwB m12.1 j, hS13.ke ⟨X19.1, e20⟩ (by decide)⟩ e4 ⟨by omega, by omega⟩ (fun r hr => ?_) (by omega)
    rw [h21, e18]
    show z_oW ci B q1 pr en sh.toInt.toNat ch.toInt.toNat p2.toInt.toNat S A (z_rw m1 p2.toInt.toNat r) (if r = b5.toInt.toNat then x15 else z_Ar M 18 r).toInt
    by_cases c : r = b5.toInt.toNat
    · rw [if_pos c, c]
      exact hoW
    · rw [if_neg c]
      exact hO r (by omega)
theorem zUC131 {T : List zK} {d : Nat} {K : Option Value → zH → Prop} {a0 ci a1 N q1 t1 m1 pr en sa : Nat} {B : Nat → Nat} {S : Nat → Int32} {A sh ch p2 : Int32} {M0 : zH} (hW : z_W M0 T) (w0 : 4 ≤ ci ∧ ci ≤ 11) (k0 : T[a0]? = some (.inl (ci, 0, 0, 0, 0))) (k1 : T[a1]? = some (.inl (3, q1, t1, m1, 5))) (u2 : 1 ≤ p2.toInt ∧ p2.toInt ≤ 3) (hbk : z_blk T M0) (hN0 : z_F M0 a1 0 = some (.ref N)) (hag : z_AGO T M0 N q1 t1 m1 pr en B) (hsa : z_F M0 N 5 = some (.ref sa)) (ksa : T[sa]? = some (.inr (102, 0, m1, 0, 1023))) (hSS : ∀ k, k < m1 → z_Ar M0 sa k = S k) (hA : A.toInt = ((2 ^ q1 : Nat) : Int) - 1) (hlz : z_lz M0 a1) (hch : z_chO M0) (hpe : pr < 1024 ∧ en < 1024) (fs : z_F M0 a0 1 = some (.int sh)) (fc : z_F M0 a0 2 = some (.int ch)) (m12 : 1 ≤ m1 ∧ m1 ≤ 6) (kk : ∀ (M1 : zH), z_X T zw131 M0 M1 → (∃ F G : Nat → Nat, (∀ j, j < p2.toInt.toNat → F j < m1) ∧ z_TSG T M1 a1 N q1 t1 m1 pr en sa p2.toInt.toNat B F G S A) → (∀ r, r < m1 ^ p2.toInt.toNat → z_oW ci B q1 pr en sh.toInt.toNat ch.toInt.toNat p2.toInt.toNat S A (z_rw m1 p2.toInt.toNat r) (z_Ar M1 18 r).toInt) → K none M1) : z_ev (d + 4) 131 0 [some (.ref a0), some (.ref a1), some (.int p2), some (.ref 18), none, none] [] M0 K := by
  have X : z_X T zw131 M0 M0 := .refl hW
  have g1 := X.1.p3 k1
  refine z_xP zt131 0 2 [some (.ref a0), some (.ref a1), some (.int p2), some (.ref 18), none, none] [.int p2, .ref a1] rfl rfl ?_
  refine z_xcV (vs := [.ref a1, .int p2]) (r := []) (L2 := [some (.ref a1), some (.int p2), none]) zt131 1 rfl zo131 zzcV4_45 (Or.inl rfl) rfl X k1 rfl rfl rfl (Nat.le_of_ble_eq_true rfl) zzm108 (Nat.le_of_ble_eq_true rfl) rfl ?_
  refine zUC108 X.1 k1 (by omega) hbk hN0 hag hsa ksa hSS hA hlz hch ⟨m12.1, by omega⟩ (fun x7 M1 X2 _ hS1 => ?_)
  have X10 := X.go X2 (z_sb (by decide))
  show z_ev (d + 4) 131 5 [some (.ref a0), some (.ref a1), some (.int p2), some (.ref 18), none, none] [.int x7] M1 _
  refine z_xP zt131 2 7 [some (.ref a0), some (.ref a1), some (.int p2), some (.ref 18), none, none] [.ref a1] rfl rfl ?_
  refine z_xcV (vs := [.ref a1]) (r := []) (L2 := [some (.ref a1), none, none]) zt131 3 rfl zo131 zzcV4_135 (Or.inl rfl) rfl X10 k1 rfl rfl rfl (Nat.le_of_ble_eq_true rfl) zzm132 (Nat.le_of_ble_eq_true rfl) rfl ?_
  refine zUC132 hS1 m12.2 (by omega) (fun x17 M12 X13 h17 => ?_)
  have X18 := X10.go X13 (z_sb (by decide))
  have hm := z_mk (m := m1) (k := p2.toInt.toNat) m12.2 (by omega)
  show z_ev (d + 4) 131 10 [some (.ref a0), some (.ref a1), some (.int p2), some (.ref 18), none, none] [.int x17] M12 _
  refine z_xP zt131 4 15 [some (.ref a0), some (.ref a1), some (.int p2), some (.ref 18), some (.int x17), some (.int 0)] [] rfl rfl ?_
  have q0 : ((0 : Int32)).toInt = 0 := rfl
  exact zUB131 w0 k0 k1 u2 hpe fs fc m12 kk 434 M12 x17 (0) X18 ⟨_, _, fun _ _ => m12.1, hS1.ke X13 (by decide)⟩ h17 ⟨by omega, by omega⟩ (fun r hr => absurd hr (Nat.not_lt_zero r)) (by omega)
