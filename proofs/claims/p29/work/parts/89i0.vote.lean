/-! votesFor of the reference, told -/
theorem z_iveH {o : Option Value} {a b : Int32} (h : o = some (.int a)) (h2 : o = some (.int b)) : a = b := by
  rw [h] at h2
  cases h2
  rfl
def z_vs (f w : Nat → Int32) (k : Int32) : Nat → Int32
  | 0 => 0
  | n + 1 => z_vs f w k n + ((f n >>> (k &&& 31)) &&& 1) * w n
section ZVS
variable {f w f2 w2 y n : Nat → Int32} {k s b x v sh an mu ad xo a1 a2 W c i i2 : Int32}
theorem z_vs0 (h : i.toInt = 0) : (0 : Int32) = z_vs f w k i.toInt.toNat := by
  rw [h]
  rfl
theorem z_vsS (h : b = z_vs f w k i.toInt.toNat) (h0 : 0 ≤ i.toInt) (hi : i2.toInt = i.toInt + 1) (ex : f i.toNatClampNeg = x) (ew : w i.toNatClampNeg = v) (h1 : sh = x >>> (k &&& 31)) (h2 : an = sh &&& 1) (h3 : mu = an * v) (h4 : ad = b + mu) : ad = z_vs f w k i2.toInt.toNat := by
  have e : i2.toInt.toNat = i.toInt.toNat + 1 := by omega
  rw [e, h4, h3, h2, h1, h, ← ex, ← ew]
  rfl
theorem z_vsA (h : b = z_vs f w k i.toInt.toNat) (h0 : 0 ≤ i.toInt) (hi : i2.toInt = i.toInt + 1) (ex : f i.toNatClampNeg = x) (ew : w i.toNatClampNeg = v) (h1 : sh = x >>> (k &&& 31)) (h2 : an = sh &&& 1) (h3 : an.toInt = 1) (h4 : ad = b + v) : ad = z_vs f w k i2.toInt.toNat :=
  z_vsS h h0 hi ex ew h1 h2 (mu := v) (by
    rw [show an = 1 from Int32.toInt_inj.mp h3]
    exact (Int32.one_mul v).symm) h4
theorem z_vsB (h : b = z_vs f w k i.toInt.toNat) (h0 : 0 ≤ i.toInt) (hi : i2.toInt = i.toInt + 1) (ex : f i.toNatClampNeg = x) (h1 : sh = x >>> (k &&& 31)) (h2 : an = sh &&& 1) (ha : 0 ≤ an.toInt ∧ an.toInt ≤ 1) (h3 : an.toInt ≠ 1) (h4 : ad = b + 0) : ad = z_vs f w k i2.toInt.toNat :=
  z_vsS h h0 hi ex rfl h1 h2 (mu := 0) (by
    rw [show an = 0 from Int32.toInt_inj.mp (show an.toInt = 0 by omega)]
    exact (Int32.zero_mul).symm) h4
end ZVS
theorem zUB230 {T : List zK} {d : Nat} {K : Option Value → zH → Prop} {p1 : Int32} {p2 : Int32} {sv : Int32} {M0 : zH} (u2 : 0 ≤ p2.toInt ∧ p2.toInt ≤ 1) (hs : z_F M0 19 30 = some (.int sv)) (hsv : 0 ≤ sv.toInt ∧ sv.toInt ≤ 9) (kk : ∀ (x : Int32) (M1 : zH), z_X T zw230 M0 M1 → x = z_vs (if p2.toInt = 0 then z_Ar M0 40 else z_Ar M0 41) (z_Ar M0 39) p1 sv.toInt.toNat → K (some (.int x)) M1) : ∀ n : Nat, (∀ (M : zH) (b3 : Int32) (b4 : Int32), z_X T zw230 M0 M → 0 ≤ b4.toInt ∧ b4.toInt ≤ 9 → b3 = z_vs (if p2.toInt = 0 then z_Ar M0 40 else z_Ar M0 41) (z_Ar M0 39) p1 b4.toInt.toNat → b4.toInt ≤ sv.toInt → ((0) * 2 + 0) * 10 + (9 - b4.toInt) < (n : Int) → z_ev d 230 5 [some (.ref 19), some (.int p1), some (.int p2), some (.int b3), some (.int b4)] [] M K) := by
  intro n
  induction n with
  | zero => exact by intros; exfalso; omega
  | succ n ih =>
    intro M b3 b4 X hh0 hI hJ hE
    refine z_xP zt230 1 8 [some (.ref 19), some (.int p1), some (.int p2), some (.int b3), some (.int b4)] [.ref 19, .int b4] rfl rfl ?_
    have f19 : T[19]? = some (.inl (12, 0, 0, 0, 0)) := X.1.k rfl (by decide)
    refine z_xgI zt230 2 rfl zo230 zzf12_245 X f19 (by decide) (by decide) rfl (fun (x2 : Int32) h1 (h3 : 0 ≤ x2.toInt) (h4 : x2.toInt ≤ 9) => ?_)
    refine z_xJ zt230 3 rfl rfl (fun (h5 : x2.toInt ≤ b4.toInt) => ?_) (fun (h5 : b4.toInt < x2.toInt) => ?_)
    · skip
      refine z_xP zt230 31 64 [some (.ref 19), some (.int p1), some (.int p2), some (.int b3), some (.int b4)] [.int b3] rfl rfl ?_
      have ej6 := congrArg Int32.toInt (z_iveH h1 (X.2.f f19 (by decide) hs))
      have i7 : b4.toInt.toNat = sv.toInt.toNat := by omega
      exact z_xri zt230 32 rfl zzr230 (kk b3 M X (by rw [← i7]; exact hI))
    refine z_xP zt230 4 16 [some (.ref 19), some (.int p1), some (.int p2), some (.int b3), some (.int b4)] [.int p2, .int b3] rfl rfl ?_
    refine z_xZ zt230 5 rfl rfl (fun (h8 : p2.toInt ≠ 0) => ?_) (fun (h8 : p2.toInt = 0) => ?_)
    · skip
      refine z_xP zt230 11 30 [some (.ref 19), some (.int p1), some (.int p2), some (.int b3), some (.int b4)] [.ref 19, .int b3] rfl rfl ?_
      refine z_xgX (b := 41) zt230 12 rfl zo230 zzf12_73 X f19 (by decide) (by decide) rfl ?_
      refine z_xP zt230 13 35 [some (.ref 19), some (.int p1), some (.int p2), some (.int b3), some (.int b4)] [.int b4, .ref 41, .int b3] rfl rfl ?_
      have f41 : T[41]? = some (.inr (41, 0, 9, (-2147483648), 2147483647)) := X.1.k rfl (by decide)
      refine z_xil zt230 14 rfl X f41 (by decide) (by omega) (by omega) (fun (x9 : Int32) h10 (h11 : (-2147483648) ≤ x9.toInt) (h12 : x9.toInt ≤ 2147483647) => ?_)
      refine z_xP zt230 15 37 [some (.ref 19), some (.int p1), some (.int p2), some (.int b3), some (.int b4)] [.int p1, .int x9, .int b3] rfl rfl ?_
      have h13 := z_b32 x9
      have h14 := z_b32 p1
      refine z_xI zt230 16 rfl rfl (fun (x15 : Int32) (h16 : x15 = x9 >>> (p1 &&& 31)) => ?_) (rfl)
      refine z_xP zt230 17 39 [some (.ref 19), some (.int p1), some (.int p2), some (.int b3), some (.int b4)] [.int 1, .int x15, .int b3] rfl rfl ?_
      refine z_xI zt230 18 rfl rfl (fun (x17 : Int32) (h18 : x17 = x15 &&& (1 : Int32) ∧ 0 ≤ x17.toInt ∧ x17.toInt ≤ 1) => ?_) (⟨rfl, z_pAnd rfl (by omega)⟩)
      refine z_xP zt230 19 41 [some (.ref 19), some (.int p1), some (.int p2), some (.int b3), some (.int b4)] [.int 1, .int x17, .int b3] rfl rfl ?_
      refine z_xJ zt230 20 rfl rfl (fun (h19 : x17.toInt ≠ 1) => ?_) (fun (h19 : x17.toInt = 1) => ?_)
      · skip
        refine z_xP zt230 26 55 [some (.ref 19), some (.int p1), some (.int p2), some (.int b3), some (.int b4)] [.int 0, .int b3] rfl rfl ?_
        have h20 := z_b32 b3
        refine z_xI zt230 27 rfl rfl (fun (x21 : Int32) (h22 : x21 = b3 + (0 : Int32)) => ?_) (rfl)
        refine z_xP zt230 28 57 [some (.ref 19), some (.int p1), some (.int p2), some (.int x21), some (.int b4)] [] rfl rfl ?_
        refine z_xN zt230 29 rfl rfl (fun (x23 : Int32) (h24 : x23.toInt = b4.toInt + 1) => ?_) (z_pAdd rfl rfl (by omega) (by omega))
        show z_ev d 230 60 [some (.ref 19), some (.int p1), some (.int p2), some (.int x21), some (.int x23)] [] M _
        refine z_xP zt230 30 5 [some (.ref 19), some (.int p1), some (.int p2), some (.int x21), some (.int x23)] [] rfl rfl ?_
        have ex25 : (if p2.toInt = 0 then z_Ar M0 40 else z_Ar M0 41) b4.toNatClampNeg = x9 := by rw [if_neg (by omega)]; exact ((congrFun (X.2.a f41 (by decide)) _).symm.trans h10)
        have ej26 := congrArg Int32.toInt (z_iveH h1 (X.2.f f19 (by decide) hs))
        exact ih M x21 x23 X ⟨by omega, by omega⟩ (z_vsB hI (by omega) (by omega) ex25 h16 h18.1 (by omega) (by omega) h22) (by omega) (by omega)
      refine z_xP zt230 21 45 [some (.ref 19), some (.int p1), some (.int p2), some (.int b3), some (.int b4)] [.ref 19, .int b3] rfl rfl ?_
      refine z_xgX (b := 39) zt230 22 rfl zo230 zzf12_67 X f19 (by decide) (by decide) rfl ?_
      refine z_xP zt230 23 50 [some (.ref 19), some (.int p1), some (.int p2), some (.int b3), some (.int b4)] [.int b4, .ref 39, .int b3] rfl rfl ?_
      have f39 : T[39]? = some (.inr (39, 0, 9, (-2147483648), 2147483647)) := X.1.k rfl (by decide)
      refine z_xil zt230 24 rfl X f39 (by decide) (by omega) (by omega) (fun (x27 : Int32) h28 (h29 : (-2147483648) ≤ x27.toInt) (h30 : x27.toInt ≤ 2147483647) => ?_)
      refine z_xP zt230 25 55 [some (.ref 19), some (.int p1), some (.int p2), some (.int b3), some (.int b4)] [.int x27, .int b3] rfl rfl ?_
      have h31 := z_b32 b3
      have h32 := z_b32 x27
      refine z_xI zt230 27 rfl rfl (fun (x33 : Int32) (h34 : x33 = b3 + x27) => ?_) (rfl)
      refine z_xP zt230 28 57 [some (.ref 19), some (.int p1), some (.int p2), some (.int x33), some (.int b4)] [] rfl rfl ?_
      refine z_xN zt230 29 rfl rfl (fun (x35 : Int32) (h36 : x35.toInt = b4.toInt + 1) => ?_) (z_pAdd rfl rfl (by omega) (by omega))
      show z_ev d 230 60 [some (.ref 19), some (.int p1), some (.int p2), some (.int x33), some (.int x35)] [] M _
      refine z_xP zt230 30 5 [some (.ref 19), some (.int p1), some (.int p2), some (.int x33), some (.int x35)] [] rfl rfl ?_
      have ex37 : (if p2.toInt = 0 then z_Ar M0 40 else z_Ar M0 41) b4.toNatClampNeg = x9 := by rw [if_neg (by omega)]; exact ((congrFun (X.2.a f41 (by decide)) _).symm.trans h10)
      have ej38 := congrArg Int32.toInt (z_iveH h1 (X.2.f f19 (by decide) hs))
      exact ih M x33 x35 X ⟨by omega, by omega⟩ (z_vsA hI (by omega) (by omega) ex37 ((congrFun (X.2.a f39 (by decide)) _).symm.trans h28) h16 h18.1 (by omega) h34) (by omega) (by omega)
    refine z_xP zt230 6 20 [some (.ref 19), some (.int p1), some (.int p2), some (.int b3), some (.int b4)] [.ref 19, .int b3] rfl rfl ?_
    refine z_xgX (b := 40) zt230 7 rfl zo230 zzf12_70 X f19 (by decide) (by decide) rfl ?_
    refine z_xP zt230 8 25 [some (.ref 19), some (.int p1), some (.int p2), some (.int b3), some (.int b4)] [.int b4, .ref 40, .int b3] rfl rfl ?_
    have f40 : T[40]? = some (.inr (40, 0, 9, (-2147483648), 2147483647)) := X.1.k rfl (by decide)
    refine z_xil zt230 9 rfl X f40 (by decide) (by omega) (by omega) (fun (x39 : Int32) h40 (h41 : (-2147483648) ≤ x39.toInt) (h42 : x39.toInt ≤ 2147483647) => ?_)
    refine z_xP zt230 10 36 [some (.ref 19), some (.int p1), some (.int p2), some (.int b3), some (.int b4)] [.int x39, .int b3] rfl rfl ?_
    refine z_xP zt230 15 37 [some (.ref 19), some (.int p1), some (.int p2), some (.int b3), some (.int b4)] [.int p1, .int x39, .int b3] rfl rfl ?_
    have h43 := z_b32 x39
    have h44 := z_b32 p1
    refine z_xI zt230 16 rfl rfl (fun (x45 : Int32) (h46 : x45 = x39 >>> (p1 &&& 31)) => ?_) (rfl)
    refine z_xP zt230 17 39 [some (.ref 19), some (.int p1), some (.int p2), some (.int b3), some (.int b4)] [.int 1, .int x45, .int b3] rfl rfl ?_
    refine z_xI zt230 18 rfl rfl (fun (x47 : Int32) (h48 : x47 = x45 &&& (1 : Int32) ∧ 0 ≤ x47.toInt ∧ x47.toInt ≤ 1) => ?_) (⟨rfl, z_pAnd rfl (by omega)⟩)
    refine z_xP zt230 19 41 [some (.ref 19), some (.int p1), some (.int p2), some (.int b3), some (.int b4)] [.int 1, .int x47, .int b3] rfl rfl ?_
    refine z_xJ zt230 20 rfl rfl (fun (h49 : x47.toInt ≠ 1) => ?_) (fun (h49 : x47.toInt = 1) => ?_)
    · skip
      refine z_xP zt230 26 55 [some (.ref 19), some (.int p1), some (.int p2), some (.int b3), some (.int b4)] [.int 0, .int b3] rfl rfl ?_
      have h50 := z_b32 b3
      refine z_xI zt230 27 rfl rfl (fun (x51 : Int32) (h52 : x51 = b3 + (0 : Int32)) => ?_) (rfl)
      refine z_xP zt230 28 57 [some (.ref 19), some (.int p1), some (.int p2), some (.int x51), some (.int b4)] [] rfl rfl ?_
      refine z_xN zt230 29 rfl rfl (fun (x53 : Int32) (h54 : x53.toInt = b4.toInt + 1) => ?_) (z_pAdd rfl rfl (by omega) (by omega))
      show z_ev d 230 60 [some (.ref 19), some (.int p1), some (.int p2), some (.int x51), some (.int x53)] [] M _
      refine z_xP zt230 30 5 [some (.ref 19), some (.int p1), some (.int p2), some (.int x51), some (.int x53)] [] rfl rfl ?_
      have ex55 : (if p2.toInt = 0 then z_Ar M0 40 else z_Ar M0 41) b4.toNatClampNeg = x39 := by rw [if_pos (by omega)]; exact ((congrFun (X.2.a f40 (by decide)) _).symm.trans h40)
      have ej56 := congrArg Int32.toInt (z_iveH h1 (X.2.f f19 (by decide) hs))
      exact ih M x51 x53 X ⟨by omega, by omega⟩ (z_vsB hI (by omega) (by omega) ex55 h46 h48.1 (by omega) (by omega) h52) (by omega) (by omega)
    refine z_xP zt230 21 45 [some (.ref 19), some (.int p1), some (.int p2), some (.int b3), some (.int b4)] [.ref 19, .int b3] rfl rfl ?_
    refine z_xgX (b := 39) zt230 22 rfl zo230 zzf12_67 X f19 (by decide) (by decide) rfl ?_
    refine z_xP zt230 23 50 [some (.ref 19), some (.int p1), some (.int p2), some (.int b3), some (.int b4)] [.int b4, .ref 39, .int b3] rfl rfl ?_
    have f39 : T[39]? = some (.inr (39, 0, 9, (-2147483648), 2147483647)) := X.1.k rfl (by decide)
    refine z_xil zt230 24 rfl X f39 (by decide) (by omega) (by omega) (fun (x57 : Int32) h58 (h59 : (-2147483648) ≤ x57.toInt) (h60 : x57.toInt ≤ 2147483647) => ?_)
    refine z_xP zt230 25 55 [some (.ref 19), some (.int p1), some (.int p2), some (.int b3), some (.int b4)] [.int x57, .int b3] rfl rfl ?_
    have h61 := z_b32 b3
    have h62 := z_b32 x57
    refine z_xI zt230 27 rfl rfl (fun (x63 : Int32) (h64 : x63 = b3 + x57) => ?_) (rfl)
    refine z_xP zt230 28 57 [some (.ref 19), some (.int p1), some (.int p2), some (.int x63), some (.int b4)] [] rfl rfl ?_
    refine z_xN zt230 29 rfl rfl (fun (x65 : Int32) (h66 : x65.toInt = b4.toInt + 1) => ?_) (z_pAdd rfl rfl (by omega) (by omega))
    show z_ev d 230 60 [some (.ref 19), some (.int p1), some (.int p2), some (.int x63), some (.int x65)] [] M _
    refine z_xP zt230 30 5 [some (.ref 19), some (.int p1), some (.int p2), some (.int x63), some (.int x65)] [] rfl rfl ?_
    have ex67 : (if p2.toInt = 0 then z_Ar M0 40 else z_Ar M0 41) b4.toNatClampNeg = x39 := by rw [if_pos (by omega)]; exact ((congrFun (X.2.a f40 (by decide)) _).symm.trans h40)
    have ej68 := congrArg Int32.toInt (z_iveH h1 (X.2.f f19 (by decide) hs))
    exact ih M x63 x65 X ⟨by omega, by omega⟩ (z_vsA hI (by omega) (by omega) ex67 ((congrFun (X.2.a f39 (by decide)) _).symm.trans h58) h46 h48.1 (by omega) h64) (by omega) (by omega)
theorem zUC230 {T : List zK} {d : Nat} {K : Option Value → zH → Prop} {p1 : Int32} {p2 : Int32} {sv : Int32} {M0 : zH} (hW : z_W M0 T) (u2 : 0 ≤ p2.toInt ∧ p2.toInt ≤ 1) (hs : z_F M0 19 30 = some (.int sv)) (hsv : 0 ≤ sv.toInt ∧ sv.toInt ≤ 9) (kk : ∀ (x : Int32) (M1 : zH), z_X T zw230 M0 M1 → x = z_vs (if p2.toInt = 0 then z_Ar M0 40 else z_Ar M0 41) (z_Ar M0 39) p1 sv.toInt.toNat → K (some (.int x)) M1) : z_ev d 230 0 [some (.ref 19), some (.int p1), some (.int p2), none, none] [] M0 K := by
  have X : z_X T zw230 M0 M0 := .refl hW
  refine z_xP zt230 0 5 [some (.ref 19), some (.int p1), some (.int p2), some (.int 0), some (.int 0)] [] rfl rfl ?_
  have q0 : ((0 : Int32)).toInt = 0 := rfl
  exact (zUB230 u2 hs hsv kk 20) M0 (0) (0) X (by decide) (z_vs0 rfl) (by omega) (by omega)
