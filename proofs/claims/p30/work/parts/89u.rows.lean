/-! rows read, told -/
theorem z_a1023 {r x : Int32} (hx : x = r &&& 1023) (h : 0 ≤ r.toInt) : x.toInt = r.toInt % 1024 := by
  have h1 := z_nn h
  have h0 : (r &&& 1023).toBitVec.toNat = r.toBitVec.toNat % 1024 := by
    rw [Int32.toBitVec_and, BitVec.toNat_and]
    exact Nat.and_two_pow_sub_one_eq_mod r.toBitVec.toNat 10
  have h2 : (r &&& 1023).toInt = ((r &&& 1023).toBitVec.toNat : Int) := by
    show (r &&& 1023).toBitVec.toInt = _
    exact BitVec.toInt_eq_toNat_of_lt (by rw [h0]; omega)
  rw [hx, h2, h0]
  omega
theorem zUB59 {T : List zK} {d : Nat} {K : Option Value → zH → Prop} {p1 : Int32} {p2 : Int32} {p3 : Int32} {M0 : zH} (u1 : 0 ≤ p1.toInt ∧ p1.toInt ≤ 5) (u3 : 0 ≤ p3.toInt ∧ p3.toInt ≤ 10) (kk : ∀ (x : Int32) (M1 : zH), z_X T zw59 M0 M1 → 0 ≤ x.toInt → x.toInt ≤ 1048575 → z_rdS (fun n => z_Lg M0 16 (60 * p1.toNatClampNeg + n)) (if (z_Ar M0 14 p1.toNatClampNeg).toInt = 4 then (z_Ar M0 15 p1.toNatClampNeg).toInt else 0) p2.toInt p3.toInt.toNat x.toInt → K (some (.int x)) M1) : ∀ n : Nat, (∀ (M : zH) (b4 : Int32) (b5 : Int32) (b6 : Int32), z_X T zw59 M0 M → 0 ≤ p2.toInt ∧ p2.toInt ≤ 59 → 1 ≤ b4.toInt ∧ b4.toInt ≤ 60 → 0 ≤ b5.toInt ∧ b5.toInt ≤ 1048575 → 0 ≤ b6.toInt ∧ b6.toInt ≤ 10 → b6.toInt ≤ p3.toInt → (if (z_Ar M0 14 p1.toNatClampNeg).toInt = 4 then (z_Ar M0 15 p1.toNatClampNeg).toInt else 0) = b4.toInt → z_rdw (fun n => z_Lg M0 16 (60 * p1.toNatClampNeg + n)) b4.toInt p2.toInt b6.toInt.toNat b5.toInt → ((0) * 2 + 0) * 11 + (10 - b6.toInt) < (n : Int) → z_ev d 59 40 [some (.ref 4), some (.int p1), some (.int p2), some (.int p3), some (.int b4), some (.int b5), some (.int b6)] [] M K) := by
  intro n
  induction n with
  | zero => exact by intros; exfalso; omega
  | succ n ih =>
    intro M b4 b5 b6 X hh0 hh1 hh2 hh3 hh4 hS hI hE
    refine z_xP zt59 19 43 [some (.ref 4), some (.int p1), some (.int p2), some (.int p3), some (.int b4), some (.int b5), some (.int b6)] [.int p3, .int b6] rfl rfl ?_
    refine z_xJ zt59 20 rfl rfl (fun (h1 : p3.toInt ≤ b6.toInt) => ?_) (fun (h1 : b6.toInt < p3.toInt) => ?_)
    · skip
      refine z_xP zt59 47 101 [some (.ref 4), some (.int p1), some (.int p2), some (.int p3), some (.int b4), some (.int b5), some (.int b6)] [.int b5] rfl rfl ?_
      exact z_xri zt59 48 rfl zzr59 (kk b5 M X (by omega) (by omega) (by rw [hS]; exact z_rdE hI (by omega) (by omega)))
    refine z_xP zt59 21 49 [some (.ref 4), some (.int p1), some (.int p2), some (.int p3), some (.int b4), some (.int b5), some (.int b6)] [.int b6, .int p2] rfl rfl ?_
    refine z_xI zt59 22 rfl rfl (fun (x2 : Int32) (h3 : x2.toInt = p2.toInt + b6.toInt) => ?_) (z_pAdd rfl rfl (by omega) (by omega))
    refine z_xP zt59 23 52 [some (.ref 4), some (.int p1), some (.int p2), some (.int p3), some (.int b4), some (.int b5), some (.int b6)] [.int b4, .int x2] rfl rfl ?_
    refine z_xJ zt59 24 rfl rfl (fun (h4 : b4.toInt ≤ x2.toInt) => ?_) (fun (h4 : x2.toInt < b4.toInt) => ?_)
    · skip
      refine z_xP zt59 47 101 [some (.ref 4), some (.int p1), some (.int p2), some (.int p3), some (.int b4), some (.int b5), some (.int b6)] [.int b5] rfl rfl ?_
      exact z_xri zt59 48 rfl zzr59 (kk b5 M X (by omega) (by omega) (by rw [hS]; exact z_rdE hI (by omega) (by omega)))
    refine z_xP zt59 25 58 [some (.ref 4), some (.int p1), some (.int p2), some (.int p3), some (.int b4), some (.int b5), some (.int b6)] [.ref 4, .int b5] rfl rfl ?_
    have f4 : T[4]? = some (.inl (0, 0, 0, 0, 0)) := X.1.k rfl (by decide)
    refine z_xgX (b := 16) zt59 26 rfl zo59 zzf0_41 X f4 (by decide) (by decide) rfl ?_
    refine z_xP zt59 27 64 [some (.ref 4), some (.int p1), some (.int p2), some (.int p3), some (.int b4), some (.int b5), some (.int b6)] [.int 60, .int p1, .ref 16, .int b5] rfl rfl ?_
    refine z_xI zt59 28 rfl rfl (fun (x5 : Int32) (h6 : x5.toInt = p1.toInt * 60) => ?_) (z_pMul rfl rfl (by omega) (by omega))
    refine z_xP zt59 29 66 [some (.ref 4), some (.int p1), some (.int p2), some (.int p3), some (.int b4), some (.int b5), some (.int b6)] [.int p2, .int x5, .ref 16, .int b5] rfl rfl ?_
    refine z_xI zt59 30 rfl rfl (fun (x7 : Int32) (h8 : x7.toInt = x5.toInt + p2.toInt) => ?_) (z_pAdd rfl rfl (by omega) (by omega))
    refine z_xP zt59 31 69 [some (.ref 4), some (.int p1), some (.int p2), some (.int p3), some (.int b4), some (.int b5), some (.int b6)] [.int b6, .int x7, .ref 16, .int b5] rfl rfl ?_
    refine z_xI zt59 32 rfl rfl (fun (x9 : Int32) (h10 : x9.toInt = x7.toInt + b6.toInt) => ?_) (z_pAdd rfl rfl (by omega) (by omega))
    have f16 : T[16]? = some (.inr (16, 1, 360, 0, 0)) := X.1.k rfl (by decide)
    refine z_xllv zt59 33 rfl X f16 (by decide) (by omega) (by omega) (fun (y11 : Int64) h12 => ?_)
    refine z_xP zt59 34 72 [some (.ref 4), some (.int p1), some (.int p2), some (.int p3), some (.int b4), some (.int b5), some (.int b6)] [.long 0, .long y11, .int b5] rfl rfl ?_
    refine z_xI zt59 35 rfl rfl (fun (x13 : Int32) (h14 : (x13.toInt < 0 ∧ y11.toInt < 0) ∨ (x13.toInt = 0 ∧ y11.toInt = 0) ∨ (0 < x13.toInt ∧ 0 < y11.toInt)) => ?_) (z_qCmp rfl rfl)
    refine z_xZ zt59 36 rfl rfl (fun (h15 : x13.toInt = 0) => ?_) (fun (h15 : x13.toInt ≠ 0) => ?_)
    · skip
      refine z_xP zt59 40 88 [some (.ref 4), some (.int p1), some (.int p2), some (.int p3), some (.int b4), some (.int b5), some (.int b6)] [.int 10, .int b6, .int 1, .int b5] rfl rfl ?_
      refine z_xI zt59 41 rfl rfl (fun (x16 : Int32) (h17 : x16.toInt = b6.toInt + 10) => ?_) (z_pAdd rfl rfl (by omega) (by omega))
      refine z_xI zt59 42 rfl rfl (fun (x18 : Int32) (h19 : x18 = (1 : Int32) <<< (x16 &&& 31) ∧ 1 ≤ x18.toInt ∧ x18.toInt ≤ 524288) => ?_) (⟨rfl, z_pShlB (a := 1) (b := 19) (c := 524288) (r := 524288) rfl rfl (by omega) (by omega) (by omega) (by omega) (by decide) (by decide) (by decide) (by decide)⟩)
      refine z_xI zt59 43 rfl rfl (fun (x20 : Int32) (h21 : x20 = b5 ||| x18 ∧ 0 ≤ x20.toInt ∧ x20.toInt < 1048576 ∧ b5.toInt ≤ x20.toInt ∧ x18.toInt ≤ x20.toInt) => ?_) (⟨rfl, z_pOr 20 rfl rfl (by omega) (by omega) (by decide) (by omega) (by omega) (by decide)⟩)
      refine z_xP zt59 44 93 [some (.ref 4), some (.int p1), some (.int p2), some (.int p3), some (.int b4), some (.int x20), some (.int b6)] [] rfl rfl ?_
      refine z_xN zt59 45 rfl rfl (fun (x22 : Int32) (h23 : x22.toInt = b6.toInt + 1) => ?_) (z_pAdd rfl rfl (by omega) (by omega))
      show z_ev d 59 96 [some (.ref 4), some (.int p1), some (.int p2), some (.int p3), some (.int b4), some (.int x20), some (.int x22)] [] M _
      refine z_xP zt59 46 40 [some (.ref 4), some (.int p1), some (.int p2), some (.int p3), some (.int b4), some (.int x20), some (.int x22)] [] rfl rfl ?_
      have i24 : x22.toInt.toNat = b6.toInt.toNat + 1 := by omega
      have h25 : z_Lg M0 16 (60 * p1.toNatClampNeg + (p2.toInt.toNat + b6.toInt.toNat)) = y11 := by rw [show 60 * p1.toNatClampNeg + (p2.toInt.toNat + b6.toInt.toNat) = x9.toNatClampNeg from by unfold Int32.toNatClampNeg; omega]; exact (congrFun (X.2.lg f16 (by decide)) _).symm.trans h12
      exact ih M b4 x20 x22 X ⟨by omega, by omega⟩ ⟨by omega, by omega⟩ ⟨by omega, by omega⟩ ⟨by omega, by omega⟩ (by omega) hS (by rw [i24]; exact z_rdZ hI (by omega) (by omega) (h25.trans (Int64.toInt_inj.mp (by have h2 : (0 : Int64).toInt = 0 := rfl; omega))) (by omega) h19.1 h21.1) (by omega)
    refine z_xP zt59 37 79 [some (.ref 4), some (.int p1), some (.int p2), some (.int p3), some (.int b4), some (.int b5), some (.int b6)] [.int b6, .int 1, .int b5] rfl rfl ?_
    refine z_xI zt59 38 rfl rfl (fun (x26 : Int32) (h27 : x26 = (1 : Int32) <<< (b6 &&& 31) ∧ 1 ≤ x26.toInt ∧ x26.toInt ≤ 512) => ?_) (⟨rfl, z_pShlB (a := 1) (b := 9) (c := 512) (r := 512) rfl rfl (by omega) (by omega) (by omega) (by omega) (by decide) (by decide) (by decide) (by decide)⟩)
    refine z_xP zt59 39 90 [some (.ref 4), some (.int p1), some (.int p2), some (.int p3), some (.int b4), some (.int b5), some (.int b6)] [.int x26, .int b5] rfl rfl ?_
    refine z_xI zt59 43 rfl rfl (fun (x28 : Int32) (h29 : x28 = b5 ||| x26 ∧ 0 ≤ x28.toInt ∧ x28.toInt < 1048576 ∧ b5.toInt ≤ x28.toInt ∧ x26.toInt ≤ x28.toInt) => ?_) (⟨rfl, z_pOr 20 rfl rfl (by omega) (by omega) (by decide) (by omega) (by omega) (by decide)⟩)
    refine z_xP zt59 44 93 [some (.ref 4), some (.int p1), some (.int p2), some (.int p3), some (.int b4), some (.int x28), some (.int b6)] [] rfl rfl ?_
    refine z_xN zt59 45 rfl rfl (fun (x30 : Int32) (h31 : x30.toInt = b6.toInt + 1) => ?_) (z_pAdd rfl rfl (by omega) (by omega))
    show z_ev d 59 96 [some (.ref 4), some (.int p1), some (.int p2), some (.int p3), some (.int b4), some (.int x28), some (.int x30)] [] M _
    refine z_xP zt59 46 40 [some (.ref 4), some (.int p1), some (.int p2), some (.int p3), some (.int b4), some (.int x28), some (.int x30)] [] rfl rfl ?_
    have i32 : x30.toInt.toNat = b6.toInt.toNat + 1 := by omega
    have h33 : z_Lg M0 16 (60 * p1.toNatClampNeg + (p2.toInt.toNat + b6.toInt.toNat)) = y11 := by rw [show 60 * p1.toNatClampNeg + (p2.toInt.toNat + b6.toInt.toNat) = x9.toNatClampNeg from by unfold Int32.toNatClampNeg; omega]; exact (congrFun (X.2.lg f16 (by decide)) _).symm.trans h12
    exact ih M b4 x28 x30 X ⟨by omega, by omega⟩ ⟨by omega, by omega⟩ ⟨by omega, by omega⟩ ⟨by omega, by omega⟩ (by omega) hS (by rw [i32]; exact z_rdY hI (by omega) (by omega) (fun hz => by have h0 : y11 = 0 := h33.symm.trans hz; have h1 := congrArg Int64.toInt h0; have h2 : (0 : Int64).toInt = 0 := rfl; omega) (by omega) h27.1 h29.1) (by omega)
theorem zUC59 {T : List zK} {d : Nat} {K : Option Value → zH → Prop} {p1 : Int32} {p2 : Int32} {p3 : Int32} {M0 : zH} (hW : z_W M0 T) (u1 : 0 ≤ p1.toInt ∧ p1.toInt ≤ 5) (u3 : 0 ≤ p3.toInt ∧ p3.toInt ≤ 10) (kk : ∀ (x : Int32) (M1 : zH), z_X T zw59 M0 M1 → 0 ≤ x.toInt → x.toInt ≤ 1048575 → z_rdS (fun n => z_Lg M0 16 (60 * p1.toNatClampNeg + n)) (if (z_Ar M0 14 p1.toNatClampNeg).toInt = 4 then (z_Ar M0 15 p1.toNatClampNeg).toInt else 0) p2.toInt p3.toInt.toNat x.toInt → K (some (.int x)) M1) : z_ev d 59 0 [some (.ref 4), some (.int p1), some (.int p2), some (.int p3), none, none, none] [] M0 K := by
  have X : z_X T zw59 M0 M0 := .refl hW
  refine z_xP zt59 0 1 [some (.ref 4), some (.int p1), some (.int p2), some (.int p3), none, none, none] [.ref 4] rfl rfl ?_
  have f4 : T[4]? = some (.inl (0, 0, 0, 0, 0)) := X.1.k rfl (by decide)
  refine z_xgX (b := 14) zt59 1 rfl zo59 zzf0_35 X f4 (by decide) (by decide) rfl ?_
  refine z_xP zt59 2 5 [some (.ref 4), some (.int p1), some (.int p2), some (.int p3), none, none, none] [.int p1, .ref 14] rfl rfl ?_
  have f14 : T[14]? = some (.inr (14, 0, 6, (-1), 5)) := X.1.k rfl (by decide)
  refine z_xil zt59 3 rfl X f14 (by decide) (by omega) (by omega) (fun (x1 : Int32) h2 (h3 : (-1) ≤ x1.toInt) (h4 : x1.toInt ≤ 5) => ?_)
  refine z_xP zt59 4 7 [some (.ref 4), some (.int p1), some (.int p2), some (.int p3), none, none, none] [.int 4, .int x1] rfl rfl ?_
  refine z_xJ zt59 5 rfl rfl (fun (h5 : x1.toInt ≠ 4) => ?_) (fun (h5 : x1.toInt = 4) => ?_)
  · skip
    refine z_xP zt59 11 20 [some (.ref 4), some (.int p1), some (.int p2), some (.int p3), none, none, none] [.int 0] rfl rfl ?_
    refine z_xP zt59 12 23 [some (.ref 4), some (.int p1), some (.int p2), some (.int p3), some (.int 0), none, none] [.int p2] rfl rfl ?_
    refine z_xZ zt59 13 rfl rfl (fun (h6 : p2.toInt < 0) => ?_) (fun (h6 : 0 ≤ p2.toInt) => ?_)
    · skip
      refine z_xP zt59 16 33 [some (.ref 4), some (.int p1), some (.int p2), some (.int p3), some (.int 0), none, none] [.int 0] rfl rfl ?_
      have q0 : ((0 : Int32)).toInt = 0 := rfl
      have hs7 : (if (z_Ar M0 14 p1.toNatClampNeg).toInt = 4 then (z_Ar M0 15 p1.toNatClampNeg).toInt else 0) = 0 := (by rw [h2, if_neg (by omega)])
      have q0 : ((0 : Int32)).toInt = 0 := rfl
      exact z_xri zt59 17 rfl zzr59 (kk 0 M0 X (by omega) (by omega) (by rw [hs7]; exact z_rdN (by omega) (by omega)))
    refine z_xP zt59 14 29 [some (.ref 4), some (.int p1), some (.int p2), some (.int p3), some (.int 0), none, none] [.int 0, .int p2] rfl rfl ?_
    refine z_xJ zt59 15 rfl rfl (fun (h8 : p2.toInt < 0) => absurd h8 (by omega)) (fun (h8 : 0 ≤ p2.toInt) => ?_)
    refine z_xP zt59 16 33 [some (.ref 4), some (.int p1), some (.int p2), some (.int p3), some (.int 0), none, none] [.int 0] rfl rfl ?_
    have q0 : ((0 : Int32)).toInt = 0 := rfl
    have hs9 : (if (z_Ar M0 14 p1.toNatClampNeg).toInt = 4 then (z_Ar M0 15 p1.toNatClampNeg).toInt else 0) = 0 := (by rw [h2, if_neg (by omega)])
    have q0 : ((0 : Int32)).toInt = 0 := rfl
    exact z_xri zt59 17 rfl zzr59 (kk 0 M0 X (by omega) (by omega) (by rw [hs9]; exact z_rdN (by omega) (by omega)))
  refine z_xP zt59 6 11 [some (.ref 4), some (.int p1), some (.int p2), some (.int p3), none, none, none] [.ref 4] rfl rfl ?_
  refine z_xgX (b := 15) zt59 7 rfl zo59 zzf0_38 X f4 (by decide) (by decide) rfl ?_
  refine z_xP zt59 8 15 [some (.ref 4), some (.int p1), some (.int p2), some (.int p3), none, none, none] [.int p1, .ref 15] rfl rfl ?_
  have f15 : T[15]? = some (.inr (15, 0, 6, 0, 60)) := X.1.k rfl (by decide)
  refine z_xil zt59 9 rfl X f15 (by decide) (by omega) (by omega) (fun (x10 : Int32) h11 (h12 : 0 ≤ x10.toInt) (h13 : x10.toInt ≤ 60) => ?_)
  refine z_xP zt59 10 20 [some (.ref 4), some (.int p1), some (.int p2), some (.int p3), none, none, none] [.int x10] rfl rfl ?_
  refine z_xP zt59 12 23 [some (.ref 4), some (.int p1), some (.int p2), some (.int p3), some (.int x10), none, none] [.int p2] rfl rfl ?_
  refine z_xZ zt59 13 rfl rfl (fun (h14 : p2.toInt < 0) => ?_) (fun (h14 : 0 ≤ p2.toInt) => ?_)
  · skip
    refine z_xP zt59 16 33 [some (.ref 4), some (.int p1), some (.int p2), some (.int p3), some (.int x10), none, none] [.int 0] rfl rfl ?_
    have q0 : ((0 : Int32)).toInt = 0 := rfl
    have hs15 : (if (z_Ar M0 14 p1.toNatClampNeg).toInt = 4 then (z_Ar M0 15 p1.toNatClampNeg).toInt else 0) = x10.toInt := (by rw [h2, h11, if_pos (by omega)])
    have q0 : ((0 : Int32)).toInt = 0 := rfl
    exact z_xri zt59 17 rfl zzr59 (kk 0 M0 X (by omega) (by omega) (by rw [hs15]; exact z_rdN (by omega) (by omega)))
  refine z_xP zt59 14 29 [some (.ref 4), some (.int p1), some (.int p2), some (.int p3), some (.int x10), none, none] [.int x10, .int p2] rfl rfl ?_
  have h16 := z_b32 p2
  refine z_xJ zt59 15 rfl rfl (fun (h17 : p2.toInt < x10.toInt) => ?_) (fun (h17 : x10.toInt ≤ p2.toInt) => ?_)
  · skip
    refine z_xP zt59 18 40 [some (.ref 4), some (.int p1), some (.int p2), some (.int p3), some (.int x10), some (.int 0), some (.int 0)] [] rfl rfl ?_
    have q0 : ((0 : Int32)).toInt = 0 := rfl
    exact (zUB59 u1 u3 kk 22) M0 x10 (0) (0) X ⟨by omega, by omega⟩ ⟨by omega, by omega⟩ (by decide) (by decide) (by omega) (by rw [h2, h11, if_pos (by omega)]) (z_rd0 (x0 := 0) rfl rfl (by omega)) (by omega)
  refine z_xP zt59 16 33 [some (.ref 4), some (.int p1), some (.int p2), some (.int p3), some (.int x10), none, none] [.int 0] rfl rfl ?_
  have q0 : ((0 : Int32)).toInt = 0 := rfl
  have hs18 : (if (z_Ar M0 14 p1.toNatClampNeg).toInt = 4 then (z_Ar M0 15 p1.toNatClampNeg).toInt else 0) = x10.toInt := (by rw [h2, h11, if_pos (by omega)])
  have q0 : ((0 : Int32)).toInt = 0 := rfl
  exact z_xri zt59 17 rfl zzr59 (kk 0 M0 X (by omega) (by omega) (by rw [hs18]; exact z_rdN (by omega) (by omega)))
theorem zUC57 {T : List zK} {d : Nat} {K : Option Value → zH → Prop} {p1 : Int32} {p2 : Int32} {p3 : Int32} {p4 : Int32} {M0 : zH} (hW : z_W M0 T) (hW0 : z_W M0 T) (hbk : z_blk T M0) (hR6 : z_R6 T M0) (hR8 : z_R8 T M0) (hG : z_GG T M0) (kk : ∀ (x : Int32) (M1 : zH), z_X T zw57 M0 M1 → (-12) ≤ x.toInt → x.toInt ≤ 63 → z_qB T M0 p1 x.toInt (z_ke T [] M0 M1) (fun b q B => ∃ jv : Int32, z_F M0 b 4 = some (.int jv) ∧ ((x.toInt = -1 ∧ ¬ (0 ≤ p2.toInt ∧ p2.toInt < jv.toInt ∧ 0 ≤ p3.toInt ∧ p3.toInt < 6) ∧ z_ke T [] M0 M1) ∨ ((0 ≤ p2.toInt ∧ p2.toInt < jv.toInt ∧ 0 ≤ p3.toInt ∧ p3.toInt < 6) ∧ ((x.toInt = -12 ∧ (z_Ar M0 14 p3.toNatClampNeg).toInt ≠ -1 ∧ (z_Ar M0 14 p3.toNatClampNeg).toInt ≠ 4 ∧ z_ke T [] M0 M1) ∨ (((z_Ar M0 14 p3.toNatClampNeg).toInt = -1 ∨ (z_Ar M0 14 p3.toNatClampNeg).toInt = 4) ∧ ∃ w : Int32, z_rdS (fun n => z_Lg M0 16 (60 * p3.toNatClampNeg + n)) (if (z_Ar M0 14 p3.toNatClampNeg).toInt = 4 then (z_Ar M0 15 p3.toNatClampNeg).toInt else 0) p4.toInt q w.toInt ∧ ((x.toInt = -2 ∧ ¬ z_cs B q (w.toInt.toNat % 1024) (w.toInt.toNat / 1024) ∧ z_ke T [] M0 M1) ∨ (z_cs B q (w.toInt.toNat % 1024) (w.toInt.toNat / 1024) ∧ x.toInt = ((z_cp w.toInt.toNat 32 : Nat) : Int) ∧ z_oth T (fun w => w = b) M0 M1 ∧ z_F M1 b 4 = z_F M0 b 4 ∧ z_Ar M1 (b + 1) = z_Ar M0 (b + 1) ∧ z_LN M1 b q ∧ ∃ Y N : Int32, Y.toInt = w.toInt % 1024 ∧ N.toInt = w.toInt / 1024 ∧ z_alt M0 M1 b p2 Y N))))))) → K (some (.int x)) M1) : z_ev (d + 3) 57 0 [some (.ref 4), some (.int p1), some (.int p2), some (.int p3), some (.int p4), none, none] [] M0 K := by
  have X : z_X T zw57 M0 M0 := .refl hW
  refine z_xP zt57 0 2 [some (.ref 4), some (.int p1), some (.int p2), some (.int p3), some (.int p4), none, none] [.int p1, .ref 4] rfl rfl ?_
  have f4 : T[4]? = some (.inl (0, 0, 0, 0, 0)) := X.1.k rfl (by decide)
  refine z_xcV (vs := [.ref 4, .int p1]) (r := []) (L2 := [some (.ref 4), some (.int p1)]) zt57 1 rfl zo57 zzcV0_85 (Or.inl rfl) rfl X f4 rfl rfl rfl (Nat.le_of_ble_eq_true rfl) zzm35 (Nat.le_of_ble_eq_true rfl) rfl ?_
  refine z_xP zt35 0 1 [some (.ref 4), some (.int p1)] [.int p1] rfl rfl ?_
  refine z_xZ zt35 1 rfl rfl (fun (h1 : p1.toInt < 0) => ?_) (fun (h1 : 0 ≤ p1.toInt) => ?_)
  · skip
    refine z_xP zt35 5 22 [some (.ref 4), some (.int p1)] [.null] rfl rfl ?_
    refine z_xrn zt35 10 rfl zzr35 ?_
    show z_ev (d + 3) 57 5 [some (.ref 4), some (.int p1), some (.int p2), some (.int p3), some (.int p4), none, none] [.null] M0 _
    refine z_xP zt57 2 28 [some (.ref 4), some (.int p1), some (.int p2), some (.int p3), some (.int p4), some (.null), none] [] rfl rfl ?_
    refine z_xP zt57 9 29 [some (.ref 4), some (.int p1), some (.int p2), some (.int p3), some (.int p4), some (.null), none] [.int (-1)] rfl rfl ?_
    have qm1 : (((-1) : Int32)).toInt = (-1) := rfl
    obtain ⟨x2, h3, h4, h5⟩ := z_W.fi X.1 f4 (k := 3) (lo := 0) (hi := 8) (by decide) rfl
    have qm1 : (((-1) : Int32)).toInt = (-1) := rfl
    exact z_xri zt57 10 rfl zzr57 (kk (-1) M0 X (by omega) (by omega) (z_qB0 h3 (by omega) (by omega) z_ke.refl))
  refine z_xP zt35 2 6 [some (.ref 4), some (.int p1)] [.ref 4, .int p1] rfl rfl ?_
  refine z_xgI zt35 3 rfl zo35 zzf0_59 X f4 (by decide) (by decide) rfl (fun (x7 : Int32) h6 (h8 : 0 ≤ x7.toInt) (h9 : x7.toInt ≤ 8) => ?_)
  have h10 := z_b32 p1
  refine z_xJ zt35 4 rfl rfl (fun (h11 : p1.toInt < x7.toInt) => ?_) (fun (h11 : x7.toInt ≤ p1.toInt) => ?_)
  · skip
    refine z_xP zt35 6 17 [some (.ref 4), some (.int p1)] [.ref 4] rfl rfl ?_
    refine z_xgX (b := 10) zt35 7 rfl zo35 zzf0_18 X f4 (by decide) (by decide) rfl ?_
    refine z_xP zt35 8 21 [some (.ref 4), some (.int p1)] [.int p1, .ref 10] rfl rfl ?_
    have f10 : T[10]? = some (.inr (10, 2, 8, 9, 0)) := X.1.k rfl (by decide)
    refine z_xal zt35 9 rfl X f10 (by decide) (by decide) (by decide) (by omega) (by omega) (fun (a12 : Nat) h13 h14 => ?_) (fun h15 => absurd h15 (z_Gs (hG.go X (by decide)).2.1 h6 (by omega) (by omega)))
    obtain ⟨q16, t17, m18, k19⟩ : ∃ q t m, T[a12]? = some (.inl (3, q, t, m, 9)) := h14
    have g20 := X.1.p3 k19
    refine z_xra zt35 10 rfl zzr35 ?_
    show z_ev (d + 3) 57 5 [some (.ref 4), some (.int p1), some (.int p2), some (.int p3), some (.int p4), none, none] [.ref a12] M0 _
    refine z_xP zt57 2 12 [some (.ref 4), some (.int p1), some (.int p2), some (.int p3), some (.int p4), some (.ref a12), none] [] rfl rfl ?_
    refine z_xP zt57 3 15 [some (.ref 4), some (.int p1), some (.int p2), some (.int p3), some (.int p4), some (.ref a12), none] [.int p2, .ref a12] rfl rfl ?_
    refine z_xcV (vs := [.ref a12, .int p2]) (r := []) (L2 := [some (.ref a12), some (.int p2)]) zt57 4 rfl zo57 zzcV0_142 (Or.inl rfl) rfl X k19 rfl rfl rfl (Nat.le_of_ble_eq_true rfl) zzm56 (Nat.le_of_ble_eq_true rfl) rfl ?_
    refine z_xP zt56 0 1 [some (.ref a12), some (.int p2)] [.int p2] rfl rfl ?_
    refine z_xZ zt56 1 rfl rfl (fun (h21 : p2.toInt < 0) => ?_) (fun (h21 : 0 ≤ p2.toInt) => ?_)
    · skip
      refine z_xP zt56 6 17 [some (.ref a12), some (.int p2)] [.int 0] rfl rfl ?_
      refine z_xrz zt56 7 rfl zzr56 (by decide) (by decide) ?_
      show z_ev (d + 3) 57 18 [some (.ref 4), some (.int p1), some (.int p2), some (.int p3), some (.int p4), some (.ref a12), none] [.int 0] M0 _
      refine z_xZ zt57 5 rfl rfl (fun (h22 : (0 : Int) = 0) => ?_) (fun (h22 : (0 : Int) ≠ 0) => absurd h22 (by omega))
      refine z_xP zt57 9 29 [some (.ref 4), some (.int p1), some (.int p2), some (.int p3), some (.int p4), some (.ref a12), none] [.int (-1)] rfl rfl ?_
      have qm1 : (((-1) : Int32)).toInt = (-1) := rfl
      obtain ⟨N23, pr24, en25, B26, hAB27⟩ := hR6.at2 h6 (by omega) (by omega) h13 k19
      obtain ⟨x28, h29, h30, h31⟩ := z_W.fi X.1 k19 (k := 4) (lo := 0) (hi := (9 : Int)) (by decide) rfl
      have qm1 : (((-1) : Int32)).toInt = (-1) := rfl
      exact z_xri zt57 10 rfl zzr57 (kk (-1) M0 X (by omega) (by omega) (z_qB1 h6 ⟨by omega, by omega⟩ hAB27 ⟨_, h29, (Or.inl ⟨by omega, (fun h => by omega), z_ke.refl⟩)⟩))
    refine z_xP zt56 2 6 [some (.ref a12), some (.int p2)] [.ref a12, .int p2] rfl rfl ?_
    refine z_xgI zt56 3 rfl zo56 zzf3_53 X k19 (by decide) (by decide) rfl (fun (x33 : Int32) h32 (h34 : 0 ≤ x33.toInt) (h35 : x33.toInt ≤ (9 : Int)) => ?_)
    have h36 := z_b32 p2
    refine z_xJ zt56 4 rfl rfl (fun (h37 : x33.toInt ≤ p2.toInt) => ?_) (fun (h37 : p2.toInt < x33.toInt) => ?_)
    · skip
      refine z_xP zt56 6 17 [some (.ref a12), some (.int p2)] [.int 0] rfl rfl ?_
      refine z_xrz zt56 7 rfl zzr56 (by decide) (by decide) ?_
      show z_ev (d + 3) 57 18 [some (.ref 4), some (.int p1), some (.int p2), some (.int p3), some (.int p4), some (.ref a12), none] [.int 0] M0 _
      refine z_xZ zt57 5 rfl rfl (fun (h38 : (0 : Int) = 0) => ?_) (fun (h38 : (0 : Int) ≠ 0) => absurd h38 (by omega))
      refine z_xP zt57 9 29 [some (.ref 4), some (.int p1), some (.int p2), some (.int p3), some (.int p4), some (.ref a12), none] [.int (-1)] rfl rfl ?_
      have qm1 : (((-1) : Int32)).toInt = (-1) := rfl
      obtain ⟨N39, pr40, en41, B42, hAB43⟩ := hR6.at2 h6 (by omega) (by omega) h13 k19
      have qm1 : (((-1) : Int32)).toInt = (-1) := rfl
      exact z_xri zt57 10 rfl zzr57 (kk (-1) M0 X (by omega) (by omega) (z_qB1 h6 ⟨by omega, by omega⟩ hAB43 ⟨_, h32, (Or.inl ⟨by omega, (fun h => by omega), z_ke.refl⟩)⟩))
    refine z_xP zt56 5 17 [some (.ref a12), some (.int p2)] [.int 1] rfl rfl ?_
    refine z_xrz zt56 7 rfl zzr56 (by decide) (by decide) ?_
    show z_ev (d + 3) 57 18 [some (.ref 4), some (.int p1), some (.int p2), some (.int p3), some (.int p4), some (.ref a12), none] [.int 1] M0 _
    refine z_xZ zt57 5 rfl rfl (fun (h44 : (1 : Int) = 0) => absurd h44 (by omega)) (fun (h44 : (1 : Int) ≠ 0) => ?_)
    refine z_xP zt57 6 22 [some (.ref 4), some (.int p1), some (.int p2), some (.int p3), some (.int p4), some (.ref a12), none] [.int p3] rfl rfl ?_
    refine z_xcS (vs := [.int p3]) (r := []) (L2 := [some (.int p3)]) zt57 7 rfl zo57 zzcS0_148 (Or.inl rfl) (Nat.le_of_ble_eq_true rfl) rfl rfl (Nat.le_of_ble_eq_true rfl) zzm58 (Nat.le_of_ble_eq_true rfl) rfl ?_
    refine z_xP zt58 0 1 [some (.int p3)] [.int p3] rfl rfl ?_
    refine z_xZ zt58 1 rfl rfl (fun (h45 : p3.toInt < 0) => ?_) (fun (h45 : 0 ≤ p3.toInt) => ?_)
    · skip
      refine z_xP zt58 5 15 [some (.int p3)] [.int 0] rfl rfl ?_
      refine z_xrz zt58 6 rfl zzr58 (by decide) (by decide) ?_
      show z_ev (d + 3) 57 25 [some (.ref 4), some (.int p1), some (.int p2), some (.int p3), some (.int p4), some (.ref a12), none] [.int 0] M0 _
      refine z_xZ zt57 8 rfl rfl (fun (h46 : (0 : Int) ≠ 0) => absurd h46 (by omega)) (fun (h46 : (0 : Int) = 0) => ?_)
      refine z_xP zt57 9 29 [some (.ref 4), some (.int p1), some (.int p2), some (.int p3), some (.int p4), some (.ref a12), none] [.int (-1)] rfl rfl ?_
      have qm1 : (((-1) : Int32)).toInt = (-1) := rfl
      obtain ⟨N47, pr48, en49, B50, hAB51⟩ := hR6.at2 h6 (by omega) (by omega) h13 k19
      have qm1 : (((-1) : Int32)).toInt = (-1) := rfl
      exact z_xri zt57 10 rfl zzr57 (kk (-1) M0 X (by omega) (by omega) (z_qB1 h6 ⟨by omega, by omega⟩ hAB51 ⟨_, h32, (Or.inl ⟨by omega, (fun h => by omega), z_ke.refl⟩)⟩))
    refine z_xP zt58 2 7 [some (.int p3)] [.int 6, .int p3] rfl rfl ?_
    refine z_xJ zt58 3 rfl rfl (fun (h52 : 6 ≤ p3.toInt) => ?_) (fun (h52 : p3.toInt < 6) => ?_)
    · skip
      refine z_xP zt58 5 15 [some (.int p3)] [.int 0] rfl rfl ?_
      refine z_xrz zt58 6 rfl zzr58 (by decide) (by decide) ?_
      show z_ev (d + 3) 57 25 [some (.ref 4), some (.int p1), some (.int p2), some (.int p3), some (.int p4), some (.ref a12), none] [.int 0] M0 _
      refine z_xZ zt57 8 rfl rfl (fun (h53 : (0 : Int) ≠ 0) => absurd h53 (by omega)) (fun (h53 : (0 : Int) = 0) => ?_)
      refine z_xP zt57 9 29 [some (.ref 4), some (.int p1), some (.int p2), some (.int p3), some (.int p4), some (.ref a12), none] [.int (-1)] rfl rfl ?_
      have qm1 : (((-1) : Int32)).toInt = (-1) := rfl
      obtain ⟨N54, pr55, en56, B57, hAB58⟩ := hR6.at2 h6 (by omega) (by omega) h13 k19
      have qm1 : (((-1) : Int32)).toInt = (-1) := rfl
      exact z_xri zt57 10 rfl zzr57 (kk (-1) M0 X (by omega) (by omega) (z_qB1 h6 ⟨by omega, by omega⟩ hAB58 ⟨_, h32, (Or.inl ⟨by omega, (fun h => by omega), z_ke.refl⟩)⟩))
    refine z_xP zt58 4 15 [some (.int p3)] [.int 1] rfl rfl ?_
    refine z_xrz zt58 6 rfl zzr58 (by decide) (by decide) ?_
    show z_ev (d + 3) 57 25 [some (.ref 4), some (.int p1), some (.int p2), some (.int p3), some (.int p4), some (.ref a12), none] [.int 1] M0 _
    refine z_xZ zt57 8 rfl rfl (fun (h59 : (1 : Int) ≠ 0) => ?_) (fun (h59 : (1 : Int) = 0) => absurd h59 (by omega))
    refine z_xP zt57 11 31 [some (.ref 4), some (.int p1), some (.int p2), some (.int p3), some (.int p4), some (.ref a12), none] [.ref 4] rfl rfl ?_
    refine z_xgX (b := 14) zt57 12 rfl zo57 zzf0_35 X f4 (by decide) (by decide) rfl ?_
    refine z_xP zt57 13 35 [some (.ref 4), some (.int p1), some (.int p2), some (.int p3), some (.int p4), some (.ref a12), none] [.int p3, .ref 14] rfl rfl ?_
    have f14 : T[14]? = some (.inr (14, 0, 6, (-1), 5)) := X.1.k rfl (by decide)
    refine z_xil zt57 14 rfl X f14 (by decide) (by omega) (by omega) (fun (x60 : Int32) h61 (h62 : (-1) ≤ x60.toInt) (h63 : x60.toInt ≤ 5) => ?_)
    refine z_xP zt57 15 37 [some (.ref 4), some (.int p1), some (.int p2), some (.int p3), some (.int p4), some (.ref a12), none] [.int (-1), .int x60] rfl rfl ?_
    refine z_xJ zt57 16 rfl rfl (fun (h64 : x60.toInt = (-1)) => ?_) (fun (h64 : x60.toInt ≠ (-1)) => ?_)
    · skip
      refine z_xP zt57 25 59 [some (.ref 4), some (.int p1), some (.int p2), some (.int p3), some (.int p4), some (.ref a12), none] [.ref a12, .int p4, .int p3, .ref 4] rfl rfl ?_
      refine z_xgR (κ := .inl (2, q16, t17, m18, 0)) zt57 26 rfl zo57 zzf0_89 X k19 (by decide) (by decide) rfl (fun (a66 : Nat) h65 k67 => ?_)
      have g68 := X.1.p2 k67
      refine z_xgI zt57 27 rfl zo57 zzf0_93 X k67 (by decide) (by decide) rfl (fun (x70 : Int32) h69 (h71 : (q16 : Int) ≤ x70.toInt) (h72 : x70.toInt ≤ (q16 : Int)) => ?_)
      refine z_xcV (vs := [.ref 4, .int p3, .int p4, .int x70]) (r := []) (L2 := [some (.ref 4), some (.int p3), some (.int p4), some (.int x70), none, none, none]) zt57 28 rfl zo57 zzcV0_151 (Or.inl rfl) rfl X f4 rfl rfl rfl (Nat.le_of_ble_eq_true rfl) zzm59 (Nat.le_of_ble_eq_true rfl) rfl ?_
      obtain ⟨pr79, en80, B81, hAB82⟩ := hR6.at h6 (by omega) (by omega) h13 k19 h65
      refine zUC59 X.1 (by omega) (by omega) (fun x76 M73 X74 h77 h78 h75 => ?_)
      have X83 := X.go X74 (z_sb (by decide))
      show z_ev (d + 3) 57 68 [some (.ref 4), some (.int p1), some (.int p2), some (.int p3), some (.int p4), some (.ref a12), none] [.int x76] M73 _
      refine z_xP zt57 29 72 [some (.ref 4), some (.int p1), some (.int p2), some (.int p3), some (.int p4), some (.ref a12), some (.int x76)] [.ref a12] rfl rfl ?_
      have h85 := (X74.2.f k19 (by decide) h65)
      refine z_xgv zt57 30 rfl zo57 zzf0_89 X83 k19 (by decide) h85 ?_
      refine z_xP zt57 31 77 [some (.ref 4), some (.int p1), some (.int p2), some (.int p3), some (.int p4), some (.ref a12), some (.int x76)] [.int x76, .ref a66] rfl rfl ?_
      refine z_xcV (vs := [.ref a66, .int x76]) (r := []) (L2 := [some (.ref a66), some (.int x76), none]) zt57 32 rfl zo57 zzcV0_126 (Or.inl rfl) rfl X83 k67 rfl rfl rfl (Nat.le_of_ble_eq_true rfl) zzm44 (Nat.le_of_ble_eq_true rfl) rfl ?_
      have hr86 : z_rdS (fun n => z_Lg M0 16 (60 * p3.toNatClampNeg + n)) (if (z_Ar M0 14 p3.toNatClampNeg).toInt = 4 then (z_Ar M0 15 p3.toNatClampNeg).toInt else 0) p4.toInt q16 x76.toInt := by have h := h75; rw [show x70.toInt.toNat = q16 from by omega] at h; exact h
      refine zUC44 X83.1 k67 (hAB82.2.2.2.1.ke (fun _ _ h => h) X83.2 rfl) (show x76.toInt = ((x76.toInt.toNat % 1024 : Nat) : Int) + 1024 * ((x76.toInt.toNat / 1024 : Nat) : Int) ∧ x76.toInt.toNat % 1024 < 1024 ∧ x76.toInt.toNat / 1024 < 1024 from ⟨by omega, by omega, by omega⟩) (hr86.lt (by omega)) (fun x90 M87 X88 h91 h92 h89 => ?_)
      have X93 := X83.go X88 (z_sb (by decide))
      show z_ev (d + 3) 57 80 [some (.ref 4), some (.int p1), some (.int p2), some (.int p3), some (.int p4), some (.ref a12), some (.int x76)] [.int x90] M87 _
      refine z_xZ zt57 33 rfl rfl (fun (h95 : x90.toInt ≠ 0) => ?_) (fun (h95 : x90.toInt = 0) => ?_)
      · skip
        refine z_xP zt57 36 94 [some (.ref 4), some (.int p1), some (.int p2), some (.int p3), some (.int p4), some (.ref a12), some (.int x76)] [.int 1023, .int x76, .int p2, .ref a12] rfl rfl ?_
        refine z_xI zt57 37 rfl rfl (fun (x96 : Int32) (h97 : x96 = x76 &&& (1023 : Int32) ∧ 0 ≤ x96.toInt ∧ x96.toInt ≤ x76.toInt ∧ x96.toInt ≤ 1023) => ?_) (⟨rfl, z_pAnd2 rfl rfl (by omega) (by omega)⟩)
        refine z_xP zt57 38 99 [some (.ref 4), some (.int p1), some (.int p2), some (.int p3), some (.int p4), some (.ref a12), some (.int x76)] [.int 10, .int x76, .int x96, .int p2, .ref a12] rfl rfl ?_
        refine z_xI zt57 39 rfl rfl (fun (x98 : Int32) (h99 : x98 = x76 >>> ((10 : Int32) &&& 31) ∧ x98.toInt = x76.toInt / 1024) => ?_) (⟨rfl, z_pShr (c := 1024) 10 rfl rfl (by decide)⟩)
        refine z_xcV (vs := [.ref a12, .int p2, .int x96, .int x98]) (r := []) (L2 := [some (.ref a12), some (.int p2), some (.int x96), some (.int x98), none, none, none, none]) zt57 40 rfl zo57 zzcV0_145 (Or.inl rfl) rfl X93 k19 rfl rfl rfl (Nat.le_of_ble_eq_true rfl) zzm54 (Nat.le_of_ble_eq_true rfl) rfl ?_
        have h100 := (X88.2.f k19 (by decide) (X74.2.f k19 (by decide) h32))
        refine z_ev.told (fun w => w = a12) (hbk.ke X93.2 (by decide)) X93.1 (z_qLc (z_rvr (z_pb.ben k19 rfl)) (z_qLc z_rvi (z_qLc z_rvi (z_qLc z_rvi (z_qLn (z_qLn (z_qLn (z_qLn z_qL0)))))))) z_qS0 ?_
        refine zUC54 X93.1 k19 (by omega) X93.1 (hbk.ke X93.2 (by decide)) (z_LN.ke (rs := []) (hR8 _ _ _ _ k19) hbk hW0 k19 ((z_ke.refl.trans X74.2 (z_sb (by decide))).trans X88.2 (z_sb (by decide))) rfl) h100 (by omega) (fun M101 X102 h103 h104 => ?_)
        intro ho105
        have X106 := X93.go X102 (z_sb (by decide))
        show z_ev (d + 3) 57 103 [some (.ref 4), some (.int p1), some (.int p2), some (.int p3), some (.int p4), some (.ref a12), some (.int x76)] [] M101 _
        refine z_xP zt57 41 105 [some (.ref 4), some (.int p1), some (.int p2), some (.int p3), some (.int p4), some (.ref a12), some (.int x76)] [.int x76] rfl rfl ?_
        refine z_xcS (vs := [.int x76]) (r := []) (L2 := [some (.int x76)]) zt57 42 rfl zo57 zzcS0_155 (Or.inl rfl) (Nat.le_of_ble_eq_true rfl) rfl rfl (Nat.le_of_ble_eq_true rfl) zzm31 (Nat.le_of_ble_eq_true rfl) rfl ?_
        refine zUC31 X106.1 (by omega) (fun x111 M108 X109 h112 h113 h110 => ?_)
        have X114 := X106.go X109 (z_sb (by decide))
        show z_ev (d + 3) 57 108 [some (.ref 4), some (.int p1), some (.int p2), some (.int p3), some (.int p4), some (.ref a12), some (.int x76)] [.int x111] M108 _
        have h116 := (X109.2.f k19 (by decide) (X102.2.f k19 (by decide) h100))
        have hy117 := z_a1023 h97.1 (by omega)
        exact z_xri zt57 43 rfl zzr57 (kk x111 M108 X114 (by omega) (by omega) (z_qB1 h6 ⟨by omega, by omega⟩ hAB82 ⟨_, ((X74.2.1 a12 3 _ _ _ 9 4 k19 (by decide)).symm.trans ((X88.2.1 a12 3 _ _ _ 9 4 k19 (by decide)).symm.trans ((X102.2.1 a12 3 _ _ _ 9 4 k19 (by decide)).symm.trans ((X109.2.1 a12 3 _ _ _ 9 4 k19 (by decide)).symm.trans h116)))), (Or.inr ⟨⟨by omega, by omega, by omega, by omega⟩, Or.inr ⟨(by rw [h61]; omega), x76, hr86, Or.inr ⟨z_or1 h89 (by omega), h110, ((((z_oth.refl.trans (z_oth.ke hbk hW0 X74.2 (by decide) (by decide))).trans (z_oth.ke hbk hW0 X88.2 (by decide) (by decide))).trans ho105).trans (z_oth.ke hbk hW0 X109.2 (by decide) (by decide))), ((X109.2.1 a12 3 _ _ _ 9 4 k19 (by decide)).trans ((X102.2.1 a12 3 _ _ _ 9 4 k19 (by decide)).trans ((X88.2.1 a12 3 _ _ _ 9 4 k19 (by decide)).trans (X74.2.1 a12 3 _ _ _ 9 4 k19 (by decide))))), ((X109.2.a (hbk.k1 hW0 k19) (by decide)).trans ((X102.2.a (hbk.k1 hW0 k19) (by decide)).trans ((X88.2.a (hbk.k1 hW0 k19) (by decide)).trans (X74.2.a (hbk.k1 hW0 k19) (by decide))))), (z_LN.ke (rs := []) h104 hbk hW0 k19 (z_ke.refl.trans X109.2 (z_sb (by decide))) rfl), x96, x98, by omega, by omega, z_alt.post (rs := []) hbk hW0 k19 (z_alt.pre (rs := []) hbk hW0 k19 ((z_ke.refl.trans X74.2 (z_sb (by decide))).trans X88.2 (z_sb (by decide))) h103 rfl) (z_ke.refl.trans X109.2 (z_sb (by decide)))⟩⟩⟩)⟩))
      refine z_xP zt57 34 85 [some (.ref 4), some (.int p1), some (.int p2), some (.int p3), some (.int p4), some (.ref a12), some (.int x76)] [.int (-2)] rfl rfl ?_
      have qm2 : (((-2) : Int32)).toInt = (-2) := rfl
      have h118 := (X88.2.f k19 (by decide) (X74.2.f k19 (by decide) h32))
      have qm2 : (((-2) : Int32)).toInt = (-2) := rfl
      exact z_xri zt57 35 rfl zzr57 (kk (-2) M87 X93 (by omega) (by omega) (z_qB1 h6 ⟨by omega, by omega⟩ hAB82 ⟨_, ((X74.2.1 a12 3 _ _ _ 9 4 k19 (by decide)).symm.trans ((X88.2.1 a12 3 _ _ _ 9 4 k19 (by decide)).symm.trans h118)), (Or.inr ⟨⟨by omega, by omega, by omega, by omega⟩, Or.inr ⟨(by rw [h61]; omega), x76, hr86, Or.inl ⟨by omega, z_orn h89 (by omega), ((z_ke.refl.trans X74.2 (z_sb (by decide))).trans X88.2 (z_sb (by decide)))⟩⟩⟩)⟩))
    refine z_xP zt57 17 41 [some (.ref 4), some (.int p1), some (.int p2), some (.int p3), some (.int p4), some (.ref a12), none] [.ref 4] rfl rfl ?_
    refine z_xgX (b := 14) zt57 18 rfl zo57 zzf0_35 X f4 (by decide) (by decide) rfl ?_
    refine z_xP zt57 19 45 [some (.ref 4), some (.int p1), some (.int p2), some (.int p3), some (.int p4), some (.ref a12), none] [.int p3, .ref 14] rfl rfl ?_
    refine z_xil zt57 20 rfl X f14 (by decide) (by omega) (by omega) (fun (x119 : Int32) h120 (h121 : (-1) ≤ x119.toInt) (h122 : x119.toInt ≤ 5) => ?_)
    have h123 := congrArg Int32.toInt (h120.symm.trans h61)
    refine z_xP zt57 21 47 [some (.ref 4), some (.int p1), some (.int p2), some (.int p3), some (.int p4), some (.ref a12), none] [.int 4, .int x119] rfl rfl ?_
    refine z_xJ zt57 22 rfl rfl (fun (h124 : x119.toInt = 4) => ?_) (fun (h124 : x119.toInt ≠ 4) => ?_)
    · skip
      refine z_xP zt57 25 59 [some (.ref 4), some (.int p1), some (.int p2), some (.int p3), some (.int p4), some (.ref a12), none] [.ref a12, .int p4, .int p3, .ref 4] rfl rfl ?_
      refine z_xgR (κ := .inl (2, q16, t17, m18, 0)) zt57 26 rfl zo57 zzf0_89 X k19 (by decide) (by decide) rfl (fun (a126 : Nat) h125 k127 => ?_)
      have g128 := X.1.p2 k127
      refine z_xgI zt57 27 rfl zo57 zzf0_93 X k127 (by decide) (by decide) rfl (fun (x130 : Int32) h129 (h131 : (q16 : Int) ≤ x130.toInt) (h132 : x130.toInt ≤ (q16 : Int)) => ?_)
      refine z_xcV (vs := [.ref 4, .int p3, .int p4, .int x130]) (r := []) (L2 := [some (.ref 4), some (.int p3), some (.int p4), some (.int x130), none, none, none]) zt57 28 rfl zo57 zzcV0_151 (Or.inl rfl) rfl X f4 rfl rfl rfl (Nat.le_of_ble_eq_true rfl) zzm59 (Nat.le_of_ble_eq_true rfl) rfl ?_
      obtain ⟨pr139, en140, B141, hAB142⟩ := hR6.at h6 (by omega) (by omega) h13 k19 h125
      refine zUC59 X.1 (by omega) (by omega) (fun x136 M133 X134 h137 h138 h135 => ?_)
      have X143 := X.go X134 (z_sb (by decide))
      show z_ev (d + 3) 57 68 [some (.ref 4), some (.int p1), some (.int p2), some (.int p3), some (.int p4), some (.ref a12), none] [.int x136] M133 _
      refine z_xP zt57 29 72 [some (.ref 4), some (.int p1), some (.int p2), some (.int p3), some (.int p4), some (.ref a12), some (.int x136)] [.ref a12] rfl rfl ?_
      have h145 := (X134.2.f k19 (by decide) h125)
      refine z_xgv zt57 30 rfl zo57 zzf0_89 X143 k19 (by decide) h145 ?_
      refine z_xP zt57 31 77 [some (.ref 4), some (.int p1), some (.int p2), some (.int p3), some (.int p4), some (.ref a12), some (.int x136)] [.int x136, .ref a126] rfl rfl ?_
      refine z_xcV (vs := [.ref a126, .int x136]) (r := []) (L2 := [some (.ref a126), some (.int x136), none]) zt57 32 rfl zo57 zzcV0_126 (Or.inl rfl) rfl X143 k127 rfl rfl rfl (Nat.le_of_ble_eq_true rfl) zzm44 (Nat.le_of_ble_eq_true rfl) rfl ?_
      have hr146 : z_rdS (fun n => z_Lg M0 16 (60 * p3.toNatClampNeg + n)) (if (z_Ar M0 14 p3.toNatClampNeg).toInt = 4 then (z_Ar M0 15 p3.toNatClampNeg).toInt else 0) p4.toInt q16 x136.toInt := by have h := h135; rw [show x130.toInt.toNat = q16 from by omega] at h; exact h
      refine zUC44 X143.1 k127 (hAB142.2.2.2.1.ke (fun _ _ h => h) X143.2 rfl) (show x136.toInt = ((x136.toInt.toNat % 1024 : Nat) : Int) + 1024 * ((x136.toInt.toNat / 1024 : Nat) : Int) ∧ x136.toInt.toNat % 1024 < 1024 ∧ x136.toInt.toNat / 1024 < 1024 from ⟨by omega, by omega, by omega⟩) (hr146.lt (by omega)) (fun x150 M147 X148 h151 h152 h149 => ?_)
      have X153 := X143.go X148 (z_sb (by decide))
      show z_ev (d + 3) 57 80 [some (.ref 4), some (.int p1), some (.int p2), some (.int p3), some (.int p4), some (.ref a12), some (.int x136)] [.int x150] M147 _
      refine z_xZ zt57 33 rfl rfl (fun (h155 : x150.toInt ≠ 0) => ?_) (fun (h155 : x150.toInt = 0) => ?_)
      · skip
        refine z_xP zt57 36 94 [some (.ref 4), some (.int p1), some (.int p2), some (.int p3), some (.int p4), some (.ref a12), some (.int x136)] [.int 1023, .int x136, .int p2, .ref a12] rfl rfl ?_
        refine z_xI zt57 37 rfl rfl (fun (x156 : Int32) (h157 : x156 = x136 &&& (1023 : Int32) ∧ 0 ≤ x156.toInt ∧ x156.toInt ≤ x136.toInt ∧ x156.toInt ≤ 1023) => ?_) (⟨rfl, z_pAnd2 rfl rfl (by omega) (by omega)⟩)
        refine z_xP zt57 38 99 [some (.ref 4), some (.int p1), some (.int p2), some (.int p3), some (.int p4), some (.ref a12), some (.int x136)] [.int 10, .int x136, .int x156, .int p2, .ref a12] rfl rfl ?_
        refine z_xI zt57 39 rfl rfl (fun (x158 : Int32) (h159 : x158 = x136 >>> ((10 : Int32) &&& 31) ∧ x158.toInt = x136.toInt / 1024) => ?_) (⟨rfl, z_pShr (c := 1024) 10 rfl rfl (by decide)⟩)
        refine z_xcV (vs := [.ref a12, .int p2, .int x156, .int x158]) (r := []) (L2 := [some (.ref a12), some (.int p2), some (.int x156), some (.int x158), none, none, none, none]) zt57 40 rfl zo57 zzcV0_145 (Or.inl rfl) rfl X153 k19 rfl rfl rfl (Nat.le_of_ble_eq_true rfl) zzm54 (Nat.le_of_ble_eq_true rfl) rfl ?_
        have h160 := (X148.2.f k19 (by decide) (X134.2.f k19 (by decide) h32))
        refine z_ev.told (fun w => w = a12) (hbk.ke X153.2 (by decide)) X153.1 (z_qLc (z_rvr (z_pb.ben k19 rfl)) (z_qLc z_rvi (z_qLc z_rvi (z_qLc z_rvi (z_qLn (z_qLn (z_qLn (z_qLn z_qL0)))))))) z_qS0 ?_
        refine zUC54 X153.1 k19 (by omega) X153.1 (hbk.ke X153.2 (by decide)) (z_LN.ke (rs := []) (hR8 _ _ _ _ k19) hbk hW0 k19 ((z_ke.refl.trans X134.2 (z_sb (by decide))).trans X148.2 (z_sb (by decide))) rfl) h160 (by omega) (fun M161 X162 h163 h164 => ?_)
        intro ho165
        have X166 := X153.go X162 (z_sb (by decide))
        show z_ev (d + 3) 57 103 [some (.ref 4), some (.int p1), some (.int p2), some (.int p3), some (.int p4), some (.ref a12), some (.int x136)] [] M161 _
        refine z_xP zt57 41 105 [some (.ref 4), some (.int p1), some (.int p2), some (.int p3), some (.int p4), some (.ref a12), some (.int x136)] [.int x136] rfl rfl ?_
        refine z_xcS (vs := [.int x136]) (r := []) (L2 := [some (.int x136)]) zt57 42 rfl zo57 zzcS0_155 (Or.inl rfl) (Nat.le_of_ble_eq_true rfl) rfl rfl (Nat.le_of_ble_eq_true rfl) zzm31 (Nat.le_of_ble_eq_true rfl) rfl ?_
        refine zUC31 X166.1 (by omega) (fun x171 M168 X169 h172 h173 h170 => ?_)
        have X174 := X166.go X169 (z_sb (by decide))
        show z_ev (d + 3) 57 108 [some (.ref 4), some (.int p1), some (.int p2), some (.int p3), some (.int p4), some (.ref a12), some (.int x136)] [.int x171] M168 _
        have h176 := (X169.2.f k19 (by decide) (X162.2.f k19 (by decide) h160))
        have hy177 := z_a1023 h157.1 (by omega)
        exact z_xri zt57 43 rfl zzr57 (kk x171 M168 X174 (by omega) (by omega) (z_qB1 h6 ⟨by omega, by omega⟩ hAB142 ⟨_, ((X134.2.1 a12 3 _ _ _ 9 4 k19 (by decide)).symm.trans ((X148.2.1 a12 3 _ _ _ 9 4 k19 (by decide)).symm.trans ((X162.2.1 a12 3 _ _ _ 9 4 k19 (by decide)).symm.trans ((X169.2.1 a12 3 _ _ _ 9 4 k19 (by decide)).symm.trans h176)))), (Or.inr ⟨⟨by omega, by omega, by omega, by omega⟩, Or.inr ⟨(by rw [h61]; omega), x136, hr146, Or.inr ⟨z_or1 h149 (by omega), h170, ((((z_oth.refl.trans (z_oth.ke hbk hW0 X134.2 (by decide) (by decide))).trans (z_oth.ke hbk hW0 X148.2 (by decide) (by decide))).trans ho165).trans (z_oth.ke hbk hW0 X169.2 (by decide) (by decide))), ((X169.2.1 a12 3 _ _ _ 9 4 k19 (by decide)).trans ((X162.2.1 a12 3 _ _ _ 9 4 k19 (by decide)).trans ((X148.2.1 a12 3 _ _ _ 9 4 k19 (by decide)).trans (X134.2.1 a12 3 _ _ _ 9 4 k19 (by decide))))), ((X169.2.a (hbk.k1 hW0 k19) (by decide)).trans ((X162.2.a (hbk.k1 hW0 k19) (by decide)).trans ((X148.2.a (hbk.k1 hW0 k19) (by decide)).trans (X134.2.a (hbk.k1 hW0 k19) (by decide))))), (z_LN.ke (rs := []) h164 hbk hW0 k19 (z_ke.refl.trans X169.2 (z_sb (by decide))) rfl), x156, x158, by omega, by omega, z_alt.post (rs := []) hbk hW0 k19 (z_alt.pre (rs := []) hbk hW0 k19 ((z_ke.refl.trans X134.2 (z_sb (by decide))).trans X148.2 (z_sb (by decide))) h163 rfl) (z_ke.refl.trans X169.2 (z_sb (by decide)))⟩⟩⟩)⟩))
      refine z_xP zt57 34 85 [some (.ref 4), some (.int p1), some (.int p2), some (.int p3), some (.int p4), some (.ref a12), some (.int x136)] [.int (-2)] rfl rfl ?_
      have qm2 : (((-2) : Int32)).toInt = (-2) := rfl
      have h178 := (X148.2.f k19 (by decide) (X134.2.f k19 (by decide) h32))
      have qm2 : (((-2) : Int32)).toInt = (-2) := rfl
      exact z_xri zt57 35 rfl zzr57 (kk (-2) M147 X153 (by omega) (by omega) (z_qB1 h6 ⟨by omega, by omega⟩ hAB142 ⟨_, ((X134.2.1 a12 3 _ _ _ 9 4 k19 (by decide)).symm.trans ((X148.2.1 a12 3 _ _ _ 9 4 k19 (by decide)).symm.trans h178)), (Or.inr ⟨⟨by omega, by omega, by omega, by omega⟩, Or.inr ⟨(by rw [h61]; omega), x136, hr146, Or.inl ⟨by omega, z_orn h149 (by omega), ((z_ke.refl.trans X134.2 (z_sb (by decide))).trans X148.2 (z_sb (by decide)))⟩⟩⟩)⟩))
    refine z_xP zt57 23 52 [some (.ref 4), some (.int p1), some (.int p2), some (.int p3), some (.int p4), some (.ref a12), none] [.int (-12)] rfl rfl ?_
    have qm12 : (((-12) : Int32)).toInt = (-12) := rfl
    obtain ⟨N179, pr180, en181, B182, hAB183⟩ := hR6.at2 h6 (by omega) (by omega) h13 k19
    have qm12 : (((-12) : Int32)).toInt = (-12) := rfl
    exact z_xri zt57 24 rfl zzr57 (kk (-12) M0 X (by omega) (by omega) (z_qB1 h6 ⟨by omega, by omega⟩ hAB183 ⟨_, h32, (Or.inr ⟨⟨by omega, by omega, by omega, by omega⟩, Or.inl ⟨by omega, by rw [h61]; omega, by rw [h61]; omega, z_ke.refl⟩⟩)⟩))
  refine z_xP zt35 5 22 [some (.ref 4), some (.int p1)] [.null] rfl rfl ?_
  refine z_xrn zt35 10 rfl zzr35 ?_
  show z_ev (d + 3) 57 5 [some (.ref 4), some (.int p1), some (.int p2), some (.int p3), some (.int p4), none, none] [.null] M0 _
  refine z_xP zt57 2 28 [some (.ref 4), some (.int p1), some (.int p2), some (.int p3), some (.int p4), some (.null), none] [] rfl rfl ?_
  refine z_xP zt57 9 29 [some (.ref 4), some (.int p1), some (.int p2), some (.int p3), some (.int p4), some (.null), none] [.int (-1)] rfl rfl ?_
  have qm1 : (((-1) : Int32)).toInt = (-1) := rfl
  have qm1 : (((-1) : Int32)).toInt = (-1) := rfl
  exact z_xri zt57 10 rfl zzr57 (kk (-1) M0 X (by omega) (by omega) (z_qB0 h6 (by omega) (by omega) z_ke.refl))
theorem zUB224 {T : List zK} {d : Nat} {K : Option Value → zH → Prop} {p1 : Int32} {p2 : Int32} {p3 : Int32} {p4 : Int32} {M0 : zH}  (kk : ∀ (x : Int32) (M1 : zH), z_X T zw224 M0 M1 → y_qB M0 p1 x.toInt (z_ke T [] M0 M1) ((x.toInt = -1 ∧ ¬ (0 ≤ p2.toInt ∧ p2.toInt < (z_Ar M0 35 p1.toNatClampNeg).toInt ∧ 0 ≤ p3.toInt ∧ p3.toInt < 6) ∧ z_ke T [] M0 M1) ∨ ((0 ≤ p2.toInt ∧ p2.toInt < (z_Ar M0 35 p1.toNatClampNeg).toInt ∧ 0 ≤ p3.toInt ∧ p3.toInt < 6) ∧ ((x.toInt = -12 ∧ (z_Ar M0 49 p3.toNatClampNeg).toInt ≠ -1 ∧ (z_Ar M0 49 p3.toNatClampNeg).toInt ≠ 24 ∧ z_ke T [] M0 M1) ∨ (((z_Ar M0 49 p3.toNatClampNeg).toInt = -1 ∨ (z_Ar M0 49 p3.toNatClampNeg).toInt = 24) ∧ ∃ Y N : Int32, y_rdS (fun n => z_Lg M0 51 (60 * p3.toNatClampNeg + n)) (if (z_Ar M0 49 p3.toNatClampNeg).toInt = -1 then 0 else (z_Ar M0 50 p3.toNatClampNeg).toInt) p4.toInt (z_Ar M0 24 p1.toNatClampNeg).toInt.toNat Y.toInt N.toInt ∧ ((x.toInt = -2 ∧ ¬ y_cs (fun j => z_Ar M0 30 (1024 * p1.toNatClampNeg + j)) Y N (z_Ar M0 31 p1.toNatClampNeg).toInt.toNat ∧ z_ke T [] M0 M1) ∨ (y_cs (fun j => z_Ar M0 30 (1024 * p1.toNatClampNeg + j)) Y N (z_Ar M0 31 p1.toNatClampNeg).toInt.toNat ∧ x.toInt = ((z_cp (Y.toInt.toNat ||| N.toInt.toNat) 31 : Nat) : Int) ∧ y_alt M0 M1 p1 p2 Y N)))))) → K (some (.int x)) M1) : ∀ n : Nat, (∀ (M : zH) (b5 : Int32) (b6 : Int32) (b7 : Int32) (b8 : Int32) (o9 : Option Value) (o11 : Option Value) (z0 : Int32), z_X T zw224 M0 M → 0 ≤ p1.toInt ∧ p1.toInt ≤ 7 → 0 ≤ p2.toInt ∧ p2.toInt ≤ 8 → 0 ≤ p3.toInt ∧ p3.toInt ≤ 5 → 0 ≤ b5.toInt ∧ b5.toInt ≤ 1023 → 0 ≤ b6.toInt ∧ b6.toInt ≤ 1023 → 0 ≤ b7.toInt ∧ b7.toInt ≤ 1 → 0 ≤ b8.toInt ∧ b8.toInt ≤ 10 → z_Ar M 24 p1.toNatClampNeg = z0 → 0 ≤ z0.toInt ∧ z0.toInt ≤ 10 → b8.toInt ≤ z0.toInt → y_rdw (fun n => z_Lg M0 51 (60 * p3.toNatClampNeg + n)) (if (z_Ar M0 49 p3.toNatClampNeg).toInt = -1 then 0 else (z_Ar M0 50 p3.toNatClampNeg).toInt) p4.toInt b8.toInt.toNat b5.toInt b6.toInt b7.toInt → (∃ A : Int32, z_F M0 19 13 = some (.int A) ∧ 0 ≤ p1.toInt ∧ p1.toInt < A.toInt) → (0 ≤ p2.toInt ∧ p2.toInt < (z_Ar M0 35 p1.toNatClampNeg).toInt ∧ 0 ≤ p3.toInt ∧ p3.toInt < 6) → ((z_Ar M0 49 p3.toNatClampNeg).toInt = -1 ∨ (z_Ar M0 49 p3.toNatClampNeg).toInt = 24) → z_ke T [] M0 M → z_Ar M 33 = z_Ar M0 33 → z_Ar M 34 = z_Ar M0 34 → ((0) * 2 + 0) * 11 + (10 - b8.toInt) < (n : Int) → z_ev (d + 2) 224 54 [some (.ref 19), some (.int p1), some (.int p2), some (.int p3), some (.int p4), some (.int b5), some (.int b6), some (.int b7), some (.int b8), o9, none, o11] [] M K) := by
  intro n
  induction n with
  | zero => exact by intros; exfalso; omega
  | succ n ih =>
    intro M b5 b6 b7 b8 o9 o11 z0 X hh0 hh1 hh2 hh3 hh4 hh5 hh6 hp0 hh8 hh9 hI hQ hJ hT hK hW33 hW34 hE
    refine z_xP zt224 23 57 [some (.ref 19), some (.int p1), some (.int p2), some (.int p3), some (.int p4), some (.int b5), some (.int b6), some (.int b7), some (.int b8), o9, none, o11] [.ref 19, .int b8] rfl rfl ?_
    have f19 : T[19]? = some (.inl (12, 0, 0, 0, 0)) := X.1.k rfl (by decide)
    refine z_xgX (b := 24) zt224 24 rfl zo224 zzf12_22 X f19 (by decide) (by decide) rfl ?_
    refine z_xP zt224 25 61 [some (.ref 19), some (.int p1), some (.int p2), some (.int p3), some (.int p4), some (.int b5), some (.int b6), some (.int b7), some (.int b8), o9, none, o11] [.int p1, .ref 24, .int b8] rfl rfl ?_
    have f24 : T[24]? = some (.inr (24, 0, 8, 0, 10)) := X.1.k rfl (by decide)
    refine z_xil zt224 26 rfl X f24 (by decide) (by omega) (by omega) (fun (x1 : Int32) h2 (h3 : 0 ≤ x1.toInt) (h4 : x1.toInt ≤ 10) => ?_)
    have h5 := congrArg Int32.toInt (h2.symm.trans hp0)
    refine z_xJ zt224 27 rfl rfl (fun (h6 : x1.toInt ≤ b8.toInt) => ?_) (fun (h6 : b8.toInt < x1.toInt) => ?_)
    · skip
      refine z_xP zt224 91 208 [some (.ref 19), some (.int p1), some (.int p2), some (.int p3), some (.int p4), some (.int b5), some (.int b6), some (.int b7), some (.int b8), o9, none, o11] [.int b6, .int b5, .int p1, .ref 19] rfl rfl ?_
      refine z_xcV (vs := [.ref 19, .int p1, .int b5, .int b6]) (r := []) (L2 := [some (.ref 19), some (.int p1), some (.int b5), some (.int b6), none, none]) zt224 92 rfl zo224 zzcV12_222 (Or.inl rfl) rfl X f19 rfl rfl rfl (Nat.le_of_ble_eq_true rfl) zzm215 (Nat.le_of_ble_eq_true rfl) rfl ?_
      refine zUC215 X.1 (by omega) (fun x10 M7 X8 h11 h12 h9 => ?_)
      have X13 := X.go X8 (z_sb (by decide))
      show z_ev (d + 2) 224 211 [some (.ref 19), some (.int p1), some (.int p2), some (.int p3), some (.int p4), some (.int b5), some (.int b6), some (.int b7), some (.int b8), o9, none, o11] [.int x10] M7 _
      refine z_xZ zt224 93 rfl rfl (fun (h15 : x10.toInt ≠ 0) => ?_) (fun (h15 : x10.toInt = 0) => ?_)
      · skip
        refine z_xP zt224 96 218 [some (.ref 19), some (.int p1), some (.int p2), some (.int p3), some (.int p4), some (.int b5), some (.int b6), some (.int b7), some (.int b8), o9, none, o11] [.ref 19] rfl rfl ?_
        refine z_xgX (b := 33) zt224 97 rfl zo224 zzf12_49 X13 f19 (by decide) (by decide) rfl ?_
        refine z_xP zt224 98 224 [some (.ref 19), some (.int p1), some (.int p2), some (.int p3), some (.int p4), some (.int b5), some (.int b6), some (.int b7), some (.int b8), o9, none, o11] [.int p1, .int 9, .ref 33] rfl rfl ?_
        refine z_xI zt224 99 rfl rfl (fun (x16 : Int32) (h17 : x16.toInt = 9 * p1.toInt) => ?_) (z_pMul rfl rfl (by omega) (by omega))
        refine z_xP zt224 100 226 [some (.ref 19), some (.int p1), some (.int p2), some (.int p3), some (.int p4), some (.int b5), some (.int b6), some (.int b7), some (.int b8), o9, none, o11] [.int p2, .int x16, .ref 33] rfl rfl ?_
        refine z_xI zt224 101 rfl rfl (fun (x18 : Int32) (h19 : x18.toInt = x16.toInt + p2.toInt) => ?_) (z_pAdd rfl rfl (by omega) (by omega))
        refine z_xP zt224 102 229 [some (.ref 19), some (.int p1), some (.int p2), some (.int p3), some (.int p4), some (.int b5), some (.int b6), some (.int b7), some (.int b8), o9, none, o11] [.int b5, .int x18, .ref 33] rfl rfl ?_
        have f33 : T[33]? = some (.inr (33, 0, 72, (-2147483648), 2147483647)) := X13.1.k rfl (by decide)
        refine z_xis zt224 103 rfl X13 f33 (by decide) (by decide) (by omega) (by omega) (Int32.le_toInt _) (Int32.toInt_le _) (by decide) (fun M20 X21 e22 h23 => ?_)
        refine z_xP zt224 104 231 [some (.ref 19), some (.int p1), some (.int p2), some (.int p3), some (.int p4), some (.int b5), some (.int b6), some (.int b7), some (.int b8), o9, none, o11] [.ref 19] rfl rfl ?_
        refine z_xgX (b := 34) zt224 105 rfl zo224 zzf12_52 X21 f19 (by decide) (by decide) rfl ?_
        refine z_xP zt224 106 237 [some (.ref 19), some (.int p1), some (.int p2), some (.int p3), some (.int p4), some (.int b5), some (.int b6), some (.int b7), some (.int b8), o9, none, o11] [.int p1, .int 9, .ref 34] rfl rfl ?_
        refine z_xI zt224 107 rfl rfl (fun (x24 : Int32) (h25 : x24.toInt = 9 * p1.toInt) => ?_) (z_pMul rfl rfl (by omega) (by omega))
        refine z_xP zt224 108 239 [some (.ref 19), some (.int p1), some (.int p2), some (.int p3), some (.int p4), some (.int b5), some (.int b6), some (.int b7), some (.int b8), o9, none, o11] [.int p2, .int x24, .ref 34] rfl rfl ?_
        refine z_xI zt224 109 rfl rfl (fun (x26 : Int32) (h27 : x26.toInt = x24.toInt + p2.toInt) => ?_) (z_pAdd rfl rfl (by omega) (by omega))
        refine z_xP zt224 110 242 [some (.ref 19), some (.int p1), some (.int p2), some (.int p3), some (.int p4), some (.int b5), some (.int b6), some (.int b7), some (.int b8), o9, none, o11] [.int b6, .int x26, .ref 34] rfl rfl ?_
        have f34 : T[34]? = some (.inr (34, 0, 72, (-2147483648), 2147483647)) := X21.1.k rfl (by decide)
        refine z_xis zt224 111 rfl X21 f34 (by decide) (by decide) (by omega) (by omega) (Int32.le_toInt _) (Int32.toInt_le _) (by decide) (fun M28 X29 e30 h31 => ?_)
        refine z_xP zt224 112 247 [some (.ref 19), some (.int p1), some (.int p2), some (.int p3), some (.int p4), some (.int b5), some (.int b6), some (.int b7), some (.int b8), o9, none, o11] [.int b6, .int b5] rfl rfl ?_
        refine z_xI zt224 113 rfl rfl (fun (x32 : Int32) (h33 : x32 = b5 ||| b6 ∧ 0 ≤ x32.toInt ∧ x32.toInt < 1024 ∧ b5.toInt ≤ x32.toInt ∧ b6.toInt ≤ x32.toInt) => ?_) (⟨rfl, z_pOr 10 rfl rfl (by omega) (by omega) (by decide) (by omega) (by omega) (by decide)⟩)
        refine z_xcS (vs := [.int x32]) (r := []) (L2 := [some (.int x32), none, none]) zt224 114 rfl zo224 zzcS12_193 (Or.inl rfl) (Nat.le_of_ble_eq_true rfl) rfl rfl (Nat.le_of_ble_eq_true rfl) zzm207 (Nat.le_of_ble_eq_true rfl) rfl ?_
        refine zUC207 X29.1 (by omega) (fun x37 M34 X35 h36 => ?_)
        have X38 := X29.go X35 (z_sb (by decide))
        show z_ev (d + 2) 224 251 [some (.ref 19), some (.int p1), some (.int p2), some (.int p3), some (.int p4), some (.int b5), some (.int b6), some (.int b7), some (.int b8), o9, none, o11] [.int x37] M34 _
        obtain ⟨A40, hQ1, hQ2⟩ := hQ
        have i41 : b8.toInt.toNat = (z_Ar M0 24 p1.toNatClampNeg).toInt.toNat := by rw [(congrFun (X.2.a f24 (by decide)) _).symm.trans hp0]; omega
        have hr42 := hI.1
        rw [i41] at hr42
        have f30 : T[30]? = some (.inr (30, 0, 8192, 0, 1023)) := X38.1.k rfl (by decide)
        have f31 : T[31]? = some (.inr (31, 0, 8, 0, 1024)) := X38.1.k rfl (by decide)
        rw [X.2.a f30 (by decide), X.2.a f31 (by decide)] at h9
        have i43 := z_n32o (by omega) (by omega) (by omega) h33.1
        exact z_xri zt224 115 rfl zzr224 (kk x37 M34 X38 (y_qB1 hQ1 hQ2 (Or.inr ⟨hJ, Or.inr ⟨hT, b5, b6, hr42, Or.inr ⟨z_or1 h9 (by omega), by rw [← i43]; exact h36, x18, by omega, ((X35.2.a f33 (by decide)).trans ((e30.a f33 (by decide)).trans (h23.trans (congrArg (fun f => upd f x18.toNatClampNeg b5) ((X8.2.a f33 (by decide)).trans hW33))))), x26, by omega, ((X35.2.a f34 (by decide)).trans (h31.trans (congrArg (fun f => upd f x26.toNatClampNeg b6) ((e22.a f34 (by decide)).trans ((X8.2.a f34 (by decide)).trans hW34)))))⟩⟩⟩)))
      refine z_xP zt224 94 216 [some (.ref 19), some (.int p1), some (.int p2), some (.int p3), some (.int p4), some (.int b5), some (.int b6), some (.int b7), some (.int b8), o9, none, o11] [.int (-2)] rfl rfl ?_
      have qm2 : (((-2) : Int32)).toInt = (-2) := rfl
      obtain ⟨A44, hQ1, hQ2⟩ := hQ
      have i45 : b8.toInt.toNat = (z_Ar M0 24 p1.toNatClampNeg).toInt.toNat := by rw [(congrFun (X.2.a f24 (by decide)) _).symm.trans hp0]; omega
      have hr46 := hI.1
      rw [i45] at hr46
      have f30 : T[30]? = some (.inr (30, 0, 8192, 0, 1023)) := X13.1.k rfl (by decide)
      have f31 : T[31]? = some (.inr (31, 0, 8, 0, 1024)) := X13.1.k rfl (by decide)
      rw [X.2.a f30 (by decide), X.2.a f31 (by decide)] at h9
      have qm2 : (((-2) : Int32)).toInt = (-2) := rfl
      exact z_xri zt224 95 rfl zzr224 (kk (-2) M7 X13 (y_qB1 hQ1 hQ2 (Or.inr ⟨hJ, Or.inr ⟨hT, b5, b6, hr46, Or.inl ⟨by omega, z_orn h9 (by omega), (hK.trans X8.2 (z_sb (by decide)))⟩⟩⟩)))
    refine z_xP zt224 28 67 [some (.ref 19), some (.int p1), some (.int p2), some (.int p3), some (.int p4), some (.int b5), some (.int b6), some (.int b7), some (.int b8), o9, none, o11] [.int p4] rfl rfl ?_
    have h47 := z_b32 p4
    refine z_xL zt224 29 rfl rfl (fun (y48 : Int64) (h49 : y48.toInt = p4.toInt) => ?_) (z_qI2L rfl)
    refine z_xP zt224 30 70 [some (.ref 19), some (.int p1), some (.int p2), some (.int p3), some (.int p4), some (.int b5), some (.int b6), some (.int b7), some (.int b8), o9, none, o11] [.int b8, .long y48] rfl rfl ?_
    refine z_xL zt224 31 rfl rfl (fun (y50 : Int64) (h51 : y50.toInt = b8.toInt) => ?_) (z_qI2L rfl)
    refine z_xL zt224 32 rfl rfl (fun (y52 : Int64) (h53 : y52.toInt = y48.toInt + y50.toInt) => ?_) (z_qAdd rfl rfl (by omega) (by omega))
    refine z_xP zt224 33 76 [some (.ref 19), some (.int p1), some (.int p2), some (.int p3), some (.int p4), some (.int b5), some (.int b6), some (.int b7), some (.int b8), some (.long y52), none, o11] [.int b7] rfl rfl ?_
    refine z_xZ zt224 34 rfl rfl (fun (h54 : b7.toInt = 0) => ?_) (fun (h54 : b7.toInt ≠ 0) => ?_)
    · skip
      refine z_xP zt224 52 114 [some (.ref 19), some (.int p1), some (.int p2), some (.int p3), some (.int p4), some (.int b5), some (.int b6), some (.int b7), some (.int b8), some (.long y52), none, o11] [.int 0] rfl rfl ?_
      refine z_xP zt224 53 118 [some (.ref 19), some (.int p1), some (.int p2), some (.int p3), some (.int p4), some (.int b5), some (.int b6), some (.int 0), some (.int b8), some (.long y52), none, o11] [.int 0] rfl rfl ?_
      refine z_xZ zt224 54 rfl rfl (fun (h55 : (0 : Int) = 0) => ?_) (fun (h55 : (0 : Int) ≠ 0) => absurd h55 (by omega))
      refine z_xP zt224 71 153 [some (.ref 19), some (.int p1), some (.int p2), some (.int p3), some (.int p4), some (.int b5), some (.int b6), some (.int 0), some (.int b8), some (.long y52), none, o11] [.int 0] rfl rfl ?_
      refine z_xP zt224 72 159 [some (.ref 19), some (.int p1), some (.int p2), some (.int p3), some (.int p4), some (.int b5), some (.int b6), some (.int 0), some (.int b8), some (.long y52), none, some (.int 0)] [.int 0, .int b5] rfl rfl ?_
      refine z_xZ zt224 73 rfl rfl (fun (h56 : (0 : Int) = 0) => ?_) (fun (h56 : (0 : Int) ≠ 0) => absurd h56 (by omega))
      refine z_xP zt224 77 170 [some (.ref 19), some (.int p1), some (.int p2), some (.int p3), some (.int p4), some (.int b5), some (.int b6), some (.int 0), some (.int b8), some (.long y52), none, some (.int 0)] [.int 0, .int b5] rfl rfl ?_
      refine z_xI zt224 78 rfl rfl (fun (x57 : Int32) (h58 : x57 = b5 ||| (0 : Int32) ∧ 0 ≤ x57.toInt ∧ x57.toInt < 1024 ∧ b5.toInt ≤ x57.toInt ∧ 0 ≤ x57.toInt) => ?_) (⟨rfl, z_pOr 10 rfl rfl (by omega) (by omega) (by decide) (by omega) (by omega) (by decide)⟩)
      refine z_xP zt224 79 177 [some (.ref 19), some (.int p1), some (.int p2), some (.int p3), some (.int p4), some (.int x57), some (.int b6), some (.int 0), some (.int b8), some (.long y52), none, some (.int 0)] [.int 0, .int b6] rfl rfl ?_
      refine z_xZ zt224 80 rfl rfl (fun (h59 : (0 : Int) = 0) => ?_) (fun (h59 : (0 : Int) ≠ 0) => absurd h59 (by omega))
      refine z_xP zt224 86 193 [some (.ref 19), some (.int p1), some (.int p2), some (.int p3), some (.int p4), some (.int x57), some (.int b6), some (.int 0), some (.int b8), some (.long y52), none, some (.int 0)] [.int 0, .int b6] rfl rfl ?_
      refine z_xI zt224 87 rfl rfl (fun (x60 : Int32) (h61 : x60 = b6 ||| (0 : Int32) ∧ 0 ≤ x60.toInt ∧ x60.toInt < 1024 ∧ b6.toInt ≤ x60.toInt ∧ 0 ≤ x60.toInt) => ?_) (⟨rfl, z_pOr 10 rfl rfl (by omega) (by omega) (by decide) (by omega) (by omega) (by decide)⟩)
      refine z_xP zt224 88 196 [some (.ref 19), some (.int p1), some (.int p2), some (.int p3), some (.int p4), some (.int x57), some (.int x60), some (.int 0), some (.int b8), some (.long y52), none, some (.int 0)] [] rfl rfl ?_
      refine z_xN zt224 89 rfl rfl (fun (x62 : Int32) (h63 : x62.toInt = b8.toInt + 1) => ?_) (z_pAdd rfl rfl (by omega) (by omega))
      show z_ev (d + 2) 224 199 [some (.ref 19), some (.int p1), some (.int p2), some (.int p3), some (.int p4), some (.int x57), some (.int x60), some (.int 0), some (.int x62), some (.long y52), none, some (.int 0)] [] M _
      refine z_xP zt224 90 54 [some (.ref 19), some (.int p1), some (.int p2), some (.int p3), some (.int p4), some (.int x57), some (.int x60), some (.int 0), some (.int x62), some (.long y52), none, some (.int 0)] [] rfl rfl ?_
      have i64 : x62.toInt.toNat = b8.toInt.toNat + 1 := by omega
      have q0 : ((0 : Int32)).toInt = 0 := rfl
      have f49 : T[49]? = some (.inr (49, 0, 6, (-1), 24)) := X.1.k rfl (by decide)
      have f33 : T[33]? = some (.inr (33, 0, 72, (-2147483648), 2147483647)) := X.1.k rfl (by decide)
      have f34 : T[34]? = some (.inr (34, 0, 72, (-2147483648), 2147483647)) := X.1.k rfl (by decide)
      have q0 : ((0 : Int32)).toInt = 0 := rfl
      exact ih M x57 x60 (0) x62 (some (.long y52)) (some (.int 0)) z0 X ⟨by omega, by omega⟩ ⟨by omega, by omega⟩ ⟨by omega, by omega⟩ ⟨by omega, by omega⟩ ⟨by omega, by omega⟩ (by decide) ⟨by omega, by omega⟩ hp0 ⟨by omega, by omega⟩ (by omega) (by rw [i64]; exact y_rdC hI (Or.inl (by omega)) (z_or0 h58.1) (z_or0 h61.1)) hQ hJ hT hK hW33 hW34 (by omega)
    refine z_xP zt224 35 80 [some (.ref 19), some (.int p1), some (.int p2), some (.int p3), some (.int p4), some (.int b5), some (.int b6), some (.int b7), some (.int b8), some (.long y52), none, o11] [.ref 19] rfl rfl ?_
    refine z_xgX (b := 49) zt224 36 rfl zo224 zzf12_97 X f19 (by decide) (by decide) rfl ?_
    refine z_xP zt224 37 84 [some (.ref 19), some (.int p1), some (.int p2), some (.int p3), some (.int p4), some (.int b5), some (.int b6), some (.int b7), some (.int b8), some (.long y52), none, o11] [.int p3, .ref 49] rfl rfl ?_
    have f49 : T[49]? = some (.inr (49, 0, 6, (-1), 24)) := X.1.k rfl (by decide)
    refine z_xil zt224 38 rfl X f49 (by decide) (by omega) (by omega) (fun (x66 : Int32) h67 (h68 : (-1) ≤ x66.toInt) (h69 : x66.toInt ≤ 24) => ?_)
    refine z_xP zt224 39 86 [some (.ref 19), some (.int p1), some (.int p2), some (.int p3), some (.int p4), some (.int b5), some (.int b6), some (.int b7), some (.int b8), some (.long y52), none, o11] [.int (-1), .int x66] rfl rfl ?_
    refine z_xJ zt224 40 rfl rfl (fun (h70 : x66.toInt = (-1)) => ?_) (fun (h70 : x66.toInt ≠ (-1)) => ?_)
    · skip
      refine z_xP zt224 52 114 [some (.ref 19), some (.int p1), some (.int p2), some (.int p3), some (.int p4), some (.int b5), some (.int b6), some (.int b7), some (.int b8), some (.long y52), none, o11] [.int 0] rfl rfl ?_
      refine z_xP zt224 53 118 [some (.ref 19), some (.int p1), some (.int p2), some (.int p3), some (.int p4), some (.int b5), some (.int b6), some (.int 0), some (.int b8), some (.long y52), none, o11] [.int 0] rfl rfl ?_
      refine z_xZ zt224 54 rfl rfl (fun (h71 : (0 : Int) = 0) => ?_) (fun (h71 : (0 : Int) ≠ 0) => absurd h71 (by omega))
      refine z_xP zt224 71 153 [some (.ref 19), some (.int p1), some (.int p2), some (.int p3), some (.int p4), some (.int b5), some (.int b6), some (.int 0), some (.int b8), some (.long y52), none, o11] [.int 0] rfl rfl ?_
      refine z_xP zt224 72 159 [some (.ref 19), some (.int p1), some (.int p2), some (.int p3), some (.int p4), some (.int b5), some (.int b6), some (.int 0), some (.int b8), some (.long y52), none, some (.int 0)] [.int 0, .int b5] rfl rfl ?_
      refine z_xZ zt224 73 rfl rfl (fun (h72 : (0 : Int) = 0) => ?_) (fun (h72 : (0 : Int) ≠ 0) => absurd h72 (by omega))
      refine z_xP zt224 77 170 [some (.ref 19), some (.int p1), some (.int p2), some (.int p3), some (.int p4), some (.int b5), some (.int b6), some (.int 0), some (.int b8), some (.long y52), none, some (.int 0)] [.int 0, .int b5] rfl rfl ?_
      refine z_xI zt224 78 rfl rfl (fun (x73 : Int32) (h74 : x73 = b5 ||| (0 : Int32) ∧ 0 ≤ x73.toInt ∧ x73.toInt < 1024 ∧ b5.toInt ≤ x73.toInt ∧ 0 ≤ x73.toInt) => ?_) (⟨rfl, z_pOr 10 rfl rfl (by omega) (by omega) (by decide) (by omega) (by omega) (by decide)⟩)
      refine z_xP zt224 79 177 [some (.ref 19), some (.int p1), some (.int p2), some (.int p3), some (.int p4), some (.int x73), some (.int b6), some (.int 0), some (.int b8), some (.long y52), none, some (.int 0)] [.int 0, .int b6] rfl rfl ?_
      refine z_xZ zt224 80 rfl rfl (fun (h75 : (0 : Int) = 0) => ?_) (fun (h75 : (0 : Int) ≠ 0) => absurd h75 (by omega))
      refine z_xP zt224 86 193 [some (.ref 19), some (.int p1), some (.int p2), some (.int p3), some (.int p4), some (.int x73), some (.int b6), some (.int 0), some (.int b8), some (.long y52), none, some (.int 0)] [.int 0, .int b6] rfl rfl ?_
      refine z_xI zt224 87 rfl rfl (fun (x76 : Int32) (h77 : x76 = b6 ||| (0 : Int32) ∧ 0 ≤ x76.toInt ∧ x76.toInt < 1024 ∧ b6.toInt ≤ x76.toInt ∧ 0 ≤ x76.toInt) => ?_) (⟨rfl, z_pOr 10 rfl rfl (by omega) (by omega) (by decide) (by omega) (by omega) (by decide)⟩)
      refine z_xP zt224 88 196 [some (.ref 19), some (.int p1), some (.int p2), some (.int p3), some (.int p4), some (.int x73), some (.int x76), some (.int 0), some (.int b8), some (.long y52), none, some (.int 0)] [] rfl rfl ?_
      refine z_xN zt224 89 rfl rfl (fun (x78 : Int32) (h79 : x78.toInt = b8.toInt + 1) => ?_) (z_pAdd rfl rfl (by omega) (by omega))
      show z_ev (d + 2) 224 199 [some (.ref 19), some (.int p1), some (.int p2), some (.int p3), some (.int p4), some (.int x73), some (.int x76), some (.int 0), some (.int x78), some (.long y52), none, some (.int 0)] [] M _
      refine z_xP zt224 90 54 [some (.ref 19), some (.int p1), some (.int p2), some (.int p3), some (.int p4), some (.int x73), some (.int x76), some (.int 0), some (.int x78), some (.long y52), none, some (.int 0)] [] rfl rfl ?_
      have i80 : x78.toInt.toNat = b8.toInt.toNat + 1 := by omega
      have q0 : ((0 : Int32)).toInt = 0 := rfl
      have h82 : z_Ar M0 49 p3.toNatClampNeg = x66 := (congrFun (X.2.a f49 (by decide)) _).symm.trans h67
      have hs81 : x66.toInt = -1 → (if (z_Ar M0 49 p3.toNatClampNeg).toInt = -1 then 0 else (z_Ar M0 50 p3.toNatClampNeg).toInt) = 0 := fun h => by rw [h82, if_pos h]
      have f33 : T[33]? = some (.inr (33, 0, 72, (-2147483648), 2147483647)) := X.1.k rfl (by decide)
      have f34 : T[34]? = some (.inr (34, 0, 72, (-2147483648), 2147483647)) := X.1.k rfl (by decide)
      have q0 : ((0 : Int32)).toInt = 0 := rfl
      exact ih M x73 x76 (0) x78 (some (.long y52)) (some (.int 0)) z0 X ⟨by omega, by omega⟩ ⟨by omega, by omega⟩ ⟨by omega, by omega⟩ ⟨by omega, by omega⟩ ⟨by omega, by omega⟩ (by decide) ⟨by omega, by omega⟩ hp0 ⟨by omega, by omega⟩ (by omega) (by rw [i80]; exact y_rdC hI (Or.inr (if hm : x66.toInt = -1 then (by rw [hs81 hm]; omega) else (by omega))) (z_or0 h74.1) (z_or0 h77.1)) hQ hJ hT hK hW33 hW34 (by omega)
    refine z_xP zt224 41 92 [some (.ref 19), some (.int p1), some (.int p2), some (.int p3), some (.int p4), some (.int b5), some (.int b6), some (.int b7), some (.int b8), some (.long y52), none, o11] [.long 0, .long y52] rfl rfl ?_
    refine z_xI zt224 42 rfl rfl (fun (x83 : Int32) (h84 : (x83.toInt < 0 ∧ y52.toInt < 0) ∨ (x83.toInt = 0 ∧ y52.toInt = 0) ∨ (0 < x83.toInt ∧ 0 < y52.toInt)) => ?_) (z_qCmp rfl rfl)
    refine z_xZ zt224 43 rfl rfl (fun (h85 : x83.toInt < 0) => ?_) (fun (h85 : 0 ≤ x83.toInt) => ?_)
    · skip
      refine z_xP zt224 52 114 [some (.ref 19), some (.int p1), some (.int p2), some (.int p3), some (.int p4), some (.int b5), some (.int b6), some (.int b7), some (.int b8), some (.long y52), none, o11] [.int 0] rfl rfl ?_
      refine z_xP zt224 53 118 [some (.ref 19), some (.int p1), some (.int p2), some (.int p3), some (.int p4), some (.int b5), some (.int b6), some (.int 0), some (.int b8), some (.long y52), none, o11] [.int 0] rfl rfl ?_
      refine z_xZ zt224 54 rfl rfl (fun (h86 : (0 : Int) = 0) => ?_) (fun (h86 : (0 : Int) ≠ 0) => absurd h86 (by omega))
      refine z_xP zt224 71 153 [some (.ref 19), some (.int p1), some (.int p2), some (.int p3), some (.int p4), some (.int b5), some (.int b6), some (.int 0), some (.int b8), some (.long y52), none, o11] [.int 0] rfl rfl ?_
      refine z_xP zt224 72 159 [some (.ref 19), some (.int p1), some (.int p2), some (.int p3), some (.int p4), some (.int b5), some (.int b6), some (.int 0), some (.int b8), some (.long y52), none, some (.int 0)] [.int 0, .int b5] rfl rfl ?_
      refine z_xZ zt224 73 rfl rfl (fun (h87 : (0 : Int) = 0) => ?_) (fun (h87 : (0 : Int) ≠ 0) => absurd h87 (by omega))
      refine z_xP zt224 77 170 [some (.ref 19), some (.int p1), some (.int p2), some (.int p3), some (.int p4), some (.int b5), some (.int b6), some (.int 0), some (.int b8), some (.long y52), none, some (.int 0)] [.int 0, .int b5] rfl rfl ?_
      refine z_xI zt224 78 rfl rfl (fun (x88 : Int32) (h89 : x88 = b5 ||| (0 : Int32) ∧ 0 ≤ x88.toInt ∧ x88.toInt < 1024 ∧ b5.toInt ≤ x88.toInt ∧ 0 ≤ x88.toInt) => ?_) (⟨rfl, z_pOr 10 rfl rfl (by omega) (by omega) (by decide) (by omega) (by omega) (by decide)⟩)
      refine z_xP zt224 79 177 [some (.ref 19), some (.int p1), some (.int p2), some (.int p3), some (.int p4), some (.int x88), some (.int b6), some (.int 0), some (.int b8), some (.long y52), none, some (.int 0)] [.int 0, .int b6] rfl rfl ?_
      refine z_xZ zt224 80 rfl rfl (fun (h90 : (0 : Int) = 0) => ?_) (fun (h90 : (0 : Int) ≠ 0) => absurd h90 (by omega))
      refine z_xP zt224 86 193 [some (.ref 19), some (.int p1), some (.int p2), some (.int p3), some (.int p4), some (.int x88), some (.int b6), some (.int 0), some (.int b8), some (.long y52), none, some (.int 0)] [.int 0, .int b6] rfl rfl ?_
      refine z_xI zt224 87 rfl rfl (fun (x91 : Int32) (h92 : x91 = b6 ||| (0 : Int32) ∧ 0 ≤ x91.toInt ∧ x91.toInt < 1024 ∧ b6.toInt ≤ x91.toInt ∧ 0 ≤ x91.toInt) => ?_) (⟨rfl, z_pOr 10 rfl rfl (by omega) (by omega) (by decide) (by omega) (by omega) (by decide)⟩)
      refine z_xP zt224 88 196 [some (.ref 19), some (.int p1), some (.int p2), some (.int p3), some (.int p4), some (.int x88), some (.int x91), some (.int 0), some (.int b8), some (.long y52), none, some (.int 0)] [] rfl rfl ?_
      refine z_xN zt224 89 rfl rfl (fun (x93 : Int32) (h94 : x93.toInt = b8.toInt + 1) => ?_) (z_pAdd rfl rfl (by omega) (by omega))
      show z_ev (d + 2) 224 199 [some (.ref 19), some (.int p1), some (.int p2), some (.int p3), some (.int p4), some (.int x88), some (.int x91), some (.int 0), some (.int x93), some (.long y52), none, some (.int 0)] [] M _
      refine z_xP zt224 90 54 [some (.ref 19), some (.int p1), some (.int p2), some (.int p3), some (.int p4), some (.int x88), some (.int x91), some (.int 0), some (.int x93), some (.long y52), none, some (.int 0)] [] rfl rfl ?_
      have i95 : x93.toInt.toNat = b8.toInt.toNat + 1 := by omega
      have q0 : ((0 : Int32)).toInt = 0 := rfl
      have h97 : z_Ar M0 49 p3.toNatClampNeg = x66 := (congrFun (X.2.a f49 (by decide)) _).symm.trans h67
      have hs96 : x66.toInt = -1 → (if (z_Ar M0 49 p3.toNatClampNeg).toInt = -1 then 0 else (z_Ar M0 50 p3.toNatClampNeg).toInt) = 0 := fun h => by rw [h97, if_pos h]
      have f33 : T[33]? = some (.inr (33, 0, 72, (-2147483648), 2147483647)) := X.1.k rfl (by decide)
      have f34 : T[34]? = some (.inr (34, 0, 72, (-2147483648), 2147483647)) := X.1.k rfl (by decide)
      have q0 : ((0 : Int32)).toInt = 0 := rfl
      exact ih M x88 x91 (0) x93 (some (.long y52)) (some (.int 0)) z0 X ⟨by omega, by omega⟩ ⟨by omega, by omega⟩ ⟨by omega, by omega⟩ ⟨by omega, by omega⟩ ⟨by omega, by omega⟩ (by decide) ⟨by omega, by omega⟩ hp0 ⟨by omega, by omega⟩ (by omega) (by rw [i95]; exact y_rdC hI (Or.inr (if hm : x66.toInt = -1 then (by rw [hs96 hm]; omega) else (by omega))) (z_or0 h89.1) (z_or0 h92.1)) hQ hJ hT hK hW33 hW34 (by omega)
    refine z_xP zt224 44 99 [some (.ref 19), some (.int p1), some (.int p2), some (.int p3), some (.int p4), some (.int b5), some (.int b6), some (.int b7), some (.int b8), some (.long y52), none, o11] [.ref 19, .long y52] rfl rfl ?_
    refine z_xgX (b := 50) zt224 45 rfl zo224 zzf12_100 X f19 (by decide) (by decide) rfl ?_
    refine z_xP zt224 46 103 [some (.ref 19), some (.int p1), some (.int p2), some (.int p3), some (.int p4), some (.int b5), some (.int b6), some (.int b7), some (.int b8), some (.long y52), none, o11] [.int p3, .ref 50, .long y52] rfl rfl ?_
    have f50 : T[50]? = some (.inr (50, 0, 6, 0, 60)) := X.1.k rfl (by decide)
    refine z_xil zt224 47 rfl X f50 (by decide) (by omega) (by omega) (fun (x98 : Int32) h99 (h100 : 0 ≤ x98.toInt) (h101 : x98.toInt ≤ 60) => ?_)
    refine z_xL zt224 48 rfl rfl (fun (y102 : Int64) (h103 : y102.toInt = x98.toInt) => ?_) (z_qI2L rfl)
    refine z_xI zt224 49 rfl rfl (fun (x104 : Int32) (h105 : (x104.toInt < 0 ∧ y52.toInt < y102.toInt) ∨ (x104.toInt = 0 ∧ y52.toInt = y102.toInt) ∨ (0 < x104.toInt ∧ y102.toInt < y52.toInt)) => ?_) (z_qCmp rfl rfl)
    refine z_xZ zt224 50 rfl rfl (fun (h106 : 0 ≤ x104.toInt) => ?_) (fun (h106 : x104.toInt < 0) => ?_)
    · skip
      refine z_xP zt224 52 114 [some (.ref 19), some (.int p1), some (.int p2), some (.int p3), some (.int p4), some (.int b5), some (.int b6), some (.int b7), some (.int b8), some (.long y52), none, o11] [.int 0] rfl rfl ?_
      refine z_xP zt224 53 118 [some (.ref 19), some (.int p1), some (.int p2), some (.int p3), some (.int p4), some (.int b5), some (.int b6), some (.int 0), some (.int b8), some (.long y52), none, o11] [.int 0] rfl rfl ?_
      refine z_xZ zt224 54 rfl rfl (fun (h107 : (0 : Int) = 0) => ?_) (fun (h107 : (0 : Int) ≠ 0) => absurd h107 (by omega))
      refine z_xP zt224 71 153 [some (.ref 19), some (.int p1), some (.int p2), some (.int p3), some (.int p4), some (.int b5), some (.int b6), some (.int 0), some (.int b8), some (.long y52), none, o11] [.int 0] rfl rfl ?_
      refine z_xP zt224 72 159 [some (.ref 19), some (.int p1), some (.int p2), some (.int p3), some (.int p4), some (.int b5), some (.int b6), some (.int 0), some (.int b8), some (.long y52), none, some (.int 0)] [.int 0, .int b5] rfl rfl ?_
      refine z_xZ zt224 73 rfl rfl (fun (h108 : (0 : Int) = 0) => ?_) (fun (h108 : (0 : Int) ≠ 0) => absurd h108 (by omega))
      refine z_xP zt224 77 170 [some (.ref 19), some (.int p1), some (.int p2), some (.int p3), some (.int p4), some (.int b5), some (.int b6), some (.int 0), some (.int b8), some (.long y52), none, some (.int 0)] [.int 0, .int b5] rfl rfl ?_
      refine z_xI zt224 78 rfl rfl (fun (x109 : Int32) (h110 : x109 = b5 ||| (0 : Int32) ∧ 0 ≤ x109.toInt ∧ x109.toInt < 1024 ∧ b5.toInt ≤ x109.toInt ∧ 0 ≤ x109.toInt) => ?_) (⟨rfl, z_pOr 10 rfl rfl (by omega) (by omega) (by decide) (by omega) (by omega) (by decide)⟩)
      refine z_xP zt224 79 177 [some (.ref 19), some (.int p1), some (.int p2), some (.int p3), some (.int p4), some (.int x109), some (.int b6), some (.int 0), some (.int b8), some (.long y52), none, some (.int 0)] [.int 0, .int b6] rfl rfl ?_
      refine z_xZ zt224 80 rfl rfl (fun (h111 : (0 : Int) = 0) => ?_) (fun (h111 : (0 : Int) ≠ 0) => absurd h111 (by omega))
      refine z_xP zt224 86 193 [some (.ref 19), some (.int p1), some (.int p2), some (.int p3), some (.int p4), some (.int x109), some (.int b6), some (.int 0), some (.int b8), some (.long y52), none, some (.int 0)] [.int 0, .int b6] rfl rfl ?_
      refine z_xI zt224 87 rfl rfl (fun (x112 : Int32) (h113 : x112 = b6 ||| (0 : Int32) ∧ 0 ≤ x112.toInt ∧ x112.toInt < 1024 ∧ b6.toInt ≤ x112.toInt ∧ 0 ≤ x112.toInt) => ?_) (⟨rfl, z_pOr 10 rfl rfl (by omega) (by omega) (by decide) (by omega) (by omega) (by decide)⟩)
      refine z_xP zt224 88 196 [some (.ref 19), some (.int p1), some (.int p2), some (.int p3), some (.int p4), some (.int x109), some (.int x112), some (.int 0), some (.int b8), some (.long y52), none, some (.int 0)] [] rfl rfl ?_
      refine z_xN zt224 89 rfl rfl (fun (x114 : Int32) (h115 : x114.toInt = b8.toInt + 1) => ?_) (z_pAdd rfl rfl (by omega) (by omega))
      show z_ev (d + 2) 224 199 [some (.ref 19), some (.int p1), some (.int p2), some (.int p3), some (.int p4), some (.int x109), some (.int x112), some (.int 0), some (.int x114), some (.long y52), none, some (.int 0)] [] M _
      refine z_xP zt224 90 54 [some (.ref 19), some (.int p1), some (.int p2), some (.int p3), some (.int p4), some (.int x109), some (.int x112), some (.int 0), some (.int x114), some (.long y52), none, some (.int 0)] [] rfl rfl ?_
      have i116 : x114.toInt.toNat = b8.toInt.toNat + 1 := by omega
      have q0 : ((0 : Int32)).toInt = 0 := rfl
      have h118 : z_Ar M0 49 p3.toNatClampNeg = x66 := (congrFun (X.2.a f49 (by decide)) _).symm.trans h67
      have h119 : z_Ar M0 50 p3.toNatClampNeg = x98 := (congrFun (X.2.a f50 (by decide)) _).symm.trans h99
      have hs117 : (if (z_Ar M0 49 p3.toNatClampNeg).toInt = -1 then 0 else (z_Ar M0 50 p3.toNatClampNeg).toInt) = x98.toInt := by rw [h118, h119, if_neg (by omega)]
      have f33 : T[33]? = some (.inr (33, 0, 72, (-2147483648), 2147483647)) := X.1.k rfl (by decide)
      have f34 : T[34]? = some (.inr (34, 0, 72, (-2147483648), 2147483647)) := X.1.k rfl (by decide)
      have q0 : ((0 : Int32)).toInt = 0 := rfl
      exact ih M x109 x112 (0) x114 (some (.long y52)) (some (.int 0)) z0 X ⟨by omega, by omega⟩ ⟨by omega, by omega⟩ ⟨by omega, by omega⟩ ⟨by omega, by omega⟩ ⟨by omega, by omega⟩ (by decide) ⟨by omega, by omega⟩ hp0 ⟨by omega, by omega⟩ (by omega) (by rw [i116]; exact y_rdC hI (Or.inr (by rw [hs117]; omega)) (z_or0 h110.1) (z_or0 h113.1)) hQ hJ hT hK hW33 hW34 (by omega)
    refine z_xP zt224 51 114 [some (.ref 19), some (.int p1), some (.int p2), some (.int p3), some (.int p4), some (.int b5), some (.int b6), some (.int b7), some (.int b8), some (.long y52), none, o11] [.int 1] rfl rfl ?_
    refine z_xP zt224 53 118 [some (.ref 19), some (.int p1), some (.int p2), some (.int p3), some (.int p4), some (.int b5), some (.int b6), some (.int 1), some (.int b8), some (.long y52), none, o11] [.int 1] rfl rfl ?_
    refine z_xZ zt224 54 rfl rfl (fun (h120 : (1 : Int) = 0) => absurd h120 (by omega)) (fun (h120 : (1 : Int) ≠ 0) => ?_)
    refine z_xP zt224 55 122 [some (.ref 19), some (.int p1), some (.int p2), some (.int p3), some (.int p4), some (.int b5), some (.int b6), some (.int 1), some (.int b8), some (.long y52), none, o11] [.ref 19] rfl rfl ?_
    refine z_xgX (b := 51) zt224 56 rfl zo224 zzf12_103 X f19 (by decide) (by decide) rfl ?_
    refine z_xP zt224 57 128 [some (.ref 19), some (.int p1), some (.int p2), some (.int p3), some (.int p4), some (.int b5), some (.int b6), some (.int 1), some (.int b8), some (.long y52), none, o11] [.int p3, .int 60, .ref 51] rfl rfl ?_
    refine z_xI zt224 58 rfl rfl (fun (x121 : Int32) (h122 : x121.toInt = 60 * p3.toInt) => ?_) (z_pMul rfl rfl (by omega) (by omega))
    refine z_xP zt224 59 131 [some (.ref 19), some (.int p1), some (.int p2), some (.int p3), some (.int p4), some (.int b5), some (.int b6), some (.int 1), some (.int b8), some (.long y52), none, o11] [.int 1, .int x121, .ref 51] rfl rfl ?_
    refine z_xZ zt224 60 rfl rfl (fun (h123 : (1 : Int) = 0) => absurd h123 (by omega)) (fun (h123 : (1 : Int) ≠ 0) => ?_)
    refine z_xP zt224 61 136 [some (.ref 19), some (.int p1), some (.int p2), some (.int p3), some (.int p4), some (.int b5), some (.int b6), some (.int 1), some (.int b8), some (.long y52), none, o11] [.long y52, .int x121, .ref 51] rfl rfl ?_
    refine z_xI zt224 62 rfl rfl (fun (x124 : Int32) (h125 : x124.toInt = y52.toInt) => ?_) (z_qL2I rfl (by omega) (by omega))
    refine z_xP zt224 63 141 [some (.ref 19), some (.int p1), some (.int p2), some (.int p3), some (.int p4), some (.int b5), some (.int b6), some (.int 1), some (.int b8), some (.long y52), none, o11] [.int x124, .int x121, .ref 51] rfl rfl ?_
    refine z_xI zt224 65 rfl rfl (fun (x126 : Int32) (h127 : x126.toInt = x121.toInt + x124.toInt) => ?_) (z_pAdd rfl rfl (by omega) (by omega))
    have f51 : T[51]? = some (.inr (51, 1, 360, 0, 0)) := X.1.k rfl (by decide)
    refine z_xllv zt224 66 rfl X f51 (by decide) (by omega) (by omega) (fun (y128 : Int64) h129 => ?_)
    refine z_xP zt224 67 144 [some (.ref 19), some (.int p1), some (.int p2), some (.int p3), some (.int p4), some (.int b5), some (.int b6), some (.int 1), some (.int b8), some (.long y52), none, o11] [.long 0, .long y128] rfl rfl ?_
    refine z_xI zt224 68 rfl rfl (fun (x130 : Int32) (h131 : (x130.toInt < 0 ∧ y128.toInt < 0) ∨ (x130.toInt = 0 ∧ y128.toInt = 0) ∨ (0 < x130.toInt ∧ 0 < y128.toInt)) => ?_) (z_qCmp rfl rfl)
    refine z_xZ zt224 69 rfl rfl (fun (h132 : x130.toInt = 0) => ?_) (fun (h132 : x130.toInt ≠ 0) => ?_)
    · skip
      refine z_xP zt224 71 153 [some (.ref 19), some (.int p1), some (.int p2), some (.int p3), some (.int p4), some (.int b5), some (.int b6), some (.int 1), some (.int b8), some (.long y52), none, o11] [.int 0] rfl rfl ?_
      refine z_xP zt224 72 159 [some (.ref 19), some (.int p1), some (.int p2), some (.int p3), some (.int p4), some (.int b5), some (.int b6), some (.int 1), some (.int b8), some (.long y52), none, some (.int 0)] [.int 0, .int b5] rfl rfl ?_
      refine z_xZ zt224 73 rfl rfl (fun (h133 : (0 : Int) = 0) => ?_) (fun (h133 : (0 : Int) ≠ 0) => absurd h133 (by omega))
      refine z_xP zt224 77 170 [some (.ref 19), some (.int p1), some (.int p2), some (.int p3), some (.int p4), some (.int b5), some (.int b6), some (.int 1), some (.int b8), some (.long y52), none, some (.int 0)] [.int 0, .int b5] rfl rfl ?_
      refine z_xI zt224 78 rfl rfl (fun (x134 : Int32) (h135 : x134 = b5 ||| (0 : Int32) ∧ 0 ≤ x134.toInt ∧ x134.toInt < 1024 ∧ b5.toInt ≤ x134.toInt ∧ 0 ≤ x134.toInt) => ?_) (⟨rfl, z_pOr 10 rfl rfl (by omega) (by omega) (by decide) (by omega) (by omega) (by decide)⟩)
      refine z_xP zt224 79 177 [some (.ref 19), some (.int p1), some (.int p2), some (.int p3), some (.int p4), some (.int x134), some (.int b6), some (.int 1), some (.int b8), some (.long y52), none, some (.int 0)] [.int 1, .int b6] rfl rfl ?_
      refine z_xZ zt224 80 rfl rfl (fun (h136 : (1 : Int) = 0) => absurd h136 (by omega)) (fun (h136 : (1 : Int) ≠ 0) => ?_)
      refine z_xP zt224 81 182 [some (.ref 19), some (.int p1), some (.int p2), some (.int p3), some (.int p4), some (.int x134), some (.int b6), some (.int 1), some (.int b8), some (.long y52), none, some (.int 0)] [.int 0, .int b6] rfl rfl ?_
      refine z_xZ zt224 82 rfl rfl (fun (h137 : (0 : Int) ≠ 0) => absurd h137 (by omega)) (fun (h137 : (0 : Int) = 0) => ?_)
      refine z_xP zt224 83 188 [some (.ref 19), some (.int p1), some (.int p2), some (.int p3), some (.int p4), some (.int x134), some (.int b6), some (.int 1), some (.int b8), some (.long y52), none, some (.int 0)] [.int b8, .int 1, .int b6] rfl rfl ?_
      refine z_xI zt224 84 rfl rfl (fun (x138 : Int32) (h139 : x138 = (1 : Int32) <<< (b8 &&& 31) ∧ 1 ≤ x138.toInt ∧ x138.toInt ≤ 512) => ?_) (⟨rfl, z_pShlB (a := 1) (b := 9) (c := 512) (r := 512) rfl rfl (by omega) (by omega) (by omega) (by omega) (by decide) (by decide) (by decide) (by decide)⟩)
      refine z_xP zt224 85 193 [some (.ref 19), some (.int p1), some (.int p2), some (.int p3), some (.int p4), some (.int x134), some (.int b6), some (.int 1), some (.int b8), some (.long y52), none, some (.int 0)] [.int x138, .int b6] rfl rfl ?_
      refine z_xI zt224 87 rfl rfl (fun (x140 : Int32) (h141 : x140 = b6 ||| x138 ∧ 0 ≤ x140.toInt ∧ x140.toInt < 1024 ∧ b6.toInt ≤ x140.toInt ∧ x138.toInt ≤ x140.toInt) => ?_) (⟨rfl, z_pOr 10 rfl rfl (by omega) (by omega) (by decide) (by omega) (by omega) (by decide)⟩)
      refine z_xP zt224 88 196 [some (.ref 19), some (.int p1), some (.int p2), some (.int p3), some (.int p4), some (.int x134), some (.int x140), some (.int 1), some (.int b8), some (.long y52), none, some (.int 0)] [] rfl rfl ?_
      refine z_xN zt224 89 rfl rfl (fun (x142 : Int32) (h143 : x142.toInt = b8.toInt + 1) => ?_) (z_pAdd rfl rfl (by omega) (by omega))
      show z_ev (d + 2) 224 199 [some (.ref 19), some (.int p1), some (.int p2), some (.int p3), some (.int p4), some (.int x134), some (.int x140), some (.int 1), some (.int x142), some (.long y52), none, some (.int 0)] [] M _
      refine z_xP zt224 90 54 [some (.ref 19), some (.int p1), some (.int p2), some (.int p3), some (.int p4), some (.int x134), some (.int x140), some (.int 1), some (.int x142), some (.long y52), none, some (.int 0)] [] rfl rfl ?_
      have i144 : x142.toInt.toNat = b8.toInt.toNat + 1 := by omega
      have q1 : ((1 : Int32)).toInt = 1 := rfl
      have h146 : z_Ar M0 49 p3.toNatClampNeg = x66 := (congrFun (X.2.a f49 (by decide)) _).symm.trans h67
      have h147 : z_Ar M0 50 p3.toNatClampNeg = x98 := (congrFun (X.2.a f50 (by decide)) _).symm.trans h99
      have hs145 : (if (z_Ar M0 49 p3.toNatClampNeg).toInt = -1 then 0 else (z_Ar M0 50 p3.toNatClampNeg).toInt) = x98.toInt := by rw [h146, h147, if_neg (by omega)]
      have hp4149 : 0 ≤ p4.toInt := by rcases hI.2 with ⟨_, h | h⟩ | ⟨h, _⟩ <;> omega
      have h148 : z_Lg M0 51 (60 * p3.toNatClampNeg + (p4.toInt.toNat + b8.toInt.toNat)) = y128 := by rw [show 60 * p3.toNatClampNeg + (p4.toInt.toNat + b8.toInt.toNat) = x126.toNatClampNeg from by unfold Int32.toNatClampNeg; omega]; exact (congrFun (X.2.lg f51 (by decide)) _).symm.trans h129
      have f33 : T[33]? = some (.inr (33, 0, 72, (-2147483648), 2147483647)) := X.1.k rfl (by decide)
      have f34 : T[34]? = some (.inr (34, 0, 72, (-2147483648), 2147483647)) := X.1.k rfl (by decide)
      have q0 : ((0 : Int32)).toInt = 0 := rfl
      have q1 : ((1 : Int32)).toInt = 1 := rfl
      exact ih M x134 x140 (1) x142 (some (.long y52)) (some (.int 0)) z0 X ⟨by omega, by omega⟩ ⟨by omega, by omega⟩ ⟨by omega, by omega⟩ ⟨by omega, by omega⟩ ⟨by omega, by omega⟩ (by decide) ⟨by omega, by omega⟩ hp0 ⟨by omega, by omega⟩ (by omega) (by rw [i144]; exact y_rdB hI (by omega) (by rw [hs145]; omega) (h148.trans (Int64.toInt_inj.mp (by have h2 : (0 : Int64).toInt = 0 := rfl; omega))) (by omega) h139.1 h141.1 (z_or0 h135.1)) hQ hJ hT hK hW33 hW34 (by omega)
    refine z_xP zt224 70 153 [some (.ref 19), some (.int p1), some (.int p2), some (.int p3), some (.int p4), some (.int b5), some (.int b6), some (.int 1), some (.int b8), some (.long y52), none, o11] [.int 1] rfl rfl ?_
    refine z_xP zt224 72 159 [some (.ref 19), some (.int p1), some (.int p2), some (.int p3), some (.int p4), some (.int b5), some (.int b6), some (.int 1), some (.int b8), some (.long y52), none, some (.int 1)] [.int 1, .int b5] rfl rfl ?_
    refine z_xZ zt224 73 rfl rfl (fun (h150 : (1 : Int) = 0) => absurd h150 (by omega)) (fun (h150 : (1 : Int) ≠ 0) => ?_)
    refine z_xP zt224 74 165 [some (.ref 19), some (.int p1), some (.int p2), some (.int p3), some (.int p4), some (.int b5), some (.int b6), some (.int 1), some (.int b8), some (.long y52), none, some (.int 1)] [.int b8, .int 1, .int b5] rfl rfl ?_
    refine z_xI zt224 75 rfl rfl (fun (x151 : Int32) (h152 : x151 = (1 : Int32) <<< (b8 &&& 31) ∧ 1 ≤ x151.toInt ∧ x151.toInt ≤ 512) => ?_) (⟨rfl, z_pShlB (a := 1) (b := 9) (c := 512) (r := 512) rfl rfl (by omega) (by omega) (by omega) (by omega) (by decide) (by decide) (by decide) (by decide)⟩)
    refine z_xP zt224 76 170 [some (.ref 19), some (.int p1), some (.int p2), some (.int p3), some (.int p4), some (.int b5), some (.int b6), some (.int 1), some (.int b8), some (.long y52), none, some (.int 1)] [.int x151, .int b5] rfl rfl ?_
    refine z_xI zt224 78 rfl rfl (fun (x153 : Int32) (h154 : x153 = b5 ||| x151 ∧ 0 ≤ x153.toInt ∧ x153.toInt < 1024 ∧ b5.toInt ≤ x153.toInt ∧ x151.toInt ≤ x153.toInt) => ?_) (⟨rfl, z_pOr 10 rfl rfl (by omega) (by omega) (by decide) (by omega) (by omega) (by decide)⟩)
    refine z_xP zt224 79 177 [some (.ref 19), some (.int p1), some (.int p2), some (.int p3), some (.int p4), some (.int x153), some (.int b6), some (.int 1), some (.int b8), some (.long y52), none, some (.int 1)] [.int 1, .int b6] rfl rfl ?_
    refine z_xZ zt224 80 rfl rfl (fun (h155 : (1 : Int) = 0) => absurd h155 (by omega)) (fun (h155 : (1 : Int) ≠ 0) => ?_)
    refine z_xP zt224 81 182 [some (.ref 19), some (.int p1), some (.int p2), some (.int p3), some (.int p4), some (.int x153), some (.int b6), some (.int 1), some (.int b8), some (.long y52), none, some (.int 1)] [.int 1, .int b6] rfl rfl ?_
    refine z_xZ zt224 82 rfl rfl (fun (h156 : (1 : Int) ≠ 0) => ?_) (fun (h156 : (1 : Int) = 0) => absurd h156 (by omega))
    refine z_xP zt224 86 193 [some (.ref 19), some (.int p1), some (.int p2), some (.int p3), some (.int p4), some (.int x153), some (.int b6), some (.int 1), some (.int b8), some (.long y52), none, some (.int 1)] [.int 0, .int b6] rfl rfl ?_
    refine z_xI zt224 87 rfl rfl (fun (x157 : Int32) (h158 : x157 = b6 ||| (0 : Int32) ∧ 0 ≤ x157.toInt ∧ x157.toInt < 1024 ∧ b6.toInt ≤ x157.toInt ∧ 0 ≤ x157.toInt) => ?_) (⟨rfl, z_pOr 10 rfl rfl (by omega) (by omega) (by decide) (by omega) (by omega) (by decide)⟩)
    refine z_xP zt224 88 196 [some (.ref 19), some (.int p1), some (.int p2), some (.int p3), some (.int p4), some (.int x153), some (.int x157), some (.int 1), some (.int b8), some (.long y52), none, some (.int 1)] [] rfl rfl ?_
    refine z_xN zt224 89 rfl rfl (fun (x159 : Int32) (h160 : x159.toInt = b8.toInt + 1) => ?_) (z_pAdd rfl rfl (by omega) (by omega))
    show z_ev (d + 2) 224 199 [some (.ref 19), some (.int p1), some (.int p2), some (.int p3), some (.int p4), some (.int x153), some (.int x157), some (.int 1), some (.int x159), some (.long y52), none, some (.int 1)] [] M _
    refine z_xP zt224 90 54 [some (.ref 19), some (.int p1), some (.int p2), some (.int p3), some (.int p4), some (.int x153), some (.int x157), some (.int 1), some (.int x159), some (.long y52), none, some (.int 1)] [] rfl rfl ?_
    have i161 : x159.toInt.toNat = b8.toInt.toNat + 1 := by omega
    have q1 : ((1 : Int32)).toInt = 1 := rfl
    have h163 : z_Ar M0 49 p3.toNatClampNeg = x66 := (congrFun (X.2.a f49 (by decide)) _).symm.trans h67
    have h164 : z_Ar M0 50 p3.toNatClampNeg = x98 := (congrFun (X.2.a f50 (by decide)) _).symm.trans h99
    have hs162 : (if (z_Ar M0 49 p3.toNatClampNeg).toInt = -1 then 0 else (z_Ar M0 50 p3.toNatClampNeg).toInt) = x98.toInt := by rw [h163, h164, if_neg (by omega)]
    have hp4166 : 0 ≤ p4.toInt := by rcases hI.2 with ⟨_, h | h⟩ | ⟨h, _⟩ <;> omega
    have h165 : z_Lg M0 51 (60 * p3.toNatClampNeg + (p4.toInt.toNat + b8.toInt.toNat)) = y128 := by rw [show 60 * p3.toNatClampNeg + (p4.toInt.toNat + b8.toInt.toNat) = x126.toNatClampNeg from by unfold Int32.toNatClampNeg; omega]; exact (congrFun (X.2.lg f51 (by decide)) _).symm.trans h129
    have f33 : T[33]? = some (.inr (33, 0, 72, (-2147483648), 2147483647)) := X.1.k rfl (by decide)
    have f34 : T[34]? = some (.inr (34, 0, 72, (-2147483648), 2147483647)) := X.1.k rfl (by decide)
    have q1 : ((1 : Int32)).toInt = 1 := rfl
    exact ih M x153 x157 (1) x159 (some (.long y52)) (some (.int 1)) z0 X ⟨by omega, by omega⟩ ⟨by omega, by omega⟩ ⟨by omega, by omega⟩ ⟨by omega, by omega⟩ ⟨by omega, by omega⟩ (by decide) ⟨by omega, by omega⟩ hp0 ⟨by omega, by omega⟩ (by omega) (by rw [i161]; exact y_rdA hI (by omega) (by rw [hs162]; omega) (fun hz => by have h0 : y128 = 0 := h165.symm.trans hz; have h1 := congrArg Int64.toInt h0; have h2 : (0 : Int64).toInt = 0 := rfl; omega) (by omega) h152.1 h154.1 (z_or0 h158.1)) hQ hJ hT hK hW33 hW34 (by omega)
theorem zUC224 {T : List zK} {d : Nat} {K : Option Value → zH → Prop} {p1 : Int32} {p2 : Int32} {p3 : Int32} {p4 : Int32} {M0 : zH} (hW : z_W M0 T)  (kk : ∀ (x : Int32) (M1 : zH), z_X T zw224 M0 M1 → y_qB M0 p1 x.toInt (z_ke T [] M0 M1) ((x.toInt = -1 ∧ ¬ (0 ≤ p2.toInt ∧ p2.toInt < (z_Ar M0 35 p1.toNatClampNeg).toInt ∧ 0 ≤ p3.toInt ∧ p3.toInt < 6) ∧ z_ke T [] M0 M1) ∨ ((0 ≤ p2.toInt ∧ p2.toInt < (z_Ar M0 35 p1.toNatClampNeg).toInt ∧ 0 ≤ p3.toInt ∧ p3.toInt < 6) ∧ ((x.toInt = -12 ∧ (z_Ar M0 49 p3.toNatClampNeg).toInt ≠ -1 ∧ (z_Ar M0 49 p3.toNatClampNeg).toInt ≠ 24 ∧ z_ke T [] M0 M1) ∨ (((z_Ar M0 49 p3.toNatClampNeg).toInt = -1 ∨ (z_Ar M0 49 p3.toNatClampNeg).toInt = 24) ∧ ∃ Y N : Int32, y_rdS (fun n => z_Lg M0 51 (60 * p3.toNatClampNeg + n)) (if (z_Ar M0 49 p3.toNatClampNeg).toInt = -1 then 0 else (z_Ar M0 50 p3.toNatClampNeg).toInt) p4.toInt (z_Ar M0 24 p1.toNatClampNeg).toInt.toNat Y.toInt N.toInt ∧ ((x.toInt = -2 ∧ ¬ y_cs (fun j => z_Ar M0 30 (1024 * p1.toNatClampNeg + j)) Y N (z_Ar M0 31 p1.toNatClampNeg).toInt.toNat ∧ z_ke T [] M0 M1) ∨ (y_cs (fun j => z_Ar M0 30 (1024 * p1.toNatClampNeg + j)) Y N (z_Ar M0 31 p1.toNatClampNeg).toInt.toNat ∧ x.toInt = ((z_cp (Y.toInt.toNat ||| N.toInt.toNat) 31 : Nat) : Int) ∧ y_alt M0 M1 p1 p2 Y N)))))) → K (some (.int x)) M1) : z_ev (d + 2) 224 0 [some (.ref 19), some (.int p1), some (.int p2), some (.int p3), some (.int p4), none, none, none, none, none, none, none] [] M0 K := by
  have X : z_X T zw224 M0 M0 := .refl hW
  refine z_xP zt224 0 3 [some (.ref 19), some (.int p1), some (.int p2), some (.int p3), some (.int p4), none, none, none, none, none, none, none] [.int p2, .int p1, .ref 19] rfl rfl ?_
  have f19 : T[19]? = some (.inl (12, 0, 0, 0, 0)) := X.1.k rfl (by decide)
  refine z_xcV (vs := [.ref 19, .int p1, .int p2]) (r := []) (L2 := [some (.ref 19), some (.int p1), some (.int p2)]) zt224 1 rfl zo224 zzcV12_234 (Or.inl rfl) rfl X f19 rfl rfl rfl (Nat.le_of_ble_eq_true rfl) zzm223 (Nat.le_of_ble_eq_true rfl) rfl ?_
  refine z_xP zt223 0 2 [some (.ref 19), some (.int p1), some (.int p2)] [.int p1, .ref 19] rfl rfl ?_
  refine z_xcV (vs := [.ref 19, .int p1]) (r := []) (L2 := [some (.ref 19), some (.int p1)]) zt223 1 rfl zo223 zzcV12_209 (Or.inl rfl) rfl X f19 rfl rfl rfl (Nat.le_of_ble_eq_true rfl) zzm209 (Nat.le_of_ble_eq_true rfl) rfl ?_
  refine z_xP zt209 0 1 [some (.ref 19), some (.int p1)] [.int p1] rfl rfl ?_
  refine z_xZ zt209 1 rfl rfl (fun (h1 : p1.toInt < 0) => ?_) (fun (h1 : 0 ≤ p1.toInt) => ?_)
  · skip
    refine z_xP zt209 6 17 [some (.ref 19), some (.int p1)] [.int 0] rfl rfl ?_
    refine z_xrz zt209 7 rfl zzr209 (by decide) (by decide) ?_
    show z_ev (d + 1) 223 5 [some (.ref 19), some (.int p1), some (.int p2)] [.int 0] M0 _
    refine z_xZ zt223 2 rfl rfl (fun (h2 : (0 : Int) = 0) => ?_) (fun (h2 : (0 : Int) ≠ 0) => absurd h2 (by omega))
    refine z_xP zt223 11 27 [some (.ref 19), some (.int p1), some (.int p2)] [.int 0] rfl rfl ?_
    refine z_xrz zt223 12 rfl zzr223 (by decide) (by decide) ?_
    show z_ev (d + 2) 224 6 [some (.ref 19), some (.int p1), some (.int p2), some (.int p3), some (.int p4), none, none, none, none, none, none, none] [.int 0] M0 _
    refine z_xZ zt224 2 rfl rfl (fun (h3 : (0 : Int) = 0) => ?_) (fun (h3 : (0 : Int) ≠ 0) => absurd h3 (by omega))
    refine z_xP zt224 6 17 [some (.ref 19), some (.int p1), some (.int p2), some (.int p3), some (.int p4), none, none, none, none, none, none, none] [.int (-1)] rfl rfl ?_
    have qm1 : (((-1) : Int32)).toInt = (-1) := rfl
    obtain ⟨x4, h5, h6, h7⟩ := z_W.fi X.1 f19 (k := 13) (lo := 0) (hi := 8) (by decide) rfl
    have qm1 : (((-1) : Int32)).toInt = (-1) := rfl
    exact z_xri zt224 7 rfl zzr224 (kk (-1) M0 X (y_qB0 h5 (by omega) (by omega) z_ke.refl))
  refine z_xP zt209 2 6 [some (.ref 19), some (.int p1)] [.ref 19, .int p1] rfl rfl ?_
  refine z_xgI zt209 3 rfl zo209 zzf12_110 X f19 (by decide) (by decide) rfl (fun (x9 : Int32) h8 (h10 : 0 ≤ x9.toInt) (h11 : x9.toInt ≤ 8) => ?_)
  have h12 := z_b32 p1
  refine z_xJ zt209 4 rfl rfl (fun (h13 : x9.toInt ≤ p1.toInt) => ?_) (fun (h13 : p1.toInt < x9.toInt) => ?_)
  · skip
    refine z_xP zt209 6 17 [some (.ref 19), some (.int p1)] [.int 0] rfl rfl ?_
    refine z_xrz zt209 7 rfl zzr209 (by decide) (by decide) ?_
    show z_ev (d + 1) 223 5 [some (.ref 19), some (.int p1), some (.int p2)] [.int 0] M0 _
    refine z_xZ zt223 2 rfl rfl (fun (h14 : (0 : Int) = 0) => ?_) (fun (h14 : (0 : Int) ≠ 0) => absurd h14 (by omega))
    refine z_xP zt223 11 27 [some (.ref 19), some (.int p1), some (.int p2)] [.int 0] rfl rfl ?_
    refine z_xrz zt223 12 rfl zzr223 (by decide) (by decide) ?_
    show z_ev (d + 2) 224 6 [some (.ref 19), some (.int p1), some (.int p2), some (.int p3), some (.int p4), none, none, none, none, none, none, none] [.int 0] M0 _
    refine z_xZ zt224 2 rfl rfl (fun (h15 : (0 : Int) = 0) => ?_) (fun (h15 : (0 : Int) ≠ 0) => absurd h15 (by omega))
    refine z_xP zt224 6 17 [some (.ref 19), some (.int p1), some (.int p2), some (.int p3), some (.int p4), none, none, none, none, none, none, none] [.int (-1)] rfl rfl ?_
    have qm1 : (((-1) : Int32)).toInt = (-1) := rfl
    have qm1 : (((-1) : Int32)).toInt = (-1) := rfl
    exact z_xri zt224 7 rfl zzr224 (kk (-1) M0 X (y_qB0 h8 (by omega) (by omega) z_ke.refl))
  refine z_xP zt209 5 17 [some (.ref 19), some (.int p1)] [.int 1] rfl rfl ?_
  refine z_xrz zt209 7 rfl zzr209 (by decide) (by decide) ?_
  show z_ev (d + 1) 223 5 [some (.ref 19), some (.int p1), some (.int p2)] [.int 1] M0 _
  refine z_xZ zt223 2 rfl rfl (fun (h16 : (1 : Int) = 0) => absurd h16 (by omega)) (fun (h16 : (1 : Int) ≠ 0) => ?_)
  refine z_xP zt223 3 9 [some (.ref 19), some (.int p1), some (.int p2)] [.int p2] rfl rfl ?_
  refine z_xZ zt223 4 rfl rfl (fun (h17 : p2.toInt < 0) => ?_) (fun (h17 : 0 ≤ p2.toInt) => ?_)
  · skip
    refine z_xP zt223 11 27 [some (.ref 19), some (.int p1), some (.int p2)] [.int 0] rfl rfl ?_
    refine z_xrz zt223 12 rfl zzr223 (by decide) (by decide) ?_
    show z_ev (d + 2) 224 6 [some (.ref 19), some (.int p1), some (.int p2), some (.int p3), some (.int p4), none, none, none, none, none, none, none] [.int 0] M0 _
    refine z_xZ zt224 2 rfl rfl (fun (h18 : (0 : Int) = 0) => ?_) (fun (h18 : (0 : Int) ≠ 0) => absurd h18 (by omega))
    refine z_xP zt224 6 17 [some (.ref 19), some (.int p1), some (.int p2), some (.int p3), some (.int p4), none, none, none, none, none, none, none] [.int (-1)] rfl rfl ?_
    have qm1 : (((-1) : Int32)).toInt = (-1) := rfl
    have qm1 : (((-1) : Int32)).toInt = (-1) := rfl
    exact z_xri zt224 7 rfl zzr224 (kk (-1) M0 X (y_qB1 h8 ⟨by omega, by omega⟩ (Or.inl ⟨by omega, (fun h => by obtain ⟨w1, w2, w3, w4⟩ := h; omega), z_ke.refl⟩)))
  refine z_xP zt223 5 14 [some (.ref 19), some (.int p1), some (.int p2)] [.ref 19, .int p2] rfl rfl ?_
  refine z_xgX (b := 35) zt223 6 rfl zo223 zzf12_55 X f19 (by decide) (by decide) rfl ?_
  refine z_xP zt223 7 18 [some (.ref 19), some (.int p1), some (.int p2)] [.int p1, .ref 35, .int p2] rfl rfl ?_
  have f35 : T[35]? = some (.inr (35, 0, 8, 0, 9)) := X.1.k rfl (by decide)
  refine z_xil zt223 8 rfl X f35 (by decide) (by omega) (by omega) (fun (x19 : Int32) h20 (h21 : 0 ≤ x19.toInt) (h22 : x19.toInt ≤ 9) => ?_)
  have h23 := z_b32 p2
  refine z_xJ zt223 9 rfl rfl (fun (h24 : x19.toInt ≤ p2.toInt) => ?_) (fun (h24 : p2.toInt < x19.toInt) => ?_)
  · skip
    refine z_xP zt223 11 27 [some (.ref 19), some (.int p1), some (.int p2)] [.int 0] rfl rfl ?_
    refine z_xrz zt223 12 rfl zzr223 (by decide) (by decide) ?_
    show z_ev (d + 2) 224 6 [some (.ref 19), some (.int p1), some (.int p2), some (.int p3), some (.int p4), none, none, none, none, none, none, none] [.int 0] M0 _
    refine z_xZ zt224 2 rfl rfl (fun (h25 : (0 : Int) = 0) => ?_) (fun (h25 : (0 : Int) ≠ 0) => absurd h25 (by omega))
    refine z_xP zt224 6 17 [some (.ref 19), some (.int p1), some (.int p2), some (.int p3), some (.int p4), none, none, none, none, none, none, none] [.int (-1)] rfl rfl ?_
    have qm1 : (((-1) : Int32)).toInt = (-1) := rfl
    have qm1 : (((-1) : Int32)).toInt = (-1) := rfl
    exact z_xri zt224 7 rfl zzr224 (kk (-1) M0 X (y_qB1 h8 ⟨by omega, by omega⟩ (Or.inl ⟨by omega, (fun h => by obtain ⟨w1, w2, w3, w4⟩ := h; rw [h20] at w2; omega), z_ke.refl⟩)))
  refine z_xP zt223 10 27 [some (.ref 19), some (.int p1), some (.int p2)] [.int 1] rfl rfl ?_
  refine z_xrz zt223 12 rfl zzr223 (by decide) (by decide) ?_
  show z_ev (d + 2) 224 6 [some (.ref 19), some (.int p1), some (.int p2), some (.int p3), some (.int p4), none, none, none, none, none, none, none] [.int 1] M0 _
  refine z_xZ zt224 2 rfl rfl (fun (h26 : (1 : Int) = 0) => absurd h26 (by omega)) (fun (h26 : (1 : Int) ≠ 0) => ?_)
  refine z_xP zt224 3 10 [some (.ref 19), some (.int p1), some (.int p2), some (.int p3), some (.int p4), none, none, none, none, none, none, none] [.int p3] rfl rfl ?_
  refine z_xcS (vs := [.int p3]) (r := []) (L2 := [some (.int p3)]) zt224 4 rfl zo224 zzcS12_237 (Or.inl rfl) (Nat.le_of_ble_eq_true rfl) rfl rfl (Nat.le_of_ble_eq_true rfl) zzm225 (Nat.le_of_ble_eq_true rfl) rfl ?_
  refine z_xP zt225 0 1 [some (.int p3)] [.int p3] rfl rfl ?_
  have h27 := z_b32 p3
  refine z_xL zt225 1 rfl rfl (fun (y28 : Int64) (h29 : y28.toInt = p3.toInt) => ?_) (z_qI2L rfl)
  refine z_xP zt225 2 3 [some (.int p3)] [.long 0, .long y28] rfl rfl ?_
  refine z_xl2 zt225 3 rfl zo225 zkl12_318 ?_
  refine z_xcS (vs := [.long y28, .long 0, .long 5]) (r := []) (L2 := [some (.long y28), none, some (.long 0), none, some (.long 5), none]) zt225 4 rfl zo225 zzcS12_116 (Or.inl rfl) (Nat.le_of_ble_eq_true rfl) rfl rfl (Nat.le_of_ble_eq_true rfl) zzm189 (Nat.le_of_ble_eq_true rfl) rfl ?_
  refine z_xP zt189 0 2 [some (.long y28), none, some (.long 0), none, some (.long 5), none] [.long 0, .long y28] rfl rfl ?_
  refine z_xI zt189 1 rfl rfl (fun (x30 : Int32) (h31 : (x30.toInt < 0 ∧ y28.toInt < 0) ∨ (x30.toInt = 0 ∧ y28.toInt = 0) ∨ (0 < x30.toInt ∧ 0 < y28.toInt)) => ?_) (z_qCmp rfl rfl)
  refine z_xZ zt189 2 rfl rfl (fun (h32 : x30.toInt < 0) => ?_) (fun (h32 : 0 ≤ x30.toInt) => ?_)
  · skip
    refine z_xP zt189 7 18 [some (.long y28), none, some (.long 0), none, some (.long 5), none] [.int 0] rfl rfl ?_
    refine z_xrz zt189 8 rfl zzr189 (by decide) (by decide) ?_
    show z_ev (d + 1) 225 9 [some (.int p3)] [.int 0] M0 _
    refine z_xrz zt225 5 rfl zzr225 (by decide) (by decide) ?_
    show z_ev (d + 2) 224 13 [some (.ref 19), some (.int p1), some (.int p2), some (.int p3), some (.int p4), none, none, none, none, none, none, none] [.int 0] M0 _
    refine z_xZ zt224 5 rfl rfl (fun (h33 : (0 : Int) ≠ 0) => absurd h33 (by omega)) (fun (h33 : (0 : Int) = 0) => ?_)
    refine z_xP zt224 6 17 [some (.ref 19), some (.int p1), some (.int p2), some (.int p3), some (.int p4), none, none, none, none, none, none, none] [.int (-1)] rfl rfl ?_
    have qm1 : (((-1) : Int32)).toInt = (-1) := rfl
    have qm1 : (((-1) : Int32)).toInt = (-1) := rfl
    exact z_xri zt224 7 rfl zzr224 (kk (-1) M0 X (y_qB1 h8 ⟨by omega, by omega⟩ (Or.inl ⟨by omega, (fun h => by obtain ⟨w1, w2, w3, w4⟩ := h; rw [h20] at w2; omega), z_ke.refl⟩)))
  refine z_xP zt189 3 9 [some (.long y28), none, some (.long 0), none, some (.long 5), none] [.long 5, .long y28] rfl rfl ?_
  refine z_xI zt189 4 rfl rfl (fun (x34 : Int32) (h35 : (x34.toInt < 0 ∧ y28.toInt < 5) ∨ (x34.toInt = 0 ∧ y28.toInt = 5) ∨ (0 < x34.toInt ∧ 5 < y28.toInt)) => ?_) (z_qCmp rfl rfl)
  refine z_xZ zt189 5 rfl rfl (fun (h36 : 0 < x34.toInt) => ?_) (fun (h36 : x34.toInt ≤ 0) => ?_)
  · skip
    refine z_xP zt189 7 18 [some (.long y28), none, some (.long 0), none, some (.long 5), none] [.int 0] rfl rfl ?_
    refine z_xrz zt189 8 rfl zzr189 (by decide) (by decide) ?_
    show z_ev (d + 1) 225 9 [some (.int p3)] [.int 0] M0 _
    refine z_xrz zt225 5 rfl zzr225 (by decide) (by decide) ?_
    show z_ev (d + 2) 224 13 [some (.ref 19), some (.int p1), some (.int p2), some (.int p3), some (.int p4), none, none, none, none, none, none, none] [.int 0] M0 _
    refine z_xZ zt224 5 rfl rfl (fun (h37 : (0 : Int) ≠ 0) => absurd h37 (by omega)) (fun (h37 : (0 : Int) = 0) => ?_)
    refine z_xP zt224 6 17 [some (.ref 19), some (.int p1), some (.int p2), some (.int p3), some (.int p4), none, none, none, none, none, none, none] [.int (-1)] rfl rfl ?_
    have qm1 : (((-1) : Int32)).toInt = (-1) := rfl
    have qm1 : (((-1) : Int32)).toInt = (-1) := rfl
    exact z_xri zt224 7 rfl zzr224 (kk (-1) M0 X (y_qB1 h8 ⟨by omega, by omega⟩ (Or.inl ⟨by omega, (fun h => by obtain ⟨w1, w2, w3, w4⟩ := h; rw [h20] at w2; omega), z_ke.refl⟩)))
  refine z_xP zt189 6 18 [some (.long y28), none, some (.long 0), none, some (.long 5), none] [.int 1] rfl rfl ?_
  refine z_xrz zt189 8 rfl zzr189 (by decide) (by decide) ?_
  show z_ev (d + 1) 225 9 [some (.int p3)] [.int 1] M0 _
  refine z_xrz zt225 5 rfl zzr225 (by decide) (by decide) ?_
  show z_ev (d + 2) 224 13 [some (.ref 19), some (.int p1), some (.int p2), some (.int p3), some (.int p4), none, none, none, none, none, none, none] [.int 1] M0 _
  refine z_xZ zt224 5 rfl rfl (fun (h38 : (1 : Int) ≠ 0) => ?_) (fun (h38 : (1 : Int) = 0) => absurd h38 (by omega))
  refine z_xP zt224 8 19 [some (.ref 19), some (.int p1), some (.int p2), some (.int p3), some (.int p4), none, none, none, none, none, none, none] [.ref 19] rfl rfl ?_
  refine z_xgX (b := 49) zt224 9 rfl zo224 zzf12_97 X f19 (by decide) (by decide) rfl ?_
  refine z_xP zt224 10 23 [some (.ref 19), some (.int p1), some (.int p2), some (.int p3), some (.int p4), none, none, none, none, none, none, none] [.int p3, .ref 49] rfl rfl ?_
  have f49 : T[49]? = some (.inr (49, 0, 6, (-1), 24)) := X.1.k rfl (by decide)
  refine z_xil zt224 11 rfl X f49 (by decide) (by omega) (by omega) (fun (x39 : Int32) h40 (h41 : (-1) ≤ x39.toInt) (h42 : x39.toInt ≤ 24) => ?_)
  refine z_xP zt224 12 25 [some (.ref 19), some (.int p1), some (.int p2), some (.int p3), some (.int p4), none, none, none, none, none, none, none] [.int (-1), .int x39] rfl rfl ?_
  refine z_xJ zt224 13 rfl rfl (fun (h43 : x39.toInt = (-1)) => ?_) (fun (h43 : x39.toInt ≠ (-1)) => ?_)
  · skip
    refine z_xP zt224 22 54 [some (.ref 19), some (.int p1), some (.int p2), some (.int p3), some (.int p4), some (.int 0), some (.int 0), some (.int 1), some (.int 0), none, none, none] [] rfl rfl ?_
    have f24 : T[24]? = some (.inr (24, 0, 8, 0, 10)) := X.1.k rfl (by decide)
    obtain ⟨x44, h45, h46, h47⟩ := z_W.ae (x := p1) X.1 f24 (by decide) (by omega) (by omega)
    have f33 : T[33]? = some (.inr (33, 0, 72, (-2147483648), 2147483647)) := X.1.k rfl (by decide)
    have f34 : T[34]? = some (.inr (34, 0, 72, (-2147483648), 2147483647)) := X.1.k rfl (by decide)
    have q0 : ((0 : Int32)).toInt = 0 := rfl
    have q1 : ((1 : Int32)).toInt = 1 := rfl
    exact (zUB224 kk 22) M0 (0) (0) (1) (0) none none x44 X ⟨by omega, by omega⟩ ⟨by omega, by omega⟩ ⟨by omega, by omega⟩ (by decide) (by decide) (by decide) (by decide) h45 ⟨by omega, by omega⟩ (by omega) (y_rd0 (x0 := 0) rfl rfl rfl rfl) ⟨_, h8, by omega, by omega⟩ (by rw [h20]; exact ⟨by omega, by omega, by omega, by omega⟩) (by rw [h40]; omega) z_ke.refl rfl rfl (by omega)
  refine z_xP zt224 14 29 [some (.ref 19), some (.int p1), some (.int p2), some (.int p3), some (.int p4), none, none, none, none, none, none, none] [.ref 19] rfl rfl ?_
  refine z_xgX (b := 49) zt224 15 rfl zo224 zzf12_97 X f19 (by decide) (by decide) rfl ?_
  refine z_xP zt224 16 33 [some (.ref 19), some (.int p1), some (.int p2), some (.int p3), some (.int p4), none, none, none, none, none, none, none] [.int p3, .ref 49] rfl rfl ?_
  refine z_xil zt224 17 rfl X f49 (by decide) (by omega) (by omega) (fun (x48 : Int32) h49 (h50 : (-1) ≤ x48.toInt) (h51 : x48.toInt ≤ 24) => ?_)
  have h52 := congrArg Int32.toInt (h49.symm.trans h40)
  refine z_xP zt224 18 36 [some (.ref 19), some (.int p1), some (.int p2), some (.int p3), some (.int p4), none, none, none, none, none, none, none] [.int 24, .int x48] rfl rfl ?_
  refine z_xJ zt224 19 rfl rfl (fun (h53 : x48.toInt = 24) => ?_) (fun (h53 : x48.toInt ≠ 24) => ?_)
  · skip
    refine z_xP zt224 22 54 [some (.ref 19), some (.int p1), some (.int p2), some (.int p3), some (.int p4), some (.int 0), some (.int 0), some (.int 1), some (.int 0), none, none, none] [] rfl rfl ?_
    have f24 : T[24]? = some (.inr (24, 0, 8, 0, 10)) := X.1.k rfl (by decide)
    obtain ⟨x54, h55, h56, h57⟩ := z_W.ae (x := p1) X.1 f24 (by decide) (by omega) (by omega)
    have f33 : T[33]? = some (.inr (33, 0, 72, (-2147483648), 2147483647)) := X.1.k rfl (by decide)
    have f34 : T[34]? = some (.inr (34, 0, 72, (-2147483648), 2147483647)) := X.1.k rfl (by decide)
    have q0 : ((0 : Int32)).toInt = 0 := rfl
    have q1 : ((1 : Int32)).toInt = 1 := rfl
    exact (zUB224 kk 22) M0 (0) (0) (1) (0) none none x54 X ⟨by omega, by omega⟩ ⟨by omega, by omega⟩ ⟨by omega, by omega⟩ (by decide) (by decide) (by decide) (by decide) h55 ⟨by omega, by omega⟩ (by omega) (y_rd0 (x0 := 0) rfl rfl rfl rfl) ⟨_, h8, by omega, by omega⟩ (by rw [h20]; exact ⟨by omega, by omega, by omega, by omega⟩) (by rw [h40]; omega) z_ke.refl rfl rfl (by omega)
  refine z_xP zt224 20 41 [some (.ref 19), some (.int p1), some (.int p2), some (.int p3), some (.int p4), none, none, none, none, none, none, none] [.int (-12)] rfl rfl ?_
  have qm12 : (((-12) : Int32)).toInt = (-12) := rfl
  have qm12 : (((-12) : Int32)).toInt = (-12) := rfl
  exact z_xri zt224 21 rfl zzr224 (kk (-12) M0 X (y_qB1 h8 ⟨by omega, by omega⟩ (Or.inr ⟨(by rw [h20]; exact ⟨by omega, by omega, by omega, by omega⟩), Or.inl ⟨by omega, by rw [h40]; omega, by rw [h40]; omega, z_ke.refl⟩⟩)))
