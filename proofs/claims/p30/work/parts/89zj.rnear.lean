/-! 234, 233, told -/
theorem zUB234 {T : List zK} {d : Nat} {K : Option Value → zH → Prop} {p1 : Int32} {p2 : Int32} {sv bv : Int32} {M0 : zH} (hs : z_F M0 19 30 = some (.int sv)) (hsv : 0 ≤ sv.toInt ∧ sv.toInt ≤ 9) (hnn : ∀ j, j < sv.toInt.toNat → 0 ≤ (z_Ar M0 40 j).toInt ∧ 0 ≤ (z_Ar M0 41 j).toInt) (hb9 : z_F M0 19 29 = some (.int bv)) (hbv : 0 ≤ bv.toInt ∧ bv.toInt ≤ 7) (h31 : ∀ a : Nat, a < 8 → 0 ≤ (z_Ar M0 31 a).toInt ∧ (z_Ar M0 31 a).toInt ≤ 1024) (kk : ∀ (x : Int32) (M1 : zH), z_X T zw234 M0 M1 → (-1) ≤ x.toInt → x.toInt ≤ 1023 → z_nofD (fun s => (z_ds (z_Ar M0 39) (z_Ar M0 40) (z_Ar M0 41) s sv.toInt.toNat).toInt) (fun j => z_Ar M0 30 (1024 * bv.toNatClampNeg + j)) (y_hs p1 p2) (z_Ar M0 31 bv.toNatClampNeg).toInt.toNat x.toInt → K (some (.int x)) M1) : ∀ n : Nat, (∀ (M : zH) (b3 : Int32) (b4 : Int32) (o5 : Option Value), z_X T zw234 M0 M → (-1) ≤ b3.toInt ∧ b3.toInt ≤ 1023 → 0 ≤ b4.toInt ∧ b4.toInt ≤ 1024 → z_nofD (fun s => (z_ds (z_Ar M0 39) (z_Ar M0 40) (z_Ar M0 41) s sv.toInt.toNat).toInt) (fun j => z_Ar M0 30 (1024 * bv.toNatClampNeg + j)) (y_hs p1 p2) b4.toInt.toNat b3.toInt → b4.toInt ≤ (z_Ar M0 31 bv.toNatClampNeg).toInt → ((0) * 2 + 0) * 1025 + (1024 - b4.toInt) < (n : Int) → z_ev (d + 2) 234 5 [some (.ref 19), some (.int p1), some (.int p2), some (.int b3), some (.int b4), o5] [] M K) := by
  intro n
  induction n with
  | zero => exact by intros; exfalso; omega
  | succ n ih =>
    intro M b3 b4 o5 X hh0 hh1 hI hM hE
    refine z_xP zt234 1 8 [some (.ref 19), some (.int p1), some (.int p2), some (.int b3), some (.int b4), o5] [.ref 19, .int b4] rfl rfl ?_
    have f19 : T[19]? = some (.inl (12, 0, 0, 0, 0)) := X.1.k rfl (by decide)
    refine z_xgX (b := 31) zt234 2 rfl zo234 zzf12_43 X f19 (by decide) (by decide) rfl ?_
    refine z_xP zt234 3 12 [some (.ref 19), some (.int p1), some (.int p2), some (.int b3), some (.int b4), o5] [.ref 19, .ref 31, .int b4] rfl rfl ?_
    refine z_xgI zt234 4 rfl zo234 zzf12_242 X f19 (by decide) (by decide) rfl (fun (x2 : Int32) h1 (h3 : 0 ≤ x2.toInt) (h4 : x2.toInt ≤ 7) => ?_)
    have f31 : T[31]? = some (.inr (31, 0, 8, 0, 1024)) := X.1.k rfl (by decide)
    refine z_xil zt234 5 rfl X f31 (by decide) (by omega) (by omega) (fun (x5 : Int32) h6 (h7 : 0 ≤ x5.toInt) (h8 : x5.toInt ≤ 1024) => ?_)
    refine z_xJ zt234 6 rfl rfl (fun (h9 : x5.toInt ≤ b4.toInt) => ?_) (fun (h9 : b4.toInt < x5.toInt) => ?_)
    · skip
      refine z_xP zt234 28 75 [some (.ref 19), some (.int p1), some (.int p2), some (.int b3), some (.int b4), o5] [.int b3] rfl rfl ?_
      have eb10 := congrArg Int32.toInt (z_ive h1 (X.2.f f19 (by decide) hb9))
      have em11 : x5.toInt = (z_Ar M0 31 bv.toNatClampNeg).toInt := by rw [show bv.toNatClampNeg = x2.toNatClampNeg from by unfold Int32.toNatClampNeg; omega]; exact (congrArg Int32.toInt ((congrFun (X.2.a f31 (by decide)) _).symm.trans h6)).symm
      have i12 : b4.toInt.toNat = (z_Ar M0 31 bv.toNatClampNeg).toInt.toNat := by omega
      exact z_xri zt234 29 rfl zzr234 (kk b3 M X (by omega) (by omega) (by rw [← i12]; exact hI))
    refine z_xP zt234 7 20 [some (.ref 19), some (.int p1), some (.int p2), some (.int b3), some (.int b4), o5] [.ref 19] rfl rfl ?_
    refine z_xgX (b := 30) zt234 8 rfl zo234 zzf12_40 X f19 (by decide) (by decide) rfl ?_
    refine z_xP zt234 9 27 [some (.ref 19), some (.int p1), some (.int p2), some (.int b3), some (.int b4), o5] [.ref 19, .int 1024, .ref 30] rfl rfl ?_
    refine z_xgv zt234 10 rfl zo234 zzf12_242 X f19 (by decide) h1 ?_
    refine z_xI zt234 11 rfl rfl (fun (x13 : Int32) (h14 : x13.toInt = 1024 * x2.toInt) => ?_) (z_pMul rfl rfl (by omega) (by omega))
    refine z_xP zt234 12 33 [some (.ref 19), some (.int p1), some (.int p2), some (.int b3), some (.int b4), o5] [.int b4, .int x13, .ref 30] rfl rfl ?_
    refine z_xI zt234 13 rfl rfl (fun (x15 : Int32) (h16 : x15.toInt = x13.toInt + b4.toInt) => ?_) (z_pAdd rfl rfl (by omega) (by omega))
    have f30 : T[30]? = some (.inr (30, 0, 8192, 0, 1023)) := X.1.k rfl (by decide)
    refine z_xil zt234 14 rfl X f30 (by decide) (by omega) (by omega) (fun (x17 : Int32) h18 (h19 : 0 ≤ x17.toInt) (h20 : x17.toInt ≤ 1023) => ?_)
    refine z_xP zt234 15 41 [some (.ref 19), some (.int p1), some (.int p2), some (.int b3), some (.int b4), some (.int x17)] [.int p2, .int p1, .int x17] rfl rfl ?_
    refine z_xcS (vs := [.int x17, .int p1, .int p2]) (r := []) (L2 := [some (.int x17), some (.int p1), some (.int p2)]) zt234 16 rfl zo234 zzcS12_216 (Or.inl rfl) (Nat.le_of_ble_eq_true rfl) rfl rfl (Nat.le_of_ble_eq_true rfl) zzm216 (Nat.le_of_ble_eq_true rfl) rfl ?_
    refine z_xP zt216 0 2 [some (.int x17), some (.int p1), some (.int p2)] [.int p1, .int x17] rfl rfl ?_
    refine z_xI zt216 1 rfl rfl (fun (x21 : Int32) (h22 : x21 = x17 &&& p1) => ?_) (rfl)
    refine z_xP zt216 2 4 [some (.int x17), some (.int p1), some (.int p2)] [.int p1, .int x21] rfl rfl ?_
    have h23 := z_b32 x21
    have h24 := z_b32 p1
    refine z_xJ zt216 3 rfl rfl (fun (h25 : x21.toInt ≠ p1.toInt) => ?_) (fun (h25 : x21.toInt = p1.toInt) => ?_)
    · skip
      refine z_xP zt216 8 18 [some (.int x17), some (.int p1), some (.int p2)] [.int 0] rfl rfl ?_
      refine z_xrz zt216 9 rfl zzr216 (by decide) (by decide) ?_
      show z_ev (d + 2) 234 44 [some (.ref 19), some (.int p1), some (.int p2), some (.int b3), some (.int b4), some (.int x17)] [.int 0] M _
      refine z_xZ zt234 17 rfl rfl (fun (h26 : (0 : Int) = 0) => ?_) (fun (h26 : (0 : Int) ≠ 0) => absurd h26 (by omega))
      refine z_xN zt234 26 rfl rfl (fun (x27 : Int32) (h28 : x27.toInt = b4.toInt + 1) => ?_) (z_pAdd rfl rfl (by omega) (by omega))
      show z_ev (d + 2) 234 71 [some (.ref 19), some (.int p1), some (.int p2), some (.int b3), some (.int x27), some (.int x17)] [] M _
      refine z_xP zt234 27 5 [some (.ref 19), some (.int p1), some (.int p2), some (.int b3), some (.int x27), some (.int x17)] [] rfl rfl ?_
      have i29 : x27.toInt.toNat = b4.toInt.toNat + 1 := by omega
      have eb31 := congrArg Int32.toInt (z_ive h1 (X.2.f f19 (by decide) hb9))
      have hs30 : z_Ar M0 30 (1024 * bv.toNatClampNeg + b4.toInt.toNat) = x17 := by rw [show 1024 * bv.toNatClampNeg + b4.toInt.toNat = x15.toNatClampNeg from by unfold Int32.toNatClampNeg; omega]; exact (congrFun (X.2.a f30 (by decide)) _).symm.trans h18
      have em32 : x5.toInt = (z_Ar M0 31 bv.toNatClampNeg).toInt := by rw [show bv.toNatClampNeg = x2.toNatClampNeg from by unfold Int32.toNatClampNeg; omega]; exact (congrArg Int32.toInt ((congrFun (X.2.a f31 (by decide)) _).symm.trans h6)).symm
      exact ih M b3 x27 (some (.int x17)) X ⟨by omega, by omega⟩ ⟨by omega, by omega⟩ (by rw [i29]; exact z_nofK hI hs30 (fun h => absurd h.1 (by rw [← h22]; omega))) (by omega) (by omega)
    refine z_xP zt216 4 9 [some (.int x17), some (.int p1), some (.int p2)] [.int p2, .int x17] rfl rfl ?_
    refine z_xI zt216 5 rfl rfl (fun (x33 : Int32) (h34 : x33 = x17 &&& p2) => ?_) (rfl)
    refine z_xZ zt216 6 rfl rfl (fun (h35 : x33.toInt ≠ 0) => ?_) (fun (h35 : x33.toInt = 0) => ?_)
    · skip
      refine z_xP zt216 8 18 [some (.int x17), some (.int p1), some (.int p2)] [.int 0] rfl rfl ?_
      refine z_xrz zt216 9 rfl zzr216 (by decide) (by decide) ?_
      show z_ev (d + 2) 234 44 [some (.ref 19), some (.int p1), some (.int p2), some (.int b3), some (.int b4), some (.int x17)] [.int 0] M _
      refine z_xZ zt234 17 rfl rfl (fun (h36 : (0 : Int) = 0) => ?_) (fun (h36 : (0 : Int) ≠ 0) => absurd h36 (by omega))
      refine z_xN zt234 26 rfl rfl (fun (x37 : Int32) (h38 : x37.toInt = b4.toInt + 1) => ?_) (z_pAdd rfl rfl (by omega) (by omega))
      show z_ev (d + 2) 234 71 [some (.ref 19), some (.int p1), some (.int p2), some (.int b3), some (.int x37), some (.int x17)] [] M _
      refine z_xP zt234 27 5 [some (.ref 19), some (.int p1), some (.int p2), some (.int b3), some (.int x37), some (.int x17)] [] rfl rfl ?_
      have i39 : x37.toInt.toNat = b4.toInt.toNat + 1 := by omega
      have eb41 := congrArg Int32.toInt (z_ive h1 (X.2.f f19 (by decide) hb9))
      have hs40 : z_Ar M0 30 (1024 * bv.toNatClampNeg + b4.toInt.toNat) = x17 := by rw [show 1024 * bv.toNatClampNeg + b4.toInt.toNat = x15.toNatClampNeg from by unfold Int32.toNatClampNeg; omega]; exact (congrFun (X.2.a f30 (by decide)) _).symm.trans h18
      have em42 : x5.toInt = (z_Ar M0 31 bv.toNatClampNeg).toInt := by rw [show bv.toNatClampNeg = x2.toNatClampNeg from by unfold Int32.toNatClampNeg; omega]; exact (congrArg Int32.toInt ((congrFun (X.2.a f31 (by decide)) _).symm.trans h6)).symm
      exact ih M b3 x37 (some (.int x17)) X ⟨by omega, by omega⟩ ⟨by omega, by omega⟩ (by rw [i39]; exact z_nofK hI hs40 (fun h => absurd h.2 (by rw [← h34]; omega))) (by omega) (by omega)
    refine z_xP zt216 7 18 [some (.int x17), some (.int p1), some (.int p2)] [.int 1] rfl rfl ?_
    refine z_xrz zt216 9 rfl zzr216 (by decide) (by decide) ?_
    show z_ev (d + 2) 234 44 [some (.ref 19), some (.int p1), some (.int p2), some (.int b3), some (.int b4), some (.int x17)] [.int 1] M _
    refine z_xZ zt234 17 rfl rfl (fun (h43 : (1 : Int) = 0) => absurd h43 (by omega)) (fun (h43 : (1 : Int) ≠ 0) => ?_)
    refine z_xP zt234 18 48 [some (.ref 19), some (.int p1), some (.int p2), some (.int b3), some (.int b4), some (.int x17)] [.int b3] rfl rfl ?_
    refine z_xZ zt234 19 rfl rfl (fun (h44 : b3.toInt < 0) => ?_) (fun (h44 : 0 ≤ b3.toInt) => ?_)
    · skip
      refine z_xP zt234 25 68 [some (.ref 19), some (.int p1), some (.int p2), some (.int x17), some (.int b4), some (.int x17)] [] rfl rfl ?_
      refine z_xN zt234 26 rfl rfl (fun (x45 : Int32) (h46 : x45.toInt = b4.toInt + 1) => ?_) (z_pAdd rfl rfl (by omega) (by omega))
      show z_ev (d + 2) 234 71 [some (.ref 19), some (.int p1), some (.int p2), some (.int x17), some (.int x45), some (.int x17)] [] M _
      refine z_xP zt234 27 5 [some (.ref 19), some (.int p1), some (.int p2), some (.int x17), some (.int x45), some (.int x17)] [] rfl rfl ?_
      have i47 : x45.toInt.toNat = b4.toInt.toNat + 1 := by omega
      have eb49 := congrArg Int32.toInt (z_ive h1 (X.2.f f19 (by decide) hb9))
      have hs48 : z_Ar M0 30 (1024 * bv.toNatClampNeg + b4.toInt.toNat) = x17 := by rw [show 1024 * bv.toNatClampNeg + b4.toInt.toNat = x15.toNatClampNeg from by unfold Int32.toNatClampNeg; omega]; exact (congrFun (X.2.a f30 (by decide)) _).symm.trans h18
      have em50 : x5.toInt = (z_Ar M0 31 bv.toNatClampNeg).toInt := by rw [show bv.toNatClampNeg = x2.toNatClampNeg from by unfold Int32.toNatClampNeg; omega]; exact (congrArg Int32.toInt ((congrFun (X.2.a f31 (by decide)) _).symm.trans h6)).symm
      exact ih M x17 x45 (some (.int x17)) X ⟨by omega, by omega⟩ ⟨by omega, by omega⟩ (by rw [i47]; exact z_nofT hI hs48 (by omega) ⟨by rw [← h22]; omega, by rw [← h34]; omega⟩ (Or.inl (by omega))) (by omega) (by omega)
    refine z_xP zt234 20 54 [some (.ref 19), some (.int p1), some (.int p2), some (.int b3), some (.int b4), some (.int x17)] [.int x17, .ref 19] rfl rfl ?_
    refine z_xcV (vs := [.ref 19, .int x17]) (r := []) (L2 := [some (.ref 19), some (.int x17), none, none]) zt234 21 rfl zo234 zzcV12_259 (Or.inl rfl) rfl X f19 rfl rfl rfl (Nat.le_of_ble_eq_true rfl) zzm232 (Nat.le_of_ble_eq_true rfl) rfl ?_
    have f40 : T[40]? = some (.inr (40, 0, 9, (-2147483648), 2147483647)) := X.1.k rfl (by decide)
    have f41 : T[41]? = some (.inr (41, 0, 9, (-2147483648), 2147483647)) := X.1.k rfl (by decide)
    refine zUC232 X.1 (by omega) (X.2.f f19 (by decide) hs) hsv (by rw [X.2.a f40 (by decide), X.2.a f41 (by decide)]; exact hnn) (fun x54 M51 X52 h53 => ?_)
    have X55 := X.go X52 (z_sb (by decide))
    show z_ev (d + 2) 234 57 [some (.ref 19), some (.int p1), some (.int p2), some (.int b3), some (.int b4), some (.int x17)] [.int x54] M51 _
    refine z_xP zt234 22 59 [some (.ref 19), some (.int p1), some (.int p2), some (.int b3), some (.int b4), some (.int x17)] [.int b3, .ref 19, .int x54] rfl rfl ?_
    refine z_xcV (vs := [.ref 19, .int b3]) (r := [.int x54]) (L2 := [some (.ref 19), some (.int b3), none, none]) zt234 23 rfl zo234 zzcV12_259 (Or.inl rfl) rfl X55 f19 rfl rfl rfl (Nat.le_of_ble_eq_true rfl) zzm232 (Nat.le_of_ble_eq_true rfl) rfl ?_
    refine zUC232 X55.1 (by omega) (X55.2.f f19 (by decide) hs) hsv (by rw [X55.2.a f40 (by decide), X55.2.a f41 (by decide)]; exact hnn) (fun x60 M57 X58 h59 => ?_)
    have X61 := X55.go X58 (z_sb (by decide))
    show z_ev (d + 2) 234 62 [some (.ref 19), some (.int p1), some (.int p2), some (.int b3), some (.int b4), some (.int x17)] [.int x60, .int x54] M57 _
    have h63 := z_b32 x54
    have h64 := z_b32 x60
    refine z_xJ zt234 24 rfl rfl (fun (h65 : x60.toInt ≤ x54.toInt) => ?_) (fun (h65 : x54.toInt < x60.toInt) => ?_)
    · skip
      refine z_xN zt234 26 rfl rfl (fun (x66 : Int32) (h67 : x66.toInt = b4.toInt + 1) => ?_) (z_pAdd rfl rfl (by omega) (by omega))
      show z_ev (d + 2) 234 71 [some (.ref 19), some (.int p1), some (.int p2), some (.int b3), some (.int x66), some (.int x17)] [] M57 _
      refine z_xP zt234 27 5 [some (.ref 19), some (.int p1), some (.int p2), some (.int b3), some (.int x66), some (.int x17)] [] rfl rfl ?_
      have i68 : x66.toInt.toNat = b4.toInt.toNat + 1 := by omega
      have hs69 : z_Ar M0 30 (1024 * bv.toNatClampNeg + b4.toInt.toNat) = x17 := by rw [show 1024 * bv.toNatClampNeg + b4.toInt.toNat = x15.toNatClampNeg from by have eb := congrArg Int32.toInt (z_ive h1 (X.2.f f19 (by decide) hb9)); unfold Int32.toNatClampNeg; omega]; exact (congrFun (X.2.a f30 (by decide)) _).symm.trans h18
      have f39 : T[39]? = some (.inr (39, 0, 9, (-2147483648), 2147483647)) := X61.1.k rfl (by decide)
      rw [X.2.a f39 (by decide), X.2.a f40 (by decide), X.2.a f41 (by decide)] at h53
      rw [X55.2.a f39 (by decide), X55.2.a f40 (by decide), X55.2.a f41 (by decide)] at h59
      have eb70 := congrArg Int32.toInt (z_ive h1 (X.2.f f19 (by decide) hb9))
      have em71 : x5.toInt = (z_Ar M0 31 bv.toNatClampNeg).toInt := by rw [show bv.toNatClampNeg = x2.toNatClampNeg from by unfold Int32.toNatClampNeg; omega]; exact (congrArg Int32.toInt ((congrFun (X.2.a f31 (by decide)) _).symm.trans h6)).symm
      exact ih M57 b3 x66 (some (.int x17)) X61 ⟨by omega, by omega⟩ ⟨by omega, by omega⟩ (by rw [i68]; exact z_nofL hI hs69 (by omega) (by rw [← h53, ← h59]; omega)) (by omega) (by omega)
    refine z_xP zt234 25 68 [some (.ref 19), some (.int p1), some (.int p2), some (.int x17), some (.int b4), some (.int x17)] [] rfl rfl ?_
    refine z_xN zt234 26 rfl rfl (fun (x72 : Int32) (h73 : x72.toInt = b4.toInt + 1) => ?_) (z_pAdd rfl rfl (by omega) (by omega))
    show z_ev (d + 2) 234 71 [some (.ref 19), some (.int p1), some (.int p2), some (.int x17), some (.int x72), some (.int x17)] [] M57 _
    refine z_xP zt234 27 5 [some (.ref 19), some (.int p1), some (.int p2), some (.int x17), some (.int x72), some (.int x17)] [] rfl rfl ?_
    have i74 : x72.toInt.toNat = b4.toInt.toNat + 1 := by omega
    have hs75 : z_Ar M0 30 (1024 * bv.toNatClampNeg + b4.toInt.toNat) = x17 := by rw [show 1024 * bv.toNatClampNeg + b4.toInt.toNat = x15.toNatClampNeg from by have eb := congrArg Int32.toInt (z_ive h1 (X.2.f f19 (by decide) hb9)); unfold Int32.toNatClampNeg; omega]; exact (congrFun (X.2.a f30 (by decide)) _).symm.trans h18
    have f39 : T[39]? = some (.inr (39, 0, 9, (-2147483648), 2147483647)) := X61.1.k rfl (by decide)
    rw [X.2.a f39 (by decide), X.2.a f40 (by decide), X.2.a f41 (by decide)] at h53
    rw [X55.2.a f39 (by decide), X55.2.a f40 (by decide), X55.2.a f41 (by decide)] at h59
    have eb76 := congrArg Int32.toInt (z_ive h1 (X.2.f f19 (by decide) hb9))
    have em77 : x5.toInt = (z_Ar M0 31 bv.toNatClampNeg).toInt := by rw [show bv.toNatClampNeg = x2.toNatClampNeg from by unfold Int32.toNatClampNeg; omega]; exact (congrArg Int32.toInt ((congrFun (X.2.a f31 (by decide)) _).symm.trans h6)).symm
    exact ih M57 x17 x72 (some (.int x17)) X61 ⟨by omega, by omega⟩ ⟨by omega, by omega⟩ (by rw [i74]; exact z_nofT hI hs75 (by omega) ⟨by rw [← h22]; omega, by rw [← h34]; omega⟩ (Or.inr (by (try dsimp only); rw [← h53, ← h59]; omega))) (by omega) (by omega)
theorem zUC234 {T : List zK} {d : Nat} {K : Option Value → zH → Prop} {p1 : Int32} {p2 : Int32} {sv bv : Int32} {M0 : zH} (hW : z_W M0 T) (hs : z_F M0 19 30 = some (.int sv)) (hsv : 0 ≤ sv.toInt ∧ sv.toInt ≤ 9) (hnn : ∀ j, j < sv.toInt.toNat → 0 ≤ (z_Ar M0 40 j).toInt ∧ 0 ≤ (z_Ar M0 41 j).toInt) (hb9 : z_F M0 19 29 = some (.int bv)) (hbv : 0 ≤ bv.toInt ∧ bv.toInt ≤ 7) (h31 : ∀ a : Nat, a < 8 → 0 ≤ (z_Ar M0 31 a).toInt ∧ (z_Ar M0 31 a).toInt ≤ 1024) (kk : ∀ (x : Int32) (M1 : zH), z_X T zw234 M0 M1 → (-1) ≤ x.toInt → x.toInt ≤ 1023 → z_nofD (fun s => (z_ds (z_Ar M0 39) (z_Ar M0 40) (z_Ar M0 41) s sv.toInt.toNat).toInt) (fun j => z_Ar M0 30 (1024 * bv.toNatClampNeg + j)) (y_hs p1 p2) (z_Ar M0 31 bv.toNatClampNeg).toInt.toNat x.toInt → K (some (.int x)) M1) : z_ev (d + 2) 234 0 [some (.ref 19), some (.int p1), some (.int p2), none, none, none] [] M0 K := by
  have X : z_X T zw234 M0 M0 := .refl hW
  refine z_xP zt234 0 5 [some (.ref 19), some (.int p1), some (.int p2), some (.int (-1)), some (.int 0), none] [] rfl rfl ?_
  have qm1 : (((-1) : Int32)).toInt = (-1) := rfl
  have q0 : ((0 : Int32)).toInt = 0 := rfl
  exact (zUB234 hs hsv hnn hb9 hbv h31 kk 2050) M0 ((-1)) (0) none X (by decide) (by decide) (z_nof0 rfl rfl) (h31 _ (by unfold Int32.toNatClampNeg; omega)).1 (by omega)
theorem zUB233 {T : List zK} {d : Nat} {K : Option Value → zH → Prop} {p1 : Int32} {p2 : Int32} {M0 : zH} (hW0 : z_W M0 T) (hj9 : ∀ a : Nat, a < 8 → 0 ≤ (z_Ar M0 35 a).toInt ∧ (z_Ar M0 35 a).toInt ≤ 9) (hyn : ∀ a j : Nat, (a : Int) < (z_Fv M0 19 13).toInt → j < (z_Ar M0 35 a).toInt.toNat → 0 ≤ (z_Ar M0 33 (9 * a + j)).toInt ∧ 0 ≤ (z_Ar M0 34 (9 * a + j)).toInt) (h31 : ∀ a : Nat, a < 8 → 0 ≤ (z_Ar M0 31 a).toInt ∧ (z_Ar M0 31 a).toInt ≤ 1024) (hR4 : z_G4 M0) (kk : ∀ (x : Int32) (M1 : zH), z_X T zw233 M0 M1 → (-1) ≤ x.toInt → x.toInt ≤ 1025 → y_qB M0 p1 x.toInt True ((x.toInt = -1 ∧ p2.toInt < -1) ∨ (-1 ≤ p2.toInt ∧ y_nrP (fun k => (z_ds (fun j => z_Ar M0 32 (9 * p1.toNatClampNeg + j)) (fun j => z_Ar M0 33 (9 * p1.toNatClampNeg + j)) (fun j => z_Ar M0 34 (9 * p1.toNatClampNeg + j)) (z_Ar M0 30 (1024 * p1.toNatClampNeg + k)) (z_Ar M0 35 p1.toNatClampNeg).toInt.toNat).toInt) (fun j => z_Ar M0 30 (1024 * p1.toNatClampNeg + j)) (z_Ar M0 31 p1.toNatClampNeg).toInt.toNat p2.toInt x.toInt)) → K (some (.int x)) M1) : ∀ n : Nat, (∀ (M : zH) (b3 : Int32) (b4 : Int32) (b5 : Int32) (o6 : Option Value), z_X T zw233 M0 M → 0 ≤ p1.toInt ∧ p1.toInt ≤ 7 → (-1) ≤ p2.toInt ∧ p2.toInt ≤ 2147483647 → 0 ≤ b4.toInt ∧ b4.toInt ≤ 1025 → 0 ≤ b5.toInt ∧ b5.toInt ≤ 1024 → 0 ≤ b4.toInt → b4.toInt ≤ b5.toInt → p2.toInt < 0 ∨ b4.toInt ≤ p2.toInt → 0 ≤ p1.toInt → p1.toInt ≤ 7 → z_sit M0 M p1.toNatClampNeg → (∀ j, j < (z_Ar M0 35 p1.toNatClampNeg).toInt.toNat → 0 ≤ (z_Ar M0 33 (9 * p1.toNatClampNeg + j)).toInt ∧ 0 ≤ (z_Ar M0 34 (9 * p1.toNatClampNeg + j)).toInt) → z_mnm (fun k => (z_ds (fun j => z_Ar M0 32 (9 * p1.toNatClampNeg + j)) (fun j => z_Ar M0 33 (9 * p1.toNatClampNeg + j)) (fun j => z_Ar M0 34 (9 * p1.toNatClampNeg + j)) (z_Ar M0 30 (1024 * p1.toNatClampNeg + k)) (z_Ar M0 35 p1.toNatClampNeg).toInt.toNat).toInt) (z_Ar M0 31 p1.toNatClampNeg).toInt.toNat b3.toInt → b4.toInt = ((z_cq (fun k => (z_ds (fun j => z_Ar M0 32 (9 * p1.toNatClampNeg + j)) (fun j => z_Ar M0 33 (9 * p1.toNatClampNeg + j)) (fun j => z_Ar M0 34 (9 * p1.toNatClampNeg + j)) (z_Ar M0 30 (1024 * p1.toNatClampNeg + k)) (z_Ar M0 35 p1.toNatClampNeg).toInt.toNat).toInt) b3.toInt b5.toInt.toNat : Nat) : Int) → b5.toInt ≤ (z_Ar M0 31 p1.toNatClampNeg).toInt → (∃ A : Int32, z_F M0 19 13 = some (.int A) ∧ 0 ≤ p1.toInt ∧ p1.toInt < A.toInt) → ((0) * 2 + 0) * 1025 + (1024 - b5.toInt) < (n : Int) → z_ev (d + 3) 233 37 [some (.ref 19), some (.int p1), some (.int p2), some (.int b3), some (.int b4), some (.int b5), o6] [] M K) := by
  intro n
  induction n with
  | zero => exact by intros; exfalso; omega
  | succ n ih =>
    intro M b3 b4 b5 o6 X hh0 hh1 hh2 hh3 hh4 hh5 hh6 hh7 hh8 hSit hy9 hB hI hM hQ hE
    refine z_xP zt233 13 40 [some (.ref 19), some (.int p1), some (.int p2), some (.int b3), some (.int b4), some (.int b5), o6] [.ref 19, .int b5] rfl rfl ?_
    have f19 : T[19]? = some (.inl (12, 0, 0, 0, 0)) := X.1.k rfl (by decide)
    refine z_xgX (b := 31) zt233 14 rfl zo233 zzf12_43 X f19 (by decide) (by decide) rfl ?_
    refine z_xP zt233 15 44 [some (.ref 19), some (.int p1), some (.int p2), some (.int b3), some (.int b4), some (.int b5), o6] [.int p1, .ref 31, .int b5] rfl rfl ?_
    have f31 : T[31]? = some (.inr (31, 0, 8, 0, 1024)) := X.1.k rfl (by decide)
    refine z_xil zt233 16 rfl X f31 (by decide) (by omega) (by omega) (fun (x1 : Int32) h2 (h3 : 0 ≤ x1.toInt) (h4 : x1.toInt ≤ 1024) => ?_)
    refine z_xJ zt233 17 rfl rfl (fun (h5 : x1.toInt ≤ b5.toInt) => ?_) (fun (h5 : b5.toInt < x1.toInt) => ?_)
    · skip
      refine z_xP zt233 36 92 [some (.ref 19), some (.int p1), some (.int p2), some (.int b3), some (.int b4), some (.int b5), o6] [.int p2] rfl rfl ?_
      refine z_xZ zt233 37 rfl rfl (fun (h6 : 0 ≤ p2.toInt) => ?_) (fun (h6 : p2.toInt < 0) => ?_)
      · skip
        refine z_xP zt233 39 101 [some (.ref 19), some (.int p1), some (.int p2), some (.int b3), some (.int b4), some (.int b5), o6] [.int (-1)] rfl rfl ?_
        have qm1 : (((-1) : Int32)).toInt = (-1) := rfl
        obtain ⟨A7, hQ1, hQ2⟩ := hQ
        have em8 := congrArg Int32.toInt ((congrFun (X.2.a f31 (by decide)) _).symm.trans h2)
        have i9 : b5.toInt.toNat = (z_Ar M0 31 p1.toNatClampNeg).toInt.toNat := by omega
        rw [i9] at hI
        have qm1 : (((-1) : Int32)).toInt = (-1) := rfl
        exact z_xri zt233 40 rfl zzr233 (kk (-1) M X (by omega) (by omega) (y_qB1 hQ1 hQ2 (Or.inr ⟨by omega, _, hB, Or.inr ⟨by omega, Or.inr ⟨by omega, by omega⟩⟩⟩)))
      refine z_xP zt233 38 101 [some (.ref 19), some (.int p1), some (.int p2), some (.int b3), some (.int b4), some (.int b5), o6] [.int b4] rfl rfl ?_
      obtain ⟨A10, hQ1, hQ2⟩ := hQ
      have em11 := congrArg Int32.toInt ((congrFun (X.2.a f31 (by decide)) _).symm.trans h2)
      have i12 : b5.toInt.toNat = (z_Ar M0 31 p1.toNatClampNeg).toInt.toNat := by omega
      rw [i12] at hI
      exact z_xri zt233 40 rfl zzr233 (kk b4 M X (by omega) (by omega) (y_qB1 hQ1 hQ2 (Or.inr ⟨by omega, _, hB, Or.inl ⟨by omega, by omega⟩⟩)))
    refine z_xP zt233 18 49 [some (.ref 19), some (.int p1), some (.int p2), some (.int b3), some (.int b4), some (.int b5), o6] [.ref 19] rfl rfl ?_
    refine z_xgX (b := 30) zt233 19 rfl zo233 zzf12_40 X f19 (by decide) (by decide) rfl ?_
    refine z_xP zt233 20 56 [some (.ref 19), some (.int p1), some (.int p2), some (.int b3), some (.int b4), some (.int b5), o6] [.int p1, .int 1024, .ref 30] rfl rfl ?_
    refine z_xI zt233 21 rfl rfl (fun (x13 : Int32) (h14 : x13.toInt = 1024 * p1.toInt) => ?_) (z_pMul rfl rfl (by omega) (by omega))
    refine z_xP zt233 22 59 [some (.ref 19), some (.int p1), some (.int p2), some (.int b3), some (.int b4), some (.int b5), o6] [.int b5, .int x13, .ref 30] rfl rfl ?_
    refine z_xI zt233 23 rfl rfl (fun (x15 : Int32) (h16 : x15.toInt = x13.toInt + b5.toInt) => ?_) (z_pAdd rfl rfl (by omega) (by omega))
    have f30 : T[30]? = some (.inr (30, 0, 8192, 0, 1023)) := X.1.k rfl (by decide)
    refine z_xil zt233 24 rfl X f30 (by decide) (by omega) (by omega) (fun (x17 : Int32) h18 (h19 : 0 ≤ x17.toInt) (h20 : x17.toInt ≤ 1023) => ?_)
    refine z_xP zt233 25 66 [some (.ref 19), some (.int p1), some (.int p2), some (.int b3), some (.int b4), some (.int b5), some (.int x17)] [.int x17, .ref 19] rfl rfl ?_
    refine z_xcV (vs := [.ref 19, .int x17]) (r := []) (L2 := [some (.ref 19), some (.int x17), none, none]) zt233 26 rfl zo233 zzcV12_259 (Or.inl rfl) rfl X f19 rfl rfl rfl (Nat.le_of_ble_eq_true rfl) zzm232 (Nat.le_of_ble_eq_true rfl) rfl ?_
    refine zUC232 X.1 (by omega) hSit.1 (hj9 _ (by unfold Int32.toNatClampNeg; omega)) (z_sit.nn hSit hy9) (fun x24 M21 X22 h23 => ?_)
    have X25 := X.go X22 (z_sb (by decide))
    show z_ev (d + 3) 233 69 [some (.ref 19), some (.int p1), some (.int p2), some (.int b3), some (.int b4), some (.int b5), some (.int x17)] [.int x24] M21 _
    refine z_xP zt233 27 70 [some (.ref 19), some (.int p1), some (.int p2), some (.int b3), some (.int b4), some (.int b5), some (.int x17)] [.int b3, .int x24] rfl rfl ?_
    have h27 := z_b32 x24
    have h28 := z_b32 b3
    refine z_xJ zt233 28 rfl rfl (fun (h29 : x24.toInt ≠ b3.toInt) => ?_) (fun (h29 : x24.toInt = b3.toInt) => ?_)
    · skip
      refine z_xN zt233 34 rfl rfl (fun (x30 : Int32) (h31 : x30.toInt = b5.toInt + 1) => ?_) (z_pAdd rfl rfl (by omega) (by omega))
      show z_ev (d + 3) 233 88 [some (.ref 19), some (.int p1), some (.int p2), some (.int b3), some (.int b4), some (.int x30), some (.int x17)] [] M21 _
      refine z_xP zt233 35 37 [some (.ref 19), some (.int p1), some (.int p2), some (.int b3), some (.int b4), some (.int x30), some (.int x17)] [] rfl rfl ?_
      have h32 := z_b32 p2
      have hs33 : z_Ar M0 30 (1024 * p1.toNatClampNeg + b5.toInt.toNat) = x17 := by rw [show 1024 * p1.toNatClampNeg + b5.toInt.toNat = x15.toNatClampNeg from by unfold Int32.toNatClampNeg; omega]; exact (congrFun (X.2.a f30 (by decide)) _).symm.trans h18
      have hF34 : (z_ds (fun j => z_Ar M0 32 (9 * p1.toNatClampNeg + j)) (fun j => z_Ar M0 33 (9 * p1.toNatClampNeg + j)) (fun j => z_Ar M0 34 (9 * p1.toNatClampNeg + j)) (z_Ar M0 30 (1024 * p1.toNatClampNeg + b5.toInt.toNat)) (z_Ar M0 35 p1.toNatClampNeg).toInt.toNat).toInt = x24.toInt := by rw [hs33, ← z_dsit hSit h23]
      have i35 : x30.toInt.toNat = b5.toInt.toNat + 1 := by omega
      have em36 := congrArg Int32.toInt ((congrFun (X.2.a f31 (by decide)) _).symm.trans h2)
      exact ih M21 b3 b4 x30 (some (.int x17)) X25 ⟨by omega, by omega⟩ ⟨by omega, by omega⟩ ⟨by omega, by omega⟩ ⟨by omega, by omega⟩ (by omega) (by omega) (by omega) (by omega) (by omega) (hSit.ke X25.1 X22.2) hy9 hB (by rw [i35]; exact z_cqS hI hF34 (by omega)) (by omega) hQ (by omega)
    refine z_xP zt233 29 76 [some (.ref 19), some (.int p1), some (.int p2), some (.int b3), some (.int b4), some (.int b5), some (.int x17)] [.int p2, .int b4] rfl rfl ?_
    have h37 := z_b32 p2
    refine z_xJ zt233 30 rfl rfl (fun (h38 : b4.toInt ≠ p2.toInt) => ?_) (fun (h38 : b4.toInt = p2.toInt) => ?_)
    · skip
      refine z_xN zt233 33 rfl rfl (fun (x39 : Int32) (h40 : x39.toInt = b4.toInt + 1) => ?_) (z_pAdd rfl rfl (by omega) (by omega))
      show z_ev (d + 3) 233 85 [some (.ref 19), some (.int p1), some (.int p2), some (.int b3), some (.int x39), some (.int b5), some (.int x17)] [] M21 _
      refine z_xN zt233 34 rfl rfl (fun (x41 : Int32) (h42 : x41.toInt = b5.toInt + 1) => ?_) (z_pAdd rfl rfl (by omega) (by omega))
      show z_ev (d + 3) 233 88 [some (.ref 19), some (.int p1), some (.int p2), some (.int b3), some (.int x39), some (.int x41), some (.int x17)] [] M21 _
      refine z_xP zt233 35 37 [some (.ref 19), some (.int p1), some (.int p2), some (.int b3), some (.int x39), some (.int x41), some (.int x17)] [] rfl rfl ?_
      have hs43 : z_Ar M0 30 (1024 * p1.toNatClampNeg + b5.toInt.toNat) = x17 := by rw [show 1024 * p1.toNatClampNeg + b5.toInt.toNat = x15.toNatClampNeg from by unfold Int32.toNatClampNeg; omega]; exact (congrFun (X.2.a f30 (by decide)) _).symm.trans h18
      have hF44 : (z_ds (fun j => z_Ar M0 32 (9 * p1.toNatClampNeg + j)) (fun j => z_Ar M0 33 (9 * p1.toNatClampNeg + j)) (fun j => z_Ar M0 34 (9 * p1.toNatClampNeg + j)) (z_Ar M0 30 (1024 * p1.toNatClampNeg + b5.toInt.toNat)) (z_Ar M0 35 p1.toNatClampNeg).toInt.toNat).toInt = x24.toInt := by rw [hs43, ← z_dsit hSit h23]
      have i45 : x41.toInt.toNat = b5.toInt.toNat + 1 := by omega
      have em46 := congrArg Int32.toInt ((congrFun (X.2.a f31 (by decide)) _).symm.trans h2)
      exact ih M21 b3 x39 x41 (some (.int x17)) X25 ⟨by omega, by omega⟩ ⟨by omega, by omega⟩ ⟨by omega, by omega⟩ ⟨by omega, by omega⟩ (by omega) (by omega) (by omega) (by omega) (by omega) (hSit.ke X25.1 X22.2) hy9 hB (by rw [i45]; exact z_cqS hI hF44 (by omega)) (by omega) hQ (by omega)
    refine z_xP zt233 31 81 [some (.ref 19), some (.int p1), some (.int p2), some (.int b3), some (.int b4), some (.int b5), some (.int x17)] [.int x17] rfl rfl ?_
    obtain ⟨A47, hQ1, hQ2⟩ := hQ
    have hs48 : z_Ar M0 30 (1024 * p1.toNatClampNeg + b5.toInt.toNat) = x17 := by rw [show 1024 * p1.toNatClampNeg + b5.toInt.toNat = x15.toNatClampNeg from by unfold Int32.toNatClampNeg; omega]; exact (congrFun (X.2.a f30 (by decide)) _).symm.trans h18
    have hF49 : (z_ds (fun j => z_Ar M0 32 (9 * p1.toNatClampNeg + j)) (fun j => z_Ar M0 33 (9 * p1.toNatClampNeg + j)) (fun j => z_Ar M0 34 (9 * p1.toNatClampNeg + j)) (z_Ar M0 30 (1024 * p1.toNatClampNeg + b5.toInt.toNat)) (z_Ar M0 35 p1.toNatClampNeg).toInt.toNat).toInt = x24.toInt := by rw [hs48, ← z_dsit hSit h23]
    have em50 := congrArg Int32.toInt ((congrFun (X.2.a f31 (by decide)) _).symm.trans h2)
    exact z_xri zt233 32 rfl zzr233 (kk x17 M21 X25 (by omega) (by omega) (y_qB1 hQ1 hQ2 (Or.inr ⟨by omega, _, hB, Or.inr ⟨by omega, Or.inl ⟨b5.toInt.toNat, by omega, hF49.trans (by omega), by omega, (congrArg Int32.toInt hs48).symm⟩⟩⟩)))
theorem zUC233 {T : List zK} {d : Nat} {K : Option Value → zH → Prop} {p1 : Int32} {p2 : Int32} {M0 : zH} (hW : z_W M0 T) (hW0 : z_W M0 T) (hj9 : ∀ a : Nat, a < 8 → 0 ≤ (z_Ar M0 35 a).toInt ∧ (z_Ar M0 35 a).toInt ≤ 9) (hyn : ∀ a j : Nat, (a : Int) < (z_Fv M0 19 13).toInt → j < (z_Ar M0 35 a).toInt.toNat → 0 ≤ (z_Ar M0 33 (9 * a + j)).toInt ∧ 0 ≤ (z_Ar M0 34 (9 * a + j)).toInt) (h31 : ∀ a : Nat, a < 8 → 0 ≤ (z_Ar M0 31 a).toInt ∧ (z_Ar M0 31 a).toInt ≤ 1024) (hR4 : z_G4 M0) (kk : ∀ (x : Int32) (M1 : zH), z_X T zw233 M0 M1 → (-1) ≤ x.toInt → x.toInt ≤ 1025 → y_qB M0 p1 x.toInt True ((x.toInt = -1 ∧ p2.toInt < -1) ∨ (-1 ≤ p2.toInt ∧ y_nrP (fun k => (z_ds (fun j => z_Ar M0 32 (9 * p1.toNatClampNeg + j)) (fun j => z_Ar M0 33 (9 * p1.toNatClampNeg + j)) (fun j => z_Ar M0 34 (9 * p1.toNatClampNeg + j)) (z_Ar M0 30 (1024 * p1.toNatClampNeg + k)) (z_Ar M0 35 p1.toNatClampNeg).toInt.toNat).toInt) (fun j => z_Ar M0 30 (1024 * p1.toNatClampNeg + j)) (z_Ar M0 31 p1.toNatClampNeg).toInt.toNat p2.toInt x.toInt)) → K (some (.int x)) M1) : z_ev (d + 3) 233 0 [some (.ref 19), some (.int p1), some (.int p2), none, none, none, none] [] M0 K := by
  have X : z_X T zw233 M0 M0 := .refl hW
  refine z_xP zt233 0 2 [some (.ref 19), some (.int p1), some (.int p2), none, none, none, none] [.int p1, .ref 19] rfl rfl ?_
  have f19 : T[19]? = some (.inl (12, 0, 0, 0, 0)) := X.1.k rfl (by decide)
  refine z_xcV (vs := [.ref 19, .int p1]) (r := []) (L2 := [some (.ref 19), some (.int p1)]) zt233 1 rfl zo233 zzcV12_209 (Or.inl rfl) rfl X f19 rfl rfl rfl (Nat.le_of_ble_eq_true rfl) zzm209 (Nat.le_of_ble_eq_true rfl) rfl ?_
  refine z_xP zt209 0 1 [some (.ref 19), some (.int p1)] [.int p1] rfl rfl ?_
  refine z_xZ zt209 1 rfl rfl (fun (h1 : p1.toInt < 0) => ?_) (fun (h1 : 0 ≤ p1.toInt) => ?_)
  · skip
    refine z_xP zt209 6 17 [some (.ref 19), some (.int p1)] [.int 0] rfl rfl ?_
    refine z_xrz zt209 7 rfl zzr209 (by decide) (by decide) ?_
    show z_ev (d + 3) 233 5 [some (.ref 19), some (.int p1), some (.int p2), none, none, none, none] [.int 0] M0 _
    refine z_xZ zt233 2 rfl rfl (fun (h2 : (0 : Int) = 0) => ?_) (fun (h2 : (0 : Int) ≠ 0) => absurd h2 (by omega))
    refine z_xP zt233 5 14 [some (.ref 19), some (.int p1), some (.int p2), none, none, none, none] [.int (-1)] rfl rfl ?_
    have qm1 : (((-1) : Int32)).toInt = (-1) := rfl
    obtain ⟨x3, h4, h5, h6⟩ := z_W.fi X.1 f19 (k := 13) (lo := 0) (hi := 8) (by decide) rfl
    have qm1 : (((-1) : Int32)).toInt = (-1) := rfl
    exact z_xri zt233 6 rfl zzr233 (kk (-1) M0 X (by omega) (by omega) (y_qB0 h4 (by omega) (by omega) trivial))
  refine z_xP zt209 2 6 [some (.ref 19), some (.int p1)] [.ref 19, .int p1] rfl rfl ?_
  refine z_xgI zt209 3 rfl zo209 zzf12_110 X f19 (by decide) (by decide) rfl (fun (x8 : Int32) h7 (h9 : 0 ≤ x8.toInt) (h10 : x8.toInt ≤ 8) => ?_)
  have h11 := z_b32 p1
  refine z_xJ zt209 4 rfl rfl (fun (h12 : x8.toInt ≤ p1.toInt) => ?_) (fun (h12 : p1.toInt < x8.toInt) => ?_)
  · skip
    refine z_xP zt209 6 17 [some (.ref 19), some (.int p1)] [.int 0] rfl rfl ?_
    refine z_xrz zt209 7 rfl zzr209 (by decide) (by decide) ?_
    show z_ev (d + 3) 233 5 [some (.ref 19), some (.int p1), some (.int p2), none, none, none, none] [.int 0] M0 _
    refine z_xZ zt233 2 rfl rfl (fun (h13 : (0 : Int) = 0) => ?_) (fun (h13 : (0 : Int) ≠ 0) => absurd h13 (by omega))
    refine z_xP zt233 5 14 [some (.ref 19), some (.int p1), some (.int p2), none, none, none, none] [.int (-1)] rfl rfl ?_
    have qm1 : (((-1) : Int32)).toInt = (-1) := rfl
    have qm1 : (((-1) : Int32)).toInt = (-1) := rfl
    exact z_xri zt233 6 rfl zzr233 (kk (-1) M0 X (by omega) (by omega) (y_qB0 h7 (by omega) (by omega) trivial))
  refine z_xP zt209 5 17 [some (.ref 19), some (.int p1)] [.int 1] rfl rfl ?_
  refine z_xrz zt209 7 rfl zzr209 (by decide) (by decide) ?_
  show z_ev (d + 3) 233 5 [some (.ref 19), some (.int p1), some (.int p2), none, none, none, none] [.int 1] M0 _
  refine z_xZ zt233 2 rfl rfl (fun (h14 : (1 : Int) = 0) => absurd h14 (by omega)) (fun (h14 : (1 : Int) ≠ 0) => ?_)
  refine z_xP zt233 3 10 [some (.ref 19), some (.int p1), some (.int p2), none, none, none, none] [.int (-1), .int p2] rfl rfl ?_
  refine z_xJ zt233 4 rfl rfl (fun (h15 : (-1) ≤ p2.toInt) => ?_) (fun (h15 : p2.toInt < (-1)) => ?_)
  · skip
    refine z_xP zt233 7 17 [some (.ref 19), some (.int p1), some (.int p2), none, none, none, none] [.int p1, .ref 19] rfl rfl ?_
    refine z_xcV (vs := [.ref 19, .int p1]) (r := []) (L2 := [some (.ref 19), some (.int p1), none]) zt233 8 rfl zo233 zzcV12_255 (Or.inl rfl) rfl X f19 rfl rfl rfl (Nat.le_of_ble_eq_true rfl) zzm229 (Nat.le_of_ble_eq_true rfl) rfl ?_
    obtain ⟨x16, h17, h18, h19⟩ := z_W.fi X.1 f19 (k := 29) (lo := 0) (hi := 7) (by decide) rfl
    refine zUC229 X.1 (by omega) h17 ⟨by omega, by omega⟩ (fun M20 X21 h22 z23 h24 h25 h26 => ?_)
    have X27 := X.go X21 (z_sb (by decide))
    show z_ev (d + 3) 233 20 [some (.ref 19), some (.int p1), some (.int p2), none, none, none, none] [] M20 _
    have h29 : z23 = p1 := z_sub (c := p1.toInt) (by omega) rfl
    have h30 := h24
    rw [h29] at h30
    refine z_xP zt233 9 24 [some (.ref 19), some (.int p1), some (.int p2), none, none, none, none] [.int 0, .int 0, .ref 19, .ref 19] rfl rfl ?_
    refine z_xcV (vs := [.ref 19, .int 0, .int 0]) (r := [.ref 19]) (L2 := [some (.ref 19), some (.int 0), some (.int 0), none, none, none]) zt233 10 rfl zo233 zzcV12_262 (Or.inl rfl) rfl X27 f19 rfl rfl rfl (Nat.le_of_ble_eq_true rfl) zzm234 (Nat.le_of_ble_eq_true rfl) rfl ?_
    have q0 : ((0 : Int32)).toInt = 0 := rfl
    have hy9 := fun j => hyn p1.toNatClampNeg j (by rw [z_Fv.of h7]; unfold Int32.toNatClampNeg; omega)
    have f31 : T[31]? = some (.inr (31, 0, 8, 0, 1024)) := X27.1.k rfl (by decide)
    have q0 : ((0 : Int32)).toInt = 0 := rfl
    refine zUC234 X27.1 h22.1 (hj9 _ (by unfold Int32.toNatClampNeg; omega)) (z_sit.nn h22 hy9) h30 ⟨by omega, by omega⟩ (fun a ha => by rw [X27.2.a f31 (by decide)]; exact h31 a ha) (fun x34 M31 X32 h35 h36 h33 => ?_)
    have X37 := X27.go X32 (z_sb (by decide))
    show z_ev (d + 3) 233 27 [some (.ref 19), some (.int p1), some (.int p2), none, none, none, none] [.int x34, .ref 19] M31 _
    have h39 := (X32.2.f f19 (by decide) h30)
    refine z_xcV (vs := [.ref 19, .int x34]) (r := []) (L2 := [some (.ref 19), some (.int x34), none, none]) zt233 11 rfl zo233 zzcV12_259 (Or.inl rfl) rfl X37 f19 rfl rfl rfl (Nat.le_of_ble_eq_true rfl) zzm232 (Nat.le_of_ble_eq_true rfl) rfl ?_
    refine zUC232 X37.1 (by omega) (h22.ke X37.1 X32.2).1 (hj9 _ (by unfold Int32.toNatClampNeg; omega)) (z_sit.nn (h22.ke X37.1 X32.2) hy9) (fun x43 M40 X41 h42 => ?_)
    have X44 := X37.go X41 (z_sb (by decide))
    show z_ev (d + 3) 233 30 [some (.ref 19), some (.int p1), some (.int p2), none, none, none, none] [.int x43] M40 _
    refine z_xP zt233 12 37 [some (.ref 19), some (.int p1), some (.int p2), some (.int x43), some (.int 0), some (.int 0), none] [] rfl rfl ?_
    have h46 := z_b32 p2
    have m147 := z_G4u (y := z_Ar M0 31 p1.toNatClampNeg) hR4 h7 (by omega) (by omega) rfl
    have ew48 : p1 = p1 := Int32.toInt_inj.mp (by omega)
    have f30 : T[30]? = some (.inr (30, 0, 8192, 0, 1023)) := X44.1.k rfl (by decide)
    have hB49 := z_mnm0 h22 (X27.2.a f30 (by decide)) (X27.2.a f31 (by decide)) ew48 m147 h33 ((h22.ke X37.1 X32.2)) h42
    have q0 : ((0 : Int32)).toInt = 0 := rfl
    exact (zUB233 hW0 hj9 hyn h31 hR4 kk 2050) M40 x43 (0) (0) none X44 ⟨by omega, by omega⟩ ⟨by omega, by omega⟩ (by decide) (by decide) (by omega) (by omega) (by omega) (by omega) (by omega) ((h22.ke X44.1 X32.2).ke X44.1 X41.2) hy9 hB49 (z_cq0 rfl rfl) (h31 _ (by unfold Int32.toNatClampNeg; omega)).1 ⟨_, h7, by omega, by omega⟩ (by omega)
  refine z_xP zt233 5 14 [some (.ref 19), some (.int p1), some (.int p2), none, none, none, none] [.int (-1)] rfl rfl ?_
  have qm1 : (((-1) : Int32)).toInt = (-1) := rfl
  have qm1 : (((-1) : Int32)).toInt = (-1) := rfl
  exact z_xri zt233 6 rfl zzr233 (kk (-1) M0 X (by omega) (by omega) (y_qB1 h7 ⟨by omega, by omega⟩ (Or.inl ⟨by omega, by omega⟩)))
