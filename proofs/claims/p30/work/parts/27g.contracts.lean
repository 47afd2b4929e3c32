/-! contracts of the methods (printed by wip/gen/vparts.py) -/
def zw248 : List Nat := []
theorem zB248 {T : List zK} {d : Nat} {K : Option Value → zH → Prop}  {M0 : zH}  (kk : ∀ (x : Int32) (M1 : zH), z_X T zw248 M0 M1 → 0 ≤ x.toInt → x.toInt ≤ 255 → K (some (.int x)) M1) : ∀ n : Nat, (∀ (M : zH) (b1 : Int32) (b2 : Int32), z_X T zw248 M0 M → 0 ≤ b1.toInt ∧ b1.toInt ≤ 255 → 0 ≤ b2.toInt ∧ b2.toInt ≤ 1024 → ((0) * 2 + 0) * 1025 + (1024 - b2.toInt) < (n : Int) → z_ev (d + 1) 248 16 [some (.ref 19), some (.int b1), some (.int b2)] [] M K) := by
  intro n
  induction n with
  | zero => exact by intros; exfalso; omega
  | succ n ih =>
    intro M b1 b2 X hh0 hh1 hE
    refine z_xP zt248 9 19 [some (.ref 19), some (.int b1), some (.int b2)] [.ref 19, .int 1, .int b2] rfl rfl ?_
    have f19 : T[19]? = some (.inl (12, 0, 0, 0, 0)) := X.1.k rfl (by decide)
    refine z_xgX (b := 24) zt248 10 rfl zo248 zzf12_22 X f19 (by decide) (by decide) rfl ?_
    refine z_xP zt248 11 23 [some (.ref 19), some (.int b1), some (.int b2)] [.ref 19, .ref 24, .int 1, .int b2] rfl rfl ?_
    refine z_xgI zt248 12 rfl zo248 zzf12_242 X f19 (by decide) (by decide) rfl (fun (x2 : Int32) h1 (h3 : 0 ≤ x2.toInt) (h4 : x2.toInt ≤ 7) => ?_)
    have f24 : T[24]? = some (.inr (24, 0, 8, 0, 10)) := X.1.k rfl (by decide)
    refine z_xil zt248 13 rfl X f24 (by decide) (by omega) (by omega) (fun (x5 : Int32) h6 (h7 : 0 ≤ x5.toInt) (h8 : x5.toInt ≤ 10) => ?_)
    refine z_xI zt248 14 rfl rfl (fun (x9 : Int32) (h10 : 1 ≤ x9.toInt ∧ x9.toInt ≤ 1024) => ?_) (z_pShlB (a := 1) (b := 10) (c := 1024) (r := 1024) rfl rfl (by omega) (by omega) (by omega) (by omega) (by decide) (by decide) (by decide) (by decide))
    refine z_xJ zt248 15 rfl rfl (fun (h11 : x9.toInt ≤ b2.toInt) => ?_) (fun (h11 : b2.toInt < x9.toInt) => ?_)
    · skip
      refine z_xP zt248 36 75 [some (.ref 19), some (.int b1), some (.int b2)] [.int b1] rfl rfl ?_
      exact z_xri zt248 37 rfl zzr248 (kk b1 M X (by omega) (by omega))
    refine z_xP zt248 16 34 [some (.ref 19), some (.int b1), some (.int b2)] [.ref 19, .int b2, .int b1] rfl rfl ?_
    refine z_xgI zt248 17 rfl zo248 zzf12_275 X f19 (by decide) (by decide) rfl (fun (x13 : Int32) h12 (h14 : (-2147483648) ≤ x13.toInt) (h15 : x13.toInt ≤ 2147483647) => ?_)
    refine z_xP zt248 18 38 [some (.ref 19), some (.int b1), some (.int b2)] [.ref 19, .int x13, .int b2, .int b1] rfl rfl ?_
    refine z_xgI zt248 19 rfl zo248 zzf12_278 X f19 (by decide) (by decide) rfl (fun (x17 : Int32) h16 (h18 : (-2147483648) ≤ x17.toInt) (h19 : x17.toInt ≤ 2147483647) => ?_)
    refine z_xcS (vs := [.int b2, .int x13, .int x17]) (r := [.int b1]) (L2 := [some (.int b2), some (.int x13), some (.int x17)]) zt248 20 rfl zo248 zzcS12_216 (Or.inl rfl) (Nat.le_of_ble_eq_true rfl) rfl rfl (Nat.le_of_ble_eq_true rfl) zzm216 (Nat.le_of_ble_eq_true rfl) rfl ?_
    refine z_xP zt216 0 2 [some (.int b2), some (.int x13), some (.int x17)] [.int x13, .int b2] rfl rfl ?_
    refine z_xI zt216 1 rfl rfl (fun (x20 : Int32) (h21 : 0 ≤ x20.toInt ∧ x20.toInt ≤ b2.toInt) => ?_) (z_pAndL rfl (by omega))
    refine z_xP zt216 2 4 [some (.int b2), some (.int x13), some (.int x17)] [.int x13, .int x20] rfl rfl ?_
    have h22 := z_b32 x13
    refine z_xJ zt216 3 rfl rfl (fun (h23 : x20.toInt ≠ x13.toInt) => ?_) (fun (h23 : x20.toInt = x13.toInt) => ?_)
    · skip
      refine z_xP zt216 8 18 [some (.int b2), some (.int x13), some (.int x17)] [.int 0] rfl rfl ?_
      refine z_xrz zt216 9 rfl zzr216 (by decide) (by decide) ?_
      show z_ev (d + 1) 248 44 [some (.ref 19), some (.int b1), some (.int b2)] [.int 0, .int b1] M _
      refine z_xZ zt248 21 rfl rfl (fun (h24 : (0 : Int) = 0) => ?_) (fun (h24 : (0 : Int) ≠ 0) => absurd h24 (by omega))
      refine z_xP zt248 31 66 [some (.ref 19), some (.int b1), some (.int b2)] [.int b1, .int b1] rfl rfl ?_
      refine z_xI zt248 32 rfl rfl (fun (x25 : Int32) (h26 : 0 ≤ x25.toInt ∧ x25.toInt ≤ b1.toInt ∧ x25.toInt ≤ b1.toInt) => ?_) (z_pAnd2 rfl rfl (by omega) (by omega))
      refine z_xP zt248 33 68 [some (.ref 19), some (.int x25), some (.int b2)] [] rfl rfl ?_
      refine z_xN zt248 34 rfl rfl (fun (x27 : Int32) (h28 : x27.toInt = b2.toInt + 1) => ?_) (z_pAdd rfl rfl (by omega) (by omega))
      show z_ev (d + 1) 248 71 [some (.ref 19), some (.int x25), some (.int x27)] [] M _
      refine z_xP zt248 35 16 [some (.ref 19), some (.int x25), some (.int x27)] [] rfl rfl ?_
      exact ih M x25 x27 X ⟨by omega, by omega⟩ ⟨by omega, by omega⟩ (by omega)
    refine z_xP zt216 4 9 [some (.int b2), some (.int x13), some (.int x17)] [.int x17, .int b2] rfl rfl ?_
    refine z_xI zt216 5 rfl rfl (fun (x29 : Int32) (h30 : 0 ≤ x29.toInt ∧ x29.toInt ≤ b2.toInt) => ?_) (z_pAndL rfl (by omega))
    refine z_xZ zt216 6 rfl rfl (fun (h31 : x29.toInt ≠ 0) => ?_) (fun (h31 : x29.toInt = 0) => ?_)
    · skip
      refine z_xP zt216 8 18 [some (.int b2), some (.int x13), some (.int x17)] [.int 0] rfl rfl ?_
      refine z_xrz zt216 9 rfl zzr216 (by decide) (by decide) ?_
      show z_ev (d + 1) 248 44 [some (.ref 19), some (.int b1), some (.int b2)] [.int 0, .int b1] M _
      refine z_xZ zt248 21 rfl rfl (fun (h32 : (0 : Int) = 0) => ?_) (fun (h32 : (0 : Int) ≠ 0) => absurd h32 (by omega))
      refine z_xP zt248 31 66 [some (.ref 19), some (.int b1), some (.int b2)] [.int b1, .int b1] rfl rfl ?_
      refine z_xI zt248 32 rfl rfl (fun (x33 : Int32) (h34 : 0 ≤ x33.toInt ∧ x33.toInt ≤ b1.toInt ∧ x33.toInt ≤ b1.toInt) => ?_) (z_pAnd2 rfl rfl (by omega) (by omega))
      refine z_xP zt248 33 68 [some (.ref 19), some (.int x33), some (.int b2)] [] rfl rfl ?_
      refine z_xN zt248 34 rfl rfl (fun (x35 : Int32) (h36 : x35.toInt = b2.toInt + 1) => ?_) (z_pAdd rfl rfl (by omega) (by omega))
      show z_ev (d + 1) 248 71 [some (.ref 19), some (.int x33), some (.int x35)] [] M _
      refine z_xP zt248 35 16 [some (.ref 19), some (.int x33), some (.int x35)] [] rfl rfl ?_
      exact ih M x33 x35 X ⟨by omega, by omega⟩ ⟨by omega, by omega⟩ (by omega)
    refine z_xP zt216 7 18 [some (.int b2), some (.int x13), some (.int x17)] [.int 1] rfl rfl ?_
    refine z_xrz zt216 9 rfl zzr216 (by decide) (by decide) ?_
    show z_ev (d + 1) 248 44 [some (.ref 19), some (.int b1), some (.int b2)] [.int 1, .int b1] M _
    refine z_xZ zt248 21 rfl rfl (fun (h37 : (1 : Int) = 0) => absurd h37 (by omega)) (fun (h37 : (1 : Int) ≠ 0) => ?_)
    refine z_xP zt248 22 48 [some (.ref 19), some (.int b1), some (.int b2)] [.ref 19, .int b1] rfl rfl ?_
    refine z_xgX (b := 29) zt248 23 rfl zo248 zzf12_37 X f19 (by decide) (by decide) rfl ?_
    refine z_xP zt248 24 55 [some (.ref 19), some (.int b1), some (.int b2)] [.ref 19, .int 1024, .ref 29, .int b1] rfl rfl ?_
    refine z_xgv zt248 25 rfl zo248 zzf12_242 X f19 (by decide) h1 ?_
    refine z_xI zt248 26 rfl rfl (fun (x38 : Int32) (h39 : x38.toInt = 1024 * x2.toInt) => ?_) (z_pMul rfl rfl (by omega) (by omega))
    refine z_xP zt248 27 60 [some (.ref 19), some (.int b1), some (.int b2)] [.int b2, .int x38, .ref 29, .int b1] rfl rfl ?_
    refine z_xI zt248 28 rfl rfl (fun (x40 : Int32) (h41 : x40.toInt = x38.toInt + b2.toInt) => ?_) (z_pAdd rfl rfl (by omega) (by omega))
    have f29 : T[29]? = some (.inr (29, 0, 8192, (-2147483648), 2147483647)) := X.1.k rfl (by decide)
    refine z_xil zt248 29 rfl X f29 (by decide) (by omega) (by omega) (fun (x42 : Int32) h43 (h44 : (-2147483648) ≤ x42.toInt) (h45 : x42.toInt ≤ 2147483647) => ?_)
    refine z_xP zt248 30 66 [some (.ref 19), some (.int b1), some (.int b2)] [.int x42, .int b1] rfl rfl ?_
    refine z_xI zt248 32 rfl rfl (fun (x46 : Int32) (h47 : 0 ≤ x46.toInt ∧ x46.toInt ≤ b1.toInt) => ?_) (z_pAndL rfl (by omega))
    refine z_xP zt248 33 68 [some (.ref 19), some (.int x46), some (.int b2)] [] rfl rfl ?_
    refine z_xN zt248 34 rfl rfl (fun (x48 : Int32) (h49 : x48.toInt = b2.toInt + 1) => ?_) (z_pAdd rfl rfl (by omega) (by omega))
    show z_ev (d + 1) 248 71 [some (.ref 19), some (.int x46), some (.int x48)] [] M _
    refine z_xP zt248 35 16 [some (.ref 19), some (.int x46), some (.int x48)] [] rfl rfl ?_
    exact ih M x46 x48 X ⟨by omega, by omega⟩ ⟨by omega, by omega⟩ (by omega)
theorem zC248 {T : List zK} {d : Nat} {K : Option Value → zH → Prop}  {M0 : zH} (hW : z_W M0 T)  (kk : ∀ (x : Int32) (M1 : zH), z_X T zw248 M0 M1 → 0 ≤ x.toInt → x.toInt ≤ 255 → K (some (.int x)) M1) : z_ev (d + 1) 248 0 [some (.ref 19), none, none] [] M0 K := by
  have X : z_X T zw248 M0 M0 := .refl hW
  refine z_xP zt248 0 2 [some (.ref 19), none, none] [.ref 19, .int 1] rfl rfl ?_
  have f19 : T[19]? = some (.inl (12, 0, 0, 0, 0)) := X.1.k rfl (by decide)
  refine z_xgX (b := 25) zt248 1 rfl zo248 zzf12_25 X f19 (by decide) (by decide) rfl ?_
  refine z_xP zt248 2 6 [some (.ref 19), none, none] [.ref 19, .ref 25, .int 1] rfl rfl ?_
  refine z_xgI zt248 3 rfl zo248 zzf12_242 X f19 (by decide) (by decide) rfl (fun (x2 : Int32) h1 (h3 : 0 ≤ x2.toInt) (h4 : x2.toInt ≤ 7) => ?_)
  have f25 : T[25]? = some (.inr (25, 0, 8, 0, 8)) := X.1.k rfl (by decide)
  refine z_xil zt248 4 rfl X f25 (by decide) (by omega) (by omega) (fun (x5 : Int32) h6 (h7 : 0 ≤ x5.toInt) (h8 : x5.toInt ≤ 8) => ?_)
  refine z_xI zt248 5 rfl rfl (fun (x9 : Int32) (h10 : 1 ≤ x9.toInt ∧ x9.toInt ≤ 256) => ?_) (z_pShlB (a := 1) (b := 8) (c := 256) (r := 256) rfl rfl (by omega) (by omega) (by omega) (by omega) (by decide) (by decide) (by decide) (by decide))
  refine z_xP zt248 6 12 [some (.ref 19), none, none] [.int 1, .int x9] rfl rfl ?_
  refine z_xI zt248 7 rfl rfl (fun (x11 : Int32) (h12 : x11.toInt = x9.toInt - 1) => ?_) (z_pSub rfl rfl (by omega) (by omega))
  refine z_xP zt248 8 16 [some (.ref 19), some (.int x11), some (.int 0)] [] rfl rfl ?_
  have q0 : ((0 : Int32)).toInt = 0 := rfl
  exact (zB248 kk 2050) M0 x11 (0) X ⟨by omega, by omega⟩ (by decide) (by omega)
def zw238 : List Nat := [39, 40, 41, 42, 2229, 2230, 2234, 2235]
theorem zC238 {T : List zK} {d : Nat} {K : Option Value → zH → Prop} {p1 : Int32} {p2 : Int32} {p3 : Int32} {M0 : zH} (hW : z_W M0 T)  (kk : ∀ (x : Int32) (M1 : zH), z_X T zw238 M0 M1 → K (some (.int x)) M1) : z_ev (d + 5) 238 0 [some (.ref 19), some (.int p1), some (.int p2), some (.int p3)] [] M0 K := by
  have X : z_X T zw238 M0 M0 := .refl hW
  refine z_xP zt238 0 2 [some (.ref 19), some (.int p1), some (.int p2), some (.int p3)] [.int p1, .ref 19] rfl rfl ?_
  have f19 : T[19]? = some (.inl (12, 0, 0, 0, 0)) := X.1.k rfl (by decide)
  refine z_xcV (vs := [.ref 19, .int p1]) (r := []) (L2 := [some (.ref 19), some (.int p1)]) zt238 1 rfl zo238 zzcV12_272 (Or.inl rfl) rfl X f19 rfl rfl rfl (Nat.le_of_ble_eq_true rfl) zzm237 (Nat.le_of_ble_eq_true rfl) rfl ?_
  refine z_xP zt237 0 1 [some (.ref 19), some (.int p1)] [.int p1] rfl rfl ?_
  refine z_xZ zt237 1 rfl rfl (fun (h1 : p1.toInt < 0) => ?_) (fun (h1 : 0 ≤ p1.toInt) => ?_)
  · skip
    refine z_xP zt237 6 17 [some (.ref 19), some (.int p1)] [.int 0] rfl rfl ?_
    refine z_xrz zt237 7 rfl zzr237 (by decide) (by decide) ?_
    show z_ev (d + 5) 238 5 [some (.ref 19), some (.int p1), some (.int p2), some (.int p3)] [.int 0] M0 _
    refine z_xZ zt238 2 rfl rfl (fun (h2 : (0 : Int) = 0) => ?_) (fun (h2 : (0 : Int) ≠ 0) => absurd h2 (by omega))
    refine z_xP zt238 12 29 [some (.ref 19), some (.int p1), some (.int p2), some (.int p3)] [.int (-1)] rfl rfl ?_
    have qm1 : (((-1) : Int32)).toInt = (-1) := rfl
    exact z_xri zt238 13 rfl zzr238 (kk (-1) M0 X)
  refine z_xP zt237 2 6 [some (.ref 19), some (.int p1)] [.ref 19, .int p1] rfl rfl ?_
  refine z_xgI zt237 3 rfl zo237 zzf12_269 X f19 (by decide) (by decide) rfl (fun (x4 : Int32) h3 (h5 : 0 ≤ x4.toInt) (h6 : x4.toInt ≤ 20) => ?_)
  have h7 := z_b32 p1
  refine z_xJ zt237 4 rfl rfl (fun (h8 : x4.toInt ≤ p1.toInt) => ?_) (fun (h8 : p1.toInt < x4.toInt) => ?_)
  · skip
    refine z_xP zt237 6 17 [some (.ref 19), some (.int p1)] [.int 0] rfl rfl ?_
    refine z_xrz zt237 7 rfl zzr237 (by decide) (by decide) ?_
    show z_ev (d + 5) 238 5 [some (.ref 19), some (.int p1), some (.int p2), some (.int p3)] [.int 0] M0 _
    refine z_xZ zt238 2 rfl rfl (fun (h9 : (0 : Int) = 0) => ?_) (fun (h9 : (0 : Int) ≠ 0) => absurd h9 (by omega))
    refine z_xP zt238 12 29 [some (.ref 19), some (.int p1), some (.int p2), some (.int p3)] [.int (-1)] rfl rfl ?_
    have qm1 : (((-1) : Int32)).toInt = (-1) := rfl
    exact z_xri zt238 13 rfl zzr238 (kk (-1) M0 X)
  refine z_xP zt237 5 17 [some (.ref 19), some (.int p1)] [.int 1] rfl rfl ?_
  refine z_xrz zt237 7 rfl zzr237 (by decide) (by decide) ?_
  show z_ev (d + 5) 238 5 [some (.ref 19), some (.int p1), some (.int p2), some (.int p3)] [.int 1] M0 _
  refine z_xZ zt238 2 rfl rfl (fun (h10 : (1 : Int) = 0) => absurd h10 (by omega)) (fun (h10 : (1 : Int) ≠ 0) => ?_)
  refine z_xP zt238 3 10 [some (.ref 19), some (.int p1), some (.int p2), some (.int p3)] [.int p2, .ref 19] rfl rfl ?_
  refine z_xcV (vs := [.ref 19, .int p2]) (r := []) (L2 := [some (.ref 19), some (.int p2)]) zt238 4 rfl zo238 zzcV12_209 (Or.inl rfl) rfl X f19 rfl rfl rfl (Nat.le_of_ble_eq_true rfl) zzm209 (Nat.le_of_ble_eq_true rfl) rfl ?_
  refine z_xP zt209 0 1 [some (.ref 19), some (.int p2)] [.int p2] rfl rfl ?_
  refine z_xZ zt209 1 rfl rfl (fun (h11 : p2.toInt < 0) => ?_) (fun (h11 : 0 ≤ p2.toInt) => ?_)
  · skip
    refine z_xP zt209 6 17 [some (.ref 19), some (.int p2)] [.int 0] rfl rfl ?_
    refine z_xrz zt209 7 rfl zzr209 (by decide) (by decide) ?_
    show z_ev (d + 5) 238 13 [some (.ref 19), some (.int p1), some (.int p2), some (.int p3)] [.int 0] M0 _
    refine z_xZ zt238 5 rfl rfl (fun (h12 : (0 : Int) = 0) => ?_) (fun (h12 : (0 : Int) ≠ 0) => absurd h12 (by omega))
    refine z_xP zt238 12 29 [some (.ref 19), some (.int p1), some (.int p2), some (.int p3)] [.int (-1)] rfl rfl ?_
    have qm1 : (((-1) : Int32)).toInt = (-1) := rfl
    exact z_xri zt238 13 rfl zzr238 (kk (-1) M0 X)
  refine z_xP zt209 2 6 [some (.ref 19), some (.int p2)] [.ref 19, .int p2] rfl rfl ?_
  refine z_xgI zt209 3 rfl zo209 zzf12_110 X f19 (by decide) (by decide) rfl (fun (x14 : Int32) h13 (h15 : 0 ≤ x14.toInt) (h16 : x14.toInt ≤ 8) => ?_)
  have h17 := z_b32 p2
  refine z_xJ zt209 4 rfl rfl (fun (h18 : x14.toInt ≤ p2.toInt) => ?_) (fun (h18 : p2.toInt < x14.toInt) => ?_)
  · skip
    refine z_xP zt209 6 17 [some (.ref 19), some (.int p2)] [.int 0] rfl rfl ?_
    refine z_xrz zt209 7 rfl zzr209 (by decide) (by decide) ?_
    show z_ev (d + 5) 238 13 [some (.ref 19), some (.int p1), some (.int p2), some (.int p3)] [.int 0] M0 _
    refine z_xZ zt238 5 rfl rfl (fun (h19 : (0 : Int) = 0) => ?_) (fun (h19 : (0 : Int) ≠ 0) => absurd h19 (by omega))
    refine z_xP zt238 12 29 [some (.ref 19), some (.int p1), some (.int p2), some (.int p3)] [.int (-1)] rfl rfl ?_
    have qm1 : (((-1) : Int32)).toInt = (-1) := rfl
    exact z_xri zt238 13 rfl zzr238 (kk (-1) M0 X)
  refine z_xP zt209 5 17 [some (.ref 19), some (.int p2)] [.int 1] rfl rfl ?_
  refine z_xrz zt209 7 rfl zzr209 (by decide) (by decide) ?_
  show z_ev (d + 5) 238 13 [some (.ref 19), some (.int p1), some (.int p2), some (.int p3)] [.int 1] M0 _
  refine z_xZ zt238 5 rfl rfl (fun (h20 : (1 : Int) = 0) => absurd h20 (by omega)) (fun (h20 : (1 : Int) ≠ 0) => ?_)
  refine z_xP zt238 6 17 [some (.ref 19), some (.int p1), some (.int p2), some (.int p3)] [.int p3] rfl rfl ?_
  have h21 := z_b32 p3
  refine z_xL zt238 7 rfl rfl (fun (y22 : Int64) (h23 : y22.toInt = p3.toInt) => ?_) (z_qI2L rfl)
  refine z_xP zt238 8 19 [some (.ref 19), some (.int p1), some (.int p2), some (.int p3)] [.long 0, .long y22] rfl rfl ?_
  refine z_xl2 zt238 9 rfl zo238 zkl12_114 ?_
  refine z_xcS (vs := [.long y22, .long 0, .long 4]) (r := []) (L2 := [some (.long y22), none, some (.long 0), none, some (.long 4), none]) zt238 10 rfl zo238 zzcS12_116 (Or.inl rfl) (Nat.le_of_ble_eq_true rfl) rfl rfl (Nat.le_of_ble_eq_true rfl) zzm189 (Nat.le_of_ble_eq_true rfl) rfl ?_
  refine z_xP zt189 0 2 [some (.long y22), none, some (.long 0), none, some (.long 4), none] [.long 0, .long y22] rfl rfl ?_
  refine z_xI zt189 1 rfl rfl (fun (x24 : Int32) (h25 : (x24.toInt < 0 ∧ y22.toInt < 0) ∨ (x24.toInt = 0 ∧ y22.toInt = 0) ∨ (0 < x24.toInt ∧ 0 < y22.toInt)) => ?_) (z_qCmp rfl rfl)
  refine z_xZ zt189 2 rfl rfl (fun (h26 : x24.toInt < 0) => ?_) (fun (h26 : 0 ≤ x24.toInt) => ?_)
  · skip
    refine z_xP zt189 7 18 [some (.long y22), none, some (.long 0), none, some (.long 4), none] [.int 0] rfl rfl ?_
    refine z_xrz zt189 8 rfl zzr189 (by decide) (by decide) ?_
    show z_ev (d + 5) 238 25 [some (.ref 19), some (.int p1), some (.int p2), some (.int p3)] [.int 0] M0 _
    refine z_xZ zt238 11 rfl rfl (fun (h27 : (0 : Int) ≠ 0) => absurd h27 (by omega)) (fun (h27 : (0 : Int) = 0) => ?_)
    refine z_xP zt238 12 29 [some (.ref 19), some (.int p1), some (.int p2), some (.int p3)] [.int (-1)] rfl rfl ?_
    have qm1 : (((-1) : Int32)).toInt = (-1) := rfl
    exact z_xri zt238 13 rfl zzr238 (kk (-1) M0 X)
  refine z_xP zt189 3 9 [some (.long y22), none, some (.long 0), none, some (.long 4), none] [.long 4, .long y22] rfl rfl ?_
  refine z_xI zt189 4 rfl rfl (fun (x28 : Int32) (h29 : (x28.toInt < 0 ∧ y22.toInt < 4) ∨ (x28.toInt = 0 ∧ y22.toInt = 4) ∨ (0 < x28.toInt ∧ 4 < y22.toInt)) => ?_) (z_qCmp rfl rfl)
  refine z_xZ zt189 5 rfl rfl (fun (h30 : 0 < x28.toInt) => ?_) (fun (h30 : x28.toInt ≤ 0) => ?_)
  · skip
    refine z_xP zt189 7 18 [some (.long y22), none, some (.long 0), none, some (.long 4), none] [.int 0] rfl rfl ?_
    refine z_xrz zt189 8 rfl zzr189 (by decide) (by decide) ?_
    show z_ev (d + 5) 238 25 [some (.ref 19), some (.int p1), some (.int p2), some (.int p3)] [.int 0] M0 _
    refine z_xZ zt238 11 rfl rfl (fun (h31 : (0 : Int) ≠ 0) => absurd h31 (by omega)) (fun (h31 : (0 : Int) = 0) => ?_)
    refine z_xP zt238 12 29 [some (.ref 19), some (.int p1), some (.int p2), some (.int p3)] [.int (-1)] rfl rfl ?_
    have qm1 : (((-1) : Int32)).toInt = (-1) := rfl
    exact z_xri zt238 13 rfl zzr238 (kk (-1) M0 X)
  refine z_xP zt189 6 18 [some (.long y22), none, some (.long 0), none, some (.long 4), none] [.int 1] rfl rfl ?_
  refine z_xrz zt189 8 rfl zzr189 (by decide) (by decide) ?_
  show z_ev (d + 5) 238 25 [some (.ref 19), some (.int p1), some (.int p2), some (.int p3)] [.int 1] M0 _
  refine z_xZ zt238 11 rfl rfl (fun (h32 : (1 : Int) ≠ 0) => ?_) (fun (h32 : (1 : Int) = 0) => absurd h32 (by omega))
  refine z_xP zt238 14 32 [some (.ref 19), some (.int p1), some (.int p2), some (.int p3)] [.int p2, .ref 19] rfl rfl ?_
  refine z_xcV (vs := [.ref 19, .int p2]) (r := []) (L2 := [some (.ref 19), some (.int p2), none]) zt238 15 rfl zo238 zzcV12_255 (Or.inl rfl) rfl X f19 rfl rfl rfl (Nat.le_of_ble_eq_true rfl) zzm229 (Nat.le_of_ble_eq_true rfl) rfl ?_
  obtain ⟨x33, h34, h35, h36⟩ := z_W.fi X.1 f19 (k := 29) (lo := 0) (hi := 7) (by decide) rfl
  refine zC229 X.1 (by omega) h34 ⟨by omega, by omega⟩ (fun M37 X38 z39 h40 h41 h42 => ?_)
  have X43 := X.go X38 (z_sb (by decide))
  show z_ev (d + 5) 238 35 [some (.ref 19), some (.int p1), some (.int p2), some (.int p3)] [] M37 _
  have h45 : z39 = p2 := z_sub (c := p2.toInt) (by omega) rfl
  have h46 := h40
  rw [h45] at h46
  refine z_xP zt238 16 37 [some (.ref 19), some (.int p1), some (.int p2), some (.int p3)] [.int p1, .ref 19] rfl rfl ?_
  refine z_xcV (vs := [.ref 19, .int p1]) (r := []) (L2 := [some (.ref 19), some (.int p1), none]) zt238 17 rfl zo238 zzcV12_303 (Or.inl rfl) rfl X43 f19 rfl rfl rfl (Nat.le_of_ble_eq_true rfl) zzm239 (Nat.le_of_ble_eq_true rfl) rfl ?_
  refine zC239 X43.1 (by omega) (fun M47 X48  => ?_)
  have X49 := X43.go X48 (z_sb (by decide))
  show z_ev (d + 5) 238 40 [some (.ref 19), some (.int p1), some (.int p2), some (.int p3)] [] M47 _
  refine z_xP zt238 18 41 [some (.ref 19), some (.int p1), some (.int p2), some (.int p3)] [.int p3] rfl rfl ?_
  by_cases h51 : p3.toInt = 0
  · refine z_xSC zt238 19 (z_sub (k := 0) h51 rfl) 72 rfl rfl ?_
    refine z_xP zt238 20 73 [some (.ref 19), some (.int p1), some (.int p2), some (.int p3)] [.ref 19] rfl rfl ?_
    refine z_xgI zt238 21 rfl zo238 zzf12_275 X49 f19 (by decide) (by decide) rfl (fun (x53 : Int32) h52 (h54 : (-2147483648) ≤ x53.toInt) (h55 : x53.toInt ≤ 2147483647) => ?_)
    exact z_xri zt238 22 rfl zzr238 (kk x53 M47 X49)
  by_cases h56 : p3.toInt = 1
  · refine z_xSC zt238 19 (z_sub (k := 1) h56 rfl) 77 rfl rfl ?_
    refine z_xP zt238 23 78 [some (.ref 19), some (.int p1), some (.int p2), some (.int p3)] [.ref 19] rfl rfl ?_
    refine z_xgI zt238 24 rfl zo238 zzf12_278 X49 f19 (by decide) (by decide) rfl (fun (x58 : Int32) h57 (h59 : (-2147483648) ≤ x58.toInt) (h60 : x58.toInt ≤ 2147483647) => ?_)
    exact z_xri zt238 25 rfl zzr238 (kk x58 M47 X49)
  by_cases h61 : p3.toInt = 2
  · refine z_xSC zt238 19 (z_sub (k := 2) h61 rfl) 82 rfl rfl ?_
    refine z_xP zt238 26 83 [some (.ref 19), some (.int p1), some (.int p2), some (.int p3)] [.ref 19] rfl rfl ?_
    refine z_xcV (vs := [.ref 19]) (r := []) (L2 := [some (.ref 19)]) zt238 27 rfl zo238 zzcV12_248 (Or.inl rfl) rfl X49 f19 rfl rfl rfl (Nat.le_of_ble_eq_true rfl) zzm240 (Nat.le_of_ble_eq_true rfl) rfl ?_
    refine z_xP zt240 0 2 [some (.ref 19)] [.ref 19, .int 1] rfl rfl ?_
    refine z_xgX (b := 24) zt240 1 rfl zo240 zzf12_22 X49 f19 (by decide) (by decide) rfl ?_
    refine z_xP zt240 2 6 [some (.ref 19)] [.ref 19, .ref 24, .int 1] rfl rfl ?_
    have h62 := (X48.2.f f19 (by decide) h46)
    refine z_xgv zt240 3 rfl zo240 zzf12_242 X49 f19 (by decide) h62 ?_
    have f24 : T[24]? = some (.inr (24, 0, 8, 0, 10)) := X49.1.k rfl (by decide)
    refine z_xil zt240 4 rfl X49 f24 (by decide) (by omega) (by omega) (fun (x63 : Int32) h64 (h65 : 0 ≤ x63.toInt) (h66 : x63.toInt ≤ 10) => ?_)
    refine z_xI zt240 5 rfl rfl (fun (x67 : Int32) (h68 : 1 ≤ x67.toInt ∧ x67.toInt ≤ 1024) => ?_) (z_pShlB (a := 1) (b := 10) (c := 1024) (r := 1024) rfl rfl (by omega) (by omega) (by omega) (by omega) (by decide) (by decide) (by decide) (by decide))
    refine z_xP zt240 6 12 [some (.ref 19)] [.int 1, .int x67] rfl rfl ?_
    refine z_xI zt240 7 rfl rfl (fun (x69 : Int32) (h70 : x69.toInt = x67.toInt - 1) => ?_) (z_pSub rfl rfl (by omega) (by omega))
    refine z_xri zt240 8 rfl zzr240 ?_
    show z_ev (d + 5) 238 86 [some (.ref 19), some (.int p1), some (.int p2), some (.int p3)] [.int x69] M47 _
    refine z_xP zt238 28 87 [some (.ref 19), some (.int p1), some (.int p2), some (.int p3)] [.ref 19, .int x69] rfl rfl ?_
    refine z_xgI zt238 29 rfl zo238 zzf12_275 X49 f19 (by decide) (by decide) rfl (fun (x72 : Int32) h71 (h73 : (-2147483648) ≤ x72.toInt) (h74 : x72.toInt ≤ 2147483647) => ?_)
    refine z_xP zt238 30 91 [some (.ref 19), some (.int p1), some (.int p2), some (.int p3)] [.int (-1), .int x72, .int x69] rfl rfl ?_
    refine z_xI zt238 31 rfl rfl (P := fun _ => True) (fun (x75 : Int32) _ => ?_) trivial
    refine z_xI zt238 32 rfl rfl (fun (x77 : Int32) (h78 : 0 ≤ x77.toInt ∧ x77.toInt ≤ x69.toInt) => ?_) (z_pAndL rfl (by omega))
    refine z_xP zt238 33 94 [some (.ref 19), some (.int p1), some (.int p2), some (.int p3)] [.ref 19, .int x77] rfl rfl ?_
    refine z_xgI zt238 34 rfl zo238 zzf12_278 X49 f19 (by decide) (by decide) rfl (fun (x80 : Int32) h79 (h81 : (-2147483648) ≤ x80.toInt) (h82 : x80.toInt ≤ 2147483647) => ?_)
    refine z_xP zt238 35 98 [some (.ref 19), some (.int p1), some (.int p2), some (.int p3)] [.int (-1), .int x80, .int x77] rfl rfl ?_
    refine z_xI zt238 36 rfl rfl (P := fun _ => True) (fun (x83 : Int32) _ => ?_) trivial
    refine z_xI zt238 37 rfl rfl (fun (x85 : Int32) (h86 : 0 ≤ x85.toInt ∧ x85.toInt ≤ x77.toInt) => ?_) (z_pAndL rfl (by omega))
    exact z_xri zt238 38 rfl zzr238 (kk x85 M47 X49)
  by_cases h87 : p3.toInt = 3
  · refine z_xSC zt238 19 (z_sub (k := 3) h87 rfl) 101 rfl rfl ?_
    refine z_xP zt238 39 102 [some (.ref 19), some (.int p1), some (.int p2), some (.int p3)] [.ref 19] rfl rfl ?_
    refine z_xcV (vs := [.ref 19]) (r := []) (L2 := [some (.ref 19), none, none]) zt238 40 rfl zo238 zzcV12_306 (Or.inl rfl) rfl X49 f19 rfl rfl rfl (Nat.le_of_ble_eq_true rfl) zzm248 (Nat.le_of_ble_eq_true rfl) rfl ?_
    refine zC248 X49.1 (fun x90 M88 X89 h91 h92 => ?_)
    have X93 := X49.go X89 (z_sb (by decide))
    show z_ev (d + 5) 238 105 [some (.ref 19), some (.int p1), some (.int p2), some (.int p3)] [.int x90] M88 _
    exact z_xri zt238 41 rfl zzr238 (kk x90 M88 X93)
  refine z_xSD zt238 19 rfl rfl (by omega) ?_
  refine z_xP zt238 42 107 [some (.ref 19), some (.int p1), some (.int p2), some (.int p3)] [.ref 19] rfl rfl ?_
  refine z_xcV (vs := [.ref 19]) (r := []) (L2 := [some (.ref 19)]) zt238 43 rfl zo238 zzcV12_309 (Or.inl rfl) rfl X49 f19 rfl rfl rfl (Nat.le_of_ble_eq_true rfl) zzm249 (Nat.le_of_ble_eq_true rfl) rfl ?_
  refine z_xP zt249 0 2 [some (.ref 19)] [.ref 19, .ref 19] rfl rfl ?_
  have h95 := (X48.2.f f19 (by decide) h46)
  refine z_xgv zt249 1 rfl zo249 zzf12_242 X49 f19 (by decide) h95 ?_
  refine z_xP zt249 2 6 [some (.ref 19)] [.ref 19, .int p2, .ref 19] rfl rfl ?_
  refine z_xgI zt249 3 rfl zo249 zzf12_275 X49 f19 (by decide) (by decide) rfl (fun (x97 : Int32) h96 (h98 : (-2147483648) ≤ x97.toInt) (h99 : x97.toInt ≤ 2147483647) => ?_)
  refine z_xP zt249 4 10 [some (.ref 19)] [.ref 19, .int x97, .int p2, .ref 19] rfl rfl ?_
  refine z_xgI zt249 5 rfl zo249 zzf12_278 X49 f19 (by decide) (by decide) rfl (fun (x101 : Int32) h100 (h102 : (-2147483648) ≤ x101.toInt) (h103 : x101.toInt ≤ 2147483647) => ?_)
  refine z_xcV (vs := [.ref 19, .int p2, .int x97, .int x101]) (r := []) (L2 := [some (.ref 19), some (.int p2), some (.int x97), some (.int x101), none, none]) zt249 6 rfl zo249 zzcV12_222 (Or.inl rfl) rfl X49 f19 rfl rfl rfl (Nat.le_of_ble_eq_true rfl) zzm215 (Nat.le_of_ble_eq_true rfl) rfl ?_
  refine zC215 X49.1 (by omega) (fun x106 M104 X105 h107 h108 => ?_)
  have X109 := X49.go X105 (z_sb (by decide))
  show z_ev (d + 4) 249 16 [some (.ref 19)] [.int x106] M104 _
  refine z_xZ zt249 7 rfl rfl (fun (h111 : x106.toInt ≠ 0) => ?_) (fun (h111 : x106.toInt = 0) => ?_)
  · skip
    refine z_xP zt249 9 24 [some (.ref 19)] [.int 0] rfl rfl ?_
    refine z_xrz zt249 10 rfl zzr249 (by decide) (by decide) ?_
    show z_ev (d + 5) 238 110 [some (.ref 19), some (.int p1), some (.int p2), some (.int p3)] [.int 0] M104 _
    refine z_xZ zt238 44 rfl rfl (fun (h112 : (0 : Int) = 0) => ?_) (fun (h112 : (0 : Int) ≠ 0) => absurd h112 (by omega))
    refine z_xP zt238 46 118 [some (.ref 19), some (.int p1), some (.int p2), some (.int p3)] [.int 0] rfl rfl ?_
    have q0 : ((0 : Int32)).toInt = 0 := rfl
    exact z_xri zt238 47 rfl zzr238 (kk 0 M104 X109)
  refine z_xP zt249 8 24 [some (.ref 19)] [.int 1] rfl rfl ?_
  refine z_xrz zt249 10 rfl zzr249 (by decide) (by decide) ?_
  show z_ev (d + 5) 238 110 [some (.ref 19), some (.int p1), some (.int p2), some (.int p3)] [.int 1] M104 _
  refine z_xZ zt238 44 rfl rfl (fun (h113 : (1 : Int) = 0) => absurd h113 (by omega)) (fun (h113 : (1 : Int) ≠ 0) => ?_)
  refine z_xP zt238 45 118 [some (.ref 19), some (.int p1), some (.int p2), some (.int p3)] [.int 1] rfl rfl ?_
  have q1 : ((1 : Int32)).toInt = 1 := rfl
  exact z_xri zt238 47 rfl zzr238 (kk 1 M104 X109)
def zw253 : List Nat := [39, 40, 41]
theorem zB253 {T : List zK} {d : Nat} {K : Option Value → zH → Prop}  {M0 : zH}  (kk : ∀ (M1 : zH), z_X T zw253 M0 M1 → K none M1) : ∀ n : Nat, (∀ (M : zH) (b1 : Int32), z_X T zw253 M0 M → 0 ≤ b1.toInt ∧ b1.toInt ≤ 9 → ((0) * 2 + 0) * 10 + (9 - b1.toInt) < (n : Int) → z_ev (d + 2) 253 2 [some (.ref 19), some (.int b1)] [] M K) := by
  intro n
  induction n with
  | zero => exact by intros; exfalso; omega
  | succ n ih =>
    intro M b1 X hh0 hE
    refine z_xP zt253 1 4 [some (.ref 19), some (.int b1)] [.ref 19, .int b1] rfl rfl ?_
    have f19 : T[19]? = some (.inl (12, 0, 0, 0, 0)) := X.1.k rfl (by decide)
    refine z_xgI zt253 2 rfl zo253 zzf12_245 X f19 (by decide) (by decide) rfl (fun (x2 : Int32) h1 (h3 : 0 ≤ x2.toInt) (h4 : x2.toInt ≤ 9) => ?_)
    refine z_xJ zt253 3 rfl rfl (fun (h5 : x2.toInt ≤ b1.toInt) => ?_) (fun (h5 : b1.toInt < x2.toInt) => ?_)
    · skip
      exact z_xrv zt253 18 rfl zzr253 (kk M X)
    refine z_xP zt253 4 13 [some (.ref 19), some (.int b1)] [.ref 19, .int b1, .ref 19] rfl rfl ?_
    refine z_xgX (b := 30) zt253 5 rfl zo253 zzf12_40 X f19 (by decide) (by decide) rfl ?_
    refine z_xP zt253 6 20 [some (.ref 19), some (.int b1)] [.ref 19, .int 1024, .ref 30, .int b1, .ref 19] rfl rfl ?_
    refine z_xgI zt253 7 rfl zo253 zzf12_242 X f19 (by decide) (by decide) rfl (fun (x7 : Int32) h6 (h8 : 0 ≤ x7.toInt) (h9 : x7.toInt ≤ 7) => ?_)
    refine z_xI zt253 8 rfl rfl (fun (x10 : Int32) (h11 : x10.toInt = 1024 * x7.toInt) => ?_) (z_pMul rfl rfl (by omega) (by omega))
    refine z_xP zt253 9 25 [some (.ref 19), some (.int b1)] [.ref 19, .int x10, .ref 30, .int b1, .ref 19] rfl rfl ?_
    refine z_xgX (b := 43) zt253 10 rfl zo253 zzf12_79 X f19 (by decide) (by decide) rfl ?_
    refine z_xP zt253 11 29 [some (.ref 19), some (.int b1)] [.int b1, .ref 43, .int x10, .ref 30, .int b1, .ref 19] rfl rfl ?_
    have f43 : T[43]? = some (.inr (43, 0, 9, 0, 1023)) := X.1.k rfl (by decide)
    refine z_xil zt253 12 rfl X f43 (by decide) (by omega) (by omega) (fun (x12 : Int32) h13 (h14 : 0 ≤ x12.toInt) (h15 : x12.toInt ≤ 1023) => ?_)
    refine z_xI zt253 13 rfl rfl (fun (x16 : Int32) (h17 : x16.toInt = x10.toInt + x12.toInt) => ?_) (z_pAdd rfl rfl (by omega) (by omega))
    have f30 : T[30]? = some (.inr (30, 0, 8192, 0, 1023)) := X.1.k rfl (by decide)
    refine z_xil zt253 14 rfl X f30 (by decide) (by omega) (by omega) (fun (x18 : Int32) h19 (h20 : 0 ≤ x18.toInt) (h21 : x18.toInt ≤ 1023) => ?_)
    refine z_xcV (vs := [.ref 19, .int b1, .int x18]) (r := []) (L2 := [some (.ref 19), some (.int b1), some (.int x18)]) zt253 15 rfl zo253 zzcV12_315 (Or.inl rfl) rfl X f19 rfl rfl rfl (Nat.le_of_ble_eq_true rfl) zzm254 (Nat.le_of_ble_eq_true rfl) rfl ?_
    refine z_xP zt254 0 1 [some (.ref 19), some (.int b1), some (.int x18)] [.ref 19] rfl rfl ?_
    refine z_xgX (b := 39) zt254 1 rfl zo254 zzf12_67 X f19 (by decide) (by decide) rfl ?_
    refine z_xP zt254 2 6 [some (.ref 19), some (.int b1), some (.int x18)] [.int 1, .int b1, .ref 39] rfl rfl ?_
    have f39 : T[39]? = some (.inr (39, 0, 9, (-2147483648), 2147483647)) := X.1.k rfl (by decide)
    have q1 : ((1 : Int32)).toInt = 1 := rfl
    refine z_xis zt254 3 rfl X f39 (by decide) (by decide) (by omega) (by omega) (by omega) (by omega) (by decide) (fun M22 X23 e24 h25 => ?_)
    refine z_xP zt254 4 8 [some (.ref 19), some (.int b1), some (.int x18)] [.ref 19] rfl rfl ?_
    refine z_xgX (b := 40) zt254 5 rfl zo254 zzf12_70 X23 f19 (by decide) (by decide) rfl ?_
    refine z_xP zt254 6 13 [some (.ref 19), some (.int b1), some (.int x18)] [.int x18, .int b1, .ref 40] rfl rfl ?_
    have f40 : T[40]? = some (.inr (40, 0, 9, (-2147483648), 2147483647)) := X23.1.k rfl (by decide)
    refine z_xis zt254 7 rfl X23 f40 (by decide) (by decide) (by omega) (by omega) (Int32.le_toInt _) (Int32.toInt_le _) (by decide) (fun M26 X27 e28 h29 => ?_)
    refine z_xP zt254 8 15 [some (.ref 19), some (.int b1), some (.int x18)] [.ref 19] rfl rfl ?_
    refine z_xgX (b := 41) zt254 9 rfl zo254 zzf12_73 X27 f19 (by decide) (by decide) rfl ?_
    refine z_xP zt254 10 20 [some (.ref 19), some (.int b1), some (.int x18)] [.ref 19, .int b1, .ref 41] rfl rfl ?_
    refine z_xcV (vs := [.ref 19]) (r := [.int b1, .ref 41]) (L2 := [some (.ref 19)]) zt254 11 rfl zo254 zzcV12_248 (Or.inl rfl) rfl X27 f19 rfl rfl rfl (Nat.le_of_ble_eq_true rfl) zzm240 (Nat.le_of_ble_eq_true rfl) rfl ?_
    refine z_xP zt240 0 2 [some (.ref 19)] [.ref 19, .int 1] rfl rfl ?_
    refine z_xgX (b := 24) zt240 1 rfl zo240 zzf12_22 X27 f19 (by decide) (by decide) rfl ?_
    refine z_xP zt240 2 6 [some (.ref 19)] [.ref 19, .ref 24, .int 1] rfl rfl ?_
    have h30 := (e28.f f19 (by decide) (e24.f f19 (by decide) h6))
    refine z_xgv zt240 3 rfl zo240 zzf12_242 X27 f19 (by decide) h30 ?_
    have f24 : T[24]? = some (.inr (24, 0, 8, 0, 10)) := X27.1.k rfl (by decide)
    refine z_xil zt240 4 rfl X27 f24 (by decide) (by omega) (by omega) (fun (x31 : Int32) h32 (h33 : 0 ≤ x31.toInt) (h34 : x31.toInt ≤ 10) => ?_)
    refine z_xI zt240 5 rfl rfl (fun (x35 : Int32) (h36 : 1 ≤ x35.toInt ∧ x35.toInt ≤ 1024) => ?_) (z_pShlB (a := 1) (b := 10) (c := 1024) (r := 1024) rfl rfl (by omega) (by omega) (by omega) (by omega) (by decide) (by decide) (by decide) (by decide))
    refine z_xP zt240 6 12 [some (.ref 19)] [.int 1, .int x35] rfl rfl ?_
    refine z_xI zt240 7 rfl rfl (fun (x37 : Int32) (h38 : x37.toInt = x35.toInt - 1) => ?_) (z_pSub rfl rfl (by omega) (by omega))
    refine z_xri zt240 8 rfl zzr240 ?_
    show z_ev (d + 1) 254 23 [some (.ref 19), some (.int b1), some (.int x18)] [.int x37, .int b1, .ref 41] M26 _
    refine z_xP zt254 12 25 [some (.ref 19), some (.int b1), some (.int x18)] [.int (-1), .int x18, .int x37, .int b1, .ref 41] rfl rfl ?_
    refine z_xI zt254 13 rfl rfl (P := fun _ => True) (fun (x39 : Int32) _ => ?_) trivial
    refine z_xI zt254 14 rfl rfl (fun (x41 : Int32) (h42 : 0 ≤ x41.toInt ∧ x41.toInt ≤ x37.toInt) => ?_) (z_pAndL rfl (by omega))
    have f41 : T[41]? = some (.inr (41, 0, 9, (-2147483648), 2147483647)) := X27.1.k rfl (by decide)
    refine z_xis zt254 15 rfl X27 f41 (by decide) (by decide) (by omega) (by omega) (Int32.le_toInt _) (Int32.toInt_le _) (by decide) (fun M43 X44 e45 h46 => ?_)
    refine z_xrv zt254 16 rfl zzr254 ?_
    show z_ev (d + 2) 253 35 [some (.ref 19), some (.int b1)] [] M43 _
    refine z_xN zt253 16 rfl rfl (fun (x47 : Int32) (h48 : x47.toInt = b1.toInt + 1) => ?_) (z_pAdd rfl rfl (by omega) (by omega))
    show z_ev (d + 2) 253 38 [some (.ref 19), some (.int x47)] [] M43 _
    refine z_xP zt253 17 2 [some (.ref 19), some (.int x47)] [] rfl rfl ?_
    exact ih M43 x47 X44 ⟨by omega, by omega⟩ (by omega)
theorem zC253 {T : List zK} {d : Nat} {K : Option Value → zH → Prop}  {M0 : zH} (hW : z_W M0 T)  (kk : ∀ (M1 : zH), z_X T zw253 M0 M1 → K none M1) : z_ev (d + 2) 253 0 [some (.ref 19), none] [] M0 K := by
  have X : z_X T zw253 M0 M0 := .refl hW
  refine z_xP zt253 0 2 [some (.ref 19), some (.int 0)] [] rfl rfl ?_
  have q0 : ((0 : Int32)).toInt = 0 := rfl
  exact (zB253 kk 20) M0 (0) X (by decide) (by omega)
def zw252 : List Nat := [39, 40, 41, 43, 2229, 2230]
theorem zB252 {T : List zK} {d : Nat} {K : Option Value → zH → Prop} {p1 : Int32} {p2 : Int32} {zl0 : Int32} {M0 : zH} (u1 : 0 ≤ p1.toInt ∧ p1.toInt ≤ 7) (u2 : 1 ≤ p2.toInt ∧ p2.toInt ≤ 5) (hl0 : z_Ar M0 31 p1.toNatClampNeg = zl0) (bl0 : 1 ≤ zl0.toInt ∧ zl0.toInt ≤ 1024) (kk : ∀ (M1 : zH), z_X T zw252 M0 M1 → z_NB M1 p2.toInt 1 → z_F M1 19 29 = some (.int p1) → z_F M1 19 30 = some (.int p2) → K none M1) : ∀ n : Nat, (∀ (M : zH) (b3 : Int32) (z0 : Int32) (z1 : Int32), z_X T zw252 M0 M → 0 ≤ b3.toInt ∧ b3.toInt ≤ 5 → z_F M 19 29 = some (.int z0) → 0 ≤ z0.toInt ∧ z0.toInt ≤ 7 → z_F M 19 30 = some (.int z1) → 1 ≤ z1.toInt ∧ z1.toInt ≤ 5 → z0.toInt = p1.toInt → z1.toInt = p2.toInt → b3.toInt ≤ p2.toInt → z_NB M b3.toInt 1 → ((0) * 2 + 0) * 6 + (5 - b3.toInt) < (n : Int) → z_ev (d + 3) 252 12 [some (.ref 19), some (.int p1), some (.int p2), some (.int b3)] [] M K) := by
  intro n
  induction n with
  | zero => exact by intros; exfalso; omega
  | succ n ih =>
    intro M b3 z0 z1 X hh0 hp0 hh2 hp1 hh4 hh5 hh6 hh7 hn hE
    refine z_xP zt252 5 14 [some (.ref 19), some (.int p1), some (.int p2), some (.int b3)] [.int p2, .int b3] rfl rfl ?_
    refine z_xJ zt252 6 rfl rfl (fun (h1 : p2.toInt ≤ b3.toInt) => ?_) (fun (h1 : b3.toInt < p2.toInt) => ?_)
    · skip
      refine z_xP zt252 13 31 [some (.ref 19), some (.int p1), some (.int p2), some (.int b3)] [.ref 19] rfl rfl ?_
      have f19 : T[19]? = some (.inl (12, 0, 0, 0, 0)) := X.1.k rfl (by decide)
      refine z_xcV (vs := [.ref 19]) (r := []) (L2 := [some (.ref 19), none]) zt252 14 rfl zo252 zzcV12_312 (Or.inl rfl) rfl X f19 rfl rfl rfl (Nat.le_of_ble_eq_true rfl) zzm253 (Nat.le_of_ble_eq_true rfl) rfl ?_
      refine zC253 X.1 (fun M2 X3  => ?_)
      have X4 := X.go X3 (z_sb (by decide))
      show z_ev (d + 3) 252 34 [some (.ref 19), some (.int p1), some (.int p2), some (.int b3)] [] M2 _
      have f43 : T[43]? = some (.inr (43, 0, 9, 0, 1023)) := X4.1.k rfl (by decide)
      have h6 := (X3.2.f f19 (by decide) hp0)
      have h7 : z0 = p1 := z_sub (c := p1.toInt) (by omega) rfl
      have h8 := h6
      rw [h7] at h8
      have h9 := (X3.2.f f19 (by decide) hp1)
      have h10 : z1 = p2 := z_sub (c := p2.toInt) (by omega) rfl
      have h11 := h9
      rw [h10] at h11
      exact z_xrv zt252 15 rfl zzr252 (kk M2 X4 (z_NBm (z_NBm hn (X3.2.a f43 (by decide)) rfl rfl) rfl (by omega) rfl) h8 h11)
    refine z_xP zt252 7 18 [some (.ref 19), some (.int p1), some (.int p2), some (.int b3)] [.ref 19] rfl rfl ?_
    have f19 : T[19]? = some (.inl (12, 0, 0, 0, 0)) := X.1.k rfl (by decide)
    refine z_xgX (b := 43) zt252 8 rfl zo252 zzf12_79 X f19 (by decide) (by decide) rfl ?_
    refine z_xP zt252 9 23 [some (.ref 19), some (.int p1), some (.int p2), some (.int b3)] [.int 0, .int b3, .ref 43] rfl rfl ?_
    have f43 : T[43]? = some (.inr (43, 0, 9, 0, 1023)) := X.1.k rfl (by decide)
    have q0 : ((0 : Int32)).toInt = 0 := rfl
    refine z_xis zt252 10 rfl X f43 (by decide) (by decide) (by omega) (by omega) (by omega) (by omega) (by decide) (fun M12 X13 e14 h15 => ?_)
    refine z_xN zt252 11 rfl rfl (fun (x16 : Int32) (h17 : x16.toInt = b3.toInt + 1) => ?_) (z_pAdd rfl rfl (by omega) (by omega))
    show z_ev (d + 3) 252 27 [some (.ref 19), some (.int p1), some (.int p2), some (.int x16)] [] M12 _
    refine z_xP zt252 12 12 [some (.ref 19), some (.int p1), some (.int p2), some (.int x16)] [] rfl rfl ?_
    have h18 := (e14.f f19 (by decide) hp0)
    have h19 := (e14.f f19 (by decide) hp1)
    exact ih M12 x16 z0 z1 X13 ⟨by omega, by omega⟩ h18 ⟨by omega, by omega⟩ h19 ⟨by omega, by omega⟩ (by omega) (by omega) (by omega) (z_NBs hn h15 rfl (by omega) (by omega) (by omega) (by omega)) (by omega)
theorem zC252 {T : List zK} {d : Nat} {K : Option Value → zH → Prop} {p1 : Int32} {p2 : Int32} {zl0 : Int32} {M0 : zH} (hW : z_W M0 T) (u1 : 0 ≤ p1.toInt ∧ p1.toInt ≤ 7) (u2 : 1 ≤ p2.toInt ∧ p2.toInt ≤ 5) (hl0 : z_Ar M0 31 p1.toNatClampNeg = zl0) (bl0 : 1 ≤ zl0.toInt ∧ zl0.toInt ≤ 1024) (kk : ∀ (M1 : zH), z_X T zw252 M0 M1 → z_NB M1 p2.toInt 1 → z_F M1 19 29 = some (.int p1) → z_F M1 19 30 = some (.int p2) → K none M1) : z_ev (d + 3) 252 0 [some (.ref 19), some (.int p1), some (.int p2), none] [] M0 K := by
  have X : z_X T zw252 M0 M0 := .refl hW
  refine z_xP zt252 0 2 [some (.ref 19), some (.int p1), some (.int p2), none] [.int p1, .ref 19] rfl rfl ?_
  have f19 : T[19]? = some (.inl (12, 0, 0, 0, 0)) := X.1.k rfl (by decide)
  refine z_xpf zt252 1 rfl zo252 zzf12_242 X f19 (by decide) (by decide) ⟨by omega, by omega⟩ rfl (by decide) zw12_29 (fun M1 X2 e3 h4 => ?_)
  refine z_xP zt252 2 7 [some (.ref 19), some (.int p1), some (.int p2), none] [.int p2, .ref 19] rfl rfl ?_
  refine z_xpf zt252 3 rfl zo252 zzf12_245 X2 f19 (by decide) (by decide) ⟨by omega, by omega⟩ rfl (by decide) zw12_30 (fun M5 X6 e7 h8 => ?_)
  refine z_xP zt252 4 12 [some (.ref 19), some (.int p1), some (.int p2), some (.int 0)] [] rfl rfl ?_
  have h9 := (e7.f f19 (by decide) h4)
  have q0 : ((0 : Int32)).toInt = 0 := rfl
  exact (zB252 u1 u2 hl0 bl0 kk 12) M5 (0) p1 p2 X6 (by decide) h9 ⟨by omega, by omega⟩ h8 ⟨by omega, by omega⟩ (by omega) (by omega) (by omega) (z_NB0 (by omega)) (by omega)
def zw255 : List Nat := [39, 40, 41, 43]
theorem zB255 {T : List zK} {d : Nat} {K : Option Value → zH → Prop} {p1 : Int32} {zp0 : Int32} {zp1 : Int32} {zl0 : Int32} {M0 : zH} (u1 : 0 ≤ p1.toInt ∧ p1.toInt ≤ 1) (hz0 : z_F M0 19 29 = some (.int zp0)) (bz0 : 0 ≤ zp0.toInt ∧ zp0.toInt ≤ 7) (hz1 : z_F M0 19 30 = some (.int zp1)) (bz1 : 1 ≤ zp1.toInt ∧ zp1.toInt ≤ 5) (hl0 : z_Ar M0 31 zp0.toNatClampNeg = zl0) (bl0 : 1 ≤ zl0.toInt ∧ zl0.toInt ≤ 12) (hn0 : z_NB M0 zp1.toInt zl0.toInt) (kk : ∀ (x : Int32) (M1 : zH), z_X T zw255 M0 M1 → 0 ≤ x.toInt → x.toInt ≤ 1 → z_NB M1 zp1.toInt zl0.toInt → z_V 13 (z_Ar M0 43) zp1.toInt.toNat + x.toInt ≤ z_V 13 (z_Ar M1 43) zp1.toInt.toNat → (p1.toInt = 1 → x.toInt = 1 → z_V zl0.toInt (z_Ar M1 43) zp1.toInt.toNat = z_V zl0.toInt (z_Ar M0 43) zp1.toInt.toNat + 1) → ∀ (w0 : Int32), z_F M1 19 29 = some (.int w0) → 0 ≤ w0.toInt ∧ w0.toInt ≤ 7 → w0.toInt = zp0.toInt → ∀ (w1 : Int32), z_F M1 19 30 = some (.int w1) → 1 ≤ w1.toInt ∧ w1.toInt ≤ 5 → w1.toInt = zp1.toInt → K (some (.int x)) M1) : ∀ n : Nat, (∀ (M : zH) (b2 : Int32) (z0 : Int32) (z1 : Int32) (z2 : Int32), z_X T zw255 M0 M → (-1) ≤ b2.toInt ∧ b2.toInt ≤ 4 → z_F M 19 29 = some (.int z0) → 0 ≤ z0.toInt ∧ z0.toInt ≤ 7 → z_F M 19 30 = some (.int z1) → 1 ≤ z1.toInt ∧ z1.toInt ≤ 5 → z_Ar M 31 z0.toNatClampNeg = z2 → 1 ≤ z2.toInt ∧ z2.toInt ≤ 12 → z0.toInt = zp0.toInt → z1.toInt = zp1.toInt → z2.toInt = zl0.toInt → b2.toInt ≤ z1.toInt - 1 → M = M0 → (∀ i : Nat, b2.toInt < (i : Int) → (i : Int) < z1.toInt → (z_Ar M0 43 i).toInt = z2.toInt - 1) → ((0) * 3 + 1) * 6 + (b2.toInt - (-1)) < (n : Int) → z_ev (d + 3) 255 7 [some (.ref 19), some (.int p1), some (.int b2), none, none] [] M K) ∧ (∀ (M : zH) (b2 : Int32) (b3 : Int32) (b4 : Int32) (z0 : Int32) (z1 : Int32) (z2 : Int32), z_X T zw255 M0 M → 0 ≤ b2.toInt ∧ b2.toInt ≤ 4 → 1 ≤ b3.toInt ∧ b3.toInt ≤ 1024 → 0 ≤ b4.toInt ∧ b4.toInt ≤ 5 → z_F M 19 29 = some (.int z0) → 0 ≤ z0.toInt ∧ z0.toInt ≤ 7 → z_F M 19 30 = some (.int z1) → 1 ≤ z1.toInt ∧ z1.toInt ≤ 5 → z_Ar M 31 z0.toNatClampNeg = z2 → 1 ≤ z2.toInt ∧ z2.toInt ≤ 12 → z0.toInt = zp0.toInt → z1.toInt = zp1.toInt → z2.toInt = zl0.toInt → 0 ≤ b2.toInt → b2.toInt < z1.toInt → b2.toInt ≤ b4.toInt → 1 ≤ b3.toInt → b3.toInt ≤ z2.toInt - 1 → b4.toInt ≤ z1.toInt → (∀ i : Nat, b2.toInt < (i : Int) → (i : Int) < z1.toInt → (z_Ar M0 43 i).toInt = z2.toInt - 1) → (p1.toInt = 1 → ∀ i : Nat, b2.toInt < (i : Int) → (i : Int) < b4.toInt → (z_Ar M 43 i).toInt = 0) → z_GO M0 M b2.toInt b4.toInt b3.toInt z1.toInt z2.toInt → (∀ i : Nat, (i : Int) = b2.toInt → b3.toInt = (z_Ar M0 43 i).toInt + 1) → ((0) * 3 + 0) * 6 + (5 - b4.toInt) < (n : Int) → z_ev (d + 3) 255 55 [some (.ref 19), some (.int p1), some (.int b2), some (.int b3), some (.int b4)] [] M K) := by
  intro n
  induction n with
  | zero => exact ⟨(by intros; exfalso; omega), (by intros; exfalso; omega)⟩
  | succ n ih =>
    refine ⟨?_, ?_⟩
    · skip
      intro M b2 z0 z1 z2 X hh0 hp0 hh2 hp1 hh4 hp2 hh6 hh7 hh8 hh9 hh10 hM ht hE
      refine z_xP zt255 5 8 [some (.ref 19), some (.int p1), some (.int b2), none, none] [.int b2] rfl rfl ?_
      refine z_xZ zt255 6 rfl rfl (fun (h1 : b2.toInt < 0) => ?_) (fun (h1 : 0 ≤ b2.toInt) => ?_)
      · skip
        refine z_xP zt255 21 38 [some (.ref 19), some (.int p1), some (.int b2), none, none] [.int b2] rfl rfl ?_
        refine z_xZ zt255 22 rfl rfl (fun (h2 : 0 ≤ b2.toInt) => absurd h2 (by omega)) (fun (h2 : b2.toInt < 0) => ?_)
        refine z_xP zt255 23 42 [some (.ref 19), some (.int p1), some (.int b2), none, none] [.int 0] rfl rfl ?_
        have f19 : T[19]? = some (.inl (12, 0, 0, 0, 0)) := X.1.k rfl (by decide)
        have q0 : ((0 : Int32)).toInt = 0 := rfl
        exact z_xrz zt255 24 rfl zzr255 (by decide) (by decide) (kk 0 M X (by omega) (by omega) (z_NBm hn0 (by rw [hM]) rfl rfl) (by rw [hM]; omega) (fun _ hx => absurd hx (by omega)) z0 hp0 ⟨by omega, by omega⟩ (by omega) z1 hp1 ⟨by omega, by omega⟩ (by omega))
      refine z_xP zt255 7 12 [some (.ref 19), some (.int p1), some (.int b2), none, none] [.ref 19] rfl rfl ?_
      have f19 : T[19]? = some (.inl (12, 0, 0, 0, 0)) := X.1.k rfl (by decide)
      refine z_xgX (b := 43) zt255 8 rfl zo255 zzf12_79 X f19 (by decide) (by decide) rfl ?_
      refine z_xP zt255 9 16 [some (.ref 19), some (.int p1), some (.int b2), none, none] [.int b2, .ref 43] rfl rfl ?_
      have f43 : T[43]? = some (.inr (43, 0, 9, 0, 1023)) := X.1.k rfl (by decide)
      refine z_xil zt255 10 rfl X f43 (by decide) (by omega) (by omega) (fun (x3 : Int32) h4 (h5 : 0 ≤ x3.toInt) (h6 : x3.toInt ≤ 1023) => ?_)
      have h7 := z_NBl (z_NBm hn0 (by rw [hM]) rfl rfl) h4 (by omega) (by omega)
      refine z_xP zt255 11 18 [some (.ref 19), some (.int p1), some (.int b2), none, none] [.ref 19, .int x3] rfl rfl ?_
      refine z_xgX (b := 31) zt255 12 rfl zo255 zzf12_43 X f19 (by decide) (by decide) rfl ?_
      refine z_xP zt255 13 22 [some (.ref 19), some (.int p1), some (.int b2), none, none] [.ref 19, .ref 31, .int x3] rfl rfl ?_
      refine z_xgv zt255 14 rfl zo255 zzf12_242 X f19 (by decide) hp0 ?_
      have f31 : T[31]? = some (.inr (31, 0, 8, 0, 1024)) := X.1.k rfl (by decide)
      refine z_xil zt255 15 rfl X f31 (by decide) (by omega) (by omega) (fun (x8 : Int32) h9 (h10 : 0 ≤ x8.toInt) (h11 : x8.toInt ≤ 1024) => ?_)
      have h12 := congrArg Int32.toInt (h9.symm.trans hp2)
      refine z_xP zt255 16 27 [some (.ref 19), some (.int p1), some (.int b2), none, none] [.int 1, .int x8, .int x3] rfl rfl ?_
      refine z_xI zt255 17 rfl rfl (fun (x13 : Int32) (h14 : x13.toInt = x8.toInt - 1) => ?_) (z_pSub rfl rfl (by omega) (by omega))
      refine z_xJ zt255 18 rfl rfl (fun (h15 : x3.toInt ≠ x13.toInt) => ?_) (fun (h15 : x3.toInt = x13.toInt) => ?_)
      · skip
        refine z_xP zt255 21 38 [some (.ref 19), some (.int p1), some (.int b2), none, none] [.int b2] rfl rfl ?_
        refine z_xZ zt255 22 rfl rfl (fun (h16 : 0 ≤ b2.toInt) => ?_) (fun (h16 : b2.toInt < 0) => absurd h16 (by omega))
        refine z_xP zt255 25 44 [some (.ref 19), some (.int p1), some (.int b2), none, none] [.ref 19] rfl rfl ?_
        refine z_xgX (b := 43) zt255 26 rfl zo255 zzf12_79 X f19 (by decide) (by decide) rfl ?_
        refine z_xP zt255 27 48 [some (.ref 19), some (.int p1), some (.int b2), none, none] [.int b2, .ref 43] rfl rfl ?_
        refine z_xil zt255 28 rfl X f43 (by decide) (by omega) (by omega) (fun (x17 : Int32) h18 (h19 : 0 ≤ x17.toInt) (h20 : x17.toInt ≤ 1023) => ?_)
        have h21 := congrArg Int32.toInt (h18.symm.trans h4)
        have h22 := z_NBl (z_NBm hn0 (by rw [hM]) rfl rfl) h18 (by omega) (by omega)
        refine z_xP zt255 29 50 [some (.ref 19), some (.int p1), some (.int b2), none, none] [.int 1, .int x17] rfl rfl ?_
        refine z_xI zt255 30 rfl rfl (fun (x23 : Int32) (h24 : x23.toInt = x17.toInt + 1) => ?_) (z_pAdd rfl rfl (by omega) (by omega))
        refine z_xP zt255 31 55 [some (.ref 19), some (.int p1), some (.int b2), some (.int x23), some (.int b2)] [] rfl rfl ?_
        exact ih.2 M b2 x23 b2 z0 z1 z2 X ⟨by omega, by omega⟩ ⟨by omega, by omega⟩ ⟨by omega, by omega⟩ hp0 ⟨by omega, by omega⟩ hp1 ⟨by omega, by omega⟩ hp2 ⟨by omega, by omega⟩ (by omega) (by omega) (by omega) (by omega) (by omega) (by omega) (by omega) (by omega) (by omega) ht (fun _ i h1 h2 => by omega) (by rw [hM]; exact z_GO0 (z_NBm hn0 rfl (by omega) (by omega)) (by omega)) (z_hv h4 hM (by omega) (by omega)) (by omega)
      refine z_xN zt255 19 rfl rfl (fun (x25 : Int32) (h26 : x25.toInt = b2.toInt + (-1)) => ?_) (z_pAdd rfl rfl (by omega) (by omega))
      show z_ev (d + 3) 255 34 [some (.ref 19), some (.int p1), some (.int x25), none, none] [] M _
      refine z_xP zt255 20 7 [some (.ref 19), some (.int p1), some (.int x25), none, none] [] rfl rfl ?_
      exact ih.1 M x25 z0 z1 z2 X ⟨by omega, by omega⟩ hp0 ⟨by omega, by omega⟩ hp1 ⟨by omega, by omega⟩ hp2 ⟨by omega, by omega⟩ (by omega) (by omega) (by omega) (by omega) hM (z_ht ht h4 hM rfl (by omega) (by omega) (by omega)) (by omega)
    · skip
      intro M b2 b3 b4 z0 z1 z2 X hh0 hh1 hh2 hp0 hh4 hp1 hh6 hp2 hh8 hh9 hh10 hh11 hh12 hh13 hh14 hh15 hh16 hh17 ht hz hg hv hE
      refine z_xP zt255 32 58 [some (.ref 19), some (.int p1), some (.int b2), some (.int b3), some (.int b4)] [.ref 19, .int b4] rfl rfl ?_
      have f19 : T[19]? = some (.inl (12, 0, 0, 0, 0)) := X.1.k rfl (by decide)
      refine z_xgv zt255 33 rfl zo255 zzf12_245 X f19 (by decide) hp1 ?_
      refine z_xJ zt255 34 rfl rfl (fun (h1 : z1.toInt ≤ b4.toInt) => ?_) (fun (h1 : b4.toInt < z1.toInt) => ?_)
      · skip
        refine z_xP zt255 46 93 [some (.ref 19), some (.int p1), some (.int b2), some (.int b3), some (.int b4)] [.ref 19] rfl rfl ?_
        refine z_xcV (vs := [.ref 19]) (r := []) (L2 := [some (.ref 19), none]) zt255 47 rfl zo255 zzcV12_312 (Or.inl rfl) rfl X f19 rfl rfl rfl (Nat.le_of_ble_eq_true rfl) zzm253 (Nat.le_of_ble_eq_true rfl) rfl ?_
        refine zC253 X.1 (fun M2 X3  => ?_)
        have X4 := X.go X3 (z_sb (by decide))
        show z_ev (d + 3) 255 96 [some (.ref 19), some (.int p1), some (.int b2), some (.int b3), some (.int b4)] [] M2 _
        refine z_xP zt255 48 97 [some (.ref 19), some (.int p1), some (.int b2), some (.int b3), some (.int b4)] [.int 1] rfl rfl ?_
        have f43 : T[43]? = some (.inr (43, 0, 9, 0, 1023)) := X4.1.k rfl (by decide)
        have h6 := (z_GOm hg (X3.2.a f43 (by decide)))
        have h7 := z_GOv (N := zp1.toInt.toNat) h6 (z_NBm hn0 rfl (by omega) (by omega)) (by omega) (by omega) (by omega) (by omega) hv (by omega)
        have h8 : z2 = zl0 := z_sub (c := zl0.toInt) (by omega) rfl
        have h9 : z1 = zp1 := z_sub (c := zp1.toInt) (by omega) rfl
        have h10 := (X3.2.f f19 (by decide) hp0)
        have h11 := (X3.2.f f19 (by decide) hp1)
        have q1 : ((1 : Int32)).toInt = 1 := rfl
        exact z_xrz zt255 49 rfl zzr255 (by decide) (by decide) (kk 1 M2 X4 (by omega) (by omega) (z_NBm h6.2.2 rfl (by omega) (by omega)) (by omega) (fun hp _ => by subst h8; subst h9; exact z_GOr h6 ht ((z_hzm hz (X3.2.a f43 (by decide))) hp) (by omega) (by omega) (by omega) hv (by omega)) z0 h10 ⟨by omega, by omega⟩ (by omega) z1 h11 ⟨by omega, by omega⟩ (by omega))
      refine z_xP zt255 35 65 [some (.ref 19), some (.int p1), some (.int b2), some (.int b3), some (.int b4)] [.ref 19] rfl rfl ?_
      refine z_xgX (b := 43) zt255 36 rfl zo255 zzf12_79 X f19 (by decide) (by decide) rfl ?_
      refine z_xP zt255 37 71 [some (.ref 19), some (.int p1), some (.int b2), some (.int b3), some (.int b4)] [.int p1, .int b4, .ref 43] rfl rfl ?_
      refine z_xZ zt255 38 rfl rfl (fun (h12 : p1.toInt = 0) => ?_) (fun (h12 : p1.toInt ≠ 0) => ?_)
      · skip
        refine z_xP zt255 42 85 [some (.ref 19), some (.int p1), some (.int b2), some (.int b3), some (.int b4)] [.int b3, .int b4, .ref 43] rfl rfl ?_
        have f43 : T[43]? = some (.inr (43, 0, 9, 0, 1023)) := X.1.k rfl (by decide)
        refine z_xis zt255 43 rfl X f43 (by decide) (by decide) (by omega) (by omega) (by omega) (by omega) (by decide) (fun M13 X14 e15 h16 => ?_)
        refine z_xN zt255 44 rfl rfl (fun (x17 : Int32) (h18 : x17.toInt = b4.toInt + 1) => ?_) (z_pAdd rfl rfl (by omega) (by omega))
        show z_ev (d + 3) 255 89 [some (.ref 19), some (.int p1), some (.int b2), some (.int b3), some (.int x17)] [] M13 _
        refine z_xP zt255 45 55 [some (.ref 19), some (.int p1), some (.int b2), some (.int b3), some (.int x17)] [] rfl rfl ?_
        have h19 := (e15.f f19 (by decide) hp0)
        have h20 := (e15.f f19 (by decide) hp1)
        have f31 : T[31]? = some (.inr (31, 0, 8, 0, 1024)) := X14.1.k rfl (by decide)
        have h21 := ((congrFun (e15.a f31 (by decide)) _).trans hp2)
        exact ih.2 M13 b2 b3 x17 z0 z1 z2 X14 ⟨by omega, by omega⟩ ⟨by omega, by omega⟩ ⟨by omega, by omega⟩ h19 ⟨by omega, by omega⟩ h20 ⟨by omega, by omega⟩ h21 ⟨by omega, by omega⟩ (by omega) (by omega) (by omega) (by omega) (by omega) (by omega) (by omega) (by omega) (by omega) ht (z_hz hz h16 rfl (by omega) (by omega) (by omega)) (z_GOs hg h16 rfl (by omega) (by omega) (by omega) (by omega) (by omega) (by omega)) hv (by omega)
      refine z_xP zt255 39 77 [some (.ref 19), some (.int p1), some (.int b2), some (.int b3), some (.int b4)] [.int b2, .int b4, .int b4, .ref 43] rfl rfl ?_
      refine z_xJ zt255 40 rfl rfl (fun (h22 : b4.toInt ≤ b2.toInt) => ?_) (fun (h22 : b2.toInt < b4.toInt) => ?_)
      · skip
        refine z_xP zt255 42 85 [some (.ref 19), some (.int p1), some (.int b2), some (.int b3), some (.int b4)] [.int b3, .int b4, .ref 43] rfl rfl ?_
        have f43 : T[43]? = some (.inr (43, 0, 9, 0, 1023)) := X.1.k rfl (by decide)
        refine z_xis zt255 43 rfl X f43 (by decide) (by decide) (by omega) (by omega) (by omega) (by omega) (by decide) (fun M23 X24 e25 h26 => ?_)
        refine z_xN zt255 44 rfl rfl (fun (x27 : Int32) (h28 : x27.toInt = b4.toInt + 1) => ?_) (z_pAdd rfl rfl (by omega) (by omega))
        show z_ev (d + 3) 255 89 [some (.ref 19), some (.int p1), some (.int b2), some (.int b3), some (.int x27)] [] M23 _
        refine z_xP zt255 45 55 [some (.ref 19), some (.int p1), some (.int b2), some (.int b3), some (.int x27)] [] rfl rfl ?_
        have h29 := (e25.f f19 (by decide) hp0)
        have h30 := (e25.f f19 (by decide) hp1)
        have f31 : T[31]? = some (.inr (31, 0, 8, 0, 1024)) := X24.1.k rfl (by decide)
        have h31 := ((congrFun (e25.a f31 (by decide)) _).trans hp2)
        exact ih.2 M23 b2 b3 x27 z0 z1 z2 X24 ⟨by omega, by omega⟩ ⟨by omega, by omega⟩ ⟨by omega, by omega⟩ h29 ⟨by omega, by omega⟩ h30 ⟨by omega, by omega⟩ h31 ⟨by omega, by omega⟩ (by omega) (by omega) (by omega) (by omega) (by omega) (by omega) (by omega) (by omega) (by omega) ht (z_hz hz h26 rfl (by omega) (by omega) (by omega)) (z_GOs hg h26 rfl (by omega) (by omega) (by omega) (by omega) (by omega) (by omega)) hv (by omega)
      refine z_xP zt255 41 85 [some (.ref 19), some (.int p1), some (.int b2), some (.int b3), some (.int b4)] [.int 0, .int b4, .ref 43] rfl rfl ?_
      have f43 : T[43]? = some (.inr (43, 0, 9, 0, 1023)) := X.1.k rfl (by decide)
      have q0 : ((0 : Int32)).toInt = 0 := rfl
      refine z_xis zt255 43 rfl X f43 (by decide) (by decide) (by omega) (by omega) (by omega) (by omega) (by decide) (fun M32 X33 e34 h35 => ?_)
      refine z_xN zt255 44 rfl rfl (fun (x36 : Int32) (h37 : x36.toInt = b4.toInt + 1) => ?_) (z_pAdd rfl rfl (by omega) (by omega))
      show z_ev (d + 3) 255 89 [some (.ref 19), some (.int p1), some (.int b2), some (.int b3), some (.int x36)] [] M32 _
      refine z_xP zt255 45 55 [some (.ref 19), some (.int p1), some (.int b2), some (.int b3), some (.int x36)] [] rfl rfl ?_
      have h38 := (e34.f f19 (by decide) hp0)
      have h39 := (e34.f f19 (by decide) hp1)
      have f31 : T[31]? = some (.inr (31, 0, 8, 0, 1024)) := X33.1.k rfl (by decide)
      have h40 := ((congrFun (e34.a f31 (by decide)) _).trans hp2)
      exact ih.2 M32 b2 b3 x36 z0 z1 z2 X33 ⟨by omega, by omega⟩ ⟨by omega, by omega⟩ ⟨by omega, by omega⟩ h38 ⟨by omega, by omega⟩ h39 ⟨by omega, by omega⟩ h40 ⟨by omega, by omega⟩ (by omega) (by omega) (by omega) (by omega) (by omega) (by omega) (by omega) (by omega) (by omega) ht (z_hz hz h35 rfl (by omega) (by omega) (by omega)) (z_GOs hg h35 rfl (by omega) (by omega) (by omega) (by omega) (by omega) (by omega)) hv (by omega)
theorem zC255 {T : List zK} {d : Nat} {K : Option Value → zH → Prop} {p1 : Int32} {zp0 : Int32} {zp1 : Int32} {zl0 : Int32} {M0 : zH} (hW : z_W M0 T) (u1 : 0 ≤ p1.toInt ∧ p1.toInt ≤ 1) (hz0 : z_F M0 19 29 = some (.int zp0)) (bz0 : 0 ≤ zp0.toInt ∧ zp0.toInt ≤ 7) (hz1 : z_F M0 19 30 = some (.int zp1)) (bz1 : 1 ≤ zp1.toInt ∧ zp1.toInt ≤ 5) (hl0 : z_Ar M0 31 zp0.toNatClampNeg = zl0) (bl0 : 1 ≤ zl0.toInt ∧ zl0.toInt ≤ 12) (hn0 : z_NB M0 zp1.toInt zl0.toInt) (kk : ∀ (x : Int32) (M1 : zH), z_X T zw255 M0 M1 → 0 ≤ x.toInt → x.toInt ≤ 1 → z_NB M1 zp1.toInt zl0.toInt → z_V 13 (z_Ar M0 43) zp1.toInt.toNat + x.toInt ≤ z_V 13 (z_Ar M1 43) zp1.toInt.toNat → (p1.toInt = 1 → x.toInt = 1 → z_V zl0.toInt (z_Ar M1 43) zp1.toInt.toNat = z_V zl0.toInt (z_Ar M0 43) zp1.toInt.toNat + 1) → ∀ (w0 : Int32), z_F M1 19 29 = some (.int w0) → 0 ≤ w0.toInt ∧ w0.toInt ≤ 7 → w0.toInt = zp0.toInt → ∀ (w1 : Int32), z_F M1 19 30 = some (.int w1) → 1 ≤ w1.toInt ∧ w1.toInt ≤ 5 → w1.toInt = zp1.toInt → K (some (.int x)) M1) : z_ev (d + 3) 255 0 [some (.ref 19), some (.int p1), none, none, none] [] M0 K := by
  have X : z_X T zw255 M0 M0 := .refl hW
  refine z_xP zt255 0 1 [some (.ref 19), some (.int p1), none, none, none] [.ref 19] rfl rfl ?_
  have f19 : T[19]? = some (.inl (12, 0, 0, 0, 0)) := X.1.k rfl (by decide)
  refine z_xgv zt255 1 rfl zo255 zzf12_245 X f19 (by decide) hz1 ?_
  refine z_xP zt255 2 5 [some (.ref 19), some (.int p1), none, none, none] [.int 1, .int zp1] rfl rfl ?_
  refine z_xI zt255 3 rfl rfl (fun (x1 : Int32) (h2 : x1.toInt = zp1.toInt - 1) => ?_) (z_pSub rfl rfl (by omega) (by omega))
  refine z_xP zt255 4 7 [some (.ref 19), some (.int p1), some (.int x1), none, none] [] rfl rfl ?_
  have f31 : T[31]? = some (.inr (31, 0, 8, 0, 1024)) := X.1.k rfl (by decide)
  exact (zB255 u1 hz0 bz0 hz1 bz1 hl0 bl0 hn0 kk 18).1 M0 x1 zp0 zp1 zl0 X ⟨by omega, by omega⟩ hz0 ⟨by omega, by omega⟩ hz1 ⟨by omega, by omega⟩ hl0 ⟨by omega, by omega⟩ (by omega) (by omega) (by omega) (by omega) rfl (fun i h1 h2 => by omega) (by omega)
def zw250 : List Nat := [39, 40, 41, 43, 2229, 2230]
theorem zB250 {T : List zK} {d : Nat} {K : Option Value → zH → Prop} {p1 : Int32} {p2 : Int32} {M0 : zH} (hR : z_G4 M0) (kk : ∀ (x : Int32) (M1 : zH), z_X T zw250 M0 M1 → K (some (.int x)) M1) : ∀ n : Nat, (∀ (M : zH) (b3 : Int32) (b4 : Int32) (b5 : Int32) (z0 : Int32) (z1 : Int32) (z2 : Int32), z_X T zw250 M0 M → 0 ≤ p1.toInt ∧ p1.toInt ≤ 7 → 1 ≤ p2.toInt ∧ p2.toInt ≤ 5 → 0 ≤ b3.toInt ∧ b3.toInt ≤ 0 → 0 ≤ b5.toInt ∧ b5.toInt ≤ 1 → z_F M 19 29 = some (.int z0) → 0 ≤ z0.toInt ∧ z0.toInt ≤ 7 → z_F M 19 30 = some (.int z1) → 1 ≤ z1.toInt ∧ z1.toInt ≤ 5 → z_Ar M 31 z0.toNatClampNeg = z2 → 0 ≤ z2.toInt ∧ z2.toInt ≤ 12 → z2.toInt ≤ 12 → 1 ≤ z2.toInt → 1 ≤ z1.toInt → z1.toInt ≤ 5 → z_NB M z1.toInt z2.toInt → ((0) * 2 + 0) * 742588 + (2 * (371293 - z_V 13 (z_Ar M 43) z1.toInt.toNat) + b5.toInt) < (n : Int) → z_ev (d + 4) 250 25 [some (.ref 19), some (.int p1), some (.int p2), some (.int b3), some (.int b4), some (.int b5)] [] M K) := by
  intro n
  induction n with
  | zero => exact by intro M b3 b4 b5 z0 z1 z2 X hh0 hh1 hh2 hh3 hp0 hh5 hp1 hh7 hp2 hh9 hh10 hh11 hh12 hh13 hn hE; have hV := z_V5 hn (by omega) (by omega) (by omega); exfalso; omega
  | succ n ih =>
    intro M b3 b4 b5 z0 z1 z2 X hh0 hh1 hh2 hh3 hp0 hh5 hp1 hh7 hp2 hh9 hh10 hh11 hh12 hh13 hn hE
    have hV := z_V5 hn (by omega) (by omega) (by omega)
    refine z_xP zt250 9 27 [some (.ref 19), some (.int p1), some (.int p2), some (.int b3), some (.int b4), some (.int b5)] [.int b5] rfl rfl ?_
    refine z_xZ zt250 10 rfl rfl (fun (h1 : b5.toInt = 0) => ?_) (fun (h1 : b5.toInt ≠ 0) => ?_)
    · skip
      refine z_xP zt250 15 45 [some (.ref 19), some (.int p1), some (.int p2), some (.int b3), some (.int b4), some (.int b5)] [.int b4] rfl rfl ?_
      exact z_xri zt250 16 rfl zzr250 (kk b4 M X)
    have h2 := z_b32 b4
    refine z_xN zt250 11 rfl rfl (fun (x3 : Int32) (h4 : True) => ?_) (trivial)
    show z_ev (d + 4) 250 33 [some (.ref 19), some (.int p1), some (.int p2), some (.int b3), some (.int x3), some (.int b5)] [] M _
    refine z_xP zt250 12 35 [some (.ref 19), some (.int p1), some (.int p2), some (.int b3), some (.int x3), some (.int b5)] [.int 0, .ref 19] rfl rfl ?_
    have f19 : T[19]? = some (.inl (12, 0, 0, 0, 0)) := X.1.k rfl (by decide)
    refine z_xcV (vs := [.ref 19, .int 0]) (r := []) (L2 := [some (.ref 19), some (.int 0), none, none, none]) zt250 13 rfl zo250 zzcV12_326 (Or.inl rfl) rfl X f19 rfl rfl rfl (Nat.le_of_ble_eq_true rfl) zzm255 (Nat.le_of_ble_eq_true rfl) rfl ?_
    have q0 : ((0 : Int32)).toInt = 0 := rfl
    have f31 : T[31]? = some (.inr (31, 0, 8, 0, 1024)) := X.1.k rfl (by decide)
    have q0 : ((0 : Int32)).toInt = 0 := rfl
    refine zC255 X.1 (by decide) hp0 ⟨by omega, by omega⟩ hp1 ⟨by omega, by omega⟩ hp2 ⟨by omega, by omega⟩ hn (fun x18 M5 X6 h19 h20 h7 h8 h9 z10 h11 h12 h13 z14 h15 h16 h17 => ?_)
    have X21 := X.go X6 (z_sb (by decide))
    show z_ev (d + 4) 250 38 [some (.ref 19), some (.int p1), some (.int p2), some (.int b3), some (.int x3), some (.int b5)] [.int x18] M5 _
    refine z_xP zt250 14 25 [some (.ref 19), some (.int p1), some (.int p2), some (.int b3), some (.int x3), some (.int x18)] [] rfl rfl ?_
    have h23 := (X6.2.f f19 (by decide) hp0)
    have h24 := (X6.2.f f19 (by decide) hp1)
    have h25 := ((congrFun (X6.2.a f31 (by decide)) _).trans hp2)
    have h26 := z_V5 h7 (by omega) (by omega) (by omega)
    exact ih M5 b3 x3 x18 z0 z1 z2 X21 ⟨by omega, by omega⟩ ⟨by omega, by omega⟩ ⟨by omega, by omega⟩ ⟨by omega, by omega⟩ h23 ⟨by omega, by omega⟩ h24 ⟨by omega, by omega⟩ h25 ⟨by omega, by omega⟩ (by omega) (by omega) (by omega) (by omega) h7 (by omega)
theorem zC250 {T : List zK} {d : Nat} {K : Option Value → zH → Prop} {p1 : Int32} {p2 : Int32} {M0 : zH} (hW : z_W M0 T) (hR : z_G4 M0) (kk : ∀ (x : Int32) (M1 : zH), z_X T zw250 M0 M1 → K (some (.int x)) M1) : z_ev (d + 4) 250 0 [some (.ref 19), some (.int p1), some (.int p2), none, none, none] [] M0 K := by
  have X : z_X T zw250 M0 M0 := .refl hW
  refine z_xP zt250 0 3 [some (.ref 19), some (.int p1), some (.int p2), none, none, none] [.int p2, .int p1, .ref 19] rfl rfl ?_
  have f19 : T[19]? = some (.inl (12, 0, 0, 0, 0)) := X.1.k rfl (by decide)
  refine z_xcV (vs := [.ref 19, .int p1, .int p2]) (r := []) (L2 := [some (.ref 19), some (.int p1), some (.int p2)]) zt250 1 rfl zo250 zzcV12_320 (Or.inl rfl) rfl X f19 rfl rfl rfl (Nat.le_of_ble_eq_true rfl) zzm251 (Nat.le_of_ble_eq_true rfl) rfl ?_
  refine z_xP zt251 0 2 [some (.ref 19), some (.int p1), some (.int p2)] [.int p1, .ref 19] rfl rfl ?_
  refine z_xcV (vs := [.ref 19, .int p1]) (r := []) (L2 := [some (.ref 19), some (.int p1)]) zt251 1 rfl zo251 zzcV12_209 (Or.inl rfl) rfl X f19 rfl rfl rfl (Nat.le_of_ble_eq_true rfl) zzm209 (Nat.le_of_ble_eq_true rfl) rfl ?_
  refine z_xP zt209 0 1 [some (.ref 19), some (.int p1)] [.int p1] rfl rfl ?_
  refine z_xZ zt209 1 rfl rfl (fun (h1 : p1.toInt < 0) => ?_) (fun (h1 : 0 ≤ p1.toInt) => ?_)
  · skip
    refine z_xP zt209 6 17 [some (.ref 19), some (.int p1)] [.int 0] rfl rfl ?_
    refine z_xrz zt209 7 rfl zzr209 (by decide) (by decide) ?_
    show z_ev (d + 3) 251 5 [some (.ref 19), some (.int p1), some (.int p2)] [.int 0] M0 _
    refine z_xZ zt251 2 rfl rfl (fun (h2 : (0 : Int) = 0) => ?_) (fun (h2 : (0 : Int) ≠ 0) => absurd h2 (by omega))
    refine z_xP zt251 9 21 [some (.ref 19), some (.int p1), some (.int p2)] [.int (-1)] rfl rfl ?_
    refine z_xri zt251 10 rfl zzr251 ?_
    show z_ev (d + 4) 250 6 [some (.ref 19), some (.int p1), some (.int p2), none, none, none] [.int (-1)] M0 _
    refine z_xP zt250 2 8 [some (.ref 19), some (.int p1), some (.int p2), some (.int (-1)), none, none] [.int (-1)] rfl rfl ?_
    refine z_xZ zt250 3 rfl rfl (fun (h3 : 0 ≤ ((-1) : Int)) => absurd h3 (by omega)) (fun (h3 : ((-1) : Int) < 0) => ?_)
    refine z_xP zt250 4 12 [some (.ref 19), some (.int p1), some (.int p2), some (.int (-1)), none, none] [.int (-1)] rfl rfl ?_
    have qm1 : (((-1) : Int32)).toInt = (-1) := rfl
    exact z_xri zt250 5 rfl zzr250 (kk (-1) M0 X)
  refine z_xP zt209 2 6 [some (.ref 19), some (.int p1)] [.ref 19, .int p1] rfl rfl ?_
  refine z_xgI zt209 3 rfl zo209 zzf12_110 X f19 (by decide) (by decide) rfl (fun (x5 : Int32) h4 (h6 : 0 ≤ x5.toInt) (h7 : x5.toInt ≤ 8) => ?_)
  have h8 := z_b32 p1
  refine z_xJ zt209 4 rfl rfl (fun (h9 : x5.toInt ≤ p1.toInt) => ?_) (fun (h9 : p1.toInt < x5.toInt) => ?_)
  · skip
    refine z_xP zt209 6 17 [some (.ref 19), some (.int p1)] [.int 0] rfl rfl ?_
    refine z_xrz zt209 7 rfl zzr209 (by decide) (by decide) ?_
    show z_ev (d + 3) 251 5 [some (.ref 19), some (.int p1), some (.int p2)] [.int 0] M0 _
    refine z_xZ zt251 2 rfl rfl (fun (h10 : (0 : Int) = 0) => ?_) (fun (h10 : (0 : Int) ≠ 0) => absurd h10 (by omega))
    refine z_xP zt251 9 21 [some (.ref 19), some (.int p1), some (.int p2)] [.int (-1)] rfl rfl ?_
    refine z_xri zt251 10 rfl zzr251 ?_
    show z_ev (d + 4) 250 6 [some (.ref 19), some (.int p1), some (.int p2), none, none, none] [.int (-1)] M0 _
    refine z_xP zt250 2 8 [some (.ref 19), some (.int p1), some (.int p2), some (.int (-1)), none, none] [.int (-1)] rfl rfl ?_
    refine z_xZ zt250 3 rfl rfl (fun (h11 : 0 ≤ ((-1) : Int)) => absurd h11 (by omega)) (fun (h11 : ((-1) : Int) < 0) => ?_)
    refine z_xP zt250 4 12 [some (.ref 19), some (.int p1), some (.int p2), some (.int (-1)), none, none] [.int (-1)] rfl rfl ?_
    have qm1 : (((-1) : Int32)).toInt = (-1) := rfl
    exact z_xri zt250 5 rfl zzr250 (kk (-1) M0 X)
  refine z_xP zt209 5 17 [some (.ref 19), some (.int p1)] [.int 1] rfl rfl ?_
  refine z_xrz zt209 7 rfl zzr209 (by decide) (by decide) ?_
  show z_ev (d + 3) 251 5 [some (.ref 19), some (.int p1), some (.int p2)] [.int 1] M0 _
  refine z_xZ zt251 2 rfl rfl (fun (h12 : (1 : Int) = 0) => absurd h12 (by omega)) (fun (h12 : (1 : Int) ≠ 0) => ?_)
  refine z_xP zt251 3 9 [some (.ref 19), some (.int p1), some (.int p2)] [.int p2] rfl rfl ?_
  have h13 := z_b32 p2
  refine z_xL zt251 4 rfl rfl (fun (y14 : Int64) (h15 : y14.toInt = p2.toInt) => ?_) (z_qI2L rfl)
  refine z_xP zt251 5 11 [some (.ref 19), some (.int p1), some (.int p2)] [.long 1, .long y14] rfl rfl ?_
  refine z_xl2 zt251 6 rfl zo251 zkl12_318 ?_
  refine z_xcS (vs := [.long y14, .long 1, .long 5]) (r := []) (L2 := [some (.long y14), none, some (.long 1), none, some (.long 5), none]) zt251 7 rfl zo251 zzcS12_116 (Or.inl rfl) (Nat.le_of_ble_eq_true rfl) rfl rfl (Nat.le_of_ble_eq_true rfl) zzm189 (Nat.le_of_ble_eq_true rfl) rfl ?_
  refine z_xP zt189 0 2 [some (.long y14), none, some (.long 1), none, some (.long 5), none] [.long 1, .long y14] rfl rfl ?_
  refine z_xI zt189 1 rfl rfl (fun (x16 : Int32) (h17 : (x16.toInt < 0 ∧ y14.toInt < 1) ∨ (x16.toInt = 0 ∧ y14.toInt = 1) ∨ (0 < x16.toInt ∧ 1 < y14.toInt)) => ?_) (z_qCmp rfl rfl)
  refine z_xZ zt189 2 rfl rfl (fun (h18 : x16.toInt < 0) => ?_) (fun (h18 : 0 ≤ x16.toInt) => ?_)
  · skip
    refine z_xP zt189 7 18 [some (.long y14), none, some (.long 1), none, some (.long 5), none] [.int 0] rfl rfl ?_
    refine z_xrz zt189 8 rfl zzr189 (by decide) (by decide) ?_
    show z_ev (d + 3) 251 17 [some (.ref 19), some (.int p1), some (.int p2)] [.int 0] M0 _
    refine z_xZ zt251 8 rfl rfl (fun (h19 : (0 : Int) ≠ 0) => absurd h19 (by omega)) (fun (h19 : (0 : Int) = 0) => ?_)
    refine z_xP zt251 9 21 [some (.ref 19), some (.int p1), some (.int p2)] [.int (-1)] rfl rfl ?_
    refine z_xri zt251 10 rfl zzr251 ?_
    show z_ev (d + 4) 250 6 [some (.ref 19), some (.int p1), some (.int p2), none, none, none] [.int (-1)] M0 _
    refine z_xP zt250 2 8 [some (.ref 19), some (.int p1), some (.int p2), some (.int (-1)), none, none] [.int (-1)] rfl rfl ?_
    refine z_xZ zt250 3 rfl rfl (fun (h20 : 0 ≤ ((-1) : Int)) => absurd h20 (by omega)) (fun (h20 : ((-1) : Int) < 0) => ?_)
    refine z_xP zt250 4 12 [some (.ref 19), some (.int p1), some (.int p2), some (.int (-1)), none, none] [.int (-1)] rfl rfl ?_
    have qm1 : (((-1) : Int32)).toInt = (-1) := rfl
    exact z_xri zt250 5 rfl zzr250 (kk (-1) M0 X)
  refine z_xP zt189 3 9 [some (.long y14), none, some (.long 1), none, some (.long 5), none] [.long 5, .long y14] rfl rfl ?_
  refine z_xI zt189 4 rfl rfl (fun (x21 : Int32) (h22 : (x21.toInt < 0 ∧ y14.toInt < 5) ∨ (x21.toInt = 0 ∧ y14.toInt = 5) ∨ (0 < x21.toInt ∧ 5 < y14.toInt)) => ?_) (z_qCmp rfl rfl)
  refine z_xZ zt189 5 rfl rfl (fun (h23 : 0 < x21.toInt) => ?_) (fun (h23 : x21.toInt ≤ 0) => ?_)
  · skip
    refine z_xP zt189 7 18 [some (.long y14), none, some (.long 1), none, some (.long 5), none] [.int 0] rfl rfl ?_
    refine z_xrz zt189 8 rfl zzr189 (by decide) (by decide) ?_
    show z_ev (d + 3) 251 17 [some (.ref 19), some (.int p1), some (.int p2)] [.int 0] M0 _
    refine z_xZ zt251 8 rfl rfl (fun (h24 : (0 : Int) ≠ 0) => absurd h24 (by omega)) (fun (h24 : (0 : Int) = 0) => ?_)
    refine z_xP zt251 9 21 [some (.ref 19), some (.int p1), some (.int p2)] [.int (-1)] rfl rfl ?_
    refine z_xri zt251 10 rfl zzr251 ?_
    show z_ev (d + 4) 250 6 [some (.ref 19), some (.int p1), some (.int p2), none, none, none] [.int (-1)] M0 _
    refine z_xP zt250 2 8 [some (.ref 19), some (.int p1), some (.int p2), some (.int (-1)), none, none] [.int (-1)] rfl rfl ?_
    refine z_xZ zt250 3 rfl rfl (fun (h25 : 0 ≤ ((-1) : Int)) => absurd h25 (by omega)) (fun (h25 : ((-1) : Int) < 0) => ?_)
    refine z_xP zt250 4 12 [some (.ref 19), some (.int p1), some (.int p2), some (.int (-1)), none, none] [.int (-1)] rfl rfl ?_
    have qm1 : (((-1) : Int32)).toInt = (-1) := rfl
    exact z_xri zt250 5 rfl zzr250 (kk (-1) M0 X)
  refine z_xP zt189 6 18 [some (.long y14), none, some (.long 1), none, some (.long 5), none] [.int 1] rfl rfl ?_
  refine z_xrz zt189 8 rfl zzr189 (by decide) (by decide) ?_
  show z_ev (d + 3) 251 17 [some (.ref 19), some (.int p1), some (.int p2)] [.int 1] M0 _
  refine z_xZ zt251 8 rfl rfl (fun (h26 : (1 : Int) ≠ 0) => ?_) (fun (h26 : (1 : Int) = 0) => absurd h26 (by omega))
  refine z_xP zt251 11 23 [some (.ref 19), some (.int p1), some (.int p2)] [.ref 19] rfl rfl ?_
  refine z_xgX (b := 31) zt251 12 rfl zo251 zzf12_43 X f19 (by decide) (by decide) rfl ?_
  refine z_xP zt251 13 27 [some (.ref 19), some (.int p1), some (.int p2)] [.int p1, .ref 31] rfl rfl ?_
  have f31 : T[31]? = some (.inr (31, 0, 8, 0, 1024)) := X.1.k rfl (by decide)
  refine z_xil zt251 14 rfl X f31 (by decide) (by omega) (by omega) (fun (x27 : Int32) h28 (h29 : 0 ≤ x27.toInt) (h30 : x27.toInt ≤ 1024) => ?_)
  refine z_xP zt251 15 30 [some (.ref 19), some (.int p1), some (.int p2)] [.int 12, .int x27] rfl rfl ?_
  refine z_xJ zt251 16 rfl rfl (fun (h31 : x27.toInt ≤ 12) => ?_) (fun (h31 : 12 < x27.toInt) => ?_)
  · skip
    refine z_xP zt251 18 39 [some (.ref 19), some (.int p1), some (.int p2)] [.int 0] rfl rfl ?_
    refine z_xri zt251 19 rfl zzr251 ?_
    show z_ev (d + 4) 250 6 [some (.ref 19), some (.int p1), some (.int p2), none, none, none] [.int 0] M0 _
    refine z_xP zt250 2 8 [some (.ref 19), some (.int p1), some (.int p2), some (.int 0), none, none] [.int 0] rfl rfl ?_
    refine z_xZ zt250 3 rfl rfl (fun (h32 : 0 ≤ (0 : Int)) => ?_) (fun (h32 : (0 : Int) < 0) => absurd h32 (by omega))
    refine z_xP zt250 6 19 [some (.ref 19), some (.int p1), some (.int p2), some (.int 0), some (.int 0), none] [.int p2, .int p1, .ref 19] rfl rfl ?_
    refine z_xcV (vs := [.ref 19, .int p1, .int p2]) (r := []) (L2 := [some (.ref 19), some (.int p1), some (.int p2), none]) zt250 7 rfl zo250 zzcV12_323 (Or.inl rfl) rfl X f19 rfl rfl rfl (Nat.le_of_ble_eq_true rfl) zzm252 (Nat.le_of_ble_eq_true rfl) rfl ?_
    have h33 := z_G4u (hR.go X (by decide)) h4 (by omega) (by omega) h28
    refine zC252 X.1 (by omega) (by omega) h28 ⟨by omega, by omega⟩ (fun M34 X35 h36 h37 h38 => ?_)
    have X39 := X.go X35 (z_sb (by decide))
    show z_ev (d + 4) 250 22 [some (.ref 19), some (.int p1), some (.int p2), some (.int 0), some (.int 0), none] [] M34 _
    have h41 := z_NBw (L2 := x27.toInt) h36 (by omega)
    refine z_xP zt250 8 25 [some (.ref 19), some (.int p1), some (.int p2), some (.int 0), some (.int 0), some (.int 1)] [] rfl rfl ?_
    have h42 := ((congrFun (X35.2.a f31 (by decide)) _).trans h28)
    have h43 := z_V5 h41 (by omega) (by omega) (by omega)
    have q0 : ((0 : Int32)).toInt = 0 := rfl
    have q1 : ((1 : Int32)).toInt = 1 := rfl
    exact (zB250 hR kk 1485176) M34 (0) (0) (1) p1 p2 x27 X39 ⟨by omega, by omega⟩ ⟨by omega, by omega⟩ (by decide) (by decide) h37 ⟨by omega, by omega⟩ h38 ⟨by omega, by omega⟩ h42 ⟨by omega, by omega⟩ (by omega) (by omega) (by omega) (by omega) h41 (by omega)
  refine z_xP zt251 17 39 [some (.ref 19), some (.int p1), some (.int p2)] [.int (-4)] rfl rfl ?_
  refine z_xri zt251 19 rfl zzr251 ?_
  show z_ev (d + 4) 250 6 [some (.ref 19), some (.int p1), some (.int p2), none, none, none] [.int (-4)] M0 _
  refine z_xP zt250 2 8 [some (.ref 19), some (.int p1), some (.int p2), some (.int (-4)), none, none] [.int (-4)] rfl rfl ?_
  refine z_xZ zt250 3 rfl rfl (fun (h44 : 0 ≤ ((-4) : Int)) => absurd h44 (by omega)) (fun (h44 : ((-4) : Int) < 0) => ?_)
  refine z_xP zt250 4 12 [some (.ref 19), some (.int p1), some (.int p2), some (.int (-4)), none, none] [.int (-4)] rfl rfl ?_
  have qm4 : (((-4) : Int32)).toInt = (-4) := rfl
  exact z_xri zt250 5 rfl zzr250 (kk (-4) M0 X)
def zw257 : List Nat := []
theorem zB257 {T : List zK} {d : Nat} {K : Option Value → zH → Prop}  {M0 : zH}  (kk : ∀ (x : Int32) (M1 : zH), z_X T zw257 M0 M1 → K (some (.int x)) M1) : ∀ n : Nat, (∀ (M : zH) (b1 : Int32) (b2 : Int32), z_X T zw257 M0 M → (-1) ≤ b2.toInt ∧ b2.toInt ≤ 8 → ((0) * 2 + 0) * 10 + (b2.toInt - (-1)) < (n : Int) → z_ev d 257 9 [some (.ref 19), some (.int b1), some (.int b2)] [] M K) := by
  intro n
  induction n with
  | zero => exact by intros; exfalso; omega
  | succ n ih =>
    intro M b1 b2 X hh0 hE
    refine z_xP zt257 5 10 [some (.ref 19), some (.int b1), some (.int b2)] [.int b2] rfl rfl ?_
    refine z_xZ zt257 6 rfl rfl (fun (h1 : b2.toInt < 0) => ?_) (fun (h1 : 0 ≤ b2.toInt) => ?_)
    · skip
      refine z_xP zt257 17 32 [some (.ref 19), some (.int b1), some (.int b2)] [.int b1] rfl rfl ?_
      exact z_xri zt257 18 rfl zzr257 (kk b1 M X)
    refine z_xP zt257 7 16 [some (.ref 19), some (.int b1), some (.int b2)] [.int b1, .int 16] rfl rfl ?_
    have h2 := z_b32 b1
    refine z_xI zt257 8 rfl rfl (P := fun _ => True) (fun (x3 : Int32) _ => ?_) trivial
    refine z_xP zt257 9 18 [some (.ref 19), some (.int b1), some (.int b2)] [.ref 19, .int x3] rfl rfl ?_
    have f19 : T[19]? = some (.inl (12, 0, 0, 0, 0)) := X.1.k rfl (by decide)
    refine z_xgX (b := 43) zt257 10 rfl zo257 zzf12_79 X f19 (by decide) (by decide) rfl ?_
    refine z_xP zt257 11 22 [some (.ref 19), some (.int b1), some (.int b2)] [.int b2, .ref 43, .int x3] rfl rfl ?_
    have f43 : T[43]? = some (.inr (43, 0, 9, 0, 1023)) := X.1.k rfl (by decide)
    refine z_xil zt257 12 rfl X f43 (by decide) (by omega) (by omega) (fun (x5 : Int32) h6 (h7 : 0 ≤ x5.toInt) (h8 : x5.toInt ≤ 1023) => ?_)
    have h9 := z_b32 x3
    refine z_xI zt257 13 rfl rfl (P := fun _ => True) (fun (x10 : Int32) _ => ?_) trivial
    refine z_xP zt257 14 25 [some (.ref 19), some (.int x10), some (.int b2)] [] rfl rfl ?_
    refine z_xN zt257 15 rfl rfl (fun (x12 : Int32) (h13 : x12.toInt = b2.toInt + (-1)) => ?_) (z_pAdd rfl rfl (by omega) (by omega))
    show z_ev d 257 28 [some (.ref 19), some (.int x10), some (.int x12)] [] M _
    refine z_xP zt257 16 9 [some (.ref 19), some (.int x10), some (.int x12)] [] rfl rfl ?_
    exact ih M x10 x12 X ⟨by omega, by omega⟩ (by omega)
theorem zC257 {T : List zK} {d : Nat} {K : Option Value → zH → Prop}  {M0 : zH} (hW : z_W M0 T)  (kk : ∀ (x : Int32) (M1 : zH), z_X T zw257 M0 M1 → K (some (.int x)) M1) : z_ev d 257 0 [some (.ref 19), none, none] [] M0 K := by
  have X : z_X T zw257 M0 M0 := .refl hW
  refine z_xP zt257 0 3 [some (.ref 19), some (.int 0), none] [.ref 19] rfl rfl ?_
  have f19 : T[19]? = some (.inl (12, 0, 0, 0, 0)) := X.1.k rfl (by decide)
  refine z_xgI zt257 1 rfl zo257 zzf12_245 X f19 (by decide) (by decide) rfl (fun (x2 : Int32) h1 (h3 : 0 ≤ x2.toInt) (h4 : x2.toInt ≤ 9) => ?_)
  refine z_xP zt257 2 7 [some (.ref 19), some (.int 0), none] [.int 1, .int x2] rfl rfl ?_
  refine z_xI zt257 3 rfl rfl (fun (x5 : Int32) (h6 : x5.toInt = x2.toInt - 1) => ?_) (z_pSub rfl rfl (by omega) (by omega))
  refine z_xP zt257 4 9 [some (.ref 19), some (.int 0), some (.int x5)] [] rfl rfl ?_
  have q0 : ((0 : Int32)).toInt = 0 := rfl
  exact (zB257 kk 20) M0 (0) x5 X ⟨by omega, by omega⟩ (by omega)
def zw256 : List Nat := [39, 40, 41, 42, 43, 2229, 2230, 2234, 2235]
theorem zB256 {T : List zK} {d : Nat} {K : Option Value → zH → Prop} {p1 : Int32} {p2 : Int32} {p3 : Int32} {p4 : Int32} {M0 : zH} (hR : z_G4 M0) (kk : ∀ (x : Int32) (M1 : zH), z_X T zw256 M0 M1 → K (some (.int x)) M1) : ∀ n : Nat, (∀ (M : zH) (b5 : Int32) (b6 : Int32) (b7 : Int32) (b8 : Int32) (o9 : Option Value) (z0 : Int32) (z1 : Int32) (z2 : Int32), z_X T zw256 M0 M → 0 ≤ p1.toInt ∧ p1.toInt ≤ 19 → 0 ≤ p2.toInt ∧ p2.toInt ≤ 7 → 1 ≤ p3.toInt ∧ p3.toInt ≤ 5 → 0 ≤ p4.toInt ∧ p4.toInt ≤ 1 → 0 ≤ b5.toInt ∧ b5.toInt ≤ 0 → 0 ≤ b8.toInt ∧ b8.toInt ≤ 1 → z_F M 19 29 = some (.int z0) → 0 ≤ z0.toInt ∧ z0.toInt ≤ 7 → z_F M 19 30 = some (.int z1) → 1 ≤ z1.toInt ∧ z1.toInt ≤ 5 → z_Ar M 31 z0.toNatClampNeg = z2 → 0 ≤ z2.toInt ∧ z2.toInt ≤ 12 → z2.toInt ≤ 12 → 1 ≤ z2.toInt → 1 ≤ z1.toInt → z1.toInt ≤ 5 → z_NB M z1.toInt z2.toInt → ((0) * 2 + 0) * 742588 + (2 * (371293 - z_V 13 (z_Ar M 43) z1.toInt.toNat) + b8.toInt) < (n : Int) → z_ev (d + 5) 256 53 [some (.ref 19), some (.int p1), some (.int p2), some (.int p3), some (.int p4), some (.int b5), some (.int b6), some (.int b7), some (.int b8), o9] [] M K) := by
  intro n
  induction n with
  | zero => exact by intro M b5 b6 b7 b8 o9 z0 z1 z2 X hh0 hh1 hh2 hh3 hh4 hh5 hp0 hh7 hp1 hh9 hp2 hh11 hh12 hh13 hh14 hh15 hn hE; have hV := z_V5 hn (by omega) (by omega) (by omega); exfalso; omega
  | succ n ih =>
    intro M b5 b6 b7 b8 o9 z0 z1 z2 X hh0 hh1 hh2 hh3 hh4 hh5 hp0 hh7 hp1 hh9 hp2 hh11 hh12 hh13 hh14 hh15 hn hE
    have hV := z_V5 hn (by omega) (by omega) (by omega)
    refine z_xP zt256 19 55 [some (.ref 19), some (.int p1), some (.int p2), some (.int p3), some (.int p4), some (.int b5), some (.int b6), some (.int b7), some (.int b8), o9] [.int b8] rfl rfl ?_
    refine z_xZ zt256 20 rfl rfl (fun (h1 : b8.toInt = 0) => ?_) (fun (h1 : b8.toInt ≠ 0) => ?_)
    · skip
      refine z_xP zt256 41 117 [some (.ref 19), some (.int p1), some (.int p2), some (.int p3), some (.int p4), some (.int b5), some (.int b6), some (.int b7), some (.int b8), o9] [.int p4] rfl rfl ?_
      refine z_xZ zt256 42 rfl rfl (fun (h2 : p4.toInt ≠ 0) => ?_) (fun (h2 : p4.toInt = 0) => ?_)
      · skip
        refine z_xP zt256 44 127 [some (.ref 19), some (.int p1), some (.int p2), some (.int p3), some (.int p4), some (.int b5), some (.int b6), some (.int b7), some (.int b8), o9] [.int b7] rfl rfl ?_
        exact z_xri zt256 45 rfl zzr256 (kk b7 M X)
      refine z_xP zt256 43 127 [some (.ref 19), some (.int p1), some (.int p2), some (.int p3), some (.int p4), some (.int b5), some (.int b6), some (.int b7), some (.int b8), o9] [.int b6] rfl rfl ?_
      exact z_xri zt256 45 rfl zzr256 (kk b6 M X)
    refine z_xP zt256 21 60 [some (.ref 19), some (.int p1), some (.int p2), some (.int p3), some (.int p4), some (.int b5), some (.int b6), some (.int b7), some (.int b8), o9] [.int p1, .ref 19] rfl rfl ?_
    have f19 : T[19]? = some (.inl (12, 0, 0, 0, 0)) := X.1.k rfl (by decide)
    refine z_xcV (vs := [.ref 19, .int p1]) (r := []) (L2 := [some (.ref 19), some (.int p1), none]) zt256 22 rfl zo256 zzcV12_303 (Or.inl rfl) rfl X f19 rfl rfl rfl (Nat.le_of_ble_eq_true rfl) zzm239 (Nat.le_of_ble_eq_true rfl) rfl ?_
    refine zC239 X.1 (by omega) (fun M3 X4  => ?_)
    have X5 := X.go X4 (z_sb (by decide))
    show z_ev (d + 5) 256 63 [some (.ref 19), some (.int p1), some (.int p2), some (.int p3), some (.int p4), some (.int b5), some (.int b6), some (.int b7), some (.int b8), o9] [] M3 _
    refine z_xP zt256 23 64 [some (.ref 19), some (.int p1), some (.int p2), some (.int p3), some (.int p4), some (.int b5), some (.int b6), some (.int b7), some (.int b8), o9] [.ref 19] rfl rfl ?_
    refine z_xcV (vs := [.ref 19]) (r := []) (L2 := [some (.ref 19)]) zt256 24 rfl zo256 zzcV12_309 (Or.inl rfl) rfl X5 f19 rfl rfl rfl (Nat.le_of_ble_eq_true rfl) zzm249 (Nat.le_of_ble_eq_true rfl) rfl ?_
    refine z_xP zt249 0 2 [some (.ref 19)] [.ref 19, .ref 19] rfl rfl ?_
    have h7 := (X4.2.f f19 (by decide) hp0)
    refine z_xgv zt249 1 rfl zo249 zzf12_242 X5 f19 (by decide) h7 ?_
    refine z_xP zt249 2 6 [some (.ref 19)] [.ref 19, .int z0, .ref 19] rfl rfl ?_
    refine z_xgI zt249 3 rfl zo249 zzf12_275 X5 f19 (by decide) (by decide) rfl (fun (x9 : Int32) h8 (h10 : (-2147483648) ≤ x9.toInt) (h11 : x9.toInt ≤ 2147483647) => ?_)
    refine z_xP zt249 4 10 [some (.ref 19)] [.ref 19, .int x9, .int z0, .ref 19] rfl rfl ?_
    refine z_xgI zt249 5 rfl zo249 zzf12_278 X5 f19 (by decide) (by decide) rfl (fun (x13 : Int32) h12 (h14 : (-2147483648) ≤ x13.toInt) (h15 : x13.toInt ≤ 2147483647) => ?_)
    refine z_xcV (vs := [.ref 19, .int z0, .int x9, .int x13]) (r := []) (L2 := [some (.ref 19), some (.int z0), some (.int x9), some (.int x13), none, none]) zt249 6 rfl zo249 zzcV12_222 (Or.inl rfl) rfl X5 f19 rfl rfl rfl (Nat.le_of_ble_eq_true rfl) zzm215 (Nat.le_of_ble_eq_true rfl) rfl ?_
    refine zC215 X5.1 (by omega) (fun x18 M16 X17 h19 h20 => ?_)
    have X21 := X5.go X17 (z_sb (by decide))
    show z_ev (d + 4) 249 16 [some (.ref 19)] [.int x18] M16 _
    refine z_xZ zt249 7 rfl rfl (fun (h23 : x18.toInt ≠ 0) => ?_) (fun (h23 : x18.toInt = 0) => ?_)
    · skip
      refine z_xP zt249 9 24 [some (.ref 19)] [.int 0] rfl rfl ?_
      refine z_xrz zt249 10 rfl zzr249 (by decide) (by decide) ?_
      show z_ev (d + 5) 256 67 [some (.ref 19), some (.int p1), some (.int p2), some (.int p3), some (.int p4), some (.int b5), some (.int b6), some (.int b7), some (.int b8), o9] [.int 0] M16 _
      refine z_xP zt256 25 71 [some (.ref 19), some (.int p1), some (.int p2), some (.int p3), some (.int p4), some (.int b5), some (.int b6), some (.int b7), some (.int b8), some (.int 0)] [.int 0] rfl rfl ?_
      refine z_xZ zt256 26 rfl rfl (fun (h24 : (0 : Int) = 0) => ?_) (fun (h24 : (0 : Int) ≠ 0) => absurd h24 (by omega))
      refine z_xP zt256 32 88 [some (.ref 19), some (.int p1), some (.int p2), some (.int p3), some (.int p4), some (.int b5), some (.int b6), some (.int b7), some (.int b8), some (.int 0)] [.int b7] rfl rfl ?_
      refine z_xP zt256 33 94 [some (.ref 19), some (.int p1), some (.int p2), some (.int p3), some (.int p4), some (.int b5), some (.int b6), some (.int b7), some (.int b8), some (.int 0)] [.int 0, .int b6] rfl rfl ?_
      refine z_xZ zt256 34 rfl rfl (fun (h25 : (0 : Int) = 0) => ?_) (fun (h25 : (0 : Int) ≠ 0) => absurd h25 (by omega))
      refine z_xP zt256 36 102 [some (.ref 19), some (.int p1), some (.int p2), some (.int p3), some (.int p4), some (.int b5), some (.int b6), some (.int b7), some (.int b8), some (.int 0)] [.int 0, .int b6] rfl rfl ?_
      have h26 := z_b32 b6
      refine z_xI zt256 37 rfl rfl (fun (x27 : Int32) (h28 : x27.toInt = b6.toInt + 0) => ?_) (z_pAdd rfl rfl (by omega) (by omega))
      refine z_xP zt256 38 107 [some (.ref 19), some (.int p1), some (.int p2), some (.int p3), some (.int p4), some (.int b5), some (.int x27), some (.int b7), some (.int b8), some (.int 0)] [.int 0, .ref 19] rfl rfl ?_
      refine z_xcV (vs := [.ref 19, .int 0]) (r := []) (L2 := [some (.ref 19), some (.int 0), none, none, none]) zt256 39 rfl zo256 zzcV12_326 (Or.inl rfl) rfl X21 f19 rfl rfl rfl (Nat.le_of_ble_eq_true rfl) zzm255 (Nat.le_of_ble_eq_true rfl) rfl ?_
      have q0 : ((0 : Int32)).toInt = 0 := rfl
      have h29 := (X17.2.f f19 (by decide) h7)
      have h30 := (X17.2.f f19 (by decide) (X4.2.f f19 (by decide) hp1))
      have f31 : T[31]? = some (.inr (31, 0, 8, 0, 1024)) := X21.1.k rfl (by decide)
      have h31 := ((congrFun (X17.2.a f31 (by decide)) _).trans ((congrFun (X4.2.a f31 (by decide)) _).trans hp2))
      have f43 : T[43]? = some (.inr (43, 0, 9, 0, 1023)) := X21.1.k rfl (by decide)
      have h32 := z_NBm hn (X4.2.a f43 (by decide)) rfl rfl
      have h33 := z_Ve (b := 13) (n := z1.toInt.toNat) (X4.2.a f43 (by decide))
      have h34 := z_NBm h32 (X17.2.a f43 (by decide)) rfl rfl
      have h35 := z_Ve (b := 13) (n := z1.toInt.toNat) (X17.2.a f43 (by decide))
      have q0 : ((0 : Int32)).toInt = 0 := rfl
      refine zC255 X21.1 (by decide) h29 ⟨by omega, by omega⟩ h30 ⟨by omega, by omega⟩ h31 ⟨by omega, by omega⟩ h34 (fun x49 M36 X37 h50 h51 h38 h39 h40 z41 h42 h43 h44 z45 h46 h47 h48 => ?_)
      have X52 := X21.go X37 (z_sb (by decide))
      show z_ev (d + 5) 256 110 [some (.ref 19), some (.int p1), some (.int p2), some (.int p3), some (.int p4), some (.int b5), some (.int x27), some (.int b7), some (.int b8), some (.int 0)] [.int x49] M36 _
      refine z_xP zt256 40 53 [some (.ref 19), some (.int p1), some (.int p2), some (.int p3), some (.int p4), some (.int b5), some (.int x27), some (.int b7), some (.int x49), some (.int 0)] [] rfl rfl ?_
      have h54 := (X37.2.f f19 (by decide) h29)
      have h55 := (X37.2.f f19 (by decide) h30)
      have h56 := ((congrFun (X37.2.a f31 (by decide)) _).trans h31)
      have h57 := z_V5 h38 (by omega) (by omega) (by omega)
      have q0 : ((0 : Int32)).toInt = 0 := rfl
      exact ih M36 b5 x27 b7 x49 (some (.int 0)) z0 z1 z2 X52 ⟨by omega, by omega⟩ ⟨by omega, by omega⟩ ⟨by omega, by omega⟩ ⟨by omega, by omega⟩ ⟨by omega, by omega⟩ ⟨by omega, by omega⟩ h54 ⟨by omega, by omega⟩ h55 ⟨by omega, by omega⟩ h56 ⟨by omega, by omega⟩ (by omega) (by omega) (by omega) (by omega) h38 (by omega)
    refine z_xP zt249 8 24 [some (.ref 19)] [.int 1] rfl rfl ?_
    refine z_xrz zt249 10 rfl zzr249 (by decide) (by decide) ?_
    show z_ev (d + 5) 256 67 [some (.ref 19), some (.int p1), some (.int p2), some (.int p3), some (.int p4), some (.int b5), some (.int b6), some (.int b7), some (.int b8), o9] [.int 1] M16 _
    refine z_xP zt256 25 71 [some (.ref 19), some (.int p1), some (.int p2), some (.int p3), some (.int p4), some (.int b5), some (.int b6), some (.int b7), some (.int b8), some (.int 1)] [.int 1] rfl rfl ?_
    refine z_xZ zt256 26 rfl rfl (fun (h58 : (1 : Int) = 0) => absurd h58 (by omega)) (fun (h58 : (1 : Int) ≠ 0) => ?_)
    refine z_xP zt256 27 76 [some (.ref 19), some (.int p1), some (.int p2), some (.int p3), some (.int p4), some (.int b5), some (.int b6), some (.int b7), some (.int b8), some (.int 1)] [.int b6] rfl rfl ?_
    refine z_xZ zt256 28 rfl rfl (fun (h59 : b6.toInt ≠ 0) => ?_) (fun (h59 : b6.toInt = 0) => ?_)
    · skip
      refine z_xP zt256 32 88 [some (.ref 19), some (.int p1), some (.int p2), some (.int p3), some (.int p4), some (.int b5), some (.int b6), some (.int b7), some (.int b8), some (.int 1)] [.int b7] rfl rfl ?_
      refine z_xP zt256 33 94 [some (.ref 19), some (.int p1), some (.int p2), some (.int p3), some (.int p4), some (.int b5), some (.int b6), some (.int b7), some (.int b8), some (.int 1)] [.int 1, .int b6] rfl rfl ?_
      refine z_xZ zt256 34 rfl rfl (fun (h60 : (1 : Int) = 0) => absurd h60 (by omega)) (fun (h60 : (1 : Int) ≠ 0) => ?_)
      refine z_xP zt256 35 102 [some (.ref 19), some (.int p1), some (.int p2), some (.int p3), some (.int p4), some (.int b5), some (.int b6), some (.int b7), some (.int b8), some (.int 1)] [.int 1, .int b6] rfl rfl ?_
      have h61 := z_b32 b6
      refine z_xI zt256 37 rfl rfl (P := fun _ => True) (fun (x62 : Int32) _ => ?_) trivial
      refine z_xP zt256 38 107 [some (.ref 19), some (.int p1), some (.int p2), some (.int p3), some (.int p4), some (.int b5), some (.int x62), some (.int b7), some (.int b8), some (.int 1)] [.int 0, .ref 19] rfl rfl ?_
      refine z_xcV (vs := [.ref 19, .int 0]) (r := []) (L2 := [some (.ref 19), some (.int 0), none, none, none]) zt256 39 rfl zo256 zzcV12_326 (Or.inl rfl) rfl X21 f19 rfl rfl rfl (Nat.le_of_ble_eq_true rfl) zzm255 (Nat.le_of_ble_eq_true rfl) rfl ?_
      have q0 : ((0 : Int32)).toInt = 0 := rfl
      have h64 := (X17.2.f f19 (by decide) h7)
      have h65 := (X17.2.f f19 (by decide) (X4.2.f f19 (by decide) hp1))
      have f31 : T[31]? = some (.inr (31, 0, 8, 0, 1024)) := X21.1.k rfl (by decide)
      have h66 := ((congrFun (X17.2.a f31 (by decide)) _).trans ((congrFun (X4.2.a f31 (by decide)) _).trans hp2))
      have f43 : T[43]? = some (.inr (43, 0, 9, 0, 1023)) := X21.1.k rfl (by decide)
      have h67 := z_NBm hn (X4.2.a f43 (by decide)) rfl rfl
      have h68 := z_Ve (b := 13) (n := z1.toInt.toNat) (X4.2.a f43 (by decide))
      have h69 := z_NBm h67 (X17.2.a f43 (by decide)) rfl rfl
      have h70 := z_Ve (b := 13) (n := z1.toInt.toNat) (X17.2.a f43 (by decide))
      have q0 : ((0 : Int32)).toInt = 0 := rfl
      refine zC255 X21.1 (by decide) h64 ⟨by omega, by omega⟩ h65 ⟨by omega, by omega⟩ h66 ⟨by omega, by omega⟩ h69 (fun x84 M71 X72 h85 h86 h73 h74 h75 z76 h77 h78 h79 z80 h81 h82 h83 => ?_)
      have X87 := X21.go X72 (z_sb (by decide))
      show z_ev (d + 5) 256 110 [some (.ref 19), some (.int p1), some (.int p2), some (.int p3), some (.int p4), some (.int b5), some (.int x62), some (.int b7), some (.int b8), some (.int 1)] [.int x84] M71 _
      refine z_xP zt256 40 53 [some (.ref 19), some (.int p1), some (.int p2), some (.int p3), some (.int p4), some (.int b5), some (.int x62), some (.int b7), some (.int x84), some (.int 1)] [] rfl rfl ?_
      have h89 := (X72.2.f f19 (by decide) h64)
      have h90 := (X72.2.f f19 (by decide) h65)
      have h91 := ((congrFun (X72.2.a f31 (by decide)) _).trans h66)
      have h92 := z_V5 h73 (by omega) (by omega) (by omega)
      have q1 : ((1 : Int32)).toInt = 1 := rfl
      exact ih M71 b5 x62 b7 x84 (some (.int 1)) z0 z1 z2 X87 ⟨by omega, by omega⟩ ⟨by omega, by omega⟩ ⟨by omega, by omega⟩ ⟨by omega, by omega⟩ ⟨by omega, by omega⟩ ⟨by omega, by omega⟩ h89 ⟨by omega, by omega⟩ h90 ⟨by omega, by omega⟩ h91 ⟨by omega, by omega⟩ (by omega) (by omega) (by omega) (by omega) h73 (by omega)
    refine z_xP zt256 29 80 [some (.ref 19), some (.int p1), some (.int p2), some (.int p3), some (.int p4), some (.int b5), some (.int b6), some (.int b7), some (.int b8), some (.int 1)] [.ref 19] rfl rfl ?_
    refine z_xcV (vs := [.ref 19]) (r := []) (L2 := [some (.ref 19), none, none]) zt256 30 rfl zo256 zzcV12_330 (Or.inl rfl) rfl X21 f19 rfl rfl rfl (Nat.le_of_ble_eq_true rfl) zzm257 (Nat.le_of_ble_eq_true rfl) rfl ?_
    refine zC257 X21.1 (fun x95 M93 X94  => ?_)
    have X96 := X21.go X94 (z_sb (by decide))
    show z_ev (d + 5) 256 83 [some (.ref 19), some (.int p1), some (.int p2), some (.int p3), some (.int p4), some (.int b5), some (.int b6), some (.int b7), some (.int b8), some (.int 1)] [.int x95] M93 _
    refine z_xP zt256 31 88 [some (.ref 19), some (.int p1), some (.int p2), some (.int p3), some (.int p4), some (.int b5), some (.int b6), some (.int b7), some (.int b8), some (.int 1)] [.int x95] rfl rfl ?_
    refine z_xP zt256 33 94 [some (.ref 19), some (.int p1), some (.int p2), some (.int p3), some (.int p4), some (.int b5), some (.int b6), some (.int x95), some (.int b8), some (.int 1)] [.int 1, .int b6] rfl rfl ?_
    refine z_xZ zt256 34 rfl rfl (fun (h98 : (1 : Int) = 0) => absurd h98 (by omega)) (fun (h98 : (1 : Int) ≠ 0) => ?_)
    refine z_xP zt256 35 102 [some (.ref 19), some (.int p1), some (.int p2), some (.int p3), some (.int p4), some (.int b5), some (.int b6), some (.int x95), some (.int b8), some (.int 1)] [.int 1, .int b6] rfl rfl ?_
    refine z_xI zt256 37 rfl rfl (fun (x99 : Int32) (h100 : x99.toInt = b6.toInt + 1) => ?_) (z_pAdd rfl rfl (by omega) (by omega))
    refine z_xP zt256 38 107 [some (.ref 19), some (.int p1), some (.int p2), some (.int p3), some (.int p4), some (.int b5), some (.int x99), some (.int x95), some (.int b8), some (.int 1)] [.int 0, .ref 19] rfl rfl ?_
    refine z_xcV (vs := [.ref 19, .int 0]) (r := []) (L2 := [some (.ref 19), some (.int 0), none, none, none]) zt256 39 rfl zo256 zzcV12_326 (Or.inl rfl) rfl X96 f19 rfl rfl rfl (Nat.le_of_ble_eq_true rfl) zzm255 (Nat.le_of_ble_eq_true rfl) rfl ?_
    have q0 : ((0 : Int32)).toInt = 0 := rfl
    have h101 := (X94.2.f f19 (by decide) (X17.2.f f19 (by decide) h7))
    have h102 := (X94.2.f f19 (by decide) (X17.2.f f19 (by decide) (X4.2.f f19 (by decide) hp1)))
    have f31 : T[31]? = some (.inr (31, 0, 8, 0, 1024)) := X96.1.k rfl (by decide)
    have h103 := ((congrFun (X94.2.a f31 (by decide)) _).trans ((congrFun (X17.2.a f31 (by decide)) _).trans ((congrFun (X4.2.a f31 (by decide)) _).trans hp2)))
    have f43 : T[43]? = some (.inr (43, 0, 9, 0, 1023)) := X96.1.k rfl (by decide)
    have h104 := z_NBm hn (X4.2.a f43 (by decide)) rfl rfl
    have h105 := z_Ve (b := 13) (n := z1.toInt.toNat) (X4.2.a f43 (by decide))
    have h106 := z_NBm h104 (X17.2.a f43 (by decide)) rfl rfl
    have h107 := z_Ve (b := 13) (n := z1.toInt.toNat) (X17.2.a f43 (by decide))
    have h108 := z_NBm h106 (X94.2.a f43 (by decide)) rfl rfl
    have h109 := z_Ve (b := 13) (n := z1.toInt.toNat) (X94.2.a f43 (by decide))
    have q0 : ((0 : Int32)).toInt = 0 := rfl
    refine zC255 X96.1 (by decide) h101 ⟨by omega, by omega⟩ h102 ⟨by omega, by omega⟩ h103 ⟨by omega, by omega⟩ h108 (fun x123 M110 X111 h124 h125 h112 h113 h114 z115 h116 h117 h118 z119 h120 h121 h122 => ?_)
    have X126 := X96.go X111 (z_sb (by decide))
    show z_ev (d + 5) 256 110 [some (.ref 19), some (.int p1), some (.int p2), some (.int p3), some (.int p4), some (.int b5), some (.int x99), some (.int x95), some (.int b8), some (.int 1)] [.int x123] M110 _
    refine z_xP zt256 40 53 [some (.ref 19), some (.int p1), some (.int p2), some (.int p3), some (.int p4), some (.int b5), some (.int x99), some (.int x95), some (.int x123), some (.int 1)] [] rfl rfl ?_
    have h128 := (X111.2.f f19 (by decide) h101)
    have h129 := (X111.2.f f19 (by decide) h102)
    have h130 := ((congrFun (X111.2.a f31 (by decide)) _).trans h103)
    have h131 := z_V5 h112 (by omega) (by omega) (by omega)
    have q1 : ((1 : Int32)).toInt = 1 := rfl
    exact ih M110 b5 x99 x95 x123 (some (.int 1)) z0 z1 z2 X126 ⟨by omega, by omega⟩ ⟨by omega, by omega⟩ ⟨by omega, by omega⟩ ⟨by omega, by omega⟩ ⟨by omega, by omega⟩ ⟨by omega, by omega⟩ h128 ⟨by omega, by omega⟩ h129 ⟨by omega, by omega⟩ h130 ⟨by omega, by omega⟩ (by omega) (by omega) (by omega) (by omega) h112 (by omega)
theorem zC256 {T : List zK} {d : Nat} {K : Option Value → zH → Prop} {p1 : Int32} {p2 : Int32} {p3 : Int32} {p4 : Int32} {M0 : zH} (hW : z_W M0 T) (hR : z_G4 M0) (kk : ∀ (x : Int32) (M1 : zH), z_X T zw256 M0 M1 → K (some (.int x)) M1) : z_ev (d + 5) 256 0 [some (.ref 19), some (.int p1), some (.int p2), some (.int p3), some (.int p4), none, none, none, none, none] [] M0 K := by
  have X : z_X T zw256 M0 M0 := .refl hW
  refine z_xP zt256 0 2 [some (.ref 19), some (.int p1), some (.int p2), some (.int p3), some (.int p4), none, none, none, none, none] [.int p1, .ref 19] rfl rfl ?_
  have f19 : T[19]? = some (.inl (12, 0, 0, 0, 0)) := X.1.k rfl (by decide)
  refine z_xcV (vs := [.ref 19, .int p1]) (r := []) (L2 := [some (.ref 19), some (.int p1)]) zt256 1 rfl zo256 zzcV12_272 (Or.inl rfl) rfl X f19 rfl rfl rfl (Nat.le_of_ble_eq_true rfl) zzm237 (Nat.le_of_ble_eq_true rfl) rfl ?_
  refine z_xP zt237 0 1 [some (.ref 19), some (.int p1)] [.int p1] rfl rfl ?_
  refine z_xZ zt237 1 rfl rfl (fun (h1 : p1.toInt < 0) => ?_) (fun (h1 : 0 ≤ p1.toInt) => ?_)
  · skip
    refine z_xP zt237 6 17 [some (.ref 19), some (.int p1)] [.int 0] rfl rfl ?_
    refine z_xrz zt237 7 rfl zzr237 (by decide) (by decide) ?_
    show z_ev (d + 5) 256 5 [some (.ref 19), some (.int p1), some (.int p2), some (.int p3), some (.int p4), none, none, none, none, none] [.int 0] M0 _
    refine z_xZ zt256 2 rfl rfl (fun (h2 : (0 : Int) = 0) => ?_) (fun (h2 : (0 : Int) ≠ 0) => absurd h2 (by omega))
    refine z_xP zt256 8 20 [some (.ref 19), some (.int p1), some (.int p2), some (.int p3), some (.int p4), none, none, none, none, none] [.int (-1)] rfl rfl ?_
    have qm1 : (((-1) : Int32)).toInt = (-1) := rfl
    exact z_xri zt256 9 rfl zzr256 (kk (-1) M0 X)
  refine z_xP zt237 2 6 [some (.ref 19), some (.int p1)] [.ref 19, .int p1] rfl rfl ?_
  refine z_xgI zt237 3 rfl zo237 zzf12_269 X f19 (by decide) (by decide) rfl (fun (x4 : Int32) h3 (h5 : 0 ≤ x4.toInt) (h6 : x4.toInt ≤ 20) => ?_)
  have h7 := z_b32 p1
  refine z_xJ zt237 4 rfl rfl (fun (h8 : x4.toInt ≤ p1.toInt) => ?_) (fun (h8 : p1.toInt < x4.toInt) => ?_)
  · skip
    refine z_xP zt237 6 17 [some (.ref 19), some (.int p1)] [.int 0] rfl rfl ?_
    refine z_xrz zt237 7 rfl zzr237 (by decide) (by decide) ?_
    show z_ev (d + 5) 256 5 [some (.ref 19), some (.int p1), some (.int p2), some (.int p3), some (.int p4), none, none, none, none, none] [.int 0] M0 _
    refine z_xZ zt256 2 rfl rfl (fun (h9 : (0 : Int) = 0) => ?_) (fun (h9 : (0 : Int) ≠ 0) => absurd h9 (by omega))
    refine z_xP zt256 8 20 [some (.ref 19), some (.int p1), some (.int p2), some (.int p3), some (.int p4), none, none, none, none, none] [.int (-1)] rfl rfl ?_
    have qm1 : (((-1) : Int32)).toInt = (-1) := rfl
    exact z_xri zt256 9 rfl zzr256 (kk (-1) M0 X)
  refine z_xP zt237 5 17 [some (.ref 19), some (.int p1)] [.int 1] rfl rfl ?_
  refine z_xrz zt237 7 rfl zzr237 (by decide) (by decide) ?_
  show z_ev (d + 5) 256 5 [some (.ref 19), some (.int p1), some (.int p2), some (.int p3), some (.int p4), none, none, none, none, none] [.int 1] M0 _
  refine z_xZ zt256 2 rfl rfl (fun (h10 : (1 : Int) = 0) => absurd h10 (by omega)) (fun (h10 : (1 : Int) ≠ 0) => ?_)
  refine z_xP zt256 3 10 [some (.ref 19), some (.int p1), some (.int p2), some (.int p3), some (.int p4), none, none, none, none, none] [.int p4] rfl rfl ?_
  have h11 := z_b32 p4
  refine z_xL zt256 4 rfl rfl (fun (y12 : Int64) (h13 : y12.toInt = p4.toInt) => ?_) (z_qI2L rfl)
  refine z_xP zt256 5 13 [some (.ref 19), some (.int p1), some (.int p2), some (.int p3), some (.int p4), none, none, none, none, none] [.long 1, .long 0, .long y12] rfl rfl ?_
  refine z_xcS (vs := [.long y12, .long 0, .long 1]) (r := []) (L2 := [some (.long y12), none, some (.long 0), none, some (.long 1), none]) zt256 6 rfl zo256 zzcS12_116 (Or.inl rfl) (Nat.le_of_ble_eq_true rfl) rfl rfl (Nat.le_of_ble_eq_true rfl) zzm189 (Nat.le_of_ble_eq_true rfl) rfl ?_
  refine z_xP zt189 0 2 [some (.long y12), none, some (.long 0), none, some (.long 1), none] [.long 0, .long y12] rfl rfl ?_
  refine z_xI zt189 1 rfl rfl (fun (x14 : Int32) (h15 : (x14.toInt < 0 ∧ y12.toInt < 0) ∨ (x14.toInt = 0 ∧ y12.toInt = 0) ∨ (0 < x14.toInt ∧ 0 < y12.toInt)) => ?_) (z_qCmp rfl rfl)
  refine z_xZ zt189 2 rfl rfl (fun (h16 : x14.toInt < 0) => ?_) (fun (h16 : 0 ≤ x14.toInt) => ?_)
  · skip
    refine z_xP zt189 7 18 [some (.long y12), none, some (.long 0), none, some (.long 1), none] [.int 0] rfl rfl ?_
    refine z_xrz zt189 8 rfl zzr189 (by decide) (by decide) ?_
    show z_ev (d + 5) 256 16 [some (.ref 19), some (.int p1), some (.int p2), some (.int p3), some (.int p4), none, none, none, none, none] [.int 0] M0 _
    refine z_xZ zt256 7 rfl rfl (fun (h17 : (0 : Int) ≠ 0) => absurd h17 (by omega)) (fun (h17 : (0 : Int) = 0) => ?_)
    refine z_xP zt256 8 20 [some (.ref 19), some (.int p1), some (.int p2), some (.int p3), some (.int p4), none, none, none, none, none] [.int (-1)] rfl rfl ?_
    have qm1 : (((-1) : Int32)).toInt = (-1) := rfl
    exact z_xri zt256 9 rfl zzr256 (kk (-1) M0 X)
  refine z_xP zt189 3 9 [some (.long y12), none, some (.long 0), none, some (.long 1), none] [.long 1, .long y12] rfl rfl ?_
  refine z_xI zt189 4 rfl rfl (fun (x18 : Int32) (h19 : (x18.toInt < 0 ∧ y12.toInt < 1) ∨ (x18.toInt = 0 ∧ y12.toInt = 1) ∨ (0 < x18.toInt ∧ 1 < y12.toInt)) => ?_) (z_qCmp rfl rfl)
  refine z_xZ zt189 5 rfl rfl (fun (h20 : 0 < x18.toInt) => ?_) (fun (h20 : x18.toInt ≤ 0) => ?_)
  · skip
    refine z_xP zt189 7 18 [some (.long y12), none, some (.long 0), none, some (.long 1), none] [.int 0] rfl rfl ?_
    refine z_xrz zt189 8 rfl zzr189 (by decide) (by decide) ?_
    show z_ev (d + 5) 256 16 [some (.ref 19), some (.int p1), some (.int p2), some (.int p3), some (.int p4), none, none, none, none, none] [.int 0] M0 _
    refine z_xZ zt256 7 rfl rfl (fun (h21 : (0 : Int) ≠ 0) => absurd h21 (by omega)) (fun (h21 : (0 : Int) = 0) => ?_)
    refine z_xP zt256 8 20 [some (.ref 19), some (.int p1), some (.int p2), some (.int p3), some (.int p4), none, none, none, none, none] [.int (-1)] rfl rfl ?_
    have qm1 : (((-1) : Int32)).toInt = (-1) := rfl
    exact z_xri zt256 9 rfl zzr256 (kk (-1) M0 X)
  refine z_xP zt189 6 18 [some (.long y12), none, some (.long 0), none, some (.long 1), none] [.int 1] rfl rfl ?_
  refine z_xrz zt189 8 rfl zzr189 (by decide) (by decide) ?_
  show z_ev (d + 5) 256 16 [some (.ref 19), some (.int p1), some (.int p2), some (.int p3), some (.int p4), none, none, none, none, none] [.int 1] M0 _
  refine z_xZ zt256 7 rfl rfl (fun (h22 : (1 : Int) ≠ 0) => ?_) (fun (h22 : (1 : Int) = 0) => absurd h22 (by omega))
  refine z_xP zt256 10 24 [some (.ref 19), some (.int p1), some (.int p2), some (.int p3), some (.int p4), none, none, none, none, none] [.int p3, .int p2, .ref 19] rfl rfl ?_
  refine z_xcV (vs := [.ref 19, .int p2, .int p3]) (r := []) (L2 := [some (.ref 19), some (.int p2), some (.int p3)]) zt256 11 rfl zo256 zzcV12_320 (Or.inl rfl) rfl X f19 rfl rfl rfl (Nat.le_of_ble_eq_true rfl) zzm251 (Nat.le_of_ble_eq_true rfl) rfl ?_
  refine z_xP zt251 0 2 [some (.ref 19), some (.int p2), some (.int p3)] [.int p2, .ref 19] rfl rfl ?_
  refine z_xcV (vs := [.ref 19, .int p2]) (r := []) (L2 := [some (.ref 19), some (.int p2)]) zt251 1 rfl zo251 zzcV12_209 (Or.inl rfl) rfl X f19 rfl rfl rfl (Nat.le_of_ble_eq_true rfl) zzm209 (Nat.le_of_ble_eq_true rfl) rfl ?_
  refine z_xP zt209 0 1 [some (.ref 19), some (.int p2)] [.int p2] rfl rfl ?_
  refine z_xZ zt209 1 rfl rfl (fun (h23 : p2.toInt < 0) => ?_) (fun (h23 : 0 ≤ p2.toInt) => ?_)
  · skip
    refine z_xP zt209 6 17 [some (.ref 19), some (.int p2)] [.int 0] rfl rfl ?_
    refine z_xrz zt209 7 rfl zzr209 (by decide) (by decide) ?_
    show z_ev (d + 4) 251 5 [some (.ref 19), some (.int p2), some (.int p3)] [.int 0] M0 _
    refine z_xZ zt251 2 rfl rfl (fun (h24 : (0 : Int) = 0) => ?_) (fun (h24 : (0 : Int) ≠ 0) => absurd h24 (by omega))
    refine z_xP zt251 9 21 [some (.ref 19), some (.int p2), some (.int p3)] [.int (-1)] rfl rfl ?_
    refine z_xri zt251 10 rfl zzr251 ?_
    show z_ev (d + 5) 256 27 [some (.ref 19), some (.int p1), some (.int p2), some (.int p3), some (.int p4), none, none, none, none, none] [.int (-1)] M0 _
    refine z_xP zt256 12 31 [some (.ref 19), some (.int p1), some (.int p2), some (.int p3), some (.int p4), some (.int (-1)), none, none, none, none] [.int (-1)] rfl rfl ?_
    refine z_xZ zt256 13 rfl rfl (fun (h25 : 0 ≤ ((-1) : Int)) => absurd h25 (by omega)) (fun (h25 : ((-1) : Int) < 0) => ?_)
    refine z_xP zt256 14 36 [some (.ref 19), some (.int p1), some (.int p2), some (.int p3), some (.int p4), some (.int (-1)), none, none, none, none] [.int (-1)] rfl rfl ?_
    have qm1 : (((-1) : Int32)).toInt = (-1) := rfl
    exact z_xri zt256 15 rfl zzr256 (kk (-1) M0 X)
  refine z_xP zt209 2 6 [some (.ref 19), some (.int p2)] [.ref 19, .int p2] rfl rfl ?_
  refine z_xgI zt209 3 rfl zo209 zzf12_110 X f19 (by decide) (by decide) rfl (fun (x27 : Int32) h26 (h28 : 0 ≤ x27.toInt) (h29 : x27.toInt ≤ 8) => ?_)
  have h30 := z_b32 p2
  refine z_xJ zt209 4 rfl rfl (fun (h31 : x27.toInt ≤ p2.toInt) => ?_) (fun (h31 : p2.toInt < x27.toInt) => ?_)
  · skip
    refine z_xP zt209 6 17 [some (.ref 19), some (.int p2)] [.int 0] rfl rfl ?_
    refine z_xrz zt209 7 rfl zzr209 (by decide) (by decide) ?_
    show z_ev (d + 4) 251 5 [some (.ref 19), some (.int p2), some (.int p3)] [.int 0] M0 _
    refine z_xZ zt251 2 rfl rfl (fun (h32 : (0 : Int) = 0) => ?_) (fun (h32 : (0 : Int) ≠ 0) => absurd h32 (by omega))
    refine z_xP zt251 9 21 [some (.ref 19), some (.int p2), some (.int p3)] [.int (-1)] rfl rfl ?_
    refine z_xri zt251 10 rfl zzr251 ?_
    show z_ev (d + 5) 256 27 [some (.ref 19), some (.int p1), some (.int p2), some (.int p3), some (.int p4), none, none, none, none, none] [.int (-1)] M0 _
    refine z_xP zt256 12 31 [some (.ref 19), some (.int p1), some (.int p2), some (.int p3), some (.int p4), some (.int (-1)), none, none, none, none] [.int (-1)] rfl rfl ?_
    refine z_xZ zt256 13 rfl rfl (fun (h33 : 0 ≤ ((-1) : Int)) => absurd h33 (by omega)) (fun (h33 : ((-1) : Int) < 0) => ?_)
    refine z_xP zt256 14 36 [some (.ref 19), some (.int p1), some (.int p2), some (.int p3), some (.int p4), some (.int (-1)), none, none, none, none] [.int (-1)] rfl rfl ?_
    have qm1 : (((-1) : Int32)).toInt = (-1) := rfl
    exact z_xri zt256 15 rfl zzr256 (kk (-1) M0 X)
  refine z_xP zt209 5 17 [some (.ref 19), some (.int p2)] [.int 1] rfl rfl ?_
  refine z_xrz zt209 7 rfl zzr209 (by decide) (by decide) ?_
  show z_ev (d + 4) 251 5 [some (.ref 19), some (.int p2), some (.int p3)] [.int 1] M0 _
  refine z_xZ zt251 2 rfl rfl (fun (h34 : (1 : Int) = 0) => absurd h34 (by omega)) (fun (h34 : (1 : Int) ≠ 0) => ?_)
  refine z_xP zt251 3 9 [some (.ref 19), some (.int p2), some (.int p3)] [.int p3] rfl rfl ?_
  have h35 := z_b32 p3
  refine z_xL zt251 4 rfl rfl (fun (y36 : Int64) (h37 : y36.toInt = p3.toInt) => ?_) (z_qI2L rfl)
  refine z_xP zt251 5 11 [some (.ref 19), some (.int p2), some (.int p3)] [.long 1, .long y36] rfl rfl ?_
  refine z_xl2 zt251 6 rfl zo251 zkl12_318 ?_
  refine z_xcS (vs := [.long y36, .long 1, .long 5]) (r := []) (L2 := [some (.long y36), none, some (.long 1), none, some (.long 5), none]) zt251 7 rfl zo251 zzcS12_116 (Or.inl rfl) (Nat.le_of_ble_eq_true rfl) rfl rfl (Nat.le_of_ble_eq_true rfl) zzm189 (Nat.le_of_ble_eq_true rfl) rfl ?_
  refine z_xP zt189 0 2 [some (.long y36), none, some (.long 1), none, some (.long 5), none] [.long 1, .long y36] rfl rfl ?_
  refine z_xI zt189 1 rfl rfl (fun (x38 : Int32) (h39 : (x38.toInt < 0 ∧ y36.toInt < 1) ∨ (x38.toInt = 0 ∧ y36.toInt = 1) ∨ (0 < x38.toInt ∧ 1 < y36.toInt)) => ?_) (z_qCmp rfl rfl)
  refine z_xZ zt189 2 rfl rfl (fun (h40 : x38.toInt < 0) => ?_) (fun (h40 : 0 ≤ x38.toInt) => ?_)
  · skip
    refine z_xP zt189 7 18 [some (.long y36), none, some (.long 1), none, some (.long 5), none] [.int 0] rfl rfl ?_
    refine z_xrz zt189 8 rfl zzr189 (by decide) (by decide) ?_
    show z_ev (d + 4) 251 17 [some (.ref 19), some (.int p2), some (.int p3)] [.int 0] M0 _
    refine z_xZ zt251 8 rfl rfl (fun (h41 : (0 : Int) ≠ 0) => absurd h41 (by omega)) (fun (h41 : (0 : Int) = 0) => ?_)
    refine z_xP zt251 9 21 [some (.ref 19), some (.int p2), some (.int p3)] [.int (-1)] rfl rfl ?_
    refine z_xri zt251 10 rfl zzr251 ?_
    show z_ev (d + 5) 256 27 [some (.ref 19), some (.int p1), some (.int p2), some (.int p3), some (.int p4), none, none, none, none, none] [.int (-1)] M0 _
    refine z_xP zt256 12 31 [some (.ref 19), some (.int p1), some (.int p2), some (.int p3), some (.int p4), some (.int (-1)), none, none, none, none] [.int (-1)] rfl rfl ?_
    refine z_xZ zt256 13 rfl rfl (fun (h42 : 0 ≤ ((-1) : Int)) => absurd h42 (by omega)) (fun (h42 : ((-1) : Int) < 0) => ?_)
    refine z_xP zt256 14 36 [some (.ref 19), some (.int p1), some (.int p2), some (.int p3), some (.int p4), some (.int (-1)), none, none, none, none] [.int (-1)] rfl rfl ?_
    have qm1 : (((-1) : Int32)).toInt = (-1) := rfl
    exact z_xri zt256 15 rfl zzr256 (kk (-1) M0 X)
  refine z_xP zt189 3 9 [some (.long y36), none, some (.long 1), none, some (.long 5), none] [.long 5, .long y36] rfl rfl ?_
  refine z_xI zt189 4 rfl rfl (fun (x43 : Int32) (h44 : (x43.toInt < 0 ∧ y36.toInt < 5) ∨ (x43.toInt = 0 ∧ y36.toInt = 5) ∨ (0 < x43.toInt ∧ 5 < y36.toInt)) => ?_) (z_qCmp rfl rfl)
  refine z_xZ zt189 5 rfl rfl (fun (h45 : 0 < x43.toInt) => ?_) (fun (h45 : x43.toInt ≤ 0) => ?_)
  · skip
    refine z_xP zt189 7 18 [some (.long y36), none, some (.long 1), none, some (.long 5), none] [.int 0] rfl rfl ?_
    refine z_xrz zt189 8 rfl zzr189 (by decide) (by decide) ?_
    show z_ev (d + 4) 251 17 [some (.ref 19), some (.int p2), some (.int p3)] [.int 0] M0 _
    refine z_xZ zt251 8 rfl rfl (fun (h46 : (0 : Int) ≠ 0) => absurd h46 (by omega)) (fun (h46 : (0 : Int) = 0) => ?_)
    refine z_xP zt251 9 21 [some (.ref 19), some (.int p2), some (.int p3)] [.int (-1)] rfl rfl ?_
    refine z_xri zt251 10 rfl zzr251 ?_
    show z_ev (d + 5) 256 27 [some (.ref 19), some (.int p1), some (.int p2), some (.int p3), some (.int p4), none, none, none, none, none] [.int (-1)] M0 _
    refine z_xP zt256 12 31 [some (.ref 19), some (.int p1), some (.int p2), some (.int p3), some (.int p4), some (.int (-1)), none, none, none, none] [.int (-1)] rfl rfl ?_
    refine z_xZ zt256 13 rfl rfl (fun (h47 : 0 ≤ ((-1) : Int)) => absurd h47 (by omega)) (fun (h47 : ((-1) : Int) < 0) => ?_)
    refine z_xP zt256 14 36 [some (.ref 19), some (.int p1), some (.int p2), some (.int p3), some (.int p4), some (.int (-1)), none, none, none, none] [.int (-1)] rfl rfl ?_
    have qm1 : (((-1) : Int32)).toInt = (-1) := rfl
    exact z_xri zt256 15 rfl zzr256 (kk (-1) M0 X)
  refine z_xP zt189 6 18 [some (.long y36), none, some (.long 1), none, some (.long 5), none] [.int 1] rfl rfl ?_
  refine z_xrz zt189 8 rfl zzr189 (by decide) (by decide) ?_
  show z_ev (d + 4) 251 17 [some (.ref 19), some (.int p2), some (.int p3)] [.int 1] M0 _
  refine z_xZ zt251 8 rfl rfl (fun (h48 : (1 : Int) ≠ 0) => ?_) (fun (h48 : (1 : Int) = 0) => absurd h48 (by omega))
  refine z_xP zt251 11 23 [some (.ref 19), some (.int p2), some (.int p3)] [.ref 19] rfl rfl ?_
  refine z_xgX (b := 31) zt251 12 rfl zo251 zzf12_43 X f19 (by decide) (by decide) rfl ?_
  refine z_xP zt251 13 27 [some (.ref 19), some (.int p2), some (.int p3)] [.int p2, .ref 31] rfl rfl ?_
  have f31 : T[31]? = some (.inr (31, 0, 8, 0, 1024)) := X.1.k rfl (by decide)
  refine z_xil zt251 14 rfl X f31 (by decide) (by omega) (by omega) (fun (x49 : Int32) h50 (h51 : 0 ≤ x49.toInt) (h52 : x49.toInt ≤ 1024) => ?_)
  refine z_xP zt251 15 30 [some (.ref 19), some (.int p2), some (.int p3)] [.int 12, .int x49] rfl rfl ?_
  refine z_xJ zt251 16 rfl rfl (fun (h53 : x49.toInt ≤ 12) => ?_) (fun (h53 : 12 < x49.toInt) => ?_)
  · skip
    refine z_xP zt251 18 39 [some (.ref 19), some (.int p2), some (.int p3)] [.int 0] rfl rfl ?_
    refine z_xri zt251 19 rfl zzr251 ?_
    show z_ev (d + 5) 256 27 [some (.ref 19), some (.int p1), some (.int p2), some (.int p3), some (.int p4), none, none, none, none, none] [.int 0] M0 _
    refine z_xP zt256 12 31 [some (.ref 19), some (.int p1), some (.int p2), some (.int p3), some (.int p4), some (.int 0), none, none, none, none] [.int 0] rfl rfl ?_
    refine z_xZ zt256 13 rfl rfl (fun (h54 : 0 ≤ (0 : Int)) => ?_) (fun (h54 : (0 : Int) < 0) => absurd h54 (by omega))
    refine z_xP zt256 16 47 [some (.ref 19), some (.int p1), some (.int p2), some (.int p3), some (.int p4), some (.int 0), some (.int 0), some (.int (-2)), none, none] [.int p3, .int p2, .ref 19] rfl rfl ?_
    refine z_xcV (vs := [.ref 19, .int p2, .int p3]) (r := []) (L2 := [some (.ref 19), some (.int p2), some (.int p3), none]) zt256 17 rfl zo256 zzcV12_323 (Or.inl rfl) rfl X f19 rfl rfl rfl (Nat.le_of_ble_eq_true rfl) zzm252 (Nat.le_of_ble_eq_true rfl) rfl ?_
    have h55 := z_G4u (hR.go X (by decide)) h26 (by omega) (by omega) h50
    refine zC252 X.1 (by omega) (by omega) h50 ⟨by omega, by omega⟩ (fun M56 X57 h58 h59 h60 => ?_)
    have X61 := X.go X57 (z_sb (by decide))
    show z_ev (d + 5) 256 50 [some (.ref 19), some (.int p1), some (.int p2), some (.int p3), some (.int p4), some (.int 0), some (.int 0), some (.int (-2)), none, none] [] M56 _
    have h63 := z_NBw (L2 := x49.toInt) h58 (by omega)
    refine z_xP zt256 18 53 [some (.ref 19), some (.int p1), some (.int p2), some (.int p3), some (.int p4), some (.int 0), some (.int 0), some (.int (-2)), some (.int 1), none] [] rfl rfl ?_
    have h64 := ((congrFun (X57.2.a f31 (by decide)) _).trans h50)
    have h65 := z_V5 h63 (by omega) (by omega) (by omega)
    have qm2 : (((-2) : Int32)).toInt = (-2) := rfl
    have q0 : ((0 : Int32)).toInt = 0 := rfl
    have q1 : ((1 : Int32)).toInt = 1 := rfl
    exact (zB256 hR kk 1485176) M56 (0) (0) ((-2)) (1) none p2 p3 x49 X61 ⟨by omega, by omega⟩ ⟨by omega, by omega⟩ ⟨by omega, by omega⟩ ⟨by omega, by omega⟩ (by decide) (by decide) h59 ⟨by omega, by omega⟩ h60 ⟨by omega, by omega⟩ h64 ⟨by omega, by omega⟩ (by omega) (by omega) (by omega) (by omega) h63 (by omega)
  refine z_xP zt251 17 39 [some (.ref 19), some (.int p2), some (.int p3)] [.int (-4)] rfl rfl ?_
  refine z_xri zt251 19 rfl zzr251 ?_
  show z_ev (d + 5) 256 27 [some (.ref 19), some (.int p1), some (.int p2), some (.int p3), some (.int p4), none, none, none, none, none] [.int (-4)] M0 _
  refine z_xP zt256 12 31 [some (.ref 19), some (.int p1), some (.int p2), some (.int p3), some (.int p4), some (.int (-4)), none, none, none, none] [.int (-4)] rfl rfl ?_
  refine z_xZ zt256 13 rfl rfl (fun (h66 : 0 ≤ ((-4) : Int)) => absurd h66 (by omega)) (fun (h66 : ((-4) : Int) < 0) => ?_)
  refine z_xP zt256 14 36 [some (.ref 19), some (.int p1), some (.int p2), some (.int p3), some (.int p4), some (.int (-4)), none, none, none, none] [.int (-4)] rfl rfl ?_
  have qm4 : (((-4) : Int32)).toInt = (-4) := rfl
  exact z_xri zt256 15 rfl zzr256 (kk (-4) M0 X)
def zw258 : List Nat := [39, 40, 41, 42, 43, 2229, 2230, 2234, 2235]
theorem zB258 {T : List zK} {d : Nat} {K : Option Value → zH → Prop} {p1 : Int32} {p2 : Int32} {p3 : Int32} {p4 : Int32} {p5 : Int32} {M0 : zH} (hR : z_G4 M0) (kk : ∀ (x : Int32) (M1 : zH), z_X T zw258 M0 M1 → K (some (.int x)) M1) : ∀ n : Nat, (∀ (M : zH) (b6 : Int32) (b7 : Int32) (b8 : Int32) (b9 : Int32) (o10 : Option Value) (o11 : Option Value) (o12 : Option Value) (z0 : Int32) (z1 : Int32) (z2 : Int32), z_X T zw258 M0 M → 0 ≤ p1.toInt ∧ p1.toInt ≤ 19 → 0 ≤ p2.toInt ∧ p2.toInt ≤ 19 → 0 ≤ p3.toInt ∧ p3.toInt ≤ 7 → 1 ≤ p4.toInt ∧ p4.toInt ≤ 5 → 0 ≤ p5.toInt ∧ p5.toInt ≤ 1 → 0 ≤ b6.toInt ∧ b6.toInt ≤ 0 → 0 ≤ b9.toInt ∧ b9.toInt ≤ 1 → z_F M 19 29 = some (.int z0) → 0 ≤ z0.toInt ∧ z0.toInt ≤ 7 → z_F M 19 30 = some (.int z1) → 1 ≤ z1.toInt ∧ z1.toInt ≤ 5 → z_Ar M 31 z0.toNatClampNeg = z2 → 0 ≤ z2.toInt ∧ z2.toInt ≤ 12 → z2.toInt ≤ 12 → 1 ≤ z2.toInt → 1 ≤ z1.toInt → z1.toInt ≤ 5 → z_NB M z1.toInt z2.toInt → ((0) * 2 + 0) * 742588 + (2 * (371293 - z_V 13 (z_Ar M 43) z1.toInt.toNat) + b9.toInt) < (n : Int) → z_ev (d + 5) 258 63 [some (.ref 19), some (.int p1), some (.int p2), some (.int p3), some (.int p4), some (.int p5), some (.int b6), some (.int b7), some (.int b8), some (.int b9), o10, o11, o12] [] M K) := by
  intro n
  induction n with
  | zero => exact by intro M b6 b7 b8 b9 o10 o11 o12 z0 z1 z2 X hh0 hh1 hh2 hh3 hh4 hh5 hh6 hp0 hh8 hp1 hh10 hp2 hh12 hh13 hh14 hh15 hh16 hn hE; have hV := z_V5 hn (by omega) (by omega) (by omega); exfalso; omega
  | succ n ih =>
    intro M b6 b7 b8 b9 o10 o11 o12 z0 z1 z2 X hh0 hh1 hh2 hh3 hh4 hh5 hh6 hp0 hh8 hp1 hh10 hp2 hh12 hh13 hh14 hh15 hh16 hn hE
    have hV := z_V5 hn (by omega) (by omega) (by omega)
    refine z_xP zt258 22 65 [some (.ref 19), some (.int p1), some (.int p2), some (.int p3), some (.int p4), some (.int p5), some (.int b6), some (.int b7), some (.int b8), some (.int b9), o10, o11, o12] [.int b9] rfl rfl ?_
    refine z_xZ zt258 23 rfl rfl (fun (h1 : b9.toInt = 0) => ?_) (fun (h1 : b9.toInt ≠ 0) => ?_)
    · skip
      refine z_xP zt258 56 163 [some (.ref 19), some (.int p1), some (.int p2), some (.int p3), some (.int p4), some (.int p5), some (.int b6), some (.int b7), some (.int b8), some (.int b9), o10, o11, o12] [.int p5] rfl rfl ?_
      refine z_xZ zt258 57 rfl rfl (fun (h2 : p5.toInt ≠ 0) => ?_) (fun (h2 : p5.toInt = 0) => ?_)
      · skip
        refine z_xP zt258 59 173 [some (.ref 19), some (.int p1), some (.int p2), some (.int p3), some (.int p4), some (.int p5), some (.int b6), some (.int b7), some (.int b8), some (.int b9), o10, o11, o12] [.int b8] rfl rfl ?_
        exact z_xri zt258 60 rfl zzr258 (kk b8 M X)
      refine z_xP zt258 58 173 [some (.ref 19), some (.int p1), some (.int p2), some (.int p3), some (.int p4), some (.int p5), some (.int b6), some (.int b7), some (.int b8), some (.int b9), o10, o11, o12] [.int b7] rfl rfl ?_
      exact z_xri zt258 60 rfl zzr258 (kk b7 M X)
    refine z_xP zt258 24 70 [some (.ref 19), some (.int p1), some (.int p2), some (.int p3), some (.int p4), some (.int p5), some (.int b6), some (.int b7), some (.int b8), some (.int b9), o10, o11, o12] [.int p1, .ref 19] rfl rfl ?_
    have f19 : T[19]? = some (.inl (12, 0, 0, 0, 0)) := X.1.k rfl (by decide)
    refine z_xcV (vs := [.ref 19, .int p1]) (r := []) (L2 := [some (.ref 19), some (.int p1), none]) zt258 25 rfl zo258 zzcV12_303 (Or.inl rfl) rfl X f19 rfl rfl rfl (Nat.le_of_ble_eq_true rfl) zzm239 (Nat.le_of_ble_eq_true rfl) rfl ?_
    refine zC239 X.1 (by omega) (fun M3 X4  => ?_)
    have X5 := X.go X4 (z_sb (by decide))
    show z_ev (d + 5) 258 73 [some (.ref 19), some (.int p1), some (.int p2), some (.int p3), some (.int p4), some (.int p5), some (.int b6), some (.int b7), some (.int b8), some (.int b9), o10, o11, o12] [] M3 _
    refine z_xP zt258 26 74 [some (.ref 19), some (.int p1), some (.int p2), some (.int p3), some (.int p4), some (.int p5), some (.int b6), some (.int b7), some (.int b8), some (.int b9), o10, o11, o12] [.ref 19] rfl rfl ?_
    refine z_xgI zt258 27 rfl zo258 zzf12_275 X5 f19 (by decide) (by decide) rfl (fun (x8 : Int32) h7 (h9 : (-2147483648) ≤ x8.toInt) (h10 : x8.toInt ≤ 2147483647) => ?_)
    refine z_xP zt258 28 80 [some (.ref 19), some (.int p1), some (.int p2), some (.int p3), some (.int p4), some (.int p5), some (.int b6), some (.int b7), some (.int b8), some (.int b9), some (.int x8), o11, o12] [.ref 19] rfl rfl ?_
    refine z_xgI zt258 29 rfl zo258 zzf12_278 X5 f19 (by decide) (by decide) rfl (fun (x12 : Int32) h11 (h13 : (-2147483648) ≤ x12.toInt) (h14 : x12.toInt ≤ 2147483647) => ?_)
    refine z_xP zt258 30 87 [some (.ref 19), some (.int p1), some (.int p2), some (.int p3), some (.int p4), some (.int p5), some (.int b6), some (.int b7), some (.int b8), some (.int b9), some (.int x8), some (.int x12), o12] [.int p2, .ref 19] rfl rfl ?_
    refine z_xcV (vs := [.ref 19, .int p2]) (r := []) (L2 := [some (.ref 19), some (.int p2), none]) zt258 31 rfl zo258 zzcV12_303 (Or.inl rfl) rfl X5 f19 rfl rfl rfl (Nat.le_of_ble_eq_true rfl) zzm239 (Nat.le_of_ble_eq_true rfl) rfl ?_
    refine zC239 X5.1 (by omega) (fun M15 X16  => ?_)
    have X17 := X5.go X16 (z_sb (by decide))
    show z_ev (d + 5) 258 90 [some (.ref 19), some (.int p1), some (.int p2), some (.int p3), some (.int p4), some (.int p5), some (.int b6), some (.int b7), some (.int b8), some (.int b9), some (.int x8), some (.int x12), o12] [] M15 _
    refine z_xP zt258 32 93 [some (.ref 19), some (.int p1), some (.int p2), some (.int p3), some (.int p4), some (.int p5), some (.int b6), some (.int b7), some (.int b8), some (.int b9), some (.int x8), some (.int x12), o12] [.ref 19, .int x8] rfl rfl ?_
    refine z_xgI zt258 33 rfl zo258 zzf12_275 X17 f19 (by decide) (by decide) rfl (fun (x20 : Int32) h19 (h21 : (-2147483648) ≤ x20.toInt) (h22 : x20.toInt ≤ 2147483647) => ?_)
    have h23 := z_b32 x8
    have h24 := z_b32 x20
    refine z_xJ zt258 34 rfl rfl (fun (h25 : x8.toInt ≠ x20.toInt) => ?_) (fun (h25 : x8.toInt = x20.toInt) => ?_)
    · skip
      refine z_xP zt258 38 113 [some (.ref 19), some (.int p1), some (.int p2), some (.int p3), some (.int p4), some (.int p5), some (.int b6), some (.int b7), some (.int b8), some (.int b9), some (.int x8), some (.int x12), o12] [.int 1] rfl rfl ?_
      refine z_xP zt258 40 117 [some (.ref 19), some (.int p1), some (.int p2), some (.int p3), some (.int p4), some (.int p5), some (.int b6), some (.int b7), some (.int b8), some (.int b9), some (.int x8), some (.int x12), some (.int 1)] [.int 1] rfl rfl ?_
      refine z_xZ zt258 41 rfl rfl (fun (h26 : (1 : Int) = 0) => absurd h26 (by omega)) (fun (h26 : (1 : Int) ≠ 0) => ?_)
      refine z_xP zt258 42 122 [some (.ref 19), some (.int p1), some (.int p2), some (.int p3), some (.int p4), some (.int p5), some (.int b6), some (.int b7), some (.int b8), some (.int b9), some (.int x8), some (.int x12), some (.int 1)] [.int b7] rfl rfl ?_
      refine z_xZ zt258 43 rfl rfl (fun (h27 : b7.toInt ≠ 0) => ?_) (fun (h27 : b7.toInt = 0) => ?_)
      · skip
        refine z_xP zt258 47 134 [some (.ref 19), some (.int p1), some (.int p2), some (.int p3), some (.int p4), some (.int p5), some (.int b6), some (.int b7), some (.int b8), some (.int b9), some (.int x8), some (.int x12), some (.int 1)] [.int b8] rfl rfl ?_
        refine z_xP zt258 48 140 [some (.ref 19), some (.int p1), some (.int p2), some (.int p3), some (.int p4), some (.int p5), some (.int b6), some (.int b7), some (.int b8), some (.int b9), some (.int x8), some (.int x12), some (.int 1)] [.int 1, .int b7] rfl rfl ?_
        refine z_xZ zt258 49 rfl rfl (fun (h28 : (1 : Int) = 0) => absurd h28 (by omega)) (fun (h28 : (1 : Int) ≠ 0) => ?_)
        refine z_xP zt258 50 148 [some (.ref 19), some (.int p1), some (.int p2), some (.int p3), some (.int p4), some (.int p5), some (.int b6), some (.int b7), some (.int b8), some (.int b9), some (.int x8), some (.int x12), some (.int 1)] [.int 1, .int b7] rfl rfl ?_
        have h29 := z_b32 b7
        refine z_xI zt258 52 rfl rfl (P := fun _ => True) (fun (x30 : Int32) _ => ?_) trivial
        refine z_xP zt258 53 153 [some (.ref 19), some (.int p1), some (.int p2), some (.int p3), some (.int p4), some (.int p5), some (.int b6), some (.int x30), some (.int b8), some (.int b9), some (.int x8), some (.int x12), some (.int 1)] [.int 0, .ref 19] rfl rfl ?_
        refine z_xcV (vs := [.ref 19, .int 0]) (r := []) (L2 := [some (.ref 19), some (.int 0), none, none, none]) zt258 54 rfl zo258 zzcV12_326 (Or.inl rfl) rfl X17 f19 rfl rfl rfl (Nat.le_of_ble_eq_true rfl) zzm255 (Nat.le_of_ble_eq_true rfl) rfl ?_
        have q0 : ((0 : Int32)).toInt = 0 := rfl
        have h32 := (X16.2.f f19 (by decide) (X4.2.f f19 (by decide) hp0))
        have h33 := (X16.2.f f19 (by decide) (X4.2.f f19 (by decide) hp1))
        have f31 : T[31]? = some (.inr (31, 0, 8, 0, 1024)) := X17.1.k rfl (by decide)
        have h34 := ((congrFun (X16.2.a f31 (by decide)) _).trans ((congrFun (X4.2.a f31 (by decide)) _).trans hp2))
        have f43 : T[43]? = some (.inr (43, 0, 9, 0, 1023)) := X17.1.k rfl (by decide)
        have h35 := z_NBm hn (X4.2.a f43 (by decide)) rfl rfl
        have h36 := z_Ve (b := 13) (n := z1.toInt.toNat) (X4.2.a f43 (by decide))
        have h37 := z_NBm h35 (X16.2.a f43 (by decide)) rfl rfl
        have h38 := z_Ve (b := 13) (n := z1.toInt.toNat) (X16.2.a f43 (by decide))
        have q0 : ((0 : Int32)).toInt = 0 := rfl
        refine zC255 X17.1 (by decide) h32 ⟨by omega, by omega⟩ h33 ⟨by omega, by omega⟩ h34 ⟨by omega, by omega⟩ h37 (fun x52 M39 X40 h53 h54 h41 h42 h43 z44 h45 h46 h47 z48 h49 h50 h51 => ?_)
        have X55 := X17.go X40 (z_sb (by decide))
        show z_ev (d + 5) 258 156 [some (.ref 19), some (.int p1), some (.int p2), some (.int p3), some (.int p4), some (.int p5), some (.int b6), some (.int x30), some (.int b8), some (.int b9), some (.int x8), some (.int x12), some (.int 1)] [.int x52] M39 _
        refine z_xP zt258 55 63 [some (.ref 19), some (.int p1), some (.int p2), some (.int p3), some (.int p4), some (.int p5), some (.int b6), some (.int x30), some (.int b8), some (.int x52), some (.int x8), some (.int x12), some (.int 1)] [] rfl rfl ?_
        have h57 := (X40.2.f f19 (by decide) h32)
        have h58 := (X40.2.f f19 (by decide) h33)
        have h59 := ((congrFun (X40.2.a f31 (by decide)) _).trans h34)
        have h60 := z_V5 h41 (by omega) (by omega) (by omega)
        have q1 : ((1 : Int32)).toInt = 1 := rfl
        exact ih M39 b6 x30 b8 x52 (some (.int x8)) (some (.int x12)) (some (.int 1)) z0 z1 z2 X55 ⟨by omega, by omega⟩ ⟨by omega, by omega⟩ ⟨by omega, by omega⟩ ⟨by omega, by omega⟩ ⟨by omega, by omega⟩ ⟨by omega, by omega⟩ ⟨by omega, by omega⟩ h57 ⟨by omega, by omega⟩ h58 ⟨by omega, by omega⟩ h59 ⟨by omega, by omega⟩ (by omega) (by omega) (by omega) (by omega) h41 (by omega)
      refine z_xP zt258 44 126 [some (.ref 19), some (.int p1), some (.int p2), some (.int p3), some (.int p4), some (.int p5), some (.int b6), some (.int b7), some (.int b8), some (.int b9), some (.int x8), some (.int x12), some (.int 1)] [.ref 19] rfl rfl ?_
      refine z_xcV (vs := [.ref 19]) (r := []) (L2 := [some (.ref 19), none, none]) zt258 45 rfl zo258 zzcV12_330 (Or.inl rfl) rfl X17 f19 rfl rfl rfl (Nat.le_of_ble_eq_true rfl) zzm257 (Nat.le_of_ble_eq_true rfl) rfl ?_
      refine zC257 X17.1 (fun x63 M61 X62  => ?_)
      have X64 := X17.go X62 (z_sb (by decide))
      show z_ev (d + 5) 258 129 [some (.ref 19), some (.int p1), some (.int p2), some (.int p3), some (.int p4), some (.int p5), some (.int b6), some (.int b7), some (.int b8), some (.int b9), some (.int x8), some (.int x12), some (.int 1)] [.int x63] M61 _
      refine z_xP zt258 46 134 [some (.ref 19), some (.int p1), some (.int p2), some (.int p3), some (.int p4), some (.int p5), some (.int b6), some (.int b7), some (.int b8), some (.int b9), some (.int x8), some (.int x12), some (.int 1)] [.int x63] rfl rfl ?_
      refine z_xP zt258 48 140 [some (.ref 19), some (.int p1), some (.int p2), some (.int p3), some (.int p4), some (.int p5), some (.int b6), some (.int b7), some (.int x63), some (.int b9), some (.int x8), some (.int x12), some (.int 1)] [.int 1, .int b7] rfl rfl ?_
      refine z_xZ zt258 49 rfl rfl (fun (h66 : (1 : Int) = 0) => absurd h66 (by omega)) (fun (h66 : (1 : Int) ≠ 0) => ?_)
      refine z_xP zt258 50 148 [some (.ref 19), some (.int p1), some (.int p2), some (.int p3), some (.int p4), some (.int p5), some (.int b6), some (.int b7), some (.int x63), some (.int b9), some (.int x8), some (.int x12), some (.int 1)] [.int 1, .int b7] rfl rfl ?_
      refine z_xI zt258 52 rfl rfl (fun (x67 : Int32) (h68 : x67.toInt = b7.toInt + 1) => ?_) (z_pAdd rfl rfl (by omega) (by omega))
      refine z_xP zt258 53 153 [some (.ref 19), some (.int p1), some (.int p2), some (.int p3), some (.int p4), some (.int p5), some (.int b6), some (.int x67), some (.int x63), some (.int b9), some (.int x8), some (.int x12), some (.int 1)] [.int 0, .ref 19] rfl rfl ?_
      refine z_xcV (vs := [.ref 19, .int 0]) (r := []) (L2 := [some (.ref 19), some (.int 0), none, none, none]) zt258 54 rfl zo258 zzcV12_326 (Or.inl rfl) rfl X64 f19 rfl rfl rfl (Nat.le_of_ble_eq_true rfl) zzm255 (Nat.le_of_ble_eq_true rfl) rfl ?_
      have q0 : ((0 : Int32)).toInt = 0 := rfl
      have h69 := (X62.2.f f19 (by decide) (X16.2.f f19 (by decide) (X4.2.f f19 (by decide) hp0)))
      have h70 := (X62.2.f f19 (by decide) (X16.2.f f19 (by decide) (X4.2.f f19 (by decide) hp1)))
      have f31 : T[31]? = some (.inr (31, 0, 8, 0, 1024)) := X64.1.k rfl (by decide)
      have h71 := ((congrFun (X62.2.a f31 (by decide)) _).trans ((congrFun (X16.2.a f31 (by decide)) _).trans ((congrFun (X4.2.a f31 (by decide)) _).trans hp2)))
      have f43 : T[43]? = some (.inr (43, 0, 9, 0, 1023)) := X64.1.k rfl (by decide)
      have h72 := z_NBm hn (X4.2.a f43 (by decide)) rfl rfl
      have h73 := z_Ve (b := 13) (n := z1.toInt.toNat) (X4.2.a f43 (by decide))
      have h74 := z_NBm h72 (X16.2.a f43 (by decide)) rfl rfl
      have h75 := z_Ve (b := 13) (n := z1.toInt.toNat) (X16.2.a f43 (by decide))
      have h76 := z_NBm h74 (X62.2.a f43 (by decide)) rfl rfl
      have h77 := z_Ve (b := 13) (n := z1.toInt.toNat) (X62.2.a f43 (by decide))
      have q0 : ((0 : Int32)).toInt = 0 := rfl
      refine zC255 X64.1 (by decide) h69 ⟨by omega, by omega⟩ h70 ⟨by omega, by omega⟩ h71 ⟨by omega, by omega⟩ h76 (fun x91 M78 X79 h92 h93 h80 h81 h82 z83 h84 h85 h86 z87 h88 h89 h90 => ?_)
      have X94 := X64.go X79 (z_sb (by decide))
      show z_ev (d + 5) 258 156 [some (.ref 19), some (.int p1), some (.int p2), some (.int p3), some (.int p4), some (.int p5), some (.int b6), some (.int x67), some (.int x63), some (.int b9), some (.int x8), some (.int x12), some (.int 1)] [.int x91] M78 _
      refine z_xP zt258 55 63 [some (.ref 19), some (.int p1), some (.int p2), some (.int p3), some (.int p4), some (.int p5), some (.int b6), some (.int x67), some (.int x63), some (.int x91), some (.int x8), some (.int x12), some (.int 1)] [] rfl rfl ?_
      have h96 := (X79.2.f f19 (by decide) h69)
      have h97 := (X79.2.f f19 (by decide) h70)
      have h98 := ((congrFun (X79.2.a f31 (by decide)) _).trans h71)
      have h99 := z_V5 h80 (by omega) (by omega) (by omega)
      have q1 : ((1 : Int32)).toInt = 1 := rfl
      exact ih M78 b6 x67 x63 x91 (some (.int x8)) (some (.int x12)) (some (.int 1)) z0 z1 z2 X94 ⟨by omega, by omega⟩ ⟨by omega, by omega⟩ ⟨by omega, by omega⟩ ⟨by omega, by omega⟩ ⟨by omega, by omega⟩ ⟨by omega, by omega⟩ ⟨by omega, by omega⟩ h96 ⟨by omega, by omega⟩ h97 ⟨by omega, by omega⟩ h98 ⟨by omega, by omega⟩ (by omega) (by omega) (by omega) (by omega) h80 (by omega)
    refine z_xP zt258 35 102 [some (.ref 19), some (.int p1), some (.int p2), some (.int p3), some (.int p4), some (.int p5), some (.int b6), some (.int b7), some (.int b8), some (.int b9), some (.int x8), some (.int x12), o12] [.ref 19, .int x12] rfl rfl ?_
    refine z_xgI zt258 36 rfl zo258 zzf12_278 X17 f19 (by decide) (by decide) rfl (fun (x101 : Int32) h100 (h102 : (-2147483648) ≤ x101.toInt) (h103 : x101.toInt ≤ 2147483647) => ?_)
    have h104 := z_b32 x12
    have h105 := z_b32 x101
    refine z_xJ zt258 37 rfl rfl (fun (h106 : x12.toInt = x101.toInt) => ?_) (fun (h106 : x12.toInt ≠ x101.toInt) => ?_)
    · skip
      refine z_xP zt258 39 113 [some (.ref 19), some (.int p1), some (.int p2), some (.int p3), some (.int p4), some (.int p5), some (.int b6), some (.int b7), some (.int b8), some (.int b9), some (.int x8), some (.int x12), o12] [.int 0] rfl rfl ?_
      refine z_xP zt258 40 117 [some (.ref 19), some (.int p1), some (.int p2), some (.int p3), some (.int p4), some (.int p5), some (.int b6), some (.int b7), some (.int b8), some (.int b9), some (.int x8), some (.int x12), some (.int 0)] [.int 0] rfl rfl ?_
      refine z_xZ zt258 41 rfl rfl (fun (h107 : (0 : Int) = 0) => ?_) (fun (h107 : (0 : Int) ≠ 0) => absurd h107 (by omega))
      refine z_xP zt258 47 134 [some (.ref 19), some (.int p1), some (.int p2), some (.int p3), some (.int p4), some (.int p5), some (.int b6), some (.int b7), some (.int b8), some (.int b9), some (.int x8), some (.int x12), some (.int 0)] [.int b8] rfl rfl ?_
      refine z_xP zt258 48 140 [some (.ref 19), some (.int p1), some (.int p2), some (.int p3), some (.int p4), some (.int p5), some (.int b6), some (.int b7), some (.int b8), some (.int b9), some (.int x8), some (.int x12), some (.int 0)] [.int 0, .int b7] rfl rfl ?_
      refine z_xZ zt258 49 rfl rfl (fun (h108 : (0 : Int) = 0) => ?_) (fun (h108 : (0 : Int) ≠ 0) => absurd h108 (by omega))
      refine z_xP zt258 51 148 [some (.ref 19), some (.int p1), some (.int p2), some (.int p3), some (.int p4), some (.int p5), some (.int b6), some (.int b7), some (.int b8), some (.int b9), some (.int x8), some (.int x12), some (.int 0)] [.int 0, .int b7] rfl rfl ?_
      have h109 := z_b32 b7
      refine z_xI zt258 52 rfl rfl (fun (x110 : Int32) (h111 : x110.toInt = b7.toInt + 0) => ?_) (z_pAdd rfl rfl (by omega) (by omega))
      refine z_xP zt258 53 153 [some (.ref 19), some (.int p1), some (.int p2), some (.int p3), some (.int p4), some (.int p5), some (.int b6), some (.int x110), some (.int b8), some (.int b9), some (.int x8), some (.int x12), some (.int 0)] [.int 0, .ref 19] rfl rfl ?_
      refine z_xcV (vs := [.ref 19, .int 0]) (r := []) (L2 := [some (.ref 19), some (.int 0), none, none, none]) zt258 54 rfl zo258 zzcV12_326 (Or.inl rfl) rfl X17 f19 rfl rfl rfl (Nat.le_of_ble_eq_true rfl) zzm255 (Nat.le_of_ble_eq_true rfl) rfl ?_
      have q0 : ((0 : Int32)).toInt = 0 := rfl
      have h112 := (X16.2.f f19 (by decide) (X4.2.f f19 (by decide) hp0))
      have h113 := (X16.2.f f19 (by decide) (X4.2.f f19 (by decide) hp1))
      have f31 : T[31]? = some (.inr (31, 0, 8, 0, 1024)) := X17.1.k rfl (by decide)
      have h114 := ((congrFun (X16.2.a f31 (by decide)) _).trans ((congrFun (X4.2.a f31 (by decide)) _).trans hp2))
      have f43 : T[43]? = some (.inr (43, 0, 9, 0, 1023)) := X17.1.k rfl (by decide)
      have h115 := z_NBm hn (X4.2.a f43 (by decide)) rfl rfl
      have h116 := z_Ve (b := 13) (n := z1.toInt.toNat) (X4.2.a f43 (by decide))
      have h117 := z_NBm h115 (X16.2.a f43 (by decide)) rfl rfl
      have h118 := z_Ve (b := 13) (n := z1.toInt.toNat) (X16.2.a f43 (by decide))
      have q0 : ((0 : Int32)).toInt = 0 := rfl
      refine zC255 X17.1 (by decide) h112 ⟨by omega, by omega⟩ h113 ⟨by omega, by omega⟩ h114 ⟨by omega, by omega⟩ h117 (fun x132 M119 X120 h133 h134 h121 h122 h123 z124 h125 h126 h127 z128 h129 h130 h131 => ?_)
      have X135 := X17.go X120 (z_sb (by decide))
      show z_ev (d + 5) 258 156 [some (.ref 19), some (.int p1), some (.int p2), some (.int p3), some (.int p4), some (.int p5), some (.int b6), some (.int x110), some (.int b8), some (.int b9), some (.int x8), some (.int x12), some (.int 0)] [.int x132] M119 _
      refine z_xP zt258 55 63 [some (.ref 19), some (.int p1), some (.int p2), some (.int p3), some (.int p4), some (.int p5), some (.int b6), some (.int x110), some (.int b8), some (.int x132), some (.int x8), some (.int x12), some (.int 0)] [] rfl rfl ?_
      have h137 := (X120.2.f f19 (by decide) h112)
      have h138 := (X120.2.f f19 (by decide) h113)
      have h139 := ((congrFun (X120.2.a f31 (by decide)) _).trans h114)
      have h140 := z_V5 h121 (by omega) (by omega) (by omega)
      have q0 : ((0 : Int32)).toInt = 0 := rfl
      exact ih M119 b6 x110 b8 x132 (some (.int x8)) (some (.int x12)) (some (.int 0)) z0 z1 z2 X135 ⟨by omega, by omega⟩ ⟨by omega, by omega⟩ ⟨by omega, by omega⟩ ⟨by omega, by omega⟩ ⟨by omega, by omega⟩ ⟨by omega, by omega⟩ ⟨by omega, by omega⟩ h137 ⟨by omega, by omega⟩ h138 ⟨by omega, by omega⟩ h139 ⟨by omega, by omega⟩ (by omega) (by omega) (by omega) (by omega) h121 (by omega)
    refine z_xP zt258 38 113 [some (.ref 19), some (.int p1), some (.int p2), some (.int p3), some (.int p4), some (.int p5), some (.int b6), some (.int b7), some (.int b8), some (.int b9), some (.int x8), some (.int x12), o12] [.int 1] rfl rfl ?_
    refine z_xP zt258 40 117 [some (.ref 19), some (.int p1), some (.int p2), some (.int p3), some (.int p4), some (.int p5), some (.int b6), some (.int b7), some (.int b8), some (.int b9), some (.int x8), some (.int x12), some (.int 1)] [.int 1] rfl rfl ?_
    refine z_xZ zt258 41 rfl rfl (fun (h141 : (1 : Int) = 0) => absurd h141 (by omega)) (fun (h141 : (1 : Int) ≠ 0) => ?_)
    refine z_xP zt258 42 122 [some (.ref 19), some (.int p1), some (.int p2), some (.int p3), some (.int p4), some (.int p5), some (.int b6), some (.int b7), some (.int b8), some (.int b9), some (.int x8), some (.int x12), some (.int 1)] [.int b7] rfl rfl ?_
    refine z_xZ zt258 43 rfl rfl (fun (h142 : b7.toInt ≠ 0) => ?_) (fun (h142 : b7.toInt = 0) => ?_)
    · skip
      refine z_xP zt258 47 134 [some (.ref 19), some (.int p1), some (.int p2), some (.int p3), some (.int p4), some (.int p5), some (.int b6), some (.int b7), some (.int b8), some (.int b9), some (.int x8), some (.int x12), some (.int 1)] [.int b8] rfl rfl ?_
      refine z_xP zt258 48 140 [some (.ref 19), some (.int p1), some (.int p2), some (.int p3), some (.int p4), some (.int p5), some (.int b6), some (.int b7), some (.int b8), some (.int b9), some (.int x8), some (.int x12), some (.int 1)] [.int 1, .int b7] rfl rfl ?_
      refine z_xZ zt258 49 rfl rfl (fun (h143 : (1 : Int) = 0) => absurd h143 (by omega)) (fun (h143 : (1 : Int) ≠ 0) => ?_)
      refine z_xP zt258 50 148 [some (.ref 19), some (.int p1), some (.int p2), some (.int p3), some (.int p4), some (.int p5), some (.int b6), some (.int b7), some (.int b8), some (.int b9), some (.int x8), some (.int x12), some (.int 1)] [.int 1, .int b7] rfl rfl ?_
      have h144 := z_b32 b7
      refine z_xI zt258 52 rfl rfl (P := fun _ => True) (fun (x145 : Int32) _ => ?_) trivial
      refine z_xP zt258 53 153 [some (.ref 19), some (.int p1), some (.int p2), some (.int p3), some (.int p4), some (.int p5), some (.int b6), some (.int x145), some (.int b8), some (.int b9), some (.int x8), some (.int x12), some (.int 1)] [.int 0, .ref 19] rfl rfl ?_
      refine z_xcV (vs := [.ref 19, .int 0]) (r := []) (L2 := [some (.ref 19), some (.int 0), none, none, none]) zt258 54 rfl zo258 zzcV12_326 (Or.inl rfl) rfl X17 f19 rfl rfl rfl (Nat.le_of_ble_eq_true rfl) zzm255 (Nat.le_of_ble_eq_true rfl) rfl ?_
      have q0 : ((0 : Int32)).toInt = 0 := rfl
      have h147 := (X16.2.f f19 (by decide) (X4.2.f f19 (by decide) hp0))
      have h148 := (X16.2.f f19 (by decide) (X4.2.f f19 (by decide) hp1))
      have f31 : T[31]? = some (.inr (31, 0, 8, 0, 1024)) := X17.1.k rfl (by decide)
      have h149 := ((congrFun (X16.2.a f31 (by decide)) _).trans ((congrFun (X4.2.a f31 (by decide)) _).trans hp2))
      have f43 : T[43]? = some (.inr (43, 0, 9, 0, 1023)) := X17.1.k rfl (by decide)
      have h150 := z_NBm hn (X4.2.a f43 (by decide)) rfl rfl
      have h151 := z_Ve (b := 13) (n := z1.toInt.toNat) (X4.2.a f43 (by decide))
      have h152 := z_NBm h150 (X16.2.a f43 (by decide)) rfl rfl
      have h153 := z_Ve (b := 13) (n := z1.toInt.toNat) (X16.2.a f43 (by decide))
      have q0 : ((0 : Int32)).toInt = 0 := rfl
      refine zC255 X17.1 (by decide) h147 ⟨by omega, by omega⟩ h148 ⟨by omega, by omega⟩ h149 ⟨by omega, by omega⟩ h152 (fun x167 M154 X155 h168 h169 h156 h157 h158 z159 h160 h161 h162 z163 h164 h165 h166 => ?_)
      have X170 := X17.go X155 (z_sb (by decide))
      show z_ev (d + 5) 258 156 [some (.ref 19), some (.int p1), some (.int p2), some (.int p3), some (.int p4), some (.int p5), some (.int b6), some (.int x145), some (.int b8), some (.int b9), some (.int x8), some (.int x12), some (.int 1)] [.int x167] M154 _
      refine z_xP zt258 55 63 [some (.ref 19), some (.int p1), some (.int p2), some (.int p3), some (.int p4), some (.int p5), some (.int b6), some (.int x145), some (.int b8), some (.int x167), some (.int x8), some (.int x12), some (.int 1)] [] rfl rfl ?_
      have h172 := (X155.2.f f19 (by decide) h147)
      have h173 := (X155.2.f f19 (by decide) h148)
      have h174 := ((congrFun (X155.2.a f31 (by decide)) _).trans h149)
      have h175 := z_V5 h156 (by omega) (by omega) (by omega)
      have q1 : ((1 : Int32)).toInt = 1 := rfl
      exact ih M154 b6 x145 b8 x167 (some (.int x8)) (some (.int x12)) (some (.int 1)) z0 z1 z2 X170 ⟨by omega, by omega⟩ ⟨by omega, by omega⟩ ⟨by omega, by omega⟩ ⟨by omega, by omega⟩ ⟨by omega, by omega⟩ ⟨by omega, by omega⟩ ⟨by omega, by omega⟩ h172 ⟨by omega, by omega⟩ h173 ⟨by omega, by omega⟩ h174 ⟨by omega, by omega⟩ (by omega) (by omega) (by omega) (by omega) h156 (by omega)
    refine z_xP zt258 44 126 [some (.ref 19), some (.int p1), some (.int p2), some (.int p3), some (.int p4), some (.int p5), some (.int b6), some (.int b7), some (.int b8), some (.int b9), some (.int x8), some (.int x12), some (.int 1)] [.ref 19] rfl rfl ?_
    refine z_xcV (vs := [.ref 19]) (r := []) (L2 := [some (.ref 19), none, none]) zt258 45 rfl zo258 zzcV12_330 (Or.inl rfl) rfl X17 f19 rfl rfl rfl (Nat.le_of_ble_eq_true rfl) zzm257 (Nat.le_of_ble_eq_true rfl) rfl ?_
    refine zC257 X17.1 (fun x178 M176 X177  => ?_)
    have X179 := X17.go X177 (z_sb (by decide))
    show z_ev (d + 5) 258 129 [some (.ref 19), some (.int p1), some (.int p2), some (.int p3), some (.int p4), some (.int p5), some (.int b6), some (.int b7), some (.int b8), some (.int b9), some (.int x8), some (.int x12), some (.int 1)] [.int x178] M176 _
    refine z_xP zt258 46 134 [some (.ref 19), some (.int p1), some (.int p2), some (.int p3), some (.int p4), some (.int p5), some (.int b6), some (.int b7), some (.int b8), some (.int b9), some (.int x8), some (.int x12), some (.int 1)] [.int x178] rfl rfl ?_
    refine z_xP zt258 48 140 [some (.ref 19), some (.int p1), some (.int p2), some (.int p3), some (.int p4), some (.int p5), some (.int b6), some (.int b7), some (.int x178), some (.int b9), some (.int x8), some (.int x12), some (.int 1)] [.int 1, .int b7] rfl rfl ?_
    refine z_xZ zt258 49 rfl rfl (fun (h181 : (1 : Int) = 0) => absurd h181 (by omega)) (fun (h181 : (1 : Int) ≠ 0) => ?_)
    refine z_xP zt258 50 148 [some (.ref 19), some (.int p1), some (.int p2), some (.int p3), some (.int p4), some (.int p5), some (.int b6), some (.int b7), some (.int x178), some (.int b9), some (.int x8), some (.int x12), some (.int 1)] [.int 1, .int b7] rfl rfl ?_
    refine z_xI zt258 52 rfl rfl (fun (x182 : Int32) (h183 : x182.toInt = b7.toInt + 1) => ?_) (z_pAdd rfl rfl (by omega) (by omega))
    refine z_xP zt258 53 153 [some (.ref 19), some (.int p1), some (.int p2), some (.int p3), some (.int p4), some (.int p5), some (.int b6), some (.int x182), some (.int x178), some (.int b9), some (.int x8), some (.int x12), some (.int 1)] [.int 0, .ref 19] rfl rfl ?_
    refine z_xcV (vs := [.ref 19, .int 0]) (r := []) (L2 := [some (.ref 19), some (.int 0), none, none, none]) zt258 54 rfl zo258 zzcV12_326 (Or.inl rfl) rfl X179 f19 rfl rfl rfl (Nat.le_of_ble_eq_true rfl) zzm255 (Nat.le_of_ble_eq_true rfl) rfl ?_
    have q0 : ((0 : Int32)).toInt = 0 := rfl
    have h184 := (X177.2.f f19 (by decide) (X16.2.f f19 (by decide) (X4.2.f f19 (by decide) hp0)))
    have h185 := (X177.2.f f19 (by decide) (X16.2.f f19 (by decide) (X4.2.f f19 (by decide) hp1)))
    have f31 : T[31]? = some (.inr (31, 0, 8, 0, 1024)) := X179.1.k rfl (by decide)
    have h186 := ((congrFun (X177.2.a f31 (by decide)) _).trans ((congrFun (X16.2.a f31 (by decide)) _).trans ((congrFun (X4.2.a f31 (by decide)) _).trans hp2)))
    have f43 : T[43]? = some (.inr (43, 0, 9, 0, 1023)) := X179.1.k rfl (by decide)
    have h187 := z_NBm hn (X4.2.a f43 (by decide)) rfl rfl
    have h188 := z_Ve (b := 13) (n := z1.toInt.toNat) (X4.2.a f43 (by decide))
    have h189 := z_NBm h187 (X16.2.a f43 (by decide)) rfl rfl
    have h190 := z_Ve (b := 13) (n := z1.toInt.toNat) (X16.2.a f43 (by decide))
    have h191 := z_NBm h189 (X177.2.a f43 (by decide)) rfl rfl
    have h192 := z_Ve (b := 13) (n := z1.toInt.toNat) (X177.2.a f43 (by decide))
    have q0 : ((0 : Int32)).toInt = 0 := rfl
    refine zC255 X179.1 (by decide) h184 ⟨by omega, by omega⟩ h185 ⟨by omega, by omega⟩ h186 ⟨by omega, by omega⟩ h191 (fun x206 M193 X194 h207 h208 h195 h196 h197 z198 h199 h200 h201 z202 h203 h204 h205 => ?_)
    have X209 := X179.go X194 (z_sb (by decide))
    show z_ev (d + 5) 258 156 [some (.ref 19), some (.int p1), some (.int p2), some (.int p3), some (.int p4), some (.int p5), some (.int b6), some (.int x182), some (.int x178), some (.int b9), some (.int x8), some (.int x12), some (.int 1)] [.int x206] M193 _
    refine z_xP zt258 55 63 [some (.ref 19), some (.int p1), some (.int p2), some (.int p3), some (.int p4), some (.int p5), some (.int b6), some (.int x182), some (.int x178), some (.int x206), some (.int x8), some (.int x12), some (.int 1)] [] rfl rfl ?_
    have h211 := (X194.2.f f19 (by decide) h184)
    have h212 := (X194.2.f f19 (by decide) h185)
    have h213 := ((congrFun (X194.2.a f31 (by decide)) _).trans h186)
    have h214 := z_V5 h195 (by omega) (by omega) (by omega)
    have q1 : ((1 : Int32)).toInt = 1 := rfl
    exact ih M193 b6 x182 x178 x206 (some (.int x8)) (some (.int x12)) (some (.int 1)) z0 z1 z2 X209 ⟨by omega, by omega⟩ ⟨by omega, by omega⟩ ⟨by omega, by omega⟩ ⟨by omega, by omega⟩ ⟨by omega, by omega⟩ ⟨by omega, by omega⟩ ⟨by omega, by omega⟩ h211 ⟨by omega, by omega⟩ h212 ⟨by omega, by omega⟩ h213 ⟨by omega, by omega⟩ (by omega) (by omega) (by omega) (by omega) h195 (by omega)
theorem zC258 {T : List zK} {d : Nat} {K : Option Value → zH → Prop} {p1 : Int32} {p2 : Int32} {p3 : Int32} {p4 : Int32} {p5 : Int32} {M0 : zH} (hW : z_W M0 T) (hR : z_G4 M0) (kk : ∀ (x : Int32) (M1 : zH), z_X T zw258 M0 M1 → K (some (.int x)) M1) : z_ev (d + 5) 258 0 [some (.ref 19), some (.int p1), some (.int p2), some (.int p3), some (.int p4), some (.int p5), none, none, none, none, none, none, none] [] M0 K := by
  have X : z_X T zw258 M0 M0 := .refl hW
  refine z_xP zt258 0 2 [some (.ref 19), some (.int p1), some (.int p2), some (.int p3), some (.int p4), some (.int p5), none, none, none, none, none, none, none] [.int p1, .ref 19] rfl rfl ?_
  have f19 : T[19]? = some (.inl (12, 0, 0, 0, 0)) := X.1.k rfl (by decide)
  refine z_xcV (vs := [.ref 19, .int p1]) (r := []) (L2 := [some (.ref 19), some (.int p1)]) zt258 1 rfl zo258 zzcV12_272 (Or.inl rfl) rfl X f19 rfl rfl rfl (Nat.le_of_ble_eq_true rfl) zzm237 (Nat.le_of_ble_eq_true rfl) rfl ?_
  refine z_xP zt237 0 1 [some (.ref 19), some (.int p1)] [.int p1] rfl rfl ?_
  refine z_xZ zt237 1 rfl rfl (fun (h1 : p1.toInt < 0) => ?_) (fun (h1 : 0 ≤ p1.toInt) => ?_)
  · skip
    refine z_xP zt237 6 17 [some (.ref 19), some (.int p1)] [.int 0] rfl rfl ?_
    refine z_xrz zt237 7 rfl zzr237 (by decide) (by decide) ?_
    show z_ev (d + 5) 258 5 [some (.ref 19), some (.int p1), some (.int p2), some (.int p3), some (.int p4), some (.int p5), none, none, none, none, none, none, none] [.int 0] M0 _
    refine z_xZ zt258 2 rfl rfl (fun (h2 : (0 : Int) = 0) => ?_) (fun (h2 : (0 : Int) ≠ 0) => absurd h2 (by omega))
    refine z_xP zt258 11 28 [some (.ref 19), some (.int p1), some (.int p2), some (.int p3), some (.int p4), some (.int p5), none, none, none, none, none, none, none] [.int (-1)] rfl rfl ?_
    have qm1 : (((-1) : Int32)).toInt = (-1) := rfl
    exact z_xri zt258 12 rfl zzr258 (kk (-1) M0 X)
  refine z_xP zt237 2 6 [some (.ref 19), some (.int p1)] [.ref 19, .int p1] rfl rfl ?_
  refine z_xgI zt237 3 rfl zo237 zzf12_269 X f19 (by decide) (by decide) rfl (fun (x4 : Int32) h3 (h5 : 0 ≤ x4.toInt) (h6 : x4.toInt ≤ 20) => ?_)
  have h7 := z_b32 p1
  refine z_xJ zt237 4 rfl rfl (fun (h8 : x4.toInt ≤ p1.toInt) => ?_) (fun (h8 : p1.toInt < x4.toInt) => ?_)
  · skip
    refine z_xP zt237 6 17 [some (.ref 19), some (.int p1)] [.int 0] rfl rfl ?_
    refine z_xrz zt237 7 rfl zzr237 (by decide) (by decide) ?_
    show z_ev (d + 5) 258 5 [some (.ref 19), some (.int p1), some (.int p2), some (.int p3), some (.int p4), some (.int p5), none, none, none, none, none, none, none] [.int 0] M0 _
    refine z_xZ zt258 2 rfl rfl (fun (h9 : (0 : Int) = 0) => ?_) (fun (h9 : (0 : Int) ≠ 0) => absurd h9 (by omega))
    refine z_xP zt258 11 28 [some (.ref 19), some (.int p1), some (.int p2), some (.int p3), some (.int p4), some (.int p5), none, none, none, none, none, none, none] [.int (-1)] rfl rfl ?_
    have qm1 : (((-1) : Int32)).toInt = (-1) := rfl
    exact z_xri zt258 12 rfl zzr258 (kk (-1) M0 X)
  refine z_xP zt237 5 17 [some (.ref 19), some (.int p1)] [.int 1] rfl rfl ?_
  refine z_xrz zt237 7 rfl zzr237 (by decide) (by decide) ?_
  show z_ev (d + 5) 258 5 [some (.ref 19), some (.int p1), some (.int p2), some (.int p3), some (.int p4), some (.int p5), none, none, none, none, none, none, none] [.int 1] M0 _
  refine z_xZ zt258 2 rfl rfl (fun (h10 : (1 : Int) = 0) => absurd h10 (by omega)) (fun (h10 : (1 : Int) ≠ 0) => ?_)
  refine z_xP zt258 3 10 [some (.ref 19), some (.int p1), some (.int p2), some (.int p3), some (.int p4), some (.int p5), none, none, none, none, none, none, none] [.int p2, .ref 19] rfl rfl ?_
  refine z_xcV (vs := [.ref 19, .int p2]) (r := []) (L2 := [some (.ref 19), some (.int p2)]) zt258 4 rfl zo258 zzcV12_272 (Or.inl rfl) rfl X f19 rfl rfl rfl (Nat.le_of_ble_eq_true rfl) zzm237 (Nat.le_of_ble_eq_true rfl) rfl ?_
  refine z_xP zt237 0 1 [some (.ref 19), some (.int p2)] [.int p2] rfl rfl ?_
  refine z_xZ zt237 1 rfl rfl (fun (h11 : p2.toInt < 0) => ?_) (fun (h11 : 0 ≤ p2.toInt) => ?_)
  · skip
    refine z_xP zt237 6 17 [some (.ref 19), some (.int p2)] [.int 0] rfl rfl ?_
    refine z_xrz zt237 7 rfl zzr237 (by decide) (by decide) ?_
    show z_ev (d + 5) 258 13 [some (.ref 19), some (.int p1), some (.int p2), some (.int p3), some (.int p4), some (.int p5), none, none, none, none, none, none, none] [.int 0] M0 _
    refine z_xZ zt258 5 rfl rfl (fun (h12 : (0 : Int) = 0) => ?_) (fun (h12 : (0 : Int) ≠ 0) => absurd h12 (by omega))
    refine z_xP zt258 11 28 [some (.ref 19), some (.int p1), some (.int p2), some (.int p3), some (.int p4), some (.int p5), none, none, none, none, none, none, none] [.int (-1)] rfl rfl ?_
    have qm1 : (((-1) : Int32)).toInt = (-1) := rfl
    exact z_xri zt258 12 rfl zzr258 (kk (-1) M0 X)
  refine z_xP zt237 2 6 [some (.ref 19), some (.int p2)] [.ref 19, .int p2] rfl rfl ?_
  refine z_xgv zt237 3 rfl zo237 zzf12_269 X f19 (by decide) h3 ?_
  have h13 := z_b32 p2
  refine z_xJ zt237 4 rfl rfl (fun (h14 : x4.toInt ≤ p2.toInt) => ?_) (fun (h14 : p2.toInt < x4.toInt) => ?_)
  · skip
    refine z_xP zt237 6 17 [some (.ref 19), some (.int p2)] [.int 0] rfl rfl ?_
    refine z_xrz zt237 7 rfl zzr237 (by decide) (by decide) ?_
    show z_ev (d + 5) 258 13 [some (.ref 19), some (.int p1), some (.int p2), some (.int p3), some (.int p4), some (.int p5), none, none, none, none, none, none, none] [.int 0] M0 _
    refine z_xZ zt258 5 rfl rfl (fun (h15 : (0 : Int) = 0) => ?_) (fun (h15 : (0 : Int) ≠ 0) => absurd h15 (by omega))
    refine z_xP zt258 11 28 [some (.ref 19), some (.int p1), some (.int p2), some (.int p3), some (.int p4), some (.int p5), none, none, none, none, none, none, none] [.int (-1)] rfl rfl ?_
    have qm1 : (((-1) : Int32)).toInt = (-1) := rfl
    exact z_xri zt258 12 rfl zzr258 (kk (-1) M0 X)
  refine z_xP zt237 5 17 [some (.ref 19), some (.int p2)] [.int 1] rfl rfl ?_
  refine z_xrz zt237 7 rfl zzr237 (by decide) (by decide) ?_
  show z_ev (d + 5) 258 13 [some (.ref 19), some (.int p1), some (.int p2), some (.int p3), some (.int p4), some (.int p5), none, none, none, none, none, none, none] [.int 1] M0 _
  refine z_xZ zt258 5 rfl rfl (fun (h16 : (1 : Int) = 0) => absurd h16 (by omega)) (fun (h16 : (1 : Int) ≠ 0) => ?_)
  refine z_xP zt258 6 18 [some (.ref 19), some (.int p1), some (.int p2), some (.int p3), some (.int p4), some (.int p5), none, none, none, none, none, none, none] [.int p5] rfl rfl ?_
  have h17 := z_b32 p5
  refine z_xL zt258 7 rfl rfl (fun (y18 : Int64) (h19 : y18.toInt = p5.toInt) => ?_) (z_qI2L rfl)
  refine z_xP zt258 8 21 [some (.ref 19), some (.int p1), some (.int p2), some (.int p3), some (.int p4), some (.int p5), none, none, none, none, none, none, none] [.long 1, .long 0, .long y18] rfl rfl ?_
  refine z_xcS (vs := [.long y18, .long 0, .long 1]) (r := []) (L2 := [some (.long y18), none, some (.long 0), none, some (.long 1), none]) zt258 9 rfl zo258 zzcS12_116 (Or.inl rfl) (Nat.le_of_ble_eq_true rfl) rfl rfl (Nat.le_of_ble_eq_true rfl) zzm189 (Nat.le_of_ble_eq_true rfl) rfl ?_
  refine z_xP zt189 0 2 [some (.long y18), none, some (.long 0), none, some (.long 1), none] [.long 0, .long y18] rfl rfl ?_
  refine z_xI zt189 1 rfl rfl (fun (x20 : Int32) (h21 : (x20.toInt < 0 ∧ y18.toInt < 0) ∨ (x20.toInt = 0 ∧ y18.toInt = 0) ∨ (0 < x20.toInt ∧ 0 < y18.toInt)) => ?_) (z_qCmp rfl rfl)
  refine z_xZ zt189 2 rfl rfl (fun (h22 : x20.toInt < 0) => ?_) (fun (h22 : 0 ≤ x20.toInt) => ?_)
  · skip
    refine z_xP zt189 7 18 [some (.long y18), none, some (.long 0), none, some (.long 1), none] [.int 0] rfl rfl ?_
    refine z_xrz zt189 8 rfl zzr189 (by decide) (by decide) ?_
    show z_ev (d + 5) 258 24 [some (.ref 19), some (.int p1), some (.int p2), some (.int p3), some (.int p4), some (.int p5), none, none, none, none, none, none, none] [.int 0] M0 _
    refine z_xZ zt258 10 rfl rfl (fun (h23 : (0 : Int) ≠ 0) => absurd h23 (by omega)) (fun (h23 : (0 : Int) = 0) => ?_)
    refine z_xP zt258 11 28 [some (.ref 19), some (.int p1), some (.int p2), some (.int p3), some (.int p4), some (.int p5), none, none, none, none, none, none, none] [.int (-1)] rfl rfl ?_
    have qm1 : (((-1) : Int32)).toInt = (-1) := rfl
    exact z_xri zt258 12 rfl zzr258 (kk (-1) M0 X)
  refine z_xP zt189 3 9 [some (.long y18), none, some (.long 0), none, some (.long 1), none] [.long 1, .long y18] rfl rfl ?_
  refine z_xI zt189 4 rfl rfl (fun (x24 : Int32) (h25 : (x24.toInt < 0 ∧ y18.toInt < 1) ∨ (x24.toInt = 0 ∧ y18.toInt = 1) ∨ (0 < x24.toInt ∧ 1 < y18.toInt)) => ?_) (z_qCmp rfl rfl)
  refine z_xZ zt189 5 rfl rfl (fun (h26 : 0 < x24.toInt) => ?_) (fun (h26 : x24.toInt ≤ 0) => ?_)
  · skip
    refine z_xP zt189 7 18 [some (.long y18), none, some (.long 0), none, some (.long 1), none] [.int 0] rfl rfl ?_
    refine z_xrz zt189 8 rfl zzr189 (by decide) (by decide) ?_
    show z_ev (d + 5) 258 24 [some (.ref 19), some (.int p1), some (.int p2), some (.int p3), some (.int p4), some (.int p5), none, none, none, none, none, none, none] [.int 0] M0 _
    refine z_xZ zt258 10 rfl rfl (fun (h27 : (0 : Int) ≠ 0) => absurd h27 (by omega)) (fun (h27 : (0 : Int) = 0) => ?_)
    refine z_xP zt258 11 28 [some (.ref 19), some (.int p1), some (.int p2), some (.int p3), some (.int p4), some (.int p5), none, none, none, none, none, none, none] [.int (-1)] rfl rfl ?_
    have qm1 : (((-1) : Int32)).toInt = (-1) := rfl
    exact z_xri zt258 12 rfl zzr258 (kk (-1) M0 X)
  refine z_xP zt189 6 18 [some (.long y18), none, some (.long 0), none, some (.long 1), none] [.int 1] rfl rfl ?_
  refine z_xrz zt189 8 rfl zzr189 (by decide) (by decide) ?_
  show z_ev (d + 5) 258 24 [some (.ref 19), some (.int p1), some (.int p2), some (.int p3), some (.int p4), some (.int p5), none, none, none, none, none, none, none] [.int 1] M0 _
  refine z_xZ zt258 10 rfl rfl (fun (h28 : (1 : Int) ≠ 0) => ?_) (fun (h28 : (1 : Int) = 0) => absurd h28 (by omega))
  refine z_xP zt258 13 33 [some (.ref 19), some (.int p1), some (.int p2), some (.int p3), some (.int p4), some (.int p5), none, none, none, none, none, none, none] [.int p4, .int p3, .ref 19] rfl rfl ?_
  refine z_xcV (vs := [.ref 19, .int p3, .int p4]) (r := []) (L2 := [some (.ref 19), some (.int p3), some (.int p4)]) zt258 14 rfl zo258 zzcV12_320 (Or.inl rfl) rfl X f19 rfl rfl rfl (Nat.le_of_ble_eq_true rfl) zzm251 (Nat.le_of_ble_eq_true rfl) rfl ?_
  refine z_xP zt251 0 2 [some (.ref 19), some (.int p3), some (.int p4)] [.int p3, .ref 19] rfl rfl ?_
  refine z_xcV (vs := [.ref 19, .int p3]) (r := []) (L2 := [some (.ref 19), some (.int p3)]) zt251 1 rfl zo251 zzcV12_209 (Or.inl rfl) rfl X f19 rfl rfl rfl (Nat.le_of_ble_eq_true rfl) zzm209 (Nat.le_of_ble_eq_true rfl) rfl ?_
  refine z_xP zt209 0 1 [some (.ref 19), some (.int p3)] [.int p3] rfl rfl ?_
  refine z_xZ zt209 1 rfl rfl (fun (h29 : p3.toInt < 0) => ?_) (fun (h29 : 0 ≤ p3.toInt) => ?_)
  · skip
    refine z_xP zt209 6 17 [some (.ref 19), some (.int p3)] [.int 0] rfl rfl ?_
    refine z_xrz zt209 7 rfl zzr209 (by decide) (by decide) ?_
    show z_ev (d + 4) 251 5 [some (.ref 19), some (.int p3), some (.int p4)] [.int 0] M0 _
    refine z_xZ zt251 2 rfl rfl (fun (h30 : (0 : Int) = 0) => ?_) (fun (h30 : (0 : Int) ≠ 0) => absurd h30 (by omega))
    refine z_xP zt251 9 21 [some (.ref 19), some (.int p3), some (.int p4)] [.int (-1)] rfl rfl ?_
    refine z_xri zt251 10 rfl zzr251 ?_
    show z_ev (d + 5) 258 36 [some (.ref 19), some (.int p1), some (.int p2), some (.int p3), some (.int p4), some (.int p5), none, none, none, none, none, none, none] [.int (-1)] M0 _
    refine z_xP zt258 15 40 [some (.ref 19), some (.int p1), some (.int p2), some (.int p3), some (.int p4), some (.int p5), some (.int (-1)), none, none, none, none, none, none] [.int (-1)] rfl rfl ?_
    refine z_xZ zt258 16 rfl rfl (fun (h31 : 0 ≤ ((-1) : Int)) => absurd h31 (by omega)) (fun (h31 : ((-1) : Int) < 0) => ?_)
    refine z_xP zt258 17 45 [some (.ref 19), some (.int p1), some (.int p2), some (.int p3), some (.int p4), some (.int p5), some (.int (-1)), none, none, none, none, none, none] [.int (-1)] rfl rfl ?_
    have qm1 : (((-1) : Int32)).toInt = (-1) := rfl
    exact z_xri zt258 18 rfl zzr258 (kk (-1) M0 X)
  refine z_xP zt209 2 6 [some (.ref 19), some (.int p3)] [.ref 19, .int p3] rfl rfl ?_
  refine z_xgI zt209 3 rfl zo209 zzf12_110 X f19 (by decide) (by decide) rfl (fun (x33 : Int32) h32 (h34 : 0 ≤ x33.toInt) (h35 : x33.toInt ≤ 8) => ?_)
  have h36 := z_b32 p3
  refine z_xJ zt209 4 rfl rfl (fun (h37 : x33.toInt ≤ p3.toInt) => ?_) (fun (h37 : p3.toInt < x33.toInt) => ?_)
  · skip
    refine z_xP zt209 6 17 [some (.ref 19), some (.int p3)] [.int 0] rfl rfl ?_
    refine z_xrz zt209 7 rfl zzr209 (by decide) (by decide) ?_
    show z_ev (d + 4) 251 5 [some (.ref 19), some (.int p3), some (.int p4)] [.int 0] M0 _
    refine z_xZ zt251 2 rfl rfl (fun (h38 : (0 : Int) = 0) => ?_) (fun (h38 : (0 : Int) ≠ 0) => absurd h38 (by omega))
    refine z_xP zt251 9 21 [some (.ref 19), some (.int p3), some (.int p4)] [.int (-1)] rfl rfl ?_
    refine z_xri zt251 10 rfl zzr251 ?_
    show z_ev (d + 5) 258 36 [some (.ref 19), some (.int p1), some (.int p2), some (.int p3), some (.int p4), some (.int p5), none, none, none, none, none, none, none] [.int (-1)] M0 _
    refine z_xP zt258 15 40 [some (.ref 19), some (.int p1), some (.int p2), some (.int p3), some (.int p4), some (.int p5), some (.int (-1)), none, none, none, none, none, none] [.int (-1)] rfl rfl ?_
    refine z_xZ zt258 16 rfl rfl (fun (h39 : 0 ≤ ((-1) : Int)) => absurd h39 (by omega)) (fun (h39 : ((-1) : Int) < 0) => ?_)
    refine z_xP zt258 17 45 [some (.ref 19), some (.int p1), some (.int p2), some (.int p3), some (.int p4), some (.int p5), some (.int (-1)), none, none, none, none, none, none] [.int (-1)] rfl rfl ?_
    have qm1 : (((-1) : Int32)).toInt = (-1) := rfl
    exact z_xri zt258 18 rfl zzr258 (kk (-1) M0 X)
  refine z_xP zt209 5 17 [some (.ref 19), some (.int p3)] [.int 1] rfl rfl ?_
  refine z_xrz zt209 7 rfl zzr209 (by decide) (by decide) ?_
  show z_ev (d + 4) 251 5 [some (.ref 19), some (.int p3), some (.int p4)] [.int 1] M0 _
  refine z_xZ zt251 2 rfl rfl (fun (h40 : (1 : Int) = 0) => absurd h40 (by omega)) (fun (h40 : (1 : Int) ≠ 0) => ?_)
  refine z_xP zt251 3 9 [some (.ref 19), some (.int p3), some (.int p4)] [.int p4] rfl rfl ?_
  have h41 := z_b32 p4
  refine z_xL zt251 4 rfl rfl (fun (y42 : Int64) (h43 : y42.toInt = p4.toInt) => ?_) (z_qI2L rfl)
  refine z_xP zt251 5 11 [some (.ref 19), some (.int p3), some (.int p4)] [.long 1, .long y42] rfl rfl ?_
  refine z_xl2 zt251 6 rfl zo251 zkl12_318 ?_
  refine z_xcS (vs := [.long y42, .long 1, .long 5]) (r := []) (L2 := [some (.long y42), none, some (.long 1), none, some (.long 5), none]) zt251 7 rfl zo251 zzcS12_116 (Or.inl rfl) (Nat.le_of_ble_eq_true rfl) rfl rfl (Nat.le_of_ble_eq_true rfl) zzm189 (Nat.le_of_ble_eq_true rfl) rfl ?_
  refine z_xP zt189 0 2 [some (.long y42), none, some (.long 1), none, some (.long 5), none] [.long 1, .long y42] rfl rfl ?_
  refine z_xI zt189 1 rfl rfl (fun (x44 : Int32) (h45 : (x44.toInt < 0 ∧ y42.toInt < 1) ∨ (x44.toInt = 0 ∧ y42.toInt = 1) ∨ (0 < x44.toInt ∧ 1 < y42.toInt)) => ?_) (z_qCmp rfl rfl)
  refine z_xZ zt189 2 rfl rfl (fun (h46 : x44.toInt < 0) => ?_) (fun (h46 : 0 ≤ x44.toInt) => ?_)
  · skip
    refine z_xP zt189 7 18 [some (.long y42), none, some (.long 1), none, some (.long 5), none] [.int 0] rfl rfl ?_
    refine z_xrz zt189 8 rfl zzr189 (by decide) (by decide) ?_
    show z_ev (d + 4) 251 17 [some (.ref 19), some (.int p3), some (.int p4)] [.int 0] M0 _
    refine z_xZ zt251 8 rfl rfl (fun (h47 : (0 : Int) ≠ 0) => absurd h47 (by omega)) (fun (h47 : (0 : Int) = 0) => ?_)
    refine z_xP zt251 9 21 [some (.ref 19), some (.int p3), some (.int p4)] [.int (-1)] rfl rfl ?_
    refine z_xri zt251 10 rfl zzr251 ?_
    show z_ev (d + 5) 258 36 [some (.ref 19), some (.int p1), some (.int p2), some (.int p3), some (.int p4), some (.int p5), none, none, none, none, none, none, none] [.int (-1)] M0 _
    refine z_xP zt258 15 40 [some (.ref 19), some (.int p1), some (.int p2), some (.int p3), some (.int p4), some (.int p5), some (.int (-1)), none, none, none, none, none, none] [.int (-1)] rfl rfl ?_
    refine z_xZ zt258 16 rfl rfl (fun (h48 : 0 ≤ ((-1) : Int)) => absurd h48 (by omega)) (fun (h48 : ((-1) : Int) < 0) => ?_)
    refine z_xP zt258 17 45 [some (.ref 19), some (.int p1), some (.int p2), some (.int p3), some (.int p4), some (.int p5), some (.int (-1)), none, none, none, none, none, none] [.int (-1)] rfl rfl ?_
    have qm1 : (((-1) : Int32)).toInt = (-1) := rfl
    exact z_xri zt258 18 rfl zzr258 (kk (-1) M0 X)
  refine z_xP zt189 3 9 [some (.long y42), none, some (.long 1), none, some (.long 5), none] [.long 5, .long y42] rfl rfl ?_
  refine z_xI zt189 4 rfl rfl (fun (x49 : Int32) (h50 : (x49.toInt < 0 ∧ y42.toInt < 5) ∨ (x49.toInt = 0 ∧ y42.toInt = 5) ∨ (0 < x49.toInt ∧ 5 < y42.toInt)) => ?_) (z_qCmp rfl rfl)
  refine z_xZ zt189 5 rfl rfl (fun (h51 : 0 < x49.toInt) => ?_) (fun (h51 : x49.toInt ≤ 0) => ?_)
  · skip
    refine z_xP zt189 7 18 [some (.long y42), none, some (.long 1), none, some (.long 5), none] [.int 0] rfl rfl ?_
    refine z_xrz zt189 8 rfl zzr189 (by decide) (by decide) ?_
    show z_ev (d + 4) 251 17 [some (.ref 19), some (.int p3), some (.int p4)] [.int 0] M0 _
    refine z_xZ zt251 8 rfl rfl (fun (h52 : (0 : Int) ≠ 0) => absurd h52 (by omega)) (fun (h52 : (0 : Int) = 0) => ?_)
    refine z_xP zt251 9 21 [some (.ref 19), some (.int p3), some (.int p4)] [.int (-1)] rfl rfl ?_
    refine z_xri zt251 10 rfl zzr251 ?_
    show z_ev (d + 5) 258 36 [some (.ref 19), some (.int p1), some (.int p2), some (.int p3), some (.int p4), some (.int p5), none, none, none, none, none, none, none] [.int (-1)] M0 _
    refine z_xP zt258 15 40 [some (.ref 19), some (.int p1), some (.int p2), some (.int p3), some (.int p4), some (.int p5), some (.int (-1)), none, none, none, none, none, none] [.int (-1)] rfl rfl ?_
    refine z_xZ zt258 16 rfl rfl (fun (h53 : 0 ≤ ((-1) : Int)) => absurd h53 (by omega)) (fun (h53 : ((-1) : Int) < 0) => ?_)
    refine z_xP zt258 17 45 [some (.ref 19), some (.int p1), some (.int p2), some (.int p3), some (.int p4), some (.int p5), some (.int (-1)), none, none, none, none, none, none] [.int (-1)] rfl rfl ?_
    have qm1 : (((-1) : Int32)).toInt = (-1) := rfl
    exact z_xri zt258 18 rfl zzr258 (kk (-1) M0 X)
  refine z_xP zt189 6 18 [some (.long y42), none, some (.long 1), none, some (.long 5), none] [.int 1] rfl rfl ?_
  refine z_xrz zt189 8 rfl zzr189 (by decide) (by decide) ?_
  show z_ev (d + 4) 251 17 [some (.ref 19), some (.int p3), some (.int p4)] [.int 1] M0 _
  refine z_xZ zt251 8 rfl rfl (fun (h54 : (1 : Int) ≠ 0) => ?_) (fun (h54 : (1 : Int) = 0) => absurd h54 (by omega))
  refine z_xP zt251 11 23 [some (.ref 19), some (.int p3), some (.int p4)] [.ref 19] rfl rfl ?_
  refine z_xgX (b := 31) zt251 12 rfl zo251 zzf12_43 X f19 (by decide) (by decide) rfl ?_
  refine z_xP zt251 13 27 [some (.ref 19), some (.int p3), some (.int p4)] [.int p3, .ref 31] rfl rfl ?_
  have f31 : T[31]? = some (.inr (31, 0, 8, 0, 1024)) := X.1.k rfl (by decide)
  refine z_xil zt251 14 rfl X f31 (by decide) (by omega) (by omega) (fun (x55 : Int32) h56 (h57 : 0 ≤ x55.toInt) (h58 : x55.toInt ≤ 1024) => ?_)
  refine z_xP zt251 15 30 [some (.ref 19), some (.int p3), some (.int p4)] [.int 12, .int x55] rfl rfl ?_
  refine z_xJ zt251 16 rfl rfl (fun (h59 : x55.toInt ≤ 12) => ?_) (fun (h59 : 12 < x55.toInt) => ?_)
  · skip
    refine z_xP zt251 18 39 [some (.ref 19), some (.int p3), some (.int p4)] [.int 0] rfl rfl ?_
    refine z_xri zt251 19 rfl zzr251 ?_
    show z_ev (d + 5) 258 36 [some (.ref 19), some (.int p1), some (.int p2), some (.int p3), some (.int p4), some (.int p5), none, none, none, none, none, none, none] [.int 0] M0 _
    refine z_xP zt258 15 40 [some (.ref 19), some (.int p1), some (.int p2), some (.int p3), some (.int p4), some (.int p5), some (.int 0), none, none, none, none, none, none] [.int 0] rfl rfl ?_
    refine z_xZ zt258 16 rfl rfl (fun (h60 : 0 ≤ (0 : Int)) => ?_) (fun (h60 : (0 : Int) < 0) => absurd h60 (by omega))
    refine z_xP zt258 19 57 [some (.ref 19), some (.int p1), some (.int p2), some (.int p3), some (.int p4), some (.int p5), some (.int 0), some (.int 0), some (.int (-2)), none, none, none, none] [.int p4, .int p3, .ref 19] rfl rfl ?_
    refine z_xcV (vs := [.ref 19, .int p3, .int p4]) (r := []) (L2 := [some (.ref 19), some (.int p3), some (.int p4), none]) zt258 20 rfl zo258 zzcV12_323 (Or.inl rfl) rfl X f19 rfl rfl rfl (Nat.le_of_ble_eq_true rfl) zzm252 (Nat.le_of_ble_eq_true rfl) rfl ?_
    have h61 := z_G4u (hR.go X (by decide)) h32 (by omega) (by omega) h56
    refine zC252 X.1 (by omega) (by omega) h56 ⟨by omega, by omega⟩ (fun M62 X63 h64 h65 h66 => ?_)
    have X67 := X.go X63 (z_sb (by decide))
    show z_ev (d + 5) 258 60 [some (.ref 19), some (.int p1), some (.int p2), some (.int p3), some (.int p4), some (.int p5), some (.int 0), some (.int 0), some (.int (-2)), none, none, none, none] [] M62 _
    have h69 := z_NBw (L2 := x55.toInt) h64 (by omega)
    refine z_xP zt258 21 63 [some (.ref 19), some (.int p1), some (.int p2), some (.int p3), some (.int p4), some (.int p5), some (.int 0), some (.int 0), some (.int (-2)), some (.int 1), none, none, none] [] rfl rfl ?_
    have h70 := ((congrFun (X63.2.a f31 (by decide)) _).trans h56)
    have h71 := z_V5 h69 (by omega) (by omega) (by omega)
    have qm2 : (((-2) : Int32)).toInt = (-2) := rfl
    have q0 : ((0 : Int32)).toInt = 0 := rfl
    have q1 : ((1 : Int32)).toInt = 1 := rfl
    exact (zB258 hR kk 1485176) M62 (0) (0) ((-2)) (1) none none none p3 p4 x55 X67 ⟨by omega, by omega⟩ ⟨by omega, by omega⟩ ⟨by omega, by omega⟩ ⟨by omega, by omega⟩ ⟨by omega, by omega⟩ (by decide) (by decide) h65 ⟨by omega, by omega⟩ h66 ⟨by omega, by omega⟩ h70 ⟨by omega, by omega⟩ (by omega) (by omega) (by omega) (by omega) h69 (by omega)
  refine z_xP zt251 17 39 [some (.ref 19), some (.int p3), some (.int p4)] [.int (-4)] rfl rfl ?_
  refine z_xri zt251 19 rfl zzr251 ?_
  show z_ev (d + 5) 258 36 [some (.ref 19), some (.int p1), some (.int p2), some (.int p3), some (.int p4), some (.int p5), none, none, none, none, none, none, none] [.int (-4)] M0 _
  refine z_xP zt258 15 40 [some (.ref 19), some (.int p1), some (.int p2), some (.int p3), some (.int p4), some (.int p5), some (.int (-4)), none, none, none, none, none, none] [.int (-4)] rfl rfl ?_
  refine z_xZ zt258 16 rfl rfl (fun (h72 : 0 ≤ ((-4) : Int)) => absurd h72 (by omega)) (fun (h72 : ((-4) : Int) < 0) => ?_)
  refine z_xP zt258 17 45 [some (.ref 19), some (.int p1), some (.int p2), some (.int p3), some (.int p4), some (.int p5), some (.int (-4)), none, none, none, none, none, none] [.int (-4)] rfl rfl ?_
  have qm4 : (((-4) : Int32)).toInt = (-4) := rfl
  exact z_xri zt258 18 rfl zzr258 (kk (-4) M0 X)
def zw259 : List Nat := [39, 40, 41, 42, 43, 2229, 2230, 2234, 2235]
theorem zB259 {T : List zK} {d : Nat} {K : Option Value → zH → Prop} {p1 : Int32} {p2 : Int32} {p3 : Int32} {p4 : Int32} {M0 : zH} (hR : z_G4 M0) (kk : ∀ (x : Int32) (M1 : zH), z_X T zw259 M0 M1 → K (some (.int x)) M1) : ∀ n : Nat, (∀ (M : zH) (b5 : Int32) (b6 : Int32) (b7 : Int32) (z0 : Int32) (z1 : Int32) (z2 : Int32), z_X T zw259 M0 M → 0 ≤ p1.toInt ∧ p1.toInt ≤ 19 → 0 ≤ p2.toInt ∧ p2.toInt ≤ 7 → 1 ≤ p3.toInt ∧ p3.toInt ≤ 5 → 0 ≤ p4.toInt ∧ p4.toInt ≤ 9 → 0 ≤ b5.toInt ∧ b5.toInt ≤ 0 → 0 ≤ b7.toInt ∧ b7.toInt ≤ 1 → z_F M 19 29 = some (.int z0) → 0 ≤ z0.toInt ∧ z0.toInt ≤ 7 → z_F M 19 30 = some (.int z1) → 1 ≤ z1.toInt ∧ z1.toInt ≤ 5 → z_Ar M 31 z0.toNatClampNeg = z2 → 0 ≤ z2.toInt ∧ z2.toInt ≤ 12 → z2.toInt ≤ 12 → 1 ≤ z2.toInt → 1 ≤ z1.toInt → z1.toInt ≤ 5 → z_NB M z1.toInt z2.toInt → ((0) * 2 + 0) * 742588 + (2 * (371293 - z_V 13 (z_Ar M 43) z1.toInt.toNat) + b7.toInt) < (n : Int) → z_ev (d + 5) 259 68 [some (.ref 19), some (.int p1), some (.int p2), some (.int p3), some (.int p4), some (.int b5), some (.int b6), some (.int b7)] [] M K) := by
  intro n
  induction n with
  | zero => exact by intro M b5 b6 b7 z0 z1 z2 X hh0 hh1 hh2 hh3 hh4 hh5 hp0 hh7 hp1 hh9 hp2 hh11 hh12 hh13 hh14 hh15 hn hE; have hV := z_V5 hn (by omega) (by omega) (by omega); exfalso; omega
  | succ n ih =>
    intro M b5 b6 b7 z0 z1 z2 X hh0 hh1 hh2 hh3 hh4 hh5 hp0 hh7 hp1 hh9 hp2 hh11 hh12 hh13 hh14 hh15 hn hE
    have hV := z_V5 hn (by omega) (by omega) (by omega)
    refine z_xP zt259 25 70 [some (.ref 19), some (.int p1), some (.int p2), some (.int p3), some (.int p4), some (.int b5), some (.int b6), some (.int b7)] [.int b7] rfl rfl ?_
    refine z_xZ zt259 26 rfl rfl (fun (h1 : b7.toInt = 0) => ?_) (fun (h1 : b7.toInt ≠ 0) => ?_)
    · skip
      refine z_xP zt259 39 104 [some (.ref 19), some (.int p1), some (.int p2), some (.int p3), some (.int p4), some (.int b5), some (.int b6), some (.int b7)] [.int b6] rfl rfl ?_
      exact z_xri zt259 40 rfl zzr259 (kk b6 M X)
    refine z_xP zt259 27 75 [some (.ref 19), some (.int p1), some (.int p2), some (.int p3), some (.int p4), some (.int b5), some (.int b6), some (.int b7)] [.int p1, .ref 19] rfl rfl ?_
    have f19 : T[19]? = some (.inl (12, 0, 0, 0, 0)) := X.1.k rfl (by decide)
    refine z_xcV (vs := [.ref 19, .int p1]) (r := []) (L2 := [some (.ref 19), some (.int p1), none]) zt259 28 rfl zo259 zzcV12_303 (Or.inl rfl) rfl X f19 rfl rfl rfl (Nat.le_of_ble_eq_true rfl) zzm239 (Nat.le_of_ble_eq_true rfl) rfl ?_
    refine zC239 X.1 (by omega) (fun M2 X3  => ?_)
    have X4 := X.go X3 (z_sb (by decide))
    show z_ev (d + 5) 259 78 [some (.ref 19), some (.int p1), some (.int p2), some (.int p3), some (.int p4), some (.int b5), some (.int b6), some (.int b7)] [] M2 _
    refine z_xP zt259 29 81 [some (.ref 19), some (.int p1), some (.int p2), some (.int p3), some (.int p4), some (.int b5), some (.int b6), some (.int b7)] [.ref 19, .int b6] rfl rfl ?_
    refine z_xgI zt259 30 rfl zo259 zzf12_275 X4 f19 (by decide) (by decide) rfl (fun (x7 : Int32) h6 (h8 : (-2147483648) ≤ x7.toInt) (h9 : x7.toInt ≤ 2147483647) => ?_)
    refine z_xP zt259 31 86 [some (.ref 19), some (.int p1), some (.int p2), some (.int p3), some (.int p4), some (.int b5), some (.int b6), some (.int b7)] [.int p4, .int x7, .int b6] rfl rfl ?_
    have h10 := z_b32 x7
    refine z_xI zt259 32 rfl rfl (P := fun _ => True) (fun (x11 : Int32) _ => ?_) trivial
    refine z_xP zt259 33 88 [some (.ref 19), some (.int p1), some (.int p2), some (.int p3), some (.int p4), some (.int b5), some (.int b6), some (.int b7)] [.int 1, .int x11, .int b6] rfl rfl ?_
    refine z_xI zt259 34 rfl rfl (fun (x13 : Int32) (h14 : 0 ≤ x13.toInt ∧ x13.toInt ≤ 1) => ?_) (z_pAnd rfl (by omega))
    have h15 := z_b32 b6
    refine z_xI zt259 35 rfl rfl (P := fun _ => True) (fun (x16 : Int32) _ => ?_) trivial
    refine z_xP zt259 36 94 [some (.ref 19), some (.int p1), some (.int p2), some (.int p3), some (.int p4), some (.int b5), some (.int x16), some (.int b7)] [.int 0, .ref 19] rfl rfl ?_
    refine z_xcV (vs := [.ref 19, .int 0]) (r := []) (L2 := [some (.ref 19), some (.int 0), none, none, none]) zt259 37 rfl zo259 zzcV12_326 (Or.inl rfl) rfl X4 f19 rfl rfl rfl (Nat.le_of_ble_eq_true rfl) zzm255 (Nat.le_of_ble_eq_true rfl) rfl ?_
    have q0 : ((0 : Int32)).toInt = 0 := rfl
    have h18 := (X3.2.f f19 (by decide) hp0)
    have h19 := (X3.2.f f19 (by decide) hp1)
    have f31 : T[31]? = some (.inr (31, 0, 8, 0, 1024)) := X4.1.k rfl (by decide)
    have h20 := ((congrFun (X3.2.a f31 (by decide)) _).trans hp2)
    have f43 : T[43]? = some (.inr (43, 0, 9, 0, 1023)) := X4.1.k rfl (by decide)
    have h21 := z_NBm hn (X3.2.a f43 (by decide)) rfl rfl
    have h22 := z_Ve (b := 13) (n := z1.toInt.toNat) (X3.2.a f43 (by decide))
    have q0 : ((0 : Int32)).toInt = 0 := rfl
    refine zC255 X4.1 (by decide) h18 ⟨by omega, by omega⟩ h19 ⟨by omega, by omega⟩ h20 ⟨by omega, by omega⟩ h21 (fun x36 M23 X24 h37 h38 h25 h26 h27 z28 h29 h30 h31 z32 h33 h34 h35 => ?_)
    have X39 := X4.go X24 (z_sb (by decide))
    show z_ev (d + 5) 259 97 [some (.ref 19), some (.int p1), some (.int p2), some (.int p3), some (.int p4), some (.int b5), some (.int x16), some (.int b7)] [.int x36] M23 _
    refine z_xP zt259 38 68 [some (.ref 19), some (.int p1), some (.int p2), some (.int p3), some (.int p4), some (.int b5), some (.int x16), some (.int x36)] [] rfl rfl ?_
    have h41 := (X24.2.f f19 (by decide) h18)
    have h42 := (X24.2.f f19 (by decide) h19)
    have h43 := ((congrFun (X24.2.a f31 (by decide)) _).trans h20)
    have h44 := z_V5 h25 (by omega) (by omega) (by omega)
    exact ih M23 b5 x16 x36 z0 z1 z2 X39 ⟨by omega, by omega⟩ ⟨by omega, by omega⟩ ⟨by omega, by omega⟩ ⟨by omega, by omega⟩ ⟨by omega, by omega⟩ ⟨by omega, by omega⟩ h41 ⟨by omega, by omega⟩ h42 ⟨by omega, by omega⟩ h43 ⟨by omega, by omega⟩ (by omega) (by omega) (by omega) (by omega) h25 (by omega)
theorem zC259 {T : List zK} {d : Nat} {K : Option Value → zH → Prop} {p1 : Int32} {p2 : Int32} {p3 : Int32} {p4 : Int32} {M0 : zH} (hW : z_W M0 T) (hR : z_G4 M0) (kk : ∀ (x : Int32) (M1 : zH), z_X T zw259 M0 M1 → K (some (.int x)) M1) : z_ev (d + 5) 259 0 [some (.ref 19), some (.int p1), some (.int p2), some (.int p3), some (.int p4), none, none, none] [] M0 K := by
  have X : z_X T zw259 M0 M0 := .refl hW
  refine z_xP zt259 0 2 [some (.ref 19), some (.int p1), some (.int p2), some (.int p3), some (.int p4), none, none, none] [.int p1, .ref 19] rfl rfl ?_
  have f19 : T[19]? = some (.inl (12, 0, 0, 0, 0)) := X.1.k rfl (by decide)
  refine z_xcV (vs := [.ref 19, .int p1]) (r := []) (L2 := [some (.ref 19), some (.int p1)]) zt259 1 rfl zo259 zzcV12_272 (Or.inl rfl) rfl X f19 rfl rfl rfl (Nat.le_of_ble_eq_true rfl) zzm237 (Nat.le_of_ble_eq_true rfl) rfl ?_
  refine z_xP zt237 0 1 [some (.ref 19), some (.int p1)] [.int p1] rfl rfl ?_
  refine z_xZ zt237 1 rfl rfl (fun (h1 : p1.toInt < 0) => ?_) (fun (h1 : 0 ≤ p1.toInt) => ?_)
  · skip
    refine z_xP zt237 6 17 [some (.ref 19), some (.int p1)] [.int 0] rfl rfl ?_
    refine z_xrz zt237 7 rfl zzr237 (by decide) (by decide) ?_
    show z_ev (d + 5) 259 5 [some (.ref 19), some (.int p1), some (.int p2), some (.int p3), some (.int p4), none, none, none] [.int 0] M0 _
    refine z_xZ zt259 2 rfl rfl (fun (h2 : (0 : Int) = 0) => ?_) (fun (h2 : (0 : Int) ≠ 0) => absurd h2 (by omega))
    refine z_xP zt259 14 39 [some (.ref 19), some (.int p1), some (.int p2), some (.int p3), some (.int p4), none, none, none] [.int (-1)] rfl rfl ?_
    have qm1 : (((-1) : Int32)).toInt = (-1) := rfl
    exact z_xri zt259 15 rfl zzr259 (kk (-1) M0 X)
  refine z_xP zt237 2 6 [some (.ref 19), some (.int p1)] [.ref 19, .int p1] rfl rfl ?_
  refine z_xgI zt237 3 rfl zo237 zzf12_269 X f19 (by decide) (by decide) rfl (fun (x4 : Int32) h3 (h5 : 0 ≤ x4.toInt) (h6 : x4.toInt ≤ 20) => ?_)
  have h7 := z_b32 p1
  refine z_xJ zt237 4 rfl rfl (fun (h8 : x4.toInt ≤ p1.toInt) => ?_) (fun (h8 : p1.toInt < x4.toInt) => ?_)
  · skip
    refine z_xP zt237 6 17 [some (.ref 19), some (.int p1)] [.int 0] rfl rfl ?_
    refine z_xrz zt237 7 rfl zzr237 (by decide) (by decide) ?_
    show z_ev (d + 5) 259 5 [some (.ref 19), some (.int p1), some (.int p2), some (.int p3), some (.int p4), none, none, none] [.int 0] M0 _
    refine z_xZ zt259 2 rfl rfl (fun (h9 : (0 : Int) = 0) => ?_) (fun (h9 : (0 : Int) ≠ 0) => absurd h9 (by omega))
    refine z_xP zt259 14 39 [some (.ref 19), some (.int p1), some (.int p2), some (.int p3), some (.int p4), none, none, none] [.int (-1)] rfl rfl ?_
    have qm1 : (((-1) : Int32)).toInt = (-1) := rfl
    exact z_xri zt259 15 rfl zzr259 (kk (-1) M0 X)
  refine z_xP zt237 5 17 [some (.ref 19), some (.int p1)] [.int 1] rfl rfl ?_
  refine z_xrz zt237 7 rfl zzr237 (by decide) (by decide) ?_
  show z_ev (d + 5) 259 5 [some (.ref 19), some (.int p1), some (.int p2), some (.int p3), some (.int p4), none, none, none] [.int 1] M0 _
  refine z_xZ zt259 2 rfl rfl (fun (h10 : (1 : Int) = 0) => absurd h10 (by omega)) (fun (h10 : (1 : Int) ≠ 0) => ?_)
  refine z_xP zt259 3 10 [some (.ref 19), some (.int p1), some (.int p2), some (.int p3), some (.int p4), none, none, none] [.int p2, .ref 19] rfl rfl ?_
  refine z_xcV (vs := [.ref 19, .int p2]) (r := []) (L2 := [some (.ref 19), some (.int p2)]) zt259 4 rfl zo259 zzcV12_209 (Or.inl rfl) rfl X f19 rfl rfl rfl (Nat.le_of_ble_eq_true rfl) zzm209 (Nat.le_of_ble_eq_true rfl) rfl ?_
  refine z_xP zt209 0 1 [some (.ref 19), some (.int p2)] [.int p2] rfl rfl ?_
  refine z_xZ zt209 1 rfl rfl (fun (h11 : p2.toInt < 0) => ?_) (fun (h11 : 0 ≤ p2.toInt) => ?_)
  · skip
    refine z_xP zt209 6 17 [some (.ref 19), some (.int p2)] [.int 0] rfl rfl ?_
    refine z_xrz zt209 7 rfl zzr209 (by decide) (by decide) ?_
    show z_ev (d + 5) 259 13 [some (.ref 19), some (.int p1), some (.int p2), some (.int p3), some (.int p4), none, none, none] [.int 0] M0 _
    refine z_xZ zt259 5 rfl rfl (fun (h12 : (0 : Int) = 0) => ?_) (fun (h12 : (0 : Int) ≠ 0) => absurd h12 (by omega))
    refine z_xP zt259 14 39 [some (.ref 19), some (.int p1), some (.int p2), some (.int p3), some (.int p4), none, none, none] [.int (-1)] rfl rfl ?_
    have qm1 : (((-1) : Int32)).toInt = (-1) := rfl
    exact z_xri zt259 15 rfl zzr259 (kk (-1) M0 X)
  refine z_xP zt209 2 6 [some (.ref 19), some (.int p2)] [.ref 19, .int p2] rfl rfl ?_
  refine z_xgI zt209 3 rfl zo209 zzf12_110 X f19 (by decide) (by decide) rfl (fun (x14 : Int32) h13 (h15 : 0 ≤ x14.toInt) (h16 : x14.toInt ≤ 8) => ?_)
  have h17 := z_b32 p2
  refine z_xJ zt209 4 rfl rfl (fun (h18 : x14.toInt ≤ p2.toInt) => ?_) (fun (h18 : p2.toInt < x14.toInt) => ?_)
  · skip
    refine z_xP zt209 6 17 [some (.ref 19), some (.int p2)] [.int 0] rfl rfl ?_
    refine z_xrz zt209 7 rfl zzr209 (by decide) (by decide) ?_
    show z_ev (d + 5) 259 13 [some (.ref 19), some (.int p1), some (.int p2), some (.int p3), some (.int p4), none, none, none] [.int 0] M0 _
    refine z_xZ zt259 5 rfl rfl (fun (h19 : (0 : Int) = 0) => ?_) (fun (h19 : (0 : Int) ≠ 0) => absurd h19 (by omega))
    refine z_xP zt259 14 39 [some (.ref 19), some (.int p1), some (.int p2), some (.int p3), some (.int p4), none, none, none] [.int (-1)] rfl rfl ?_
    have qm1 : (((-1) : Int32)).toInt = (-1) := rfl
    exact z_xri zt259 15 rfl zzr259 (kk (-1) M0 X)
  refine z_xP zt209 5 17 [some (.ref 19), some (.int p2)] [.int 1] rfl rfl ?_
  refine z_xrz zt209 7 rfl zzr209 (by decide) (by decide) ?_
  show z_ev (d + 5) 259 13 [some (.ref 19), some (.int p1), some (.int p2), some (.int p3), some (.int p4), none, none, none] [.int 1] M0 _
  refine z_xZ zt259 5 rfl rfl (fun (h20 : (1 : Int) = 0) => absurd h20 (by omega)) (fun (h20 : (1 : Int) ≠ 0) => ?_)
  refine z_xP zt259 6 19 [some (.ref 19), some (.int p1), some (.int p2), some (.int p3), some (.int p4), none, none, none] [.int p2, .ref 19, .ref 19] rfl rfl ?_
  refine z_xcV (vs := [.ref 19, .int p2]) (r := [.ref 19]) (L2 := [some (.ref 19), some (.int p2)]) zt259 7 rfl zo259 zzcV12_209 (Or.inl rfl) rfl X f19 rfl rfl rfl (Nat.le_of_ble_eq_true rfl) zzm209 (Nat.le_of_ble_eq_true rfl) rfl ?_
  refine z_xP zt209 0 1 [some (.ref 19), some (.int p2)] [.int p2] rfl rfl ?_
  refine z_xZ zt209 1 rfl rfl (fun (h21 : p2.toInt < 0) => absurd h21 (by omega)) (fun (h21 : 0 ≤ p2.toInt) => ?_)
  refine z_xP zt209 2 6 [some (.ref 19), some (.int p2)] [.ref 19, .int p2] rfl rfl ?_
  refine z_xgv zt209 3 rfl zo209 zzf12_110 X f19 (by decide) h13 ?_
  refine z_xJ zt209 4 rfl rfl (fun (h22 : x14.toInt ≤ p2.toInt) => ?_) (fun (h22 : p2.toInt < x14.toInt) => ?_)
  · skip
    refine z_xP zt209 6 17 [some (.ref 19), some (.int p2)] [.int 0] rfl rfl ?_
    refine z_xrz zt209 7 rfl zzr209 (by decide) (by decide) ?_
    show z_ev (d + 5) 259 22 [some (.ref 19), some (.int p1), some (.int p2), some (.int p3), some (.int p4), none, none, none] [.int 0, .ref 19] M0 _
    refine z_xZ zt259 8 rfl rfl (fun (h23 : (0 : Int) = 0) => ?_) (fun (h23 : (0 : Int) ≠ 0) => absurd h23 (by omega))
    refine z_xP zt259 10 30 [some (.ref 19), some (.int p1), some (.int p2), some (.int p3), some (.int p4), none, none, none] [.int 0, .ref 19] rfl rfl ?_
    refine z_xP zt259 11 32 [some (.ref 19), some (.int p1), some (.int p2), some (.int p3), some (.int p4), none, none, none] [.int p4, .int 0, .ref 19] rfl rfl ?_
    refine z_xcV (vs := [.ref 19, .int 0, .int p4]) (r := []) (L2 := [some (.ref 19), some (.int 0), some (.int p4)]) zt259 12 rfl zo259 zzcV12_225 (Or.inl rfl) rfl X f19 rfl rfl rfl (Nat.le_of_ble_eq_true rfl) zzm218 (Nat.le_of_ble_eq_true rfl) rfl ?_
    refine z_xP zt218 0 1 [some (.ref 19), some (.int 0), some (.int p4)] [.int p4] rfl rfl ?_
    refine z_xZ zt218 1 rfl rfl (fun (h24 : p4.toInt < 0) => ?_) (fun (h24 : 0 ≤ p4.toInt) => ?_)
    · skip
      refine z_xP zt218 8 19 [some (.ref 19), some (.int 0), some (.int p4)] [.int 0] rfl rfl ?_
      refine z_xrz zt218 9 rfl zzr218 (by decide) (by decide) ?_
      show z_ev (d + 5) 259 35 [some (.ref 19), some (.int p1), some (.int p2), some (.int p3), some (.int p4), none, none, none] [.int 0] M0 _
      refine z_xZ zt259 13 rfl rfl (fun (h25 : (0 : Int) ≠ 0) => absurd h25 (by omega)) (fun (h25 : (0 : Int) = 0) => ?_)
      refine z_xP zt259 14 39 [some (.ref 19), some (.int p1), some (.int p2), some (.int p3), some (.int p4), none, none, none] [.int (-1)] rfl rfl ?_
      have qm1 : (((-1) : Int32)).toInt = (-1) := rfl
      exact z_xri zt259 15 rfl zzr259 (kk (-1) M0 X)
    refine z_xP zt218 2 6 [some (.ref 19), some (.int 0), some (.int p4)] [.ref 19, .int p4] rfl rfl ?_
    refine z_xgX (b := 24) zt218 3 rfl zo218 zzf12_22 X f19 (by decide) (by decide) rfl ?_
    refine z_xP zt218 4 10 [some (.ref 19), some (.int 0), some (.int p4)] [.int 0, .ref 24, .int p4] rfl rfl ?_
    have f24 : T[24]? = some (.inr (24, 0, 8, 0, 10)) := X.1.k rfl (by decide)
    refine z_xil zt218 5 rfl X f24 (by decide) (by decide) (by decide) (fun (x26 : Int32) h27 (h28 : 0 ≤ x26.toInt) (h29 : x26.toInt ≤ 10) => ?_)
    have h30 := z_b32 p4
    refine z_xJ zt218 6 rfl rfl (fun (h31 : x26.toInt ≤ p4.toInt) => ?_) (fun (h31 : p4.toInt < x26.toInt) => ?_)
    · skip
      refine z_xP zt218 8 19 [some (.ref 19), some (.int 0), some (.int p4)] [.int 0] rfl rfl ?_
      refine z_xrz zt218 9 rfl zzr218 (by decide) (by decide) ?_
      show z_ev (d + 5) 259 35 [some (.ref 19), some (.int p1), some (.int p2), some (.int p3), some (.int p4), none, none, none] [.int 0] M0 _
      refine z_xZ zt259 13 rfl rfl (fun (h32 : (0 : Int) ≠ 0) => absurd h32 (by omega)) (fun (h32 : (0 : Int) = 0) => ?_)
      refine z_xP zt259 14 39 [some (.ref 19), some (.int p1), some (.int p2), some (.int p3), some (.int p4), none, none, none] [.int (-1)] rfl rfl ?_
      have qm1 : (((-1) : Int32)).toInt = (-1) := rfl
      exact z_xri zt259 15 rfl zzr259 (kk (-1) M0 X)
    refine z_xP zt218 7 19 [some (.ref 19), some (.int 0), some (.int p4)] [.int 1] rfl rfl ?_
    refine z_xrz zt218 9 rfl zzr218 (by decide) (by decide) ?_
    show z_ev (d + 5) 259 35 [some (.ref 19), some (.int p1), some (.int p2), some (.int p3), some (.int p4), none, none, none] [.int 1] M0 _
    refine z_xZ zt259 13 rfl rfl (fun (h33 : (1 : Int) ≠ 0) => ?_) (fun (h33 : (1 : Int) = 0) => absurd h33 (by omega))
    refine z_xP zt259 16 43 [some (.ref 19), some (.int p1), some (.int p2), some (.int p3), some (.int p4), none, none, none] [.int p3, .int p2, .ref 19] rfl rfl ?_
    refine z_xcV (vs := [.ref 19, .int p2, .int p3]) (r := []) (L2 := [some (.ref 19), some (.int p2), some (.int p3)]) zt259 17 rfl zo259 zzcV12_320 (Or.inl rfl) rfl X f19 rfl rfl rfl (Nat.le_of_ble_eq_true rfl) zzm251 (Nat.le_of_ble_eq_true rfl) rfl ?_
    refine z_xP zt251 0 2 [some (.ref 19), some (.int p2), some (.int p3)] [.int p2, .ref 19] rfl rfl ?_
    refine z_xcV (vs := [.ref 19, .int p2]) (r := []) (L2 := [some (.ref 19), some (.int p2)]) zt251 1 rfl zo251 zzcV12_209 (Or.inl rfl) rfl X f19 rfl rfl rfl (Nat.le_of_ble_eq_true rfl) zzm209 (Nat.le_of_ble_eq_true rfl) rfl ?_
    refine z_xP zt209 0 1 [some (.ref 19), some (.int p2)] [.int p2] rfl rfl ?_
    refine z_xZ zt209 1 rfl rfl (fun (h34 : p2.toInt < 0) => absurd h34 (by omega)) (fun (h34 : 0 ≤ p2.toInt) => ?_)
    refine z_xP zt209 2 6 [some (.ref 19), some (.int p2)] [.ref 19, .int p2] rfl rfl ?_
    refine z_xgv zt209 3 rfl zo209 zzf12_110 X f19 (by decide) h13 ?_
    refine z_xJ zt209 4 rfl rfl (fun (h35 : x14.toInt ≤ p2.toInt) => ?_) (fun (h35 : p2.toInt < x14.toInt) => ?_)
    · skip
      refine z_xP zt209 6 17 [some (.ref 19), some (.int p2)] [.int 0] rfl rfl ?_
      refine z_xrz zt209 7 rfl zzr209 (by decide) (by decide) ?_
      show z_ev (d + 4) 251 5 [some (.ref 19), some (.int p2), some (.int p3)] [.int 0] M0 _
      refine z_xZ zt251 2 rfl rfl (fun (h36 : (0 : Int) = 0) => ?_) (fun (h36 : (0 : Int) ≠ 0) => absurd h36 (by omega))
      refine z_xP zt251 9 21 [some (.ref 19), some (.int p2), some (.int p3)] [.int (-1)] rfl rfl ?_
      refine z_xri zt251 10 rfl zzr251 ?_
      show z_ev (d + 5) 259 46 [some (.ref 19), some (.int p1), some (.int p2), some (.int p3), some (.int p4), none, none, none] [.int (-1)] M0 _
      refine z_xP zt259 18 50 [some (.ref 19), some (.int p1), some (.int p2), some (.int p3), some (.int p4), some (.int (-1)), none, none] [.int (-1)] rfl rfl ?_
      refine z_xZ zt259 19 rfl rfl (fun (h37 : 0 ≤ ((-1) : Int)) => absurd h37 (by omega)) (fun (h37 : ((-1) : Int) < 0) => ?_)
      refine z_xP zt259 20 55 [some (.ref 19), some (.int p1), some (.int p2), some (.int p3), some (.int p4), some (.int (-1)), none, none] [.int (-1)] rfl rfl ?_
      have qm1 : (((-1) : Int32)).toInt = (-1) := rfl
      exact z_xri zt259 21 rfl zzr259 (kk (-1) M0 X)
    refine z_xP zt209 5 17 [some (.ref 19), some (.int p2)] [.int 1] rfl rfl ?_
    refine z_xrz zt209 7 rfl zzr209 (by decide) (by decide) ?_
    show z_ev (d + 4) 251 5 [some (.ref 19), some (.int p2), some (.int p3)] [.int 1] M0 _
    refine z_xZ zt251 2 rfl rfl (fun (h38 : (1 : Int) = 0) => absurd h38 (by omega)) (fun (h38 : (1 : Int) ≠ 0) => ?_)
    refine z_xP zt251 3 9 [some (.ref 19), some (.int p2), some (.int p3)] [.int p3] rfl rfl ?_
    have h39 := z_b32 p3
    refine z_xL zt251 4 rfl rfl (fun (y40 : Int64) (h41 : y40.toInt = p3.toInt) => ?_) (z_qI2L rfl)
    refine z_xP zt251 5 11 [some (.ref 19), some (.int p2), some (.int p3)] [.long 1, .long y40] rfl rfl ?_
    refine z_xl2 zt251 6 rfl zo251 zkl12_318 ?_
    refine z_xcS (vs := [.long y40, .long 1, .long 5]) (r := []) (L2 := [some (.long y40), none, some (.long 1), none, some (.long 5), none]) zt251 7 rfl zo251 zzcS12_116 (Or.inl rfl) (Nat.le_of_ble_eq_true rfl) rfl rfl (Nat.le_of_ble_eq_true rfl) zzm189 (Nat.le_of_ble_eq_true rfl) rfl ?_
    refine z_xP zt189 0 2 [some (.long y40), none, some (.long 1), none, some (.long 5), none] [.long 1, .long y40] rfl rfl ?_
    refine z_xI zt189 1 rfl rfl (fun (x42 : Int32) (h43 : (x42.toInt < 0 ∧ y40.toInt < 1) ∨ (x42.toInt = 0 ∧ y40.toInt = 1) ∨ (0 < x42.toInt ∧ 1 < y40.toInt)) => ?_) (z_qCmp rfl rfl)
    refine z_xZ zt189 2 rfl rfl (fun (h44 : x42.toInt < 0) => ?_) (fun (h44 : 0 ≤ x42.toInt) => ?_)
    · skip
      refine z_xP zt189 7 18 [some (.long y40), none, some (.long 1), none, some (.long 5), none] [.int 0] rfl rfl ?_
      refine z_xrz zt189 8 rfl zzr189 (by decide) (by decide) ?_
      show z_ev (d + 4) 251 17 [some (.ref 19), some (.int p2), some (.int p3)] [.int 0] M0 _
      refine z_xZ zt251 8 rfl rfl (fun (h45 : (0 : Int) ≠ 0) => absurd h45 (by omega)) (fun (h45 : (0 : Int) = 0) => ?_)
      refine z_xP zt251 9 21 [some (.ref 19), some (.int p2), some (.int p3)] [.int (-1)] rfl rfl ?_
      refine z_xri zt251 10 rfl zzr251 ?_
      show z_ev (d + 5) 259 46 [some (.ref 19), some (.int p1), some (.int p2), some (.int p3), some (.int p4), none, none, none] [.int (-1)] M0 _
      refine z_xP zt259 18 50 [some (.ref 19), some (.int p1), some (.int p2), some (.int p3), some (.int p4), some (.int (-1)), none, none] [.int (-1)] rfl rfl ?_
      refine z_xZ zt259 19 rfl rfl (fun (h46 : 0 ≤ ((-1) : Int)) => absurd h46 (by omega)) (fun (h46 : ((-1) : Int) < 0) => ?_)
      refine z_xP zt259 20 55 [some (.ref 19), some (.int p1), some (.int p2), some (.int p3), some (.int p4), some (.int (-1)), none, none] [.int (-1)] rfl rfl ?_
      have qm1 : (((-1) : Int32)).toInt = (-1) := rfl
      exact z_xri zt259 21 rfl zzr259 (kk (-1) M0 X)
    refine z_xP zt189 3 9 [some (.long y40), none, some (.long 1), none, some (.long 5), none] [.long 5, .long y40] rfl rfl ?_
    refine z_xI zt189 4 rfl rfl (fun (x47 : Int32) (h48 : (x47.toInt < 0 ∧ y40.toInt < 5) ∨ (x47.toInt = 0 ∧ y40.toInt = 5) ∨ (0 < x47.toInt ∧ 5 < y40.toInt)) => ?_) (z_qCmp rfl rfl)
    refine z_xZ zt189 5 rfl rfl (fun (h49 : 0 < x47.toInt) => ?_) (fun (h49 : x47.toInt ≤ 0) => ?_)
    · skip
      refine z_xP zt189 7 18 [some (.long y40), none, some (.long 1), none, some (.long 5), none] [.int 0] rfl rfl ?_
      refine z_xrz zt189 8 rfl zzr189 (by decide) (by decide) ?_
      show z_ev (d + 4) 251 17 [some (.ref 19), some (.int p2), some (.int p3)] [.int 0] M0 _
      refine z_xZ zt251 8 rfl rfl (fun (h50 : (0 : Int) ≠ 0) => absurd h50 (by omega)) (fun (h50 : (0 : Int) = 0) => ?_)
      refine z_xP zt251 9 21 [some (.ref 19), some (.int p2), some (.int p3)] [.int (-1)] rfl rfl ?_
      refine z_xri zt251 10 rfl zzr251 ?_
      show z_ev (d + 5) 259 46 [some (.ref 19), some (.int p1), some (.int p2), some (.int p3), some (.int p4), none, none, none] [.int (-1)] M0 _
      refine z_xP zt259 18 50 [some (.ref 19), some (.int p1), some (.int p2), some (.int p3), some (.int p4), some (.int (-1)), none, none] [.int (-1)] rfl rfl ?_
      refine z_xZ zt259 19 rfl rfl (fun (h51 : 0 ≤ ((-1) : Int)) => absurd h51 (by omega)) (fun (h51 : ((-1) : Int) < 0) => ?_)
      refine z_xP zt259 20 55 [some (.ref 19), some (.int p1), some (.int p2), some (.int p3), some (.int p4), some (.int (-1)), none, none] [.int (-1)] rfl rfl ?_
      have qm1 : (((-1) : Int32)).toInt = (-1) := rfl
      exact z_xri zt259 21 rfl zzr259 (kk (-1) M0 X)
    refine z_xP zt189 6 18 [some (.long y40), none, some (.long 1), none, some (.long 5), none] [.int 1] rfl rfl ?_
    refine z_xrz zt189 8 rfl zzr189 (by decide) (by decide) ?_
    show z_ev (d + 4) 251 17 [some (.ref 19), some (.int p2), some (.int p3)] [.int 1] M0 _
    refine z_xZ zt251 8 rfl rfl (fun (h52 : (1 : Int) ≠ 0) => ?_) (fun (h52 : (1 : Int) = 0) => absurd h52 (by omega))
    refine z_xP zt251 11 23 [some (.ref 19), some (.int p2), some (.int p3)] [.ref 19] rfl rfl ?_
    refine z_xgX (b := 31) zt251 12 rfl zo251 zzf12_43 X f19 (by decide) (by decide) rfl ?_
    refine z_xP zt251 13 27 [some (.ref 19), some (.int p2), some (.int p3)] [.int p2, .ref 31] rfl rfl ?_
    have f31 : T[31]? = some (.inr (31, 0, 8, 0, 1024)) := X.1.k rfl (by decide)
    refine z_xil zt251 14 rfl X f31 (by decide) (by omega) (by omega) (fun (x53 : Int32) h54 (h55 : 0 ≤ x53.toInt) (h56 : x53.toInt ≤ 1024) => ?_)
    refine z_xP zt251 15 30 [some (.ref 19), some (.int p2), some (.int p3)] [.int 12, .int x53] rfl rfl ?_
    refine z_xJ zt251 16 rfl rfl (fun (h57 : x53.toInt ≤ 12) => ?_) (fun (h57 : 12 < x53.toInt) => ?_)
    · skip
      refine z_xP zt251 18 39 [some (.ref 19), some (.int p2), some (.int p3)] [.int 0] rfl rfl ?_
      refine z_xri zt251 19 rfl zzr251 ?_
      show z_ev (d + 5) 259 46 [some (.ref 19), some (.int p1), some (.int p2), some (.int p3), some (.int p4), none, none, none] [.int 0] M0 _
      refine z_xP zt259 18 50 [some (.ref 19), some (.int p1), some (.int p2), some (.int p3), some (.int p4), some (.int 0), none, none] [.int 0] rfl rfl ?_
      refine z_xZ zt259 19 rfl rfl (fun (h58 : 0 ≤ (0 : Int)) => ?_) (fun (h58 : (0 : Int) < 0) => absurd h58 (by omega))
      refine z_xP zt259 22 62 [some (.ref 19), some (.int p1), some (.int p2), some (.int p3), some (.int p4), some (.int 0), some (.int 0), none] [.int p3, .int p2, .ref 19] rfl rfl ?_
      refine z_xcV (vs := [.ref 19, .int p2, .int p3]) (r := []) (L2 := [some (.ref 19), some (.int p2), some (.int p3), none]) zt259 23 rfl zo259 zzcV12_323 (Or.inl rfl) rfl X f19 rfl rfl rfl (Nat.le_of_ble_eq_true rfl) zzm252 (Nat.le_of_ble_eq_true rfl) rfl ?_
      have h59 := z_G4u (hR.go X (by decide)) h13 (by omega) (by omega) h54
      refine zC252 X.1 (by omega) (by omega) h54 ⟨by omega, by omega⟩ (fun M60 X61 h62 h63 h64 => ?_)
      have X65 := X.go X61 (z_sb (by decide))
      show z_ev (d + 5) 259 65 [some (.ref 19), some (.int p1), some (.int p2), some (.int p3), some (.int p4), some (.int 0), some (.int 0), none] [] M60 _
      have h67 := z_NBw (L2 := x53.toInt) h62 (by omega)
      refine z_xP zt259 24 68 [some (.ref 19), some (.int p1), some (.int p2), some (.int p3), some (.int p4), some (.int 0), some (.int 0), some (.int 1)] [] rfl rfl ?_
      have h68 := ((congrFun (X61.2.a f31 (by decide)) _).trans h54)
      have h69 := z_V5 h67 (by omega) (by omega) (by omega)
      have q0 : ((0 : Int32)).toInt = 0 := rfl
      have q1 : ((1 : Int32)).toInt = 1 := rfl
      exact (zB259 hR kk 1485176) M60 (0) (0) (1) p2 p3 x53 X65 ⟨by omega, by omega⟩ ⟨by omega, by omega⟩ ⟨by omega, by omega⟩ ⟨by omega, by omega⟩ (by decide) (by decide) h63 ⟨by omega, by omega⟩ h64 ⟨by omega, by omega⟩ h68 ⟨by omega, by omega⟩ (by omega) (by omega) (by omega) (by omega) h67 (by omega)
    refine z_xP zt251 17 39 [some (.ref 19), some (.int p2), some (.int p3)] [.int (-4)] rfl rfl ?_
    refine z_xri zt251 19 rfl zzr251 ?_
    show z_ev (d + 5) 259 46 [some (.ref 19), some (.int p1), some (.int p2), some (.int p3), some (.int p4), none, none, none] [.int (-4)] M0 _
    refine z_xP zt259 18 50 [some (.ref 19), some (.int p1), some (.int p2), some (.int p3), some (.int p4), some (.int (-4)), none, none] [.int (-4)] rfl rfl ?_
    refine z_xZ zt259 19 rfl rfl (fun (h70 : 0 ≤ ((-4) : Int)) => absurd h70 (by omega)) (fun (h70 : ((-4) : Int) < 0) => ?_)
    refine z_xP zt259 20 55 [some (.ref 19), some (.int p1), some (.int p2), some (.int p3), some (.int p4), some (.int (-4)), none, none] [.int (-4)] rfl rfl ?_
    have qm4 : (((-4) : Int32)).toInt = (-4) := rfl
    exact z_xri zt259 21 rfl zzr259 (kk (-4) M0 X)
  refine z_xP zt209 5 17 [some (.ref 19), some (.int p2)] [.int 1] rfl rfl ?_
  refine z_xrz zt209 7 rfl zzr209 (by decide) (by decide) ?_
  show z_ev (d + 5) 259 22 [some (.ref 19), some (.int p1), some (.int p2), some (.int p3), some (.int p4), none, none, none] [.int 1, .ref 19] M0 _
  refine z_xZ zt259 8 rfl rfl (fun (h71 : (1 : Int) = 0) => absurd h71 (by omega)) (fun (h71 : (1 : Int) ≠ 0) => ?_)
  refine z_xP zt259 9 30 [some (.ref 19), some (.int p1), some (.int p2), some (.int p3), some (.int p4), none, none, none] [.int p2, .ref 19] rfl rfl ?_
  refine z_xP zt259 11 32 [some (.ref 19), some (.int p1), some (.int p2), some (.int p3), some (.int p4), none, none, none] [.int p4, .int p2, .ref 19] rfl rfl ?_
  refine z_xcV (vs := [.ref 19, .int p2, .int p4]) (r := []) (L2 := [some (.ref 19), some (.int p2), some (.int p4)]) zt259 12 rfl zo259 zzcV12_225 (Or.inl rfl) rfl X f19 rfl rfl rfl (Nat.le_of_ble_eq_true rfl) zzm218 (Nat.le_of_ble_eq_true rfl) rfl ?_
  refine z_xP zt218 0 1 [some (.ref 19), some (.int p2), some (.int p4)] [.int p4] rfl rfl ?_
  refine z_xZ zt218 1 rfl rfl (fun (h72 : p4.toInt < 0) => ?_) (fun (h72 : 0 ≤ p4.toInt) => ?_)
  · skip
    refine z_xP zt218 8 19 [some (.ref 19), some (.int p2), some (.int p4)] [.int 0] rfl rfl ?_
    refine z_xrz zt218 9 rfl zzr218 (by decide) (by decide) ?_
    show z_ev (d + 5) 259 35 [some (.ref 19), some (.int p1), some (.int p2), some (.int p3), some (.int p4), none, none, none] [.int 0] M0 _
    refine z_xZ zt259 13 rfl rfl (fun (h73 : (0 : Int) ≠ 0) => absurd h73 (by omega)) (fun (h73 : (0 : Int) = 0) => ?_)
    refine z_xP zt259 14 39 [some (.ref 19), some (.int p1), some (.int p2), some (.int p3), some (.int p4), none, none, none] [.int (-1)] rfl rfl ?_
    have qm1 : (((-1) : Int32)).toInt = (-1) := rfl
    exact z_xri zt259 15 rfl zzr259 (kk (-1) M0 X)
  refine z_xP zt218 2 6 [some (.ref 19), some (.int p2), some (.int p4)] [.ref 19, .int p4] rfl rfl ?_
  refine z_xgX (b := 24) zt218 3 rfl zo218 zzf12_22 X f19 (by decide) (by decide) rfl ?_
  refine z_xP zt218 4 10 [some (.ref 19), some (.int p2), some (.int p4)] [.int p2, .ref 24, .int p4] rfl rfl ?_
  have f24 : T[24]? = some (.inr (24, 0, 8, 0, 10)) := X.1.k rfl (by decide)
  refine z_xil zt218 5 rfl X f24 (by decide) (by omega) (by omega) (fun (x74 : Int32) h75 (h76 : 0 ≤ x74.toInt) (h77 : x74.toInt ≤ 10) => ?_)
  have h78 := z_b32 p4
  refine z_xJ zt218 6 rfl rfl (fun (h79 : x74.toInt ≤ p4.toInt) => ?_) (fun (h79 : p4.toInt < x74.toInt) => ?_)
  · skip
    refine z_xP zt218 8 19 [some (.ref 19), some (.int p2), some (.int p4)] [.int 0] rfl rfl ?_
    refine z_xrz zt218 9 rfl zzr218 (by decide) (by decide) ?_
    show z_ev (d + 5) 259 35 [some (.ref 19), some (.int p1), some (.int p2), some (.int p3), some (.int p4), none, none, none] [.int 0] M0 _
    refine z_xZ zt259 13 rfl rfl (fun (h80 : (0 : Int) ≠ 0) => absurd h80 (by omega)) (fun (h80 : (0 : Int) = 0) => ?_)
    refine z_xP zt259 14 39 [some (.ref 19), some (.int p1), some (.int p2), some (.int p3), some (.int p4), none, none, none] [.int (-1)] rfl rfl ?_
    have qm1 : (((-1) : Int32)).toInt = (-1) := rfl
    exact z_xri zt259 15 rfl zzr259 (kk (-1) M0 X)
  refine z_xP zt218 7 19 [some (.ref 19), some (.int p2), some (.int p4)] [.int 1] rfl rfl ?_
  refine z_xrz zt218 9 rfl zzr218 (by decide) (by decide) ?_
  show z_ev (d + 5) 259 35 [some (.ref 19), some (.int p1), some (.int p2), some (.int p3), some (.int p4), none, none, none] [.int 1] M0 _
  refine z_xZ zt259 13 rfl rfl (fun (h81 : (1 : Int) ≠ 0) => ?_) (fun (h81 : (1 : Int) = 0) => absurd h81 (by omega))
  refine z_xP zt259 16 43 [some (.ref 19), some (.int p1), some (.int p2), some (.int p3), some (.int p4), none, none, none] [.int p3, .int p2, .ref 19] rfl rfl ?_
  refine z_xcV (vs := [.ref 19, .int p2, .int p3]) (r := []) (L2 := [some (.ref 19), some (.int p2), some (.int p3)]) zt259 17 rfl zo259 zzcV12_320 (Or.inl rfl) rfl X f19 rfl rfl rfl (Nat.le_of_ble_eq_true rfl) zzm251 (Nat.le_of_ble_eq_true rfl) rfl ?_
  refine z_xP zt251 0 2 [some (.ref 19), some (.int p2), some (.int p3)] [.int p2, .ref 19] rfl rfl ?_
  refine z_xcV (vs := [.ref 19, .int p2]) (r := []) (L2 := [some (.ref 19), some (.int p2)]) zt251 1 rfl zo251 zzcV12_209 (Or.inl rfl) rfl X f19 rfl rfl rfl (Nat.le_of_ble_eq_true rfl) zzm209 (Nat.le_of_ble_eq_true rfl) rfl ?_
  refine z_xP zt209 0 1 [some (.ref 19), some (.int p2)] [.int p2] rfl rfl ?_
  refine z_xZ zt209 1 rfl rfl (fun (h82 : p2.toInt < 0) => absurd h82 (by omega)) (fun (h82 : 0 ≤ p2.toInt) => ?_)
  refine z_xP zt209 2 6 [some (.ref 19), some (.int p2)] [.ref 19, .int p2] rfl rfl ?_
  refine z_xgv zt209 3 rfl zo209 zzf12_110 X f19 (by decide) h13 ?_
  refine z_xJ zt209 4 rfl rfl (fun (h83 : x14.toInt ≤ p2.toInt) => ?_) (fun (h83 : p2.toInt < x14.toInt) => ?_)
  · skip
    refine z_xP zt209 6 17 [some (.ref 19), some (.int p2)] [.int 0] rfl rfl ?_
    refine z_xrz zt209 7 rfl zzr209 (by decide) (by decide) ?_
    show z_ev (d + 4) 251 5 [some (.ref 19), some (.int p2), some (.int p3)] [.int 0] M0 _
    refine z_xZ zt251 2 rfl rfl (fun (h84 : (0 : Int) = 0) => ?_) (fun (h84 : (0 : Int) ≠ 0) => absurd h84 (by omega))
    refine z_xP zt251 9 21 [some (.ref 19), some (.int p2), some (.int p3)] [.int (-1)] rfl rfl ?_
    refine z_xri zt251 10 rfl zzr251 ?_
    show z_ev (d + 5) 259 46 [some (.ref 19), some (.int p1), some (.int p2), some (.int p3), some (.int p4), none, none, none] [.int (-1)] M0 _
    refine z_xP zt259 18 50 [some (.ref 19), some (.int p1), some (.int p2), some (.int p3), some (.int p4), some (.int (-1)), none, none] [.int (-1)] rfl rfl ?_
    refine z_xZ zt259 19 rfl rfl (fun (h85 : 0 ≤ ((-1) : Int)) => absurd h85 (by omega)) (fun (h85 : ((-1) : Int) < 0) => ?_)
    refine z_xP zt259 20 55 [some (.ref 19), some (.int p1), some (.int p2), some (.int p3), some (.int p4), some (.int (-1)), none, none] [.int (-1)] rfl rfl ?_
    have qm1 : (((-1) : Int32)).toInt = (-1) := rfl
    exact z_xri zt259 21 rfl zzr259 (kk (-1) M0 X)
  refine z_xP zt209 5 17 [some (.ref 19), some (.int p2)] [.int 1] rfl rfl ?_
  refine z_xrz zt209 7 rfl zzr209 (by decide) (by decide) ?_
  show z_ev (d + 4) 251 5 [some (.ref 19), some (.int p2), some (.int p3)] [.int 1] M0 _
  refine z_xZ zt251 2 rfl rfl (fun (h86 : (1 : Int) = 0) => absurd h86 (by omega)) (fun (h86 : (1 : Int) ≠ 0) => ?_)
  refine z_xP zt251 3 9 [some (.ref 19), some (.int p2), some (.int p3)] [.int p3] rfl rfl ?_
  have h87 := z_b32 p3
  refine z_xL zt251 4 rfl rfl (fun (y88 : Int64) (h89 : y88.toInt = p3.toInt) => ?_) (z_qI2L rfl)
  refine z_xP zt251 5 11 [some (.ref 19), some (.int p2), some (.int p3)] [.long 1, .long y88] rfl rfl ?_
  refine z_xl2 zt251 6 rfl zo251 zkl12_318 ?_
  refine z_xcS (vs := [.long y88, .long 1, .long 5]) (r := []) (L2 := [some (.long y88), none, some (.long 1), none, some (.long 5), none]) zt251 7 rfl zo251 zzcS12_116 (Or.inl rfl) (Nat.le_of_ble_eq_true rfl) rfl rfl (Nat.le_of_ble_eq_true rfl) zzm189 (Nat.le_of_ble_eq_true rfl) rfl ?_
  refine z_xP zt189 0 2 [some (.long y88), none, some (.long 1), none, some (.long 5), none] [.long 1, .long y88] rfl rfl ?_
  refine z_xI zt189 1 rfl rfl (fun (x90 : Int32) (h91 : (x90.toInt < 0 ∧ y88.toInt < 1) ∨ (x90.toInt = 0 ∧ y88.toInt = 1) ∨ (0 < x90.toInt ∧ 1 < y88.toInt)) => ?_) (z_qCmp rfl rfl)
  refine z_xZ zt189 2 rfl rfl (fun (h92 : x90.toInt < 0) => ?_) (fun (h92 : 0 ≤ x90.toInt) => ?_)
  · skip
    refine z_xP zt189 7 18 [some (.long y88), none, some (.long 1), none, some (.long 5), none] [.int 0] rfl rfl ?_
    refine z_xrz zt189 8 rfl zzr189 (by decide) (by decide) ?_
    show z_ev (d + 4) 251 17 [some (.ref 19), some (.int p2), some (.int p3)] [.int 0] M0 _
    refine z_xZ zt251 8 rfl rfl (fun (h93 : (0 : Int) ≠ 0) => absurd h93 (by omega)) (fun (h93 : (0 : Int) = 0) => ?_)
    refine z_xP zt251 9 21 [some (.ref 19), some (.int p2), some (.int p3)] [.int (-1)] rfl rfl ?_
    refine z_xri zt251 10 rfl zzr251 ?_
    show z_ev (d + 5) 259 46 [some (.ref 19), some (.int p1), some (.int p2), some (.int p3), some (.int p4), none, none, none] [.int (-1)] M0 _
    refine z_xP zt259 18 50 [some (.ref 19), some (.int p1), some (.int p2), some (.int p3), some (.int p4), some (.int (-1)), none, none] [.int (-1)] rfl rfl ?_
    refine z_xZ zt259 19 rfl rfl (fun (h94 : 0 ≤ ((-1) : Int)) => absurd h94 (by omega)) (fun (h94 : ((-1) : Int) < 0) => ?_)
    refine z_xP zt259 20 55 [some (.ref 19), some (.int p1), some (.int p2), some (.int p3), some (.int p4), some (.int (-1)), none, none] [.int (-1)] rfl rfl ?_
    have qm1 : (((-1) : Int32)).toInt = (-1) := rfl
    exact z_xri zt259 21 rfl zzr259 (kk (-1) M0 X)
  refine z_xP zt189 3 9 [some (.long y88), none, some (.long 1), none, some (.long 5), none] [.long 5, .long y88] rfl rfl ?_
  refine z_xI zt189 4 rfl rfl (fun (x95 : Int32) (h96 : (x95.toInt < 0 ∧ y88.toInt < 5) ∨ (x95.toInt = 0 ∧ y88.toInt = 5) ∨ (0 < x95.toInt ∧ 5 < y88.toInt)) => ?_) (z_qCmp rfl rfl)
  refine z_xZ zt189 5 rfl rfl (fun (h97 : 0 < x95.toInt) => ?_) (fun (h97 : x95.toInt ≤ 0) => ?_)
  · skip
    refine z_xP zt189 7 18 [some (.long y88), none, some (.long 1), none, some (.long 5), none] [.int 0] rfl rfl ?_
    refine z_xrz zt189 8 rfl zzr189 (by decide) (by decide) ?_
    show z_ev (d + 4) 251 17 [some (.ref 19), some (.int p2), some (.int p3)] [.int 0] M0 _
    refine z_xZ zt251 8 rfl rfl (fun (h98 : (0 : Int) ≠ 0) => absurd h98 (by omega)) (fun (h98 : (0 : Int) = 0) => ?_)
    refine z_xP zt251 9 21 [some (.ref 19), some (.int p2), some (.int p3)] [.int (-1)] rfl rfl ?_
    refine z_xri zt251 10 rfl zzr251 ?_
    show z_ev (d + 5) 259 46 [some (.ref 19), some (.int p1), some (.int p2), some (.int p3), some (.int p4), none, none, none] [.int (-1)] M0 _
    refine z_xP zt259 18 50 [some (.ref 19), some (.int p1), some (.int p2), some (.int p3), some (.int p4), some (.int (-1)), none, none] [.int (-1)] rfl rfl ?_
    refine z_xZ zt259 19 rfl rfl (fun (h99 : 0 ≤ ((-1) : Int)) => absurd h99 (by omega)) (fun (h99 : ((-1) : Int) < 0) => ?_)
    refine z_xP zt259 20 55 [some (.ref 19), some (.int p1), some (.int p2), some (.int p3), some (.int p4), some (.int (-1)), none, none] [.int (-1)] rfl rfl ?_
    have qm1 : (((-1) : Int32)).toInt = (-1) := rfl
    exact z_xri zt259 21 rfl zzr259 (kk (-1) M0 X)
  refine z_xP zt189 6 18 [some (.long y88), none, some (.long 1), none, some (.long 5), none] [.int 1] rfl rfl ?_
  refine z_xrz zt189 8 rfl zzr189 (by decide) (by decide) ?_
  show z_ev (d + 4) 251 17 [some (.ref 19), some (.int p2), some (.int p3)] [.int 1] M0 _
  refine z_xZ zt251 8 rfl rfl (fun (h100 : (1 : Int) ≠ 0) => ?_) (fun (h100 : (1 : Int) = 0) => absurd h100 (by omega))
  refine z_xP zt251 11 23 [some (.ref 19), some (.int p2), some (.int p3)] [.ref 19] rfl rfl ?_
  refine z_xgX (b := 31) zt251 12 rfl zo251 zzf12_43 X f19 (by decide) (by decide) rfl ?_
  refine z_xP zt251 13 27 [some (.ref 19), some (.int p2), some (.int p3)] [.int p2, .ref 31] rfl rfl ?_
  have f31 : T[31]? = some (.inr (31, 0, 8, 0, 1024)) := X.1.k rfl (by decide)
  refine z_xil zt251 14 rfl X f31 (by decide) (by omega) (by omega) (fun (x101 : Int32) h102 (h103 : 0 ≤ x101.toInt) (h104 : x101.toInt ≤ 1024) => ?_)
  refine z_xP zt251 15 30 [some (.ref 19), some (.int p2), some (.int p3)] [.int 12, .int x101] rfl rfl ?_
  refine z_xJ zt251 16 rfl rfl (fun (h105 : x101.toInt ≤ 12) => ?_) (fun (h105 : 12 < x101.toInt) => ?_)
  · skip
    refine z_xP zt251 18 39 [some (.ref 19), some (.int p2), some (.int p3)] [.int 0] rfl rfl ?_
    refine z_xri zt251 19 rfl zzr251 ?_
    show z_ev (d + 5) 259 46 [some (.ref 19), some (.int p1), some (.int p2), some (.int p3), some (.int p4), none, none, none] [.int 0] M0 _
    refine z_xP zt259 18 50 [some (.ref 19), some (.int p1), some (.int p2), some (.int p3), some (.int p4), some (.int 0), none, none] [.int 0] rfl rfl ?_
    refine z_xZ zt259 19 rfl rfl (fun (h106 : 0 ≤ (0 : Int)) => ?_) (fun (h106 : (0 : Int) < 0) => absurd h106 (by omega))
    refine z_xP zt259 22 62 [some (.ref 19), some (.int p1), some (.int p2), some (.int p3), some (.int p4), some (.int 0), some (.int 0), none] [.int p3, .int p2, .ref 19] rfl rfl ?_
    refine z_xcV (vs := [.ref 19, .int p2, .int p3]) (r := []) (L2 := [some (.ref 19), some (.int p2), some (.int p3), none]) zt259 23 rfl zo259 zzcV12_323 (Or.inl rfl) rfl X f19 rfl rfl rfl (Nat.le_of_ble_eq_true rfl) zzm252 (Nat.le_of_ble_eq_true rfl) rfl ?_
    have h107 := z_G4u (hR.go X (by decide)) h13 (by omega) (by omega) h102
    refine zC252 X.1 (by omega) (by omega) h102 ⟨by omega, by omega⟩ (fun M108 X109 h110 h111 h112 => ?_)
    have X113 := X.go X109 (z_sb (by decide))
    show z_ev (d + 5) 259 65 [some (.ref 19), some (.int p1), some (.int p2), some (.int p3), some (.int p4), some (.int 0), some (.int 0), none] [] M108 _
    have h115 := z_NBw (L2 := x101.toInt) h110 (by omega)
    refine z_xP zt259 24 68 [some (.ref 19), some (.int p1), some (.int p2), some (.int p3), some (.int p4), some (.int 0), some (.int 0), some (.int 1)] [] rfl rfl ?_
    have h116 := ((congrFun (X109.2.a f31 (by decide)) _).trans h102)
    have h117 := z_V5 h115 (by omega) (by omega) (by omega)
    have q0 : ((0 : Int32)).toInt = 0 := rfl
    have q1 : ((1 : Int32)).toInt = 1 := rfl
    exact (zB259 hR kk 1485176) M108 (0) (0) (1) p2 p3 x101 X113 ⟨by omega, by omega⟩ ⟨by omega, by omega⟩ ⟨by omega, by omega⟩ ⟨by omega, by omega⟩ (by decide) (by decide) h111 ⟨by omega, by omega⟩ h112 ⟨by omega, by omega⟩ h116 ⟨by omega, by omega⟩ (by omega) (by omega) (by omega) (by omega) h115 (by omega)
  refine z_xP zt251 17 39 [some (.ref 19), some (.int p2), some (.int p3)] [.int (-4)] rfl rfl ?_
  refine z_xri zt251 19 rfl zzr251 ?_
  show z_ev (d + 5) 259 46 [some (.ref 19), some (.int p1), some (.int p2), some (.int p3), some (.int p4), none, none, none] [.int (-4)] M0 _
  refine z_xP zt259 18 50 [some (.ref 19), some (.int p1), some (.int p2), some (.int p3), some (.int p4), some (.int (-4)), none, none] [.int (-4)] rfl rfl ?_
  refine z_xZ zt259 19 rfl rfl (fun (h118 : 0 ≤ ((-4) : Int)) => absurd h118 (by omega)) (fun (h118 : ((-4) : Int) < 0) => ?_)
  refine z_xP zt259 20 55 [some (.ref 19), some (.int p1), some (.int p2), some (.int p3), some (.int p4), some (.int (-4)), none, none] [.int (-4)] rfl rfl ?_
  have qm4 : (((-4) : Int32)).toInt = (-4) := rfl
  exact z_xri zt259 21 rfl zzr259 (kk (-4) M0 X)
def zw261 : List Nat := [40, 41, 42, 2234, 2235]
theorem zB261 {T : List zK} {d : Nat} {K : Option Value → zH → Prop} {p1 : Int32} {p2 : Int32} {M0 : zH} (u1 : 0 ≤ p1.toInt ∧ p1.toInt ≤ 19) (u2 : 0 ≤ p2.toInt ∧ p2.toInt ≤ 8) (kk : ∀ (x : Int32) (M1 : zH), z_X T zw261 M0 M1 → (-2) ≤ x.toInt → x.toInt ≤ 1023 → K (some (.int x)) M1) : ∀ n : Nat, (∀ (M : zH) (b3 : Int32) (b4 : Int32) (b5 : Int32) (b6 : Int32) (b7 : Int32) (o8 : Option Value), z_X T zw261 M0 M → (-2) ≤ b6.toInt ∧ b6.toInt ≤ 1023 → 0 ≤ b7.toInt ∧ b7.toInt ≤ 1024 → ((0) * 2 + 0) * 1025 + (1024 - b7.toInt) < (n : Int) → z_ev (d + 5) 261 34 [some (.ref 19), some (.int p1), some (.int p2), some (.int b3), some (.int b4), some (.int b5), some (.int b6), some (.int b7), o8] [] M K) := by
  intro n
  induction n with
  | zero => exact by intros; exfalso; omega
  | succ n ih =>
    intro M b3 b4 b5 b6 b7 o8 X hh0 hh1 hE
    refine z_xP zt261 13 37 [some (.ref 19), some (.int p1), some (.int p2), some (.int b3), some (.int b4), some (.int b5), some (.int b6), some (.int b7), o8] [.ref 19, .int b7] rfl rfl ?_
    have f19 : T[19]? = some (.inl (12, 0, 0, 0, 0)) := X.1.k rfl (by decide)
    refine z_xgX (b := 31) zt261 14 rfl zo261 zzf12_43 X f19 (by decide) (by decide) rfl ?_
    refine z_xP zt261 15 41 [some (.ref 19), some (.int p1), some (.int p2), some (.int b3), some (.int b4), some (.int b5), some (.int b6), some (.int b7), o8] [.ref 19, .ref 31, .int b7] rfl rfl ?_
    refine z_xgI zt261 16 rfl zo261 zzf12_242 X f19 (by decide) (by decide) rfl (fun (x2 : Int32) h1 (h3 : 0 ≤ x2.toInt) (h4 : x2.toInt ≤ 7) => ?_)
    have f31 : T[31]? = some (.inr (31, 0, 8, 0, 1024)) := X.1.k rfl (by decide)
    refine z_xil zt261 17 rfl X f31 (by decide) (by omega) (by omega) (fun (x5 : Int32) h6 (h7 : 0 ≤ x5.toInt) (h8 : x5.toInt ≤ 1024) => ?_)
    refine z_xJ zt261 18 rfl rfl (fun (h9 : x5.toInt ≤ b7.toInt) => ?_) (fun (h9 : b7.toInt < x5.toInt) => ?_)
    · skip
      refine z_xP zt261 52 128 [some (.ref 19), some (.int p1), some (.int p2), some (.int b3), some (.int b4), some (.int b5), some (.int b6), some (.int b7), o8] [.ref 19] rfl rfl ?_
      refine z_xgX (b := 40) zt261 53 rfl zo261 zzf12_70 X f19 (by decide) (by decide) rfl ?_
      refine z_xP zt261 54 133 [some (.ref 19), some (.int p1), some (.int p2), some (.int b3), some (.int b4), some (.int b5), some (.int b6), some (.int b7), o8] [.int b3, .int p2, .ref 40] rfl rfl ?_
      have f40 : T[40]? = some (.inr (40, 0, 9, (-2147483648), 2147483647)) := X.1.k rfl (by decide)
      refine z_xis zt261 55 rfl X f40 (by decide) (by decide) (by omega) (by omega) (Int32.le_toInt _) (Int32.toInt_le _) (by decide) (fun M10 X11 e12 h13 => ?_)
      refine z_xP zt261 56 135 [some (.ref 19), some (.int p1), some (.int p2), some (.int b3), some (.int b4), some (.int b5), some (.int b6), some (.int b7), o8] [.ref 19] rfl rfl ?_
      refine z_xgX (b := 41) zt261 57 rfl zo261 zzf12_73 X11 f19 (by decide) (by decide) rfl ?_
      refine z_xP zt261 58 141 [some (.ref 19), some (.int p1), some (.int p2), some (.int b3), some (.int b4), some (.int b5), some (.int b6), some (.int b7), o8] [.int b4, .int p2, .ref 41] rfl rfl ?_
      have f41 : T[41]? = some (.inr (41, 0, 9, (-2147483648), 2147483647)) := X11.1.k rfl (by decide)
      refine z_xis zt261 59 rfl X11 f41 (by decide) (by decide) (by omega) (by omega) (Int32.le_toInt _) (Int32.toInt_le _) (by decide) (fun M14 X15 e16 h17 => ?_)
      refine z_xP zt261 60 144 [some (.ref 19), some (.int p1), some (.int p2), some (.int b3), some (.int b4), some (.int b5), some (.int b6), some (.int b7), o8] [.int b6] rfl rfl ?_
      exact z_xri zt261 61 rfl zzr261 (kk b6 M14 X15 (by omega) (by omega))
    refine z_xP zt261 19 49 [some (.ref 19), some (.int p1), some (.int p2), some (.int b3), some (.int b4), some (.int b5), some (.int b6), some (.int b7), o8] [.ref 19] rfl rfl ?_
    refine z_xgX (b := 30) zt261 20 rfl zo261 zzf12_40 X f19 (by decide) (by decide) rfl ?_
    refine z_xP zt261 21 56 [some (.ref 19), some (.int p1), some (.int p2), some (.int b3), some (.int b4), some (.int b5), some (.int b6), some (.int b7), o8] [.ref 19, .int 1024, .ref 30] rfl rfl ?_
    refine z_xgv zt261 22 rfl zo261 zzf12_242 X f19 (by decide) h1 ?_
    refine z_xI zt261 23 rfl rfl (fun (x18 : Int32) (h19 : x18.toInt = 1024 * x2.toInt) => ?_) (z_pMul rfl rfl (by omega) (by omega))
    refine z_xP zt261 24 62 [some (.ref 19), some (.int p1), some (.int p2), some (.int b3), some (.int b4), some (.int b5), some (.int b6), some (.int b7), o8] [.int b7, .int x18, .ref 30] rfl rfl ?_
    refine z_xI zt261 25 rfl rfl (fun (x20 : Int32) (h21 : x20.toInt = x18.toInt + b7.toInt) => ?_) (z_pAdd rfl rfl (by omega) (by omega))
    have f30 : T[30]? = some (.inr (30, 0, 8192, 0, 1023)) := X.1.k rfl (by decide)
    refine z_xil zt261 26 rfl X f30 (by decide) (by omega) (by omega) (fun (x22 : Int32) h23 (h24 : 0 ≤ x22.toInt) (h25 : x22.toInt ≤ 1023) => ?_)
    refine z_xP zt261 27 69 [some (.ref 19), some (.int p1), some (.int p2), some (.int b3), some (.int b4), some (.int b5), some (.int b6), some (.int b7), some (.int x22)] [.int b3, .int x22] rfl rfl ?_
    have h26 := z_b32 b3
    refine z_xJ zt261 28 rfl rfl (fun (h27 : x22.toInt = b3.toInt) => ?_) (fun (h27 : x22.toInt ≠ b3.toInt) => ?_)
    · skip
      refine z_xN zt261 50 rfl rfl (fun (x28 : Int32) (h29 : x28.toInt = b7.toInt + 1) => ?_) (z_pAdd rfl rfl (by omega) (by omega))
      show z_ev (d + 5) 261 124 [some (.ref 19), some (.int p1), some (.int p2), some (.int b3), some (.int b4), some (.int b5), some (.int b6), some (.int x28), some (.int x22)] [] M _
      refine z_xP zt261 51 34 [some (.ref 19), some (.int p1), some (.int p2), some (.int b3), some (.int b4), some (.int b5), some (.int b6), some (.int x28), some (.int x22)] [] rfl rfl ?_
      exact ih M b3 b4 b5 b6 x28 (some (.int x22)) X ⟨by omega, by omega⟩ ⟨by omega, by omega⟩ (by omega)
    refine z_xP zt261 29 73 [some (.ref 19), some (.int p1), some (.int p2), some (.int b3), some (.int b4), some (.int b5), some (.int b6), some (.int b7), some (.int x22)] [.ref 19] rfl rfl ?_
    refine z_xgX (b := 40) zt261 30 rfl zo261 zzf12_70 X f19 (by decide) (by decide) rfl ?_
    refine z_xP zt261 31 79 [some (.ref 19), some (.int p1), some (.int p2), some (.int b3), some (.int b4), some (.int b5), some (.int b6), some (.int b7), some (.int x22)] [.int x22, .int p2, .ref 40] rfl rfl ?_
    have f40 : T[40]? = some (.inr (40, 0, 9, (-2147483648), 2147483647)) := X.1.k rfl (by decide)
    refine z_xis zt261 32 rfl X f40 (by decide) (by decide) (by omega) (by omega) (Int32.le_toInt _) (Int32.toInt_le _) (by decide) (fun M30 X31 e32 h33 => ?_)
    refine z_xP zt261 33 81 [some (.ref 19), some (.int p1), some (.int p2), some (.int b3), some (.int b4), some (.int b5), some (.int b6), some (.int b7), some (.int x22)] [.ref 19] rfl rfl ?_
    refine z_xgX (b := 41) zt261 34 rfl zo261 zzf12_73 X31 f19 (by decide) (by decide) rfl ?_
    refine z_xP zt261 35 86 [some (.ref 19), some (.int p1), some (.int p2), some (.int b3), some (.int b4), some (.int b5), some (.int b6), some (.int b7), some (.int x22)] [.ref 19, .int p2, .ref 41] rfl rfl ?_
    refine z_xcV (vs := [.ref 19]) (r := [.int p2, .ref 41]) (L2 := [some (.ref 19)]) zt261 36 rfl zo261 zzcV12_248 (Or.inl rfl) rfl X31 f19 rfl rfl rfl (Nat.le_of_ble_eq_true rfl) zzm240 (Nat.le_of_ble_eq_true rfl) rfl ?_
    refine z_xP zt240 0 2 [some (.ref 19)] [.ref 19, .int 1] rfl rfl ?_
    refine z_xgX (b := 24) zt240 1 rfl zo240 zzf12_22 X31 f19 (by decide) (by decide) rfl ?_
    refine z_xP zt240 2 6 [some (.ref 19)] [.ref 19, .ref 24, .int 1] rfl rfl ?_
    have h34 := (e32.f f19 (by decide) h1)
    refine z_xgv zt240 3 rfl zo240 zzf12_242 X31 f19 (by decide) h34 ?_
    have f24 : T[24]? = some (.inr (24, 0, 8, 0, 10)) := X31.1.k rfl (by decide)
    refine z_xil zt240 4 rfl X31 f24 (by decide) (by omega) (by omega) (fun (x35 : Int32) h36 (h37 : 0 ≤ x35.toInt) (h38 : x35.toInt ≤ 10) => ?_)
    refine z_xI zt240 5 rfl rfl (fun (x39 : Int32) (h40 : 1 ≤ x39.toInt ∧ x39.toInt ≤ 1024) => ?_) (z_pShlB (a := 1) (b := 10) (c := 1024) (r := 1024) rfl rfl (by omega) (by omega) (by omega) (by omega) (by decide) (by decide) (by decide) (by decide))
    refine z_xP zt240 6 12 [some (.ref 19)] [.int 1, .int x39] rfl rfl ?_
    refine z_xI zt240 7 rfl rfl (fun (x41 : Int32) (h42 : x41.toInt = x39.toInt - 1) => ?_) (z_pSub rfl rfl (by omega) (by omega))
    refine z_xri zt240 8 rfl zzr240 ?_
    show z_ev (d + 5) 261 89 [some (.ref 19), some (.int p1), some (.int p2), some (.int b3), some (.int b4), some (.int b5), some (.int b6), some (.int b7), some (.int x22)] [.int x41, .int p2, .ref 41] M30 _
    refine z_xP zt261 37 92 [some (.ref 19), some (.int p1), some (.int p2), some (.int b3), some (.int b4), some (.int b5), some (.int b6), some (.int b7), some (.int x22)] [.int (-1), .int x22, .int x41, .int p2, .ref 41] rfl rfl ?_
    refine z_xI zt261 38 rfl rfl (P := fun _ => True) (fun (x43 : Int32) _ => ?_) trivial
    refine z_xI zt261 39 rfl rfl (fun (x45 : Int32) (h46 : 0 ≤ x45.toInt ∧ x45.toInt ≤ x41.toInt) => ?_) (z_pAndL rfl (by omega))
    have f41 : T[41]? = some (.inr (41, 0, 9, (-2147483648), 2147483647)) := X31.1.k rfl (by decide)
    refine z_xis zt261 40 rfl X31 f41 (by decide) (by decide) (by omega) (by omega) (Int32.le_toInt _) (Int32.toInt_le _) (by decide) (fun M47 X48 e49 h50 => ?_)
    refine z_xP zt261 41 97 [some (.ref 19), some (.int p1), some (.int p2), some (.int b3), some (.int b4), some (.int b5), some (.int b6), some (.int b7), some (.int x22)] [.int p1, .ref 19] rfl rfl ?_
    refine z_xcV (vs := [.ref 19, .int p1]) (r := []) (L2 := [some (.ref 19), some (.int p1), none]) zt261 42 rfl zo261 zzcV12_303 (Or.inl rfl) rfl X48 f19 rfl rfl rfl (Nat.le_of_ble_eq_true rfl) zzm239 (Nat.le_of_ble_eq_true rfl) rfl ?_
    refine zC239 X48.1 (by omega) (fun M51 X52  => ?_)
    have X53 := X48.go X52 (z_sb (by decide))
    show z_ev (d + 5) 261 100 [some (.ref 19), some (.int p1), some (.int p2), some (.int b3), some (.int b4), some (.int b5), some (.int b6), some (.int b7), some (.int x22)] [] M51 _
    refine z_xP zt261 43 102 [some (.ref 19), some (.int p1), some (.int p2), some (.int b3), some (.int b4), some (.int b5), some (.int b6), some (.int b7), some (.int x22)] [.int b3, .ref 19] rfl rfl ?_
    refine z_xcV (vs := [.ref 19, .int b3]) (r := []) (L2 := [some (.ref 19), some (.int b3)]) zt261 44 rfl zo261 zzcV12_333 (Or.inl rfl) rfl X53 f19 rfl rfl rfl (Nat.le_of_ble_eq_true rfl) zzm262 (Nat.le_of_ble_eq_true rfl) rfl ?_
    refine z_xP zt262 0 1 [some (.ref 19), some (.int b3)] [.ref 19] rfl rfl ?_
    refine z_xgX (b := 24) zt262 1 rfl zo262 zzf12_22 X53 f19 (by decide) (by decide) rfl ?_
    refine z_xP zt262 2 5 [some (.ref 19), some (.int b3)] [.ref 19, .ref 24] rfl rfl ?_
    have h55 := (X52.2.f f19 (by decide) (e49.f f19 (by decide) h34))
    refine z_xgv zt262 3 rfl zo262 zzf12_242 X53 f19 (by decide) h55 ?_
    refine z_xil zt262 4 rfl X53 f24 (by decide) (by omega) (by omega) (fun (x56 : Int32) h57 (h58 : 0 ≤ x56.toInt) (h59 : x56.toInt ≤ 10) => ?_)
    have h60 := congrArg Int32.toInt (h57.symm.trans ((congrFun (X52.2.a f24 (by decide)) _).trans ((congrFun (e49.a f24 (by decide)) _).trans h36)))
    refine z_xP zt262 5 10 [some (.ref 19), some (.int b3)] [.ref 19, .int x56] rfl rfl ?_
    refine z_xgI zt262 6 rfl zo262 zzf12_275 X53 f19 (by decide) (by decide) rfl (fun (x62 : Int32) h61 (h63 : (-2147483648) ≤ x62.toInt) (h64 : x62.toInt ≤ 2147483647) => ?_)
    refine z_xP zt262 7 14 [some (.ref 19), some (.int b3)] [.int b3, .int x62, .int x56] rfl rfl ?_
    refine z_xI zt262 8 rfl rfl (P := fun _ => True) (fun (x65 : Int32) _ => ?_) trivial
    refine z_xP zt262 9 16 [some (.ref 19), some (.int b3)] [.ref 19, .int x65, .int x56] rfl rfl ?_
    refine z_xgI zt262 10 rfl zo262 zzf12_278 X53 f19 (by decide) (by decide) rfl (fun (x68 : Int32) h67 (h69 : (-2147483648) ≤ x68.toInt) (h70 : x68.toInt ≤ 2147483647) => ?_)
    refine z_xP zt262 11 21 [some (.ref 19), some (.int b3)] [.int (-1), .int b3, .int x68, .int x65, .int x56] rfl rfl ?_
    refine z_xI zt262 12 rfl rfl (P := fun _ => True) (fun (x71 : Int32) _ => ?_) trivial
    refine z_xI zt262 13 rfl rfl (P := fun _ => True) (fun (x73 : Int32) _ => ?_) trivial
    refine z_xI zt262 14 rfl rfl (P := fun _ => True) (fun (x75 : Int32) _ => ?_) trivial
    refine z_xcS (vs := [.int x75]) (r := [.int x56]) (L2 := [some (.int x75), none, none]) zt262 15 rfl zo262 zzcS12_193 (Or.inl rfl) (Nat.le_of_ble_eq_true rfl) rfl rfl (Nat.le_of_ble_eq_true rfl) zzm207 (Nat.le_of_ble_eq_true rfl) rfl ?_
    refine zC207 X53.1 (fun x79 M77 X78  => ?_)
    have X80 := X53.go X78 (z_sb (by decide))
    show z_ev (d + 4) 262 27 [some (.ref 19), some (.int b3)] [.int x79, .int x56] M77 _
    have h82 := z_b32 x79
    refine z_xI zt262 16 rfl rfl (P := fun _ => True) (fun (x83 : Int32) _ => ?_) trivial
    refine z_xri zt262 17 rfl zzr262 ?_
    show z_ev (d + 5) 261 105 [some (.ref 19), some (.int p1), some (.int p2), some (.int b3), some (.int b4), some (.int b5), some (.int b6), some (.int b7), some (.int x22)] [.int x83] M77 _
    refine z_xP zt261 45 107 [some (.ref 19), some (.int p1), some (.int p2), some (.int b3), some (.int b4), some (.int b5), some (.int b6), some (.int b7), some (.int x22)] [.int b5, .int x83] rfl rfl ?_
    have h85 := z_b32 x83
    have h86 := z_b32 b5
    refine z_xJ zt261 46 rfl rfl (fun (h87 : b5.toInt ≤ x83.toInt) => ?_) (fun (h87 : x83.toInt < b5.toInt) => ?_)
    · skip
      refine z_xN zt261 50 rfl rfl (fun (x88 : Int32) (h89 : x88.toInt = b7.toInt + 1) => ?_) (z_pAdd rfl rfl (by omega) (by omega))
      show z_ev (d + 5) 261 124 [some (.ref 19), some (.int p1), some (.int p2), some (.int b3), some (.int b4), some (.int b5), some (.int b6), some (.int x88), some (.int x22)] [] M77 _
      refine z_xP zt261 51 34 [some (.ref 19), some (.int p1), some (.int p2), some (.int b3), some (.int b4), some (.int b5), some (.int b6), some (.int x88), some (.int x22)] [] rfl rfl ?_
      exact ih M77 b3 b4 b5 b6 x88 (some (.int x22)) X80 ⟨by omega, by omega⟩ ⟨by omega, by omega⟩ (by omega)
    refine z_xP zt261 47 112 [some (.ref 19), some (.int p1), some (.int p2), some (.int b3), some (.int b4), some (.int b5), some (.int b6), some (.int b7), some (.int x22)] [.int b3, .ref 19] rfl rfl ?_
    refine z_xcV (vs := [.ref 19, .int b3]) (r := []) (L2 := [some (.ref 19), some (.int b3)]) zt261 48 rfl zo261 zzcV12_333 (Or.inl rfl) rfl X80 f19 rfl rfl rfl (Nat.le_of_ble_eq_true rfl) zzm262 (Nat.le_of_ble_eq_true rfl) rfl ?_
    refine z_xP zt262 0 1 [some (.ref 19), some (.int b3)] [.ref 19] rfl rfl ?_
    refine z_xgX (b := 24) zt262 1 rfl zo262 zzf12_22 X80 f19 (by decide) (by decide) rfl ?_
    refine z_xP zt262 2 5 [some (.ref 19), some (.int b3)] [.ref 19, .ref 24] rfl rfl ?_
    have h90 := (X78.2.f f19 (by decide) h55)
    refine z_xgv zt262 3 rfl zo262 zzf12_242 X80 f19 (by decide) h90 ?_
    refine z_xil zt262 4 rfl X80 f24 (by decide) (by omega) (by omega) (fun (x91 : Int32) h92 (h93 : 0 ≤ x91.toInt) (h94 : x91.toInt ≤ 10) => ?_)
    have h95 := congrArg Int32.toInt (h92.symm.trans ((congrFun (X78.2.a f24 (by decide)) _).trans ((congrFun (X52.2.a f24 (by decide)) _).trans ((congrFun (e49.a f24 (by decide)) _).trans h36))))
    refine z_xP zt262 5 10 [some (.ref 19), some (.int b3)] [.ref 19, .int x91] rfl rfl ?_
    have h96 := (X78.2.f f19 (by decide) h61)
    refine z_xgv zt262 6 rfl zo262 zzf12_275 X80 f19 (by decide) h96 ?_
    refine z_xP zt262 7 14 [some (.ref 19), some (.int b3)] [.int b3, .int x62, .int x91] rfl rfl ?_
    refine z_xI zt262 8 rfl rfl (P := fun _ => True) (fun (x97 : Int32) _ => ?_) trivial
    refine z_xP zt262 9 16 [some (.ref 19), some (.int b3)] [.ref 19, .int x97, .int x91] rfl rfl ?_
    have h99 := (X78.2.f f19 (by decide) h67)
    refine z_xgv zt262 10 rfl zo262 zzf12_278 X80 f19 (by decide) h99 ?_
    refine z_xP zt262 11 21 [some (.ref 19), some (.int b3)] [.int (-1), .int b3, .int x68, .int x97, .int x91] rfl rfl ?_
    refine z_xI zt262 12 rfl rfl (P := fun _ => True) (fun (x100 : Int32) _ => ?_) trivial
    refine z_xI zt262 13 rfl rfl (P := fun _ => True) (fun (x102 : Int32) _ => ?_) trivial
    refine z_xI zt262 14 rfl rfl (P := fun _ => True) (fun (x104 : Int32) _ => ?_) trivial
    refine z_xcS (vs := [.int x104]) (r := [.int x91]) (L2 := [some (.int x104), none, none]) zt262 15 rfl zo262 zzcS12_193 (Or.inl rfl) (Nat.le_of_ble_eq_true rfl) rfl rfl (Nat.le_of_ble_eq_true rfl) zzm207 (Nat.le_of_ble_eq_true rfl) rfl ?_
    refine zC207 X80.1 (fun x108 M106 X107  => ?_)
    have X109 := X80.go X107 (z_sb (by decide))
    show z_ev (d + 4) 262 27 [some (.ref 19), some (.int b3)] [.int x108, .int x91] M106 _
    have h111 := z_b32 x108
    refine z_xI zt262 16 rfl rfl (P := fun _ => True) (fun (x112 : Int32) _ => ?_) trivial
    refine z_xri zt262 17 rfl zzr262 ?_
    show z_ev (d + 5) 261 115 [some (.ref 19), some (.int p1), some (.int p2), some (.int b3), some (.int b4), some (.int b5), some (.int b6), some (.int b7), some (.int x22)] [.int x112] M106 _
    refine z_xP zt261 49 121 [some (.ref 19), some (.int p1), some (.int p2), some (.int b3), some (.int b4), some (.int x112), some (.int x22), some (.int b7), some (.int x22)] [] rfl rfl ?_
    refine z_xN zt261 50 rfl rfl (fun (x114 : Int32) (h115 : x114.toInt = b7.toInt + 1) => ?_) (z_pAdd rfl rfl (by omega) (by omega))
    show z_ev (d + 5) 261 124 [some (.ref 19), some (.int p1), some (.int p2), some (.int b3), some (.int b4), some (.int x112), some (.int x22), some (.int x114), some (.int x22)] [] M106 _
    refine z_xP zt261 51 34 [some (.ref 19), some (.int p1), some (.int p2), some (.int b3), some (.int b4), some (.int x112), some (.int x22), some (.int x114), some (.int x22)] [] rfl rfl ?_
    exact ih M106 b3 b4 x112 x22 x114 (some (.int x22)) X109 ⟨by omega, by omega⟩ ⟨by omega, by omega⟩ (by omega)
theorem zC261 {T : List zK} {d : Nat} {K : Option Value → zH → Prop} {p1 : Int32} {p2 : Int32} {M0 : zH} (hW : z_W M0 T) (u1 : 0 ≤ p1.toInt ∧ p1.toInt ≤ 19) (u2 : 0 ≤ p2.toInt ∧ p2.toInt ≤ 8) (kk : ∀ (x : Int32) (M1 : zH), z_X T zw261 M0 M1 → (-2) ≤ x.toInt → x.toInt ≤ 1023 → K (some (.int x)) M1) : z_ev (d + 5) 261 0 [some (.ref 19), some (.int p1), some (.int p2), none, none, none, none, none, none] [] M0 K := by
  have X : z_X T zw261 M0 M0 := .refl hW
  refine z_xP zt261 0 1 [some (.ref 19), some (.int p1), some (.int p2), none, none, none, none, none, none] [.ref 19] rfl rfl ?_
  have f19 : T[19]? = some (.inl (12, 0, 0, 0, 0)) := X.1.k rfl (by decide)
  refine z_xgX (b := 40) zt261 1 rfl zo261 zzf12_70 X f19 (by decide) (by decide) rfl ?_
  refine z_xP zt261 2 5 [some (.ref 19), some (.int p1), some (.int p2), none, none, none, none, none, none] [.int p2, .ref 40] rfl rfl ?_
  have f40 : T[40]? = some (.inr (40, 0, 9, (-2147483648), 2147483647)) := X.1.k rfl (by decide)
  refine z_xil zt261 3 rfl X f40 (by decide) (by omega) (by omega) (fun (x1 : Int32) h2 (h3 : (-2147483648) ≤ x1.toInt) (h4 : x1.toInt ≤ 2147483647) => ?_)
  refine z_xP zt261 4 8 [some (.ref 19), some (.int p1), some (.int p2), some (.int x1), none, none, none, none, none] [.ref 19] rfl rfl ?_
  refine z_xgX (b := 41) zt261 5 rfl zo261 zzf12_73 X f19 (by decide) (by decide) rfl ?_
  refine z_xP zt261 6 12 [some (.ref 19), some (.int p1), some (.int p2), some (.int x1), none, none, none, none, none] [.int p2, .ref 41] rfl rfl ?_
  have f41 : T[41]? = some (.inr (41, 0, 9, (-2147483648), 2147483647)) := X.1.k rfl (by decide)
  refine z_xil zt261 7 rfl X f41 (by decide) (by omega) (by omega) (fun (x5 : Int32) h6 (h7 : (-2147483648) ≤ x5.toInt) (h8 : x5.toInt ≤ 2147483647) => ?_)
  refine z_xP zt261 8 17 [some (.ref 19), some (.int p1), some (.int p2), some (.int x1), some (.int x5), none, none, none, none] [.int p1, .ref 19] rfl rfl ?_
  refine z_xcV (vs := [.ref 19, .int p1]) (r := []) (L2 := [some (.ref 19), some (.int p1), none]) zt261 9 rfl zo261 zzcV12_303 (Or.inl rfl) rfl X f19 rfl rfl rfl (Nat.le_of_ble_eq_true rfl) zzm239 (Nat.le_of_ble_eq_true rfl) rfl ?_
  refine zC239 X.1 (by omega) (fun M9 X10  => ?_)
  have X11 := X.go X10 (z_sb (by decide))
  show z_ev (d + 5) 261 20 [some (.ref 19), some (.int p1), some (.int p2), some (.int x1), some (.int x5), none, none, none, none] [] M9 _
  refine z_xP zt261 10 22 [some (.ref 19), some (.int p1), some (.int p2), some (.int x1), some (.int x5), none, none, none, none] [.int x1, .ref 19] rfl rfl ?_
  refine z_xcV (vs := [.ref 19, .int x1]) (r := []) (L2 := [some (.ref 19), some (.int x1)]) zt261 11 rfl zo261 zzcV12_333 (Or.inl rfl) rfl X11 f19 rfl rfl rfl (Nat.le_of_ble_eq_true rfl) zzm262 (Nat.le_of_ble_eq_true rfl) rfl ?_
  refine z_xP zt262 0 1 [some (.ref 19), some (.int x1)] [.ref 19] rfl rfl ?_
  refine z_xgX (b := 24) zt262 1 rfl zo262 zzf12_22 X11 f19 (by decide) (by decide) rfl ?_
  refine z_xP zt262 2 5 [some (.ref 19), some (.int x1)] [.ref 19, .ref 24] rfl rfl ?_
  refine z_xgI zt262 3 rfl zo262 zzf12_242 X11 f19 (by decide) (by decide) rfl (fun (x14 : Int32) h13 (h15 : 0 ≤ x14.toInt) (h16 : x14.toInt ≤ 7) => ?_)
  have f24 : T[24]? = some (.inr (24, 0, 8, 0, 10)) := X11.1.k rfl (by decide)
  refine z_xil zt262 4 rfl X11 f24 (by decide) (by omega) (by omega) (fun (x17 : Int32) h18 (h19 : 0 ≤ x17.toInt) (h20 : x17.toInt ≤ 10) => ?_)
  refine z_xP zt262 5 10 [some (.ref 19), some (.int x1)] [.ref 19, .int x17] rfl rfl ?_
  refine z_xgI zt262 6 rfl zo262 zzf12_275 X11 f19 (by decide) (by decide) rfl (fun (x22 : Int32) h21 (h23 : (-2147483648) ≤ x22.toInt) (h24 : x22.toInt ≤ 2147483647) => ?_)
  refine z_xP zt262 7 14 [some (.ref 19), some (.int x1)] [.int x1, .int x22, .int x17] rfl rfl ?_
  refine z_xI zt262 8 rfl rfl (P := fun _ => True) (fun (x25 : Int32) _ => ?_) trivial
  refine z_xP zt262 9 16 [some (.ref 19), some (.int x1)] [.ref 19, .int x25, .int x17] rfl rfl ?_
  refine z_xgI zt262 10 rfl zo262 zzf12_278 X11 f19 (by decide) (by decide) rfl (fun (x28 : Int32) h27 (h29 : (-2147483648) ≤ x28.toInt) (h30 : x28.toInt ≤ 2147483647) => ?_)
  refine z_xP zt262 11 21 [some (.ref 19), some (.int x1)] [.int (-1), .int x1, .int x28, .int x25, .int x17] rfl rfl ?_
  refine z_xI zt262 12 rfl rfl (P := fun _ => True) (fun (x31 : Int32) _ => ?_) trivial
  refine z_xI zt262 13 rfl rfl (P := fun _ => True) (fun (x33 : Int32) _ => ?_) trivial
  refine z_xI zt262 14 rfl rfl (P := fun _ => True) (fun (x35 : Int32) _ => ?_) trivial
  refine z_xcS (vs := [.int x35]) (r := [.int x17]) (L2 := [some (.int x35), none, none]) zt262 15 rfl zo262 zzcS12_193 (Or.inl rfl) (Nat.le_of_ble_eq_true rfl) rfl rfl (Nat.le_of_ble_eq_true rfl) zzm207 (Nat.le_of_ble_eq_true rfl) rfl ?_
  refine zC207 X11.1 (fun x39 M37 X38  => ?_)
  have X40 := X11.go X38 (z_sb (by decide))
  show z_ev (d + 4) 262 27 [some (.ref 19), some (.int x1)] [.int x39, .int x17] M37 _
  have h42 := z_b32 x39
  refine z_xI zt262 16 rfl rfl (P := fun _ => True) (fun (x43 : Int32) _ => ?_) trivial
  refine z_xri zt262 17 rfl zzr262 ?_
  show z_ev (d + 5) 261 25 [some (.ref 19), some (.int p1), some (.int p2), some (.int x1), some (.int x5), none, none, none, none] [.int x43] M37 _
  refine z_xP zt261 12 34 [some (.ref 19), some (.int p1), some (.int p2), some (.int x1), some (.int x5), some (.int x43), some (.int (-2)), some (.int 0), none] [] rfl rfl ?_
  have qm2 : (((-2) : Int32)).toInt = (-2) := rfl
  have q0 : ((0 : Int32)).toInt = 0 := rfl
  exact (zB261 u1 u2 kk 2050) M37 x1 x5 x43 ((-2)) (0) none X40 (by decide) (by decide) (by omega)
def zw260 : List Nat := [39, 40, 41, 42, 2229, 2230, 2234, 2235]
theorem zC260 {T : List zK} {d : Nat} {K : Option Value → zH → Prop} {p1 : Int32} {p2 : Int32} {p3 : Int32} {M0 : zH} (hW : z_W M0 T)  (kk : ∀ (x : Int32) (M1 : zH), z_X T zw260 M0 M1 → (-2) ≤ x.toInt → x.toInt ≤ 1023 → K (some (.int x)) M1) : z_ev (d + 6) 260 0 [some (.ref 19), some (.int p1), some (.int p2), some (.int p3)] [] M0 K := by
  have X : z_X T zw260 M0 M0 := .refl hW
  refine z_xP zt260 0 2 [some (.ref 19), some (.int p1), some (.int p2), some (.int p3)] [.int p1, .ref 19] rfl rfl ?_
  have f19 : T[19]? = some (.inl (12, 0, 0, 0, 0)) := X.1.k rfl (by decide)
  refine z_xcV (vs := [.ref 19, .int p1]) (r := []) (L2 := [some (.ref 19), some (.int p1)]) zt260 1 rfl zo260 zzcV12_272 (Or.inl rfl) rfl X f19 rfl rfl rfl (Nat.le_of_ble_eq_true rfl) zzm237 (Nat.le_of_ble_eq_true rfl) rfl ?_
  refine z_xP zt237 0 1 [some (.ref 19), some (.int p1)] [.int p1] rfl rfl ?_
  refine z_xZ zt237 1 rfl rfl (fun (h1 : p1.toInt < 0) => ?_) (fun (h1 : 0 ≤ p1.toInt) => ?_)
  · skip
    refine z_xP zt237 6 17 [some (.ref 19), some (.int p1)] [.int 0] rfl rfl ?_
    refine z_xrz zt237 7 rfl zzr237 (by decide) (by decide) ?_
    show z_ev (d + 6) 260 5 [some (.ref 19), some (.int p1), some (.int p2), some (.int p3)] [.int 0] M0 _
    refine z_xZ zt260 2 rfl rfl (fun (h2 : (0 : Int) = 0) => ?_) (fun (h2 : (0 : Int) ≠ 0) => absurd h2 (by omega))
    refine z_xP zt260 6 18 [some (.ref 19), some (.int p1), some (.int p2), some (.int p3)] [.int (-1)] rfl rfl ?_
    have qm1 : (((-1) : Int32)).toInt = (-1) := rfl
    exact z_xri zt260 7 rfl zzr260 (kk (-1) M0 X (by omega) (by omega))
  refine z_xP zt237 2 6 [some (.ref 19), some (.int p1)] [.ref 19, .int p1] rfl rfl ?_
  refine z_xgI zt237 3 rfl zo237 zzf12_269 X f19 (by decide) (by decide) rfl (fun (x4 : Int32) h3 (h5 : 0 ≤ x4.toInt) (h6 : x4.toInt ≤ 20) => ?_)
  have h7 := z_b32 p1
  refine z_xJ zt237 4 rfl rfl (fun (h8 : x4.toInt ≤ p1.toInt) => ?_) (fun (h8 : p1.toInt < x4.toInt) => ?_)
  · skip
    refine z_xP zt237 6 17 [some (.ref 19), some (.int p1)] [.int 0] rfl rfl ?_
    refine z_xrz zt237 7 rfl zzr237 (by decide) (by decide) ?_
    show z_ev (d + 6) 260 5 [some (.ref 19), some (.int p1), some (.int p2), some (.int p3)] [.int 0] M0 _
    refine z_xZ zt260 2 rfl rfl (fun (h9 : (0 : Int) = 0) => ?_) (fun (h9 : (0 : Int) ≠ 0) => absurd h9 (by omega))
    refine z_xP zt260 6 18 [some (.ref 19), some (.int p1), some (.int p2), some (.int p3)] [.int (-1)] rfl rfl ?_
    have qm1 : (((-1) : Int32)).toInt = (-1) := rfl
    exact z_xri zt260 7 rfl zzr260 (kk (-1) M0 X (by omega) (by omega))
  refine z_xP zt237 5 17 [some (.ref 19), some (.int p1)] [.int 1] rfl rfl ?_
  refine z_xrz zt237 7 rfl zzr237 (by decide) (by decide) ?_
  show z_ev (d + 6) 260 5 [some (.ref 19), some (.int p1), some (.int p2), some (.int p3)] [.int 1] M0 _
  refine z_xZ zt260 2 rfl rfl (fun (h10 : (1 : Int) = 0) => absurd h10 (by omega)) (fun (h10 : (1 : Int) ≠ 0) => ?_)
  refine z_xP zt260 3 11 [some (.ref 19), some (.int p1), some (.int p2), some (.int p3)] [.int p3, .int p2, .ref 19] rfl rfl ?_
  refine z_xcV (vs := [.ref 19, .int p2, .int p3]) (r := []) (L2 := [some (.ref 19), some (.int p2), some (.int p3)]) zt260 4 rfl zo260 zzcV12_234 (Or.inl rfl) rfl X f19 rfl rfl rfl (Nat.le_of_ble_eq_true rfl) zzm223 (Nat.le_of_ble_eq_true rfl) rfl ?_
  refine z_xP zt223 0 2 [some (.ref 19), some (.int p2), some (.int p3)] [.int p2, .ref 19] rfl rfl ?_
  refine z_xcV (vs := [.ref 19, .int p2]) (r := []) (L2 := [some (.ref 19), some (.int p2)]) zt223 1 rfl zo223 zzcV12_209 (Or.inl rfl) rfl X f19 rfl rfl rfl (Nat.le_of_ble_eq_true rfl) zzm209 (Nat.le_of_ble_eq_true rfl) rfl ?_
  refine z_xP zt209 0 1 [some (.ref 19), some (.int p2)] [.int p2] rfl rfl ?_
  refine z_xZ zt209 1 rfl rfl (fun (h11 : p2.toInt < 0) => ?_) (fun (h11 : 0 ≤ p2.toInt) => ?_)
  · skip
    refine z_xP zt209 6 17 [some (.ref 19), some (.int p2)] [.int 0] rfl rfl ?_
    refine z_xrz zt209 7 rfl zzr209 (by decide) (by decide) ?_
    show z_ev (d + 5) 223 5 [some (.ref 19), some (.int p2), some (.int p3)] [.int 0] M0 _
    refine z_xZ zt223 2 rfl rfl (fun (h12 : (0 : Int) = 0) => ?_) (fun (h12 : (0 : Int) ≠ 0) => absurd h12 (by omega))
    refine z_xP zt223 11 27 [some (.ref 19), some (.int p2), some (.int p3)] [.int 0] rfl rfl ?_
    refine z_xrz zt223 12 rfl zzr223 (by decide) (by decide) ?_
    show z_ev (d + 6) 260 14 [some (.ref 19), some (.int p1), some (.int p2), some (.int p3)] [.int 0] M0 _
    refine z_xZ zt260 5 rfl rfl (fun (h13 : (0 : Int) ≠ 0) => absurd h13 (by omega)) (fun (h13 : (0 : Int) = 0) => ?_)
    refine z_xP zt260 6 18 [some (.ref 19), some (.int p1), some (.int p2), some (.int p3)] [.int (-1)] rfl rfl ?_
    have qm1 : (((-1) : Int32)).toInt = (-1) := rfl
    exact z_xri zt260 7 rfl zzr260 (kk (-1) M0 X (by omega) (by omega))
  refine z_xP zt209 2 6 [some (.ref 19), some (.int p2)] [.ref 19, .int p2] rfl rfl ?_
  refine z_xgI zt209 3 rfl zo209 zzf12_110 X f19 (by decide) (by decide) rfl (fun (x15 : Int32) h14 (h16 : 0 ≤ x15.toInt) (h17 : x15.toInt ≤ 8) => ?_)
  have h18 := z_b32 p2
  refine z_xJ zt209 4 rfl rfl (fun (h19 : x15.toInt ≤ p2.toInt) => ?_) (fun (h19 : p2.toInt < x15.toInt) => ?_)
  · skip
    refine z_xP zt209 6 17 [some (.ref 19), some (.int p2)] [.int 0] rfl rfl ?_
    refine z_xrz zt209 7 rfl zzr209 (by decide) (by decide) ?_
    show z_ev (d + 5) 223 5 [some (.ref 19), some (.int p2), some (.int p3)] [.int 0] M0 _
    refine z_xZ zt223 2 rfl rfl (fun (h20 : (0 : Int) = 0) => ?_) (fun (h20 : (0 : Int) ≠ 0) => absurd h20 (by omega))
    refine z_xP zt223 11 27 [some (.ref 19), some (.int p2), some (.int p3)] [.int 0] rfl rfl ?_
    refine z_xrz zt223 12 rfl zzr223 (by decide) (by decide) ?_
    show z_ev (d + 6) 260 14 [some (.ref 19), some (.int p1), some (.int p2), some (.int p3)] [.int 0] M0 _
    refine z_xZ zt260 5 rfl rfl (fun (h21 : (0 : Int) ≠ 0) => absurd h21 (by omega)) (fun (h21 : (0 : Int) = 0) => ?_)
    refine z_xP zt260 6 18 [some (.ref 19), some (.int p1), some (.int p2), some (.int p3)] [.int (-1)] rfl rfl ?_
    have qm1 : (((-1) : Int32)).toInt = (-1) := rfl
    exact z_xri zt260 7 rfl zzr260 (kk (-1) M0 X (by omega) (by omega))
  refine z_xP zt209 5 17 [some (.ref 19), some (.int p2)] [.int 1] rfl rfl ?_
  refine z_xrz zt209 7 rfl zzr209 (by decide) (by decide) ?_
  show z_ev (d + 5) 223 5 [some (.ref 19), some (.int p2), some (.int p3)] [.int 1] M0 _
  refine z_xZ zt223 2 rfl rfl (fun (h22 : (1 : Int) = 0) => absurd h22 (by omega)) (fun (h22 : (1 : Int) ≠ 0) => ?_)
  refine z_xP zt223 3 9 [some (.ref 19), some (.int p2), some (.int p3)] [.int p3] rfl rfl ?_
  refine z_xZ zt223 4 rfl rfl (fun (h23 : p3.toInt < 0) => ?_) (fun (h23 : 0 ≤ p3.toInt) => ?_)
  · skip
    refine z_xP zt223 11 27 [some (.ref 19), some (.int p2), some (.int p3)] [.int 0] rfl rfl ?_
    refine z_xrz zt223 12 rfl zzr223 (by decide) (by decide) ?_
    show z_ev (d + 6) 260 14 [some (.ref 19), some (.int p1), some (.int p2), some (.int p3)] [.int 0] M0 _
    refine z_xZ zt260 5 rfl rfl (fun (h24 : (0 : Int) ≠ 0) => absurd h24 (by omega)) (fun (h24 : (0 : Int) = 0) => ?_)
    refine z_xP zt260 6 18 [some (.ref 19), some (.int p1), some (.int p2), some (.int p3)] [.int (-1)] rfl rfl ?_
    have qm1 : (((-1) : Int32)).toInt = (-1) := rfl
    exact z_xri zt260 7 rfl zzr260 (kk (-1) M0 X (by omega) (by omega))
  refine z_xP zt223 5 14 [some (.ref 19), some (.int p2), some (.int p3)] [.ref 19, .int p3] rfl rfl ?_
  refine z_xgX (b := 35) zt223 6 rfl zo223 zzf12_55 X f19 (by decide) (by decide) rfl ?_
  refine z_xP zt223 7 18 [some (.ref 19), some (.int p2), some (.int p3)] [.int p2, .ref 35, .int p3] rfl rfl ?_
  have f35 : T[35]? = some (.inr (35, 0, 8, 0, 9)) := X.1.k rfl (by decide)
  refine z_xil zt223 8 rfl X f35 (by decide) (by omega) (by omega) (fun (x25 : Int32) h26 (h27 : 0 ≤ x25.toInt) (h28 : x25.toInt ≤ 9) => ?_)
  have h29 := z_b32 p3
  refine z_xJ zt223 9 rfl rfl (fun (h30 : x25.toInt ≤ p3.toInt) => ?_) (fun (h30 : p3.toInt < x25.toInt) => ?_)
  · skip
    refine z_xP zt223 11 27 [some (.ref 19), some (.int p2), some (.int p3)] [.int 0] rfl rfl ?_
    refine z_xrz zt223 12 rfl zzr223 (by decide) (by decide) ?_
    show z_ev (d + 6) 260 14 [some (.ref 19), some (.int p1), some (.int p2), some (.int p3)] [.int 0] M0 _
    refine z_xZ zt260 5 rfl rfl (fun (h31 : (0 : Int) ≠ 0) => absurd h31 (by omega)) (fun (h31 : (0 : Int) = 0) => ?_)
    refine z_xP zt260 6 18 [some (.ref 19), some (.int p1), some (.int p2), some (.int p3)] [.int (-1)] rfl rfl ?_
    have qm1 : (((-1) : Int32)).toInt = (-1) := rfl
    exact z_xri zt260 7 rfl zzr260 (kk (-1) M0 X (by omega) (by omega))
  refine z_xP zt223 10 27 [some (.ref 19), some (.int p2), some (.int p3)] [.int 1] rfl rfl ?_
  refine z_xrz zt223 12 rfl zzr223 (by decide) (by decide) ?_
  show z_ev (d + 6) 260 14 [some (.ref 19), some (.int p1), some (.int p2), some (.int p3)] [.int 1] M0 _
  refine z_xZ zt260 5 rfl rfl (fun (h32 : (1 : Int) ≠ 0) => ?_) (fun (h32 : (1 : Int) = 0) => absurd h32 (by omega))
  refine z_xP zt260 8 21 [some (.ref 19), some (.int p1), some (.int p2), some (.int p3)] [.int p2, .ref 19] rfl rfl ?_
  refine z_xcV (vs := [.ref 19, .int p2]) (r := []) (L2 := [some (.ref 19), some (.int p2), none]) zt260 9 rfl zo260 zzcV12_255 (Or.inl rfl) rfl X f19 rfl rfl rfl (Nat.le_of_ble_eq_true rfl) zzm229 (Nat.le_of_ble_eq_true rfl) rfl ?_
  obtain ⟨x33, h34, h35, h36⟩ := z_W.fi X.1 f19 (k := 29) (lo := 0) (hi := 7) (by decide) rfl
  refine zC229 X.1 (by omega) h34 ⟨by omega, by omega⟩ (fun M37 X38 z39 h40 h41 h42 => ?_)
  have X43 := X.go X38 (z_sb (by decide))
  show z_ev (d + 6) 260 24 [some (.ref 19), some (.int p1), some (.int p2), some (.int p3)] [] M37 _
  have h45 : z39 = p2 := z_sub (c := p2.toInt) (by omega) rfl
  have h46 := h40
  rw [h45] at h46
  refine z_xP zt260 10 25 [some (.ref 19), some (.int p1), some (.int p2), some (.int p3)] [.ref 19] rfl rfl ?_
  refine z_xgX (b := 40) zt260 11 rfl zo260 zzf12_70 X43 f19 (by decide) (by decide) rfl ?_
  refine z_xP zt260 12 29 [some (.ref 19), some (.int p1), some (.int p2), some (.int p3)] [.int p3, .ref 40] rfl rfl ?_
  have f40 : T[40]? = some (.inr (40, 0, 9, (-2147483648), 2147483647)) := X43.1.k rfl (by decide)
  refine z_xil zt260 13 rfl X43 f40 (by decide) (by omega) (by omega) (fun (x47 : Int32) h48 (h49 : (-2147483648) ≤ x47.toInt) (h50 : x47.toInt ≤ 2147483647) => ?_)
  refine z_xP zt260 14 31 [some (.ref 19), some (.int p1), some (.int p2), some (.int p3)] [.ref 19, .int x47] rfl rfl ?_
  refine z_xgX (b := 41) zt260 15 rfl zo260 zzf12_73 X43 f19 (by decide) (by decide) rfl ?_
  refine z_xP zt260 16 35 [some (.ref 19), some (.int p1), some (.int p2), some (.int p3)] [.int p3, .ref 41, .int x47] rfl rfl ?_
  have f41 : T[41]? = some (.inr (41, 0, 9, (-2147483648), 2147483647)) := X43.1.k rfl (by decide)
  refine z_xil zt260 17 rfl X43 f41 (by decide) (by omega) (by omega) (fun (x51 : Int32) h52 (h53 : (-2147483648) ≤ x51.toInt) (h54 : x51.toInt ≤ 2147483647) => ?_)
  refine z_xI zt260 18 rfl rfl (P := fun _ => True) (fun (x55 : Int32) _ => ?_) trivial
  refine z_xP zt260 19 38 [some (.ref 19), some (.int p1), some (.int p2), some (.int p3)] [.ref 19, .int x55] rfl rfl ?_
  refine z_xcV (vs := [.ref 19]) (r := [.int x55]) (L2 := [some (.ref 19)]) zt260 20 rfl zo260 zzcV12_248 (Or.inl rfl) rfl X43 f19 rfl rfl rfl (Nat.le_of_ble_eq_true rfl) zzm240 (Nat.le_of_ble_eq_true rfl) rfl ?_
  refine z_xP zt240 0 2 [some (.ref 19)] [.ref 19, .int 1] rfl rfl ?_
  refine z_xgX (b := 24) zt240 1 rfl zo240 zzf12_22 X43 f19 (by decide) (by decide) rfl ?_
  refine z_xP zt240 2 6 [some (.ref 19)] [.ref 19, .ref 24, .int 1] rfl rfl ?_
  refine z_xgv zt240 3 rfl zo240 zzf12_242 X43 f19 (by decide) h46 ?_
  have f24 : T[24]? = some (.inr (24, 0, 8, 0, 10)) := X43.1.k rfl (by decide)
  refine z_xil zt240 4 rfl X43 f24 (by decide) (by omega) (by omega) (fun (x57 : Int32) h58 (h59 : 0 ≤ x57.toInt) (h60 : x57.toInt ≤ 10) => ?_)
  refine z_xI zt240 5 rfl rfl (fun (x61 : Int32) (h62 : 1 ≤ x61.toInt ∧ x61.toInt ≤ 1024) => ?_) (z_pShlB (a := 1) (b := 10) (c := 1024) (r := 1024) rfl rfl (by omega) (by omega) (by omega) (by omega) (by decide) (by decide) (by decide) (by decide))
  refine z_xP zt240 6 12 [some (.ref 19)] [.int 1, .int x61] rfl rfl ?_
  refine z_xI zt240 7 rfl rfl (fun (x63 : Int32) (h64 : x63.toInt = x61.toInt - 1) => ?_) (z_pSub rfl rfl (by omega) (by omega))
  refine z_xri zt240 8 rfl zzr240 ?_
  show z_ev (d + 6) 260 41 [some (.ref 19), some (.int p1), some (.int p2), some (.int p3)] [.int x63, .int x55] M37 _
  have h65 := z_b32 x55
  refine z_xJ zt260 21 rfl rfl (fun (h66 : x55.toInt = x63.toInt) => ?_) (fun (h66 : x55.toInt ≠ x63.toInt) => ?_)
  · skip
    refine z_xP zt260 24 49 [some (.ref 19), some (.int p1), some (.int p2), some (.int p3)] [.int p3, .int p1, .ref 19] rfl rfl ?_
    refine z_xcV (vs := [.ref 19, .int p1, .int p3]) (r := []) (L2 := [some (.ref 19), some (.int p1), some (.int p3), none, none, none, none, none, none]) zt260 25 rfl zo260 zzcV12_336 (Or.inl rfl) rfl X43 f19 rfl rfl rfl (Nat.le_of_ble_eq_true rfl) zzm261 (Nat.le_of_ble_eq_true rfl) rfl ?_
    refine zC261 X43.1 (by omega) (by omega) (fun x69 M67 X68 h70 h71 => ?_)
    have X72 := X43.go X68 (z_sb (by decide))
    show z_ev (d + 6) 260 52 [some (.ref 19), some (.int p1), some (.int p2), some (.int p3)] [.int x69] M67 _
    exact z_xri zt260 26 rfl zzr260 (kk x69 M67 X72 (by omega) (by omega))
  refine z_xP zt260 22 45 [some (.ref 19), some (.int p1), some (.int p2), some (.int p3)] [.int (-1)] rfl rfl ?_
  have qm1 : (((-1) : Int32)).toInt = (-1) := rfl
  exact z_xri zt260 23 rfl zzr260 (kk (-1) M37 X43 (by omega) (by omega))
def zw263 : List Nat := [39, 40, 41, 42, 43, 2229, 2230, 2234, 2235]
theorem zB263 {T : List zK} {d : Nat} {K : Option Value → zH → Prop} {p1 : Int32} {p2 : Int32} {p3 : Int32} {M0 : zH} (hR : z_G4 M0) (kk : ∀ (x : Int32) (M1 : zH), z_X T zw263 M0 M1 → K (some (.int x)) M1) : ∀ n : Nat, (∀ (M : zH) (b4 : Int32) (b5 : Int32) (b6 : Int32) (o7 : Option Value) (o8 : Option Value) (z0 : Int32) (z1 : Int32) (z2 : Int32), z_X T zw263 M0 M → 0 ≤ p1.toInt ∧ p1.toInt ≤ 19 → 0 ≤ p2.toInt ∧ p2.toInt ≤ 7 → 1 ≤ p3.toInt ∧ p3.toInt ≤ 5 → 0 ≤ b4.toInt ∧ b4.toInt ≤ 0 → 0 ≤ b6.toInt ∧ b6.toInt ≤ 1 → z_F M 19 29 = some (.int z0) → 0 ≤ z0.toInt ∧ z0.toInt ≤ 7 → z_F M 19 30 = some (.int z1) → 1 ≤ z1.toInt ∧ z1.toInt ≤ 5 → z_Ar M 31 z0.toNatClampNeg = z2 → 0 ≤ z2.toInt ∧ z2.toInt ≤ 12 → z2.toInt ≤ 12 → 1 ≤ z2.toInt → 1 ≤ z1.toInt → z1.toInt ≤ 5 → z_NB M z1.toInt z2.toInt → ((((0) * 3 + 1) * 742588 + (2 * (371293 - z_V 13 (z_Ar M 43) z1.toInt.toNat) + b6.toInt)) * 3 + 2) * 6 + (0) < (n : Int) → z_ev (d + 6) 263 38 [some (.ref 19), some (.int p1), some (.int p2), some (.int p3), some (.int b4), some (.int b5), some (.int b6), o7, o8] [] M K) ∧ (∀ (M : zH) (b4 : Int32) (b5 : Int32) (b6 : Int32) (b7 : Int32) (b8 : Int32) (z0 : Int32) (z1 : Int32) (z2 : Int32), z_X T zw263 M0 M → 0 ≤ p1.toInt ∧ p1.toInt ≤ 19 → 0 ≤ p2.toInt ∧ p2.toInt ≤ 7 → 1 ≤ p3.toInt ∧ p3.toInt ≤ 5 → 0 ≤ b4.toInt ∧ b4.toInt ≤ 0 → 1 ≤ b6.toInt ∧ b6.toInt ≤ 1 → 0 ≤ b7.toInt ∧ b7.toInt ≤ 1 → 0 ≤ b8.toInt ∧ b8.toInt ≤ 5 → z_F M 19 29 = some (.int z0) → 0 ≤ z0.toInt ∧ z0.toInt ≤ 7 → z_F M 19 30 = some (.int z1) → 1 ≤ z1.toInt ∧ z1.toInt ≤ 5 → z_Ar M 31 z0.toNatClampNeg = z2 → 0 ≤ z2.toInt ∧ z2.toInt ≤ 12 → z2.toInt ≤ 12 → 1 ≤ z2.toInt → 1 ≤ z1.toInt → z1.toInt ≤ 5 → z_NB M z1.toInt z2.toInt → ((((0) * 3 + 1) * 742588 + (2 * (371293 - z_V 13 (z_Ar M 43) z1.toInt.toNat) + b6.toInt)) * 3 + 0) * 6 + (5 - b8.toInt) < (n : Int) → z_ev (d + 6) 263 49 [some (.ref 19), some (.int p1), some (.int p2), some (.int p3), some (.int b4), some (.int b5), some (.int b6), some (.int b7), some (.int b8)] [] M K) := by
  intro n
  induction n with
  | zero => exact ⟨(by intro M b4 b5 b6 o7 o8 z0 z1 z2 X hh0 hh1 hh2 hh3 hh4 hp0 hh6 hp1 hh8 hp2 hh10 hh11 hh12 hh13 hh14 hn hE; have hV := z_V5 hn (by omega) (by omega) (by omega); exfalso; omega), (by intro M b4 b5 b6 b7 b8 z0 z1 z2 X hh0 hh1 hh2 hh3 hh4 hh5 hh6 hp0 hh8 hp1 hh10 hp2 hh12 hh13 hh14 hh15 hh16 hn hE; have hV := z_V5 hn (by omega) (by omega) (by omega); exfalso; omega)⟩
  | succ n ih =>
    refine ⟨?_, ?_⟩
    · skip
      intro M b4 b5 b6 o7 o8 z0 z1 z2 X hh0 hh1 hh2 hh3 hh4 hp0 hh6 hp1 hh8 hp2 hh10 hh11 hh12 hh13 hh14 hn hE
      have hV := z_V5 hn (by omega) (by omega) (by omega)
      refine z_xP zt263 14 40 [some (.ref 19), some (.int p1), some (.int p2), some (.int p3), some (.int b4), some (.int b5), some (.int b6), o7, o8] [.int b6] rfl rfl ?_
      refine z_xZ zt263 15 rfl rfl (fun (h1 : b6.toInt = 0) => ?_) (fun (h1 : b6.toInt ≠ 0) => ?_)
      · skip
        refine z_xP zt263 38 112 [some (.ref 19), some (.int p1), some (.int p2), some (.int p3), some (.int b4), some (.int b5), some (.int b6), o7, o8] [.int b5] rfl rfl ?_
        exact z_xri zt263 39 rfl zzr263 (kk b5 M X)
      refine z_xP zt263 16 49 [some (.ref 19), some (.int p1), some (.int p2), some (.int p3), some (.int b4), some (.int b5), some (.int b6), some (.int 0), some (.int 0)] [] rfl rfl ?_
      have f19 : T[19]? = some (.inl (12, 0, 0, 0, 0)) := X.1.k rfl (by decide)
      have f31 : T[31]? = some (.inr (31, 0, 8, 0, 1024)) := X.1.k rfl (by decide)
      have h2 := z_V5 hn (by omega) (by omega) (by omega)
      have q0 : ((0 : Int32)).toInt = 0 := rfl
      exact ih.2 M b4 b5 b6 (0) (0) z0 z1 z2 X ⟨by omega, by omega⟩ ⟨by omega, by omega⟩ ⟨by omega, by omega⟩ ⟨by omega, by omega⟩ ⟨by omega, by omega⟩ (by decide) (by decide) hp0 ⟨by omega, by omega⟩ hp1 ⟨by omega, by omega⟩ hp2 ⟨by omega, by omega⟩ (by omega) (by omega) (by omega) (by omega) hn (by omega)
    · skip
      intro M b4 b5 b6 b7 b8 z0 z1 z2 X hh0 hh1 hh2 hh3 hh4 hh5 hh6 hp0 hh8 hp1 hh10 hp2 hh12 hh13 hh14 hh15 hh16 hn hE
      have hV := z_V5 hn (by omega) (by omega) (by omega)
      refine z_xP zt263 17 52 [some (.ref 19), some (.int p1), some (.int p2), some (.int p3), some (.int b4), some (.int b5), some (.int b6), some (.int b7), some (.int b8)] [.int p3, .int b8] rfl rfl ?_
      refine z_xJ zt263 18 rfl rfl (fun (h1 : p3.toInt ≤ b8.toInt) => ?_) (fun (h1 : b8.toInt < p3.toInt) => ?_)
      · skip
        refine z_xP zt263 30 89 [some (.ref 19), some (.int p1), some (.int p2), some (.int p3), some (.int b4), some (.int b5), some (.int b6), some (.int b7), some (.int b8)] [.int b7, .int b5] rfl rfl ?_
        refine z_xZ zt263 31 rfl rfl (fun (h2 : b7.toInt = 0) => ?_) (fun (h2 : b7.toInt ≠ 0) => ?_)
        · skip
          refine z_xP zt263 33 97 [some (.ref 19), some (.int p1), some (.int p2), some (.int p3), some (.int b4), some (.int b5), some (.int b6), some (.int b7), some (.int b8)] [.int 0, .int b5] rfl rfl ?_
          have h3 := z_b32 b5
          refine z_xI zt263 34 rfl rfl (fun (x4 : Int32) (h5 : x4.toInt = b5.toInt + 0) => ?_) (z_pAdd rfl rfl (by omega) (by omega))
          refine z_xP zt263 35 102 [some (.ref 19), some (.int p1), some (.int p2), some (.int p3), some (.int b4), some (.int x4), some (.int b6), some (.int b7), some (.int b8)] [.int 0, .ref 19] rfl rfl ?_
          have f19 : T[19]? = some (.inl (12, 0, 0, 0, 0)) := X.1.k rfl (by decide)
          refine z_xcV (vs := [.ref 19, .int 0]) (r := []) (L2 := [some (.ref 19), some (.int 0), none, none, none]) zt263 36 rfl zo263 zzcV12_326 (Or.inl rfl) rfl X f19 rfl rfl rfl (Nat.le_of_ble_eq_true rfl) zzm255 (Nat.le_of_ble_eq_true rfl) rfl ?_
          have q0 : ((0 : Int32)).toInt = 0 := rfl
          have f31 : T[31]? = some (.inr (31, 0, 8, 0, 1024)) := X.1.k rfl (by decide)
          have q0 : ((0 : Int32)).toInt = 0 := rfl
          refine zC255 X.1 (by decide) hp0 ⟨by omega, by omega⟩ hp1 ⟨by omega, by omega⟩ hp2 ⟨by omega, by omega⟩ hn (fun x19 M6 X7 h20 h21 h8 h9 h10 z11 h12 h13 h14 z15 h16 h17 h18 => ?_)
          have X22 := X.go X7 (z_sb (by decide))
          show z_ev (d + 6) 263 105 [some (.ref 19), some (.int p1), some (.int p2), some (.int p3), some (.int b4), some (.int x4), some (.int b6), some (.int b7), some (.int b8)] [.int x19] M6 _
          refine z_xP zt263 37 38 [some (.ref 19), some (.int p1), some (.int p2), some (.int p3), some (.int b4), some (.int x4), some (.int x19), some (.int b7), some (.int b8)] [] rfl rfl ?_
          have h24 := (X7.2.f f19 (by decide) hp0)
          have h25 := (X7.2.f f19 (by decide) hp1)
          have h26 := ((congrFun (X7.2.a f31 (by decide)) _).trans hp2)
          have h27 := z_V5 h8 (by omega) (by omega) (by omega)
          exact ih.1 M6 b4 x4 x19 (some (.int b7)) (some (.int b8)) z0 z1 z2 X22 ⟨by omega, by omega⟩ ⟨by omega, by omega⟩ ⟨by omega, by omega⟩ ⟨by omega, by omega⟩ ⟨by omega, by omega⟩ h24 ⟨by omega, by omega⟩ h25 ⟨by omega, by omega⟩ h26 ⟨by omega, by omega⟩ (by omega) (by omega) (by omega) (by omega) h8 (by omega)
        refine z_xP zt263 32 97 [some (.ref 19), some (.int p1), some (.int p2), some (.int p3), some (.int b4), some (.int b5), some (.int b6), some (.int b7), some (.int b8)] [.int 1, .int b5] rfl rfl ?_
        have h28 := z_b32 b5
        refine z_xI zt263 34 rfl rfl (P := fun _ => True) (fun (x29 : Int32) _ => ?_) trivial
        refine z_xP zt263 35 102 [some (.ref 19), some (.int p1), some (.int p2), some (.int p3), some (.int b4), some (.int x29), some (.int b6), some (.int b7), some (.int b8)] [.int 0, .ref 19] rfl rfl ?_
        have f19 : T[19]? = some (.inl (12, 0, 0, 0, 0)) := X.1.k rfl (by decide)
        refine z_xcV (vs := [.ref 19, .int 0]) (r := []) (L2 := [some (.ref 19), some (.int 0), none, none, none]) zt263 36 rfl zo263 zzcV12_326 (Or.inl rfl) rfl X f19 rfl rfl rfl (Nat.le_of_ble_eq_true rfl) zzm255 (Nat.le_of_ble_eq_true rfl) rfl ?_
        have q0 : ((0 : Int32)).toInt = 0 := rfl
        have f31 : T[31]? = some (.inr (31, 0, 8, 0, 1024)) := X.1.k rfl (by decide)
        have q0 : ((0 : Int32)).toInt = 0 := rfl
        refine zC255 X.1 (by decide) hp0 ⟨by omega, by omega⟩ hp1 ⟨by omega, by omega⟩ hp2 ⟨by omega, by omega⟩ hn (fun x44 M31 X32 h45 h46 h33 h34 h35 z36 h37 h38 h39 z40 h41 h42 h43 => ?_)
        have X47 := X.go X32 (z_sb (by decide))
        show z_ev (d + 6) 263 105 [some (.ref 19), some (.int p1), some (.int p2), some (.int p3), some (.int b4), some (.int x29), some (.int b6), some (.int b7), some (.int b8)] [.int x44] M31 _
        refine z_xP zt263 37 38 [some (.ref 19), some (.int p1), some (.int p2), some (.int p3), some (.int b4), some (.int x29), some (.int x44), some (.int b7), some (.int b8)] [] rfl rfl ?_
        have h49 := (X32.2.f f19 (by decide) hp0)
        have h50 := (X32.2.f f19 (by decide) hp1)
        have h51 := ((congrFun (X32.2.a f31 (by decide)) _).trans hp2)
        have h52 := z_V5 h33 (by omega) (by omega) (by omega)
        exact ih.1 M31 b4 x29 x44 (some (.int b7)) (some (.int b8)) z0 z1 z2 X47 ⟨by omega, by omega⟩ ⟨by omega, by omega⟩ ⟨by omega, by omega⟩ ⟨by omega, by omega⟩ ⟨by omega, by omega⟩ h49 ⟨by omega, by omega⟩ h50 ⟨by omega, by omega⟩ h51 ⟨by omega, by omega⟩ (by omega) (by omega) (by omega) (by omega) h33 (by omega)
      refine z_xP zt263 19 57 [some (.ref 19), some (.int p1), some (.int p2), some (.int p3), some (.int b4), some (.int b5), some (.int b6), some (.int b7), some (.int b8)] [.int b7] rfl rfl ?_
      refine z_xZ zt263 20 rfl rfl (fun (h53 : b7.toInt ≠ 0) => ?_) (fun (h53 : b7.toInt = 0) => ?_)
      · skip
        refine z_xP zt263 30 89 [some (.ref 19), some (.int p1), some (.int p2), some (.int p3), some (.int b4), some (.int b5), some (.int b6), some (.int b7), some (.int b8)] [.int b7, .int b5] rfl rfl ?_
        refine z_xZ zt263 31 rfl rfl (fun (h54 : b7.toInt = 0) => absurd h54 (by omega)) (fun (h54 : b7.toInt ≠ 0) => ?_)
        refine z_xP zt263 32 97 [some (.ref 19), some (.int p1), some (.int p2), some (.int p3), some (.int b4), some (.int b5), some (.int b6), some (.int b7), some (.int b8)] [.int 1, .int b5] rfl rfl ?_
        have h55 := z_b32 b5
        refine z_xI zt263 34 rfl rfl (P := fun _ => True) (fun (x56 : Int32) _ => ?_) trivial
        refine z_xP zt263 35 102 [some (.ref 19), some (.int p1), some (.int p2), some (.int p3), some (.int b4), some (.int x56), some (.int b6), some (.int b7), some (.int b8)] [.int 0, .ref 19] rfl rfl ?_
        have f19 : T[19]? = some (.inl (12, 0, 0, 0, 0)) := X.1.k rfl (by decide)
        refine z_xcV (vs := [.ref 19, .int 0]) (r := []) (L2 := [some (.ref 19), some (.int 0), none, none, none]) zt263 36 rfl zo263 zzcV12_326 (Or.inl rfl) rfl X f19 rfl rfl rfl (Nat.le_of_ble_eq_true rfl) zzm255 (Nat.le_of_ble_eq_true rfl) rfl ?_
        have q0 : ((0 : Int32)).toInt = 0 := rfl
        have f31 : T[31]? = some (.inr (31, 0, 8, 0, 1024)) := X.1.k rfl (by decide)
        have q0 : ((0 : Int32)).toInt = 0 := rfl
        refine zC255 X.1 (by decide) hp0 ⟨by omega, by omega⟩ hp1 ⟨by omega, by omega⟩ hp2 ⟨by omega, by omega⟩ hn (fun x71 M58 X59 h72 h73 h60 h61 h62 z63 h64 h65 h66 z67 h68 h69 h70 => ?_)
        have X74 := X.go X59 (z_sb (by decide))
        show z_ev (d + 6) 263 105 [some (.ref 19), some (.int p1), some (.int p2), some (.int p3), some (.int b4), some (.int x56), some (.int b6), some (.int b7), some (.int b8)] [.int x71] M58 _
        refine z_xP zt263 37 38 [some (.ref 19), some (.int p1), some (.int p2), some (.int p3), some (.int b4), some (.int x56), some (.int x71), some (.int b7), some (.int b8)] [] rfl rfl ?_
        have h76 := (X59.2.f f19 (by decide) hp0)
        have h77 := (X59.2.f f19 (by decide) hp1)
        have h78 := ((congrFun (X59.2.a f31 (by decide)) _).trans hp2)
        have h79 := z_V5 h60 (by omega) (by omega) (by omega)
        exact ih.1 M58 b4 x56 x71 (some (.int b7)) (some (.int b8)) z0 z1 z2 X74 ⟨by omega, by omega⟩ ⟨by omega, by omega⟩ ⟨by omega, by omega⟩ ⟨by omega, by omega⟩ ⟨by omega, by omega⟩ h76 ⟨by omega, by omega⟩ h77 ⟨by omega, by omega⟩ h78 ⟨by omega, by omega⟩ (by omega) (by omega) (by omega) (by omega) h60 (by omega)
      refine z_xP zt263 21 64 [some (.ref 19), some (.int p1), some (.int p2), some (.int p3), some (.int b4), some (.int b5), some (.int b6), some (.int b7), some (.int b8)] [.int b8, .int p1, .ref 19] rfl rfl ?_
      have f19 : T[19]? = some (.inl (12, 0, 0, 0, 0)) := X.1.k rfl (by decide)
      refine z_xcV (vs := [.ref 19, .int p1, .int b8]) (r := []) (L2 := [some (.ref 19), some (.int p1), some (.int b8), none, none, none, none, none, none]) zt263 22 rfl zo263 zzcV12_336 (Or.inl rfl) rfl X f19 rfl rfl rfl (Nat.le_of_ble_eq_true rfl) zzm261 (Nat.le_of_ble_eq_true rfl) rfl ?_
      refine zC261 X.1 (by omega) (by omega) (fun x82 M80 X81 h83 h84 => ?_)
      have X85 := X.go X81 (z_sb (by decide))
      show z_ev (d + 6) 263 67 [some (.ref 19), some (.int p1), some (.int p2), some (.int p3), some (.int b4), some (.int b5), some (.int b6), some (.int b7), some (.int b8)] [.int x82] M80 _
      refine z_xP zt263 23 69 [some (.ref 19), some (.int p1), some (.int p2), some (.int p3), some (.int b4), some (.int b5), some (.int b6), some (.int b7), some (.int b8)] [.int (-2), .int x82] rfl rfl ?_
      refine z_xJ zt263 24 rfl rfl (fun (h87 : x82.toInt = (-2)) => ?_) (fun (h87 : x82.toInt ≠ (-2)) => ?_)
      · skip
        refine z_xP zt263 26 77 [some (.ref 19), some (.int p1), some (.int p2), some (.int p3), some (.int b4), some (.int b5), some (.int b6), some (.int b7), some (.int b8)] [.int 0] rfl rfl ?_
        refine z_xP zt263 27 79 [some (.ref 19), some (.int p1), some (.int p2), some (.int p3), some (.int b4), some (.int b5), some (.int b6), some (.int 0), some (.int b8)] [] rfl rfl ?_
        refine z_xN zt263 28 rfl rfl (fun (x88 : Int32) (h89 : x88.toInt = b8.toInt + 1) => ?_) (z_pAdd rfl rfl (by omega) (by omega))
        show z_ev (d + 6) 263 82 [some (.ref 19), some (.int p1), some (.int p2), some (.int p3), some (.int b4), some (.int b5), some (.int b6), some (.int 0), some (.int x88)] [] M80 _
        refine z_xP zt263 29 49 [some (.ref 19), some (.int p1), some (.int p2), some (.int p3), some (.int b4), some (.int b5), some (.int b6), some (.int 0), some (.int x88)] [] rfl rfl ?_
        have h90 := (X81.2.f f19 (by decide) hp0)
        have h91 := (X81.2.f f19 (by decide) hp1)
        have f31 : T[31]? = some (.inr (31, 0, 8, 0, 1024)) := X85.1.k rfl (by decide)
        have h92 := ((congrFun (X81.2.a f31 (by decide)) _).trans hp2)
        have f43 : T[43]? = some (.inr (43, 0, 9, 0, 1023)) := X85.1.k rfl (by decide)
        have h93 := z_NBm hn (X81.2.a f43 (by decide)) rfl rfl
        have h94 := z_Ve (b := 13) (n := z1.toInt.toNat) (X81.2.a f43 (by decide))
        have h95 := z_V5 h93 (by omega) (by omega) (by omega)
        have q0 : ((0 : Int32)).toInt = 0 := rfl
        exact ih.2 M80 b4 b5 b6 (0) x88 z0 z1 z2 X85 ⟨by omega, by omega⟩ ⟨by omega, by omega⟩ ⟨by omega, by omega⟩ ⟨by omega, by omega⟩ ⟨by omega, by omega⟩ (by decide) ⟨by omega, by omega⟩ h90 ⟨by omega, by omega⟩ h91 ⟨by omega, by omega⟩ h92 ⟨by omega, by omega⟩ (by omega) (by omega) (by omega) (by omega) h93 (by omega)
      refine z_xP zt263 25 77 [some (.ref 19), some (.int p1), some (.int p2), some (.int p3), some (.int b4), some (.int b5), some (.int b6), some (.int b7), some (.int b8)] [.int 1] rfl rfl ?_
      refine z_xP zt263 27 79 [some (.ref 19), some (.int p1), some (.int p2), some (.int p3), some (.int b4), some (.int b5), some (.int b6), some (.int 1), some (.int b8)] [] rfl rfl ?_
      refine z_xN zt263 28 rfl rfl (fun (x96 : Int32) (h97 : x96.toInt = b8.toInt + 1) => ?_) (z_pAdd rfl rfl (by omega) (by omega))
      show z_ev (d + 6) 263 82 [some (.ref 19), some (.int p1), some (.int p2), some (.int p3), some (.int b4), some (.int b5), some (.int b6), some (.int 1), some (.int x96)] [] M80 _
      refine z_xP zt263 29 49 [some (.ref 19), some (.int p1), some (.int p2), some (.int p3), some (.int b4), some (.int b5), some (.int b6), some (.int 1), some (.int x96)] [] rfl rfl ?_
      have h98 := (X81.2.f f19 (by decide) hp0)
      have h99 := (X81.2.f f19 (by decide) hp1)
      have f31 : T[31]? = some (.inr (31, 0, 8, 0, 1024)) := X85.1.k rfl (by decide)
      have h100 := ((congrFun (X81.2.a f31 (by decide)) _).trans hp2)
      have f43 : T[43]? = some (.inr (43, 0, 9, 0, 1023)) := X85.1.k rfl (by decide)
      have h101 := z_NBm hn (X81.2.a f43 (by decide)) rfl rfl
      have h102 := z_Ve (b := 13) (n := z1.toInt.toNat) (X81.2.a f43 (by decide))
      have h103 := z_V5 h101 (by omega) (by omega) (by omega)
      have q1 : ((1 : Int32)).toInt = 1 := rfl
      exact ih.2 M80 b4 b5 b6 (1) x96 z0 z1 z2 X85 ⟨by omega, by omega⟩ ⟨by omega, by omega⟩ ⟨by omega, by omega⟩ ⟨by omega, by omega⟩ ⟨by omega, by omega⟩ (by decide) ⟨by omega, by omega⟩ h98 ⟨by omega, by omega⟩ h99 ⟨by omega, by omega⟩ h100 ⟨by omega, by omega⟩ (by omega) (by omega) (by omega) (by omega) h101 (by omega)
theorem zC263 {T : List zK} {d : Nat} {K : Option Value → zH → Prop} {p1 : Int32} {p2 : Int32} {p3 : Int32} {M0 : zH} (hW : z_W M0 T) (hR : z_G4 M0) (kk : ∀ (x : Int32) (M1 : zH), z_X T zw263 M0 M1 → K (some (.int x)) M1) : z_ev (d + 6) 263 0 [some (.ref 19), some (.int p1), some (.int p2), some (.int p3), none, none, none, none, none] [] M0 K := by
  have X : z_X T zw263 M0 M0 := .refl hW
  refine z_xP zt263 0 2 [some (.ref 19), some (.int p1), some (.int p2), some (.int p3), none, none, none, none, none] [.int p1, .ref 19] rfl rfl ?_
  have f19 : T[19]? = some (.inl (12, 0, 0, 0, 0)) := X.1.k rfl (by decide)
  refine z_xcV (vs := [.ref 19, .int p1]) (r := []) (L2 := [some (.ref 19), some (.int p1)]) zt263 1 rfl zo263 zzcV12_272 (Or.inl rfl) rfl X f19 rfl rfl rfl (Nat.le_of_ble_eq_true rfl) zzm237 (Nat.le_of_ble_eq_true rfl) rfl ?_
  refine z_xP zt237 0 1 [some (.ref 19), some (.int p1)] [.int p1] rfl rfl ?_
  refine z_xZ zt237 1 rfl rfl (fun (h1 : p1.toInt < 0) => ?_) (fun (h1 : 0 ≤ p1.toInt) => ?_)
  · skip
    refine z_xP zt237 6 17 [some (.ref 19), some (.int p1)] [.int 0] rfl rfl ?_
    refine z_xrz zt237 7 rfl zzr237 (by decide) (by decide) ?_
    show z_ev (d + 6) 263 5 [some (.ref 19), some (.int p1), some (.int p2), some (.int p3), none, none, none, none, none] [.int 0] M0 _
    refine z_xZ zt263 2 rfl rfl (fun (h2 : (0 : Int) ≠ 0) => absurd h2 (by omega)) (fun (h2 : (0 : Int) = 0) => ?_)
    refine z_xP zt263 3 9 [some (.ref 19), some (.int p1), some (.int p2), some (.int p3), none, none, none, none, none] [.int (-1)] rfl rfl ?_
    have qm1 : (((-1) : Int32)).toInt = (-1) := rfl
    exact z_xri zt263 4 rfl zzr263 (kk (-1) M0 X)
  refine z_xP zt237 2 6 [some (.ref 19), some (.int p1)] [.ref 19, .int p1] rfl rfl ?_
  refine z_xgI zt237 3 rfl zo237 zzf12_269 X f19 (by decide) (by decide) rfl (fun (x4 : Int32) h3 (h5 : 0 ≤ x4.toInt) (h6 : x4.toInt ≤ 20) => ?_)
  have h7 := z_b32 p1
  refine z_xJ zt237 4 rfl rfl (fun (h8 : x4.toInt ≤ p1.toInt) => ?_) (fun (h8 : p1.toInt < x4.toInt) => ?_)
  · skip
    refine z_xP zt237 6 17 [some (.ref 19), some (.int p1)] [.int 0] rfl rfl ?_
    refine z_xrz zt237 7 rfl zzr237 (by decide) (by decide) ?_
    show z_ev (d + 6) 263 5 [some (.ref 19), some (.int p1), some (.int p2), some (.int p3), none, none, none, none, none] [.int 0] M0 _
    refine z_xZ zt263 2 rfl rfl (fun (h9 : (0 : Int) ≠ 0) => absurd h9 (by omega)) (fun (h9 : (0 : Int) = 0) => ?_)
    refine z_xP zt263 3 9 [some (.ref 19), some (.int p1), some (.int p2), some (.int p3), none, none, none, none, none] [.int (-1)] rfl rfl ?_
    have qm1 : (((-1) : Int32)).toInt = (-1) := rfl
    exact z_xri zt263 4 rfl zzr263 (kk (-1) M0 X)
  refine z_xP zt237 5 17 [some (.ref 19), some (.int p1)] [.int 1] rfl rfl ?_
  refine z_xrz zt237 7 rfl zzr237 (by decide) (by decide) ?_
  show z_ev (d + 6) 263 5 [some (.ref 19), some (.int p1), some (.int p2), some (.int p3), none, none, none, none, none] [.int 1] M0 _
  refine z_xZ zt263 2 rfl rfl (fun (h10 : (1 : Int) ≠ 0) => ?_) (fun (h10 : (1 : Int) = 0) => absurd h10 (by omega))
  refine z_xP zt263 5 13 [some (.ref 19), some (.int p1), some (.int p2), some (.int p3), none, none, none, none, none] [.int p3, .int p2, .ref 19] rfl rfl ?_
  refine z_xcV (vs := [.ref 19, .int p2, .int p3]) (r := []) (L2 := [some (.ref 19), some (.int p2), some (.int p3)]) zt263 6 rfl zo263 zzcV12_320 (Or.inl rfl) rfl X f19 rfl rfl rfl (Nat.le_of_ble_eq_true rfl) zzm251 (Nat.le_of_ble_eq_true rfl) rfl ?_
  refine z_xP zt251 0 2 [some (.ref 19), some (.int p2), some (.int p3)] [.int p2, .ref 19] rfl rfl ?_
  refine z_xcV (vs := [.ref 19, .int p2]) (r := []) (L2 := [some (.ref 19), some (.int p2)]) zt251 1 rfl zo251 zzcV12_209 (Or.inl rfl) rfl X f19 rfl rfl rfl (Nat.le_of_ble_eq_true rfl) zzm209 (Nat.le_of_ble_eq_true rfl) rfl ?_
  refine z_xP zt209 0 1 [some (.ref 19), some (.int p2)] [.int p2] rfl rfl ?_
  refine z_xZ zt209 1 rfl rfl (fun (h11 : p2.toInt < 0) => ?_) (fun (h11 : 0 ≤ p2.toInt) => ?_)
  · skip
    refine z_xP zt209 6 17 [some (.ref 19), some (.int p2)] [.int 0] rfl rfl ?_
    refine z_xrz zt209 7 rfl zzr209 (by decide) (by decide) ?_
    show z_ev (d + 5) 251 5 [some (.ref 19), some (.int p2), some (.int p3)] [.int 0] M0 _
    refine z_xZ zt251 2 rfl rfl (fun (h12 : (0 : Int) = 0) => ?_) (fun (h12 : (0 : Int) ≠ 0) => absurd h12 (by omega))
    refine z_xP zt251 9 21 [some (.ref 19), some (.int p2), some (.int p3)] [.int (-1)] rfl rfl ?_
    refine z_xri zt251 10 rfl zzr251 ?_
    show z_ev (d + 6) 263 16 [some (.ref 19), some (.int p1), some (.int p2), some (.int p3), none, none, none, none, none] [.int (-1)] M0 _
    refine z_xP zt263 7 20 [some (.ref 19), some (.int p1), some (.int p2), some (.int p3), some (.int (-1)), none, none, none, none] [.int (-1)] rfl rfl ?_
    refine z_xZ zt263 8 rfl rfl (fun (h13 : 0 ≤ ((-1) : Int)) => absurd h13 (by omega)) (fun (h13 : ((-1) : Int) < 0) => ?_)
    refine z_xP zt263 9 25 [some (.ref 19), some (.int p1), some (.int p2), some (.int p3), some (.int (-1)), none, none, none, none] [.int (-1)] rfl rfl ?_
    have qm1 : (((-1) : Int32)).toInt = (-1) := rfl
    exact z_xri zt263 10 rfl zzr263 (kk (-1) M0 X)
  refine z_xP zt209 2 6 [some (.ref 19), some (.int p2)] [.ref 19, .int p2] rfl rfl ?_
  refine z_xgI zt209 3 rfl zo209 zzf12_110 X f19 (by decide) (by decide) rfl (fun (x15 : Int32) h14 (h16 : 0 ≤ x15.toInt) (h17 : x15.toInt ≤ 8) => ?_)
  have h18 := z_b32 p2
  refine z_xJ zt209 4 rfl rfl (fun (h19 : x15.toInt ≤ p2.toInt) => ?_) (fun (h19 : p2.toInt < x15.toInt) => ?_)
  · skip
    refine z_xP zt209 6 17 [some (.ref 19), some (.int p2)] [.int 0] rfl rfl ?_
    refine z_xrz zt209 7 rfl zzr209 (by decide) (by decide) ?_
    show z_ev (d + 5) 251 5 [some (.ref 19), some (.int p2), some (.int p3)] [.int 0] M0 _
    refine z_xZ zt251 2 rfl rfl (fun (h20 : (0 : Int) = 0) => ?_) (fun (h20 : (0 : Int) ≠ 0) => absurd h20 (by omega))
    refine z_xP zt251 9 21 [some (.ref 19), some (.int p2), some (.int p3)] [.int (-1)] rfl rfl ?_
    refine z_xri zt251 10 rfl zzr251 ?_
    show z_ev (d + 6) 263 16 [some (.ref 19), some (.int p1), some (.int p2), some (.int p3), none, none, none, none, none] [.int (-1)] M0 _
    refine z_xP zt263 7 20 [some (.ref 19), some (.int p1), some (.int p2), some (.int p3), some (.int (-1)), none, none, none, none] [.int (-1)] rfl rfl ?_
    refine z_xZ zt263 8 rfl rfl (fun (h21 : 0 ≤ ((-1) : Int)) => absurd h21 (by omega)) (fun (h21 : ((-1) : Int) < 0) => ?_)
    refine z_xP zt263 9 25 [some (.ref 19), some (.int p1), some (.int p2), some (.int p3), some (.int (-1)), none, none, none, none] [.int (-1)] rfl rfl ?_
    have qm1 : (((-1) : Int32)).toInt = (-1) := rfl
    exact z_xri zt263 10 rfl zzr263 (kk (-1) M0 X)
  refine z_xP zt209 5 17 [some (.ref 19), some (.int p2)] [.int 1] rfl rfl ?_
  refine z_xrz zt209 7 rfl zzr209 (by decide) (by decide) ?_
  show z_ev (d + 5) 251 5 [some (.ref 19), some (.int p2), some (.int p3)] [.int 1] M0 _
  refine z_xZ zt251 2 rfl rfl (fun (h22 : (1 : Int) = 0) => absurd h22 (by omega)) (fun (h22 : (1 : Int) ≠ 0) => ?_)
  refine z_xP zt251 3 9 [some (.ref 19), some (.int p2), some (.int p3)] [.int p3] rfl rfl ?_
  have h23 := z_b32 p3
  refine z_xL zt251 4 rfl rfl (fun (y24 : Int64) (h25 : y24.toInt = p3.toInt) => ?_) (z_qI2L rfl)
  refine z_xP zt251 5 11 [some (.ref 19), some (.int p2), some (.int p3)] [.long 1, .long y24] rfl rfl ?_
  refine z_xl2 zt251 6 rfl zo251 zkl12_318 ?_
  refine z_xcS (vs := [.long y24, .long 1, .long 5]) (r := []) (L2 := [some (.long y24), none, some (.long 1), none, some (.long 5), none]) zt251 7 rfl zo251 zzcS12_116 (Or.inl rfl) (Nat.le_of_ble_eq_true rfl) rfl rfl (Nat.le_of_ble_eq_true rfl) zzm189 (Nat.le_of_ble_eq_true rfl) rfl ?_
  refine z_xP zt189 0 2 [some (.long y24), none, some (.long 1), none, some (.long 5), none] [.long 1, .long y24] rfl rfl ?_
  refine z_xI zt189 1 rfl rfl (fun (x26 : Int32) (h27 : (x26.toInt < 0 ∧ y24.toInt < 1) ∨ (x26.toInt = 0 ∧ y24.toInt = 1) ∨ (0 < x26.toInt ∧ 1 < y24.toInt)) => ?_) (z_qCmp rfl rfl)
  refine z_xZ zt189 2 rfl rfl (fun (h28 : x26.toInt < 0) => ?_) (fun (h28 : 0 ≤ x26.toInt) => ?_)
  · skip
    refine z_xP zt189 7 18 [some (.long y24), none, some (.long 1), none, some (.long 5), none] [.int 0] rfl rfl ?_
    refine z_xrz zt189 8 rfl zzr189 (by decide) (by decide) ?_
    show z_ev (d + 5) 251 17 [some (.ref 19), some (.int p2), some (.int p3)] [.int 0] M0 _
    refine z_xZ zt251 8 rfl rfl (fun (h29 : (0 : Int) ≠ 0) => absurd h29 (by omega)) (fun (h29 : (0 : Int) = 0) => ?_)
    refine z_xP zt251 9 21 [some (.ref 19), some (.int p2), some (.int p3)] [.int (-1)] rfl rfl ?_
    refine z_xri zt251 10 rfl zzr251 ?_
    show z_ev (d + 6) 263 16 [some (.ref 19), some (.int p1), some (.int p2), some (.int p3), none, none, none, none, none] [.int (-1)] M0 _
    refine z_xP zt263 7 20 [some (.ref 19), some (.int p1), some (.int p2), some (.int p3), some (.int (-1)), none, none, none, none] [.int (-1)] rfl rfl ?_
    refine z_xZ zt263 8 rfl rfl (fun (h30 : 0 ≤ ((-1) : Int)) => absurd h30 (by omega)) (fun (h30 : ((-1) : Int) < 0) => ?_)
    refine z_xP zt263 9 25 [some (.ref 19), some (.int p1), some (.int p2), some (.int p3), some (.int (-1)), none, none, none, none] [.int (-1)] rfl rfl ?_
    have qm1 : (((-1) : Int32)).toInt = (-1) := rfl
    exact z_xri zt263 10 rfl zzr263 (kk (-1) M0 X)
  refine z_xP zt189 3 9 [some (.long y24), none, some (.long 1), none, some (.long 5), none] [.long 5, .long y24] rfl rfl ?_
  refine z_xI zt189 4 rfl rfl (fun (x31 : Int32) (h32 : (x31.toInt < 0 ∧ y24.toInt < 5) ∨ (x31.toInt = 0 ∧ y24.toInt = 5) ∨ (0 < x31.toInt ∧ 5 < y24.toInt)) => ?_) (z_qCmp rfl rfl)
  refine z_xZ zt189 5 rfl rfl (fun (h33 : 0 < x31.toInt) => ?_) (fun (h33 : x31.toInt ≤ 0) => ?_)
  · skip
    refine z_xP zt189 7 18 [some (.long y24), none, some (.long 1), none, some (.long 5), none] [.int 0] rfl rfl ?_
    refine z_xrz zt189 8 rfl zzr189 (by decide) (by decide) ?_
    show z_ev (d + 5) 251 17 [some (.ref 19), some (.int p2), some (.int p3)] [.int 0] M0 _
    refine z_xZ zt251 8 rfl rfl (fun (h34 : (0 : Int) ≠ 0) => absurd h34 (by omega)) (fun (h34 : (0 : Int) = 0) => ?_)
    refine z_xP zt251 9 21 [some (.ref 19), some (.int p2), some (.int p3)] [.int (-1)] rfl rfl ?_
    refine z_xri zt251 10 rfl zzr251 ?_
    show z_ev (d + 6) 263 16 [some (.ref 19), some (.int p1), some (.int p2), some (.int p3), none, none, none, none, none] [.int (-1)] M0 _
    refine z_xP zt263 7 20 [some (.ref 19), some (.int p1), some (.int p2), some (.int p3), some (.int (-1)), none, none, none, none] [.int (-1)] rfl rfl ?_
    refine z_xZ zt263 8 rfl rfl (fun (h35 : 0 ≤ ((-1) : Int)) => absurd h35 (by omega)) (fun (h35 : ((-1) : Int) < 0) => ?_)
    refine z_xP zt263 9 25 [some (.ref 19), some (.int p1), some (.int p2), some (.int p3), some (.int (-1)), none, none, none, none] [.int (-1)] rfl rfl ?_
    have qm1 : (((-1) : Int32)).toInt = (-1) := rfl
    exact z_xri zt263 10 rfl zzr263 (kk (-1) M0 X)
  refine z_xP zt189 6 18 [some (.long y24), none, some (.long 1), none, some (.long 5), none] [.int 1] rfl rfl ?_
  refine z_xrz zt189 8 rfl zzr189 (by decide) (by decide) ?_
  show z_ev (d + 5) 251 17 [some (.ref 19), some (.int p2), some (.int p3)] [.int 1] M0 _
  refine z_xZ zt251 8 rfl rfl (fun (h36 : (1 : Int) ≠ 0) => ?_) (fun (h36 : (1 : Int) = 0) => absurd h36 (by omega))
  refine z_xP zt251 11 23 [some (.ref 19), some (.int p2), some (.int p3)] [.ref 19] rfl rfl ?_
  refine z_xgX (b := 31) zt251 12 rfl zo251 zzf12_43 X f19 (by decide) (by decide) rfl ?_
  refine z_xP zt251 13 27 [some (.ref 19), some (.int p2), some (.int p3)] [.int p2, .ref 31] rfl rfl ?_
  have f31 : T[31]? = some (.inr (31, 0, 8, 0, 1024)) := X.1.k rfl (by decide)
  refine z_xil zt251 14 rfl X f31 (by decide) (by omega) (by omega) (fun (x37 : Int32) h38 (h39 : 0 ≤ x37.toInt) (h40 : x37.toInt ≤ 1024) => ?_)
  refine z_xP zt251 15 30 [some (.ref 19), some (.int p2), some (.int p3)] [.int 12, .int x37] rfl rfl ?_
  refine z_xJ zt251 16 rfl rfl (fun (h41 : x37.toInt ≤ 12) => ?_) (fun (h41 : 12 < x37.toInt) => ?_)
  · skip
    refine z_xP zt251 18 39 [some (.ref 19), some (.int p2), some (.int p3)] [.int 0] rfl rfl ?_
    refine z_xri zt251 19 rfl zzr251 ?_
    show z_ev (d + 6) 263 16 [some (.ref 19), some (.int p1), some (.int p2), some (.int p3), none, none, none, none, none] [.int 0] M0 _
    refine z_xP zt263 7 20 [some (.ref 19), some (.int p1), some (.int p2), some (.int p3), some (.int 0), none, none, none, none] [.int 0] rfl rfl ?_
    refine z_xZ zt263 8 rfl rfl (fun (h42 : 0 ≤ (0 : Int)) => ?_) (fun (h42 : (0 : Int) < 0) => absurd h42 (by omega))
    refine z_xP zt263 11 32 [some (.ref 19), some (.int p1), some (.int p2), some (.int p3), some (.int 0), some (.int 0), none, none, none] [.int p3, .int p2, .ref 19] rfl rfl ?_
    refine z_xcV (vs := [.ref 19, .int p2, .int p3]) (r := []) (L2 := [some (.ref 19), some (.int p2), some (.int p3), none]) zt263 12 rfl zo263 zzcV12_323 (Or.inl rfl) rfl X f19 rfl rfl rfl (Nat.le_of_ble_eq_true rfl) zzm252 (Nat.le_of_ble_eq_true rfl) rfl ?_
    have h43 := z_G4u (hR.go X (by decide)) h14 (by omega) (by omega) h38
    refine zC252 X.1 (by omega) (by omega) h38 ⟨by omega, by omega⟩ (fun M44 X45 h46 h47 h48 => ?_)
    have X49 := X.go X45 (z_sb (by decide))
    show z_ev (d + 6) 263 35 [some (.ref 19), some (.int p1), some (.int p2), some (.int p3), some (.int 0), some (.int 0), none, none, none] [] M44 _
    have h51 := z_NBw (L2 := x37.toInt) h46 (by omega)
    refine z_xP zt263 13 38 [some (.ref 19), some (.int p1), some (.int p2), some (.int p3), some (.int 0), some (.int 0), some (.int 1), none, none] [] rfl rfl ?_
    have h52 := ((congrFun (X45.2.a f31 (by decide)) _).trans h38)
    have h53 := z_V5 h51 (by omega) (by omega) (by omega)
    have q0 : ((0 : Int32)).toInt = 0 := rfl
    have q1 : ((1 : Int32)).toInt = 1 := rfl
    exact (zB263 hR kk 40099752).1 M44 (0) (0) (1) none none p2 p3 x37 X49 ⟨by omega, by omega⟩ ⟨by omega, by omega⟩ ⟨by omega, by omega⟩ (by decide) (by decide) h47 ⟨by omega, by omega⟩ h48 ⟨by omega, by omega⟩ h52 ⟨by omega, by omega⟩ (by omega) (by omega) (by omega) (by omega) h51 (by omega)
  refine z_xP zt251 17 39 [some (.ref 19), some (.int p2), some (.int p3)] [.int (-4)] rfl rfl ?_
  refine z_xri zt251 19 rfl zzr251 ?_
  show z_ev (d + 6) 263 16 [some (.ref 19), some (.int p1), some (.int p2), some (.int p3), none, none, none, none, none] [.int (-4)] M0 _
  refine z_xP zt263 7 20 [some (.ref 19), some (.int p1), some (.int p2), some (.int p3), some (.int (-4)), none, none, none, none] [.int (-4)] rfl rfl ?_
  refine z_xZ zt263 8 rfl rfl (fun (h54 : 0 ≤ ((-4) : Int)) => absurd h54 (by omega)) (fun (h54 : ((-4) : Int) < 0) => ?_)
  refine z_xP zt263 9 25 [some (.ref 19), some (.int p1), some (.int p2), some (.int p3), some (.int (-4)), none, none, none, none] [.int (-4)] rfl rfl ?_
  have qm4 : (((-4) : Int32)).toInt = (-4) := rfl
  exact z_xri zt263 10 rfl zzr263 (kk (-4) M0 X)
def zw266 : List Nat := [39, 40, 41, 42, 43, 44, 45, 46, 2229, 2230, 2234, 2235, 2241]
theorem zB266 {T : List zK} {d : Nat} {K : Option Value → zH → Prop} {p1 : Int32} {p2 : Int32} {p3 : Int32} {zp0 : Int32} {zl0 : Int32} {M0 : zH} (u1 : 0 ≤ p1.toInt ∧ p1.toInt ≤ 19) (u2 : 0 ≤ p2.toInt ∧ p2.toInt ≤ 7) (u3 : 1 ≤ p3.toInt ∧ p3.toInt ≤ 3) (hz0 : z_F M0 19 29 = some (.int zp0)) (bz0 : 0 ≤ zp0.toInt ∧ zp0.toInt ≤ 7) (hl0 : z_Ar M0 31 p2.toNatClampNeg = zl0) (bl0 : 1 ≤ zl0.toInt ∧ zl0.toInt ≤ 6) (kk : ∀ (M1 : zH), z_X T zw266 M0 M1 → ∀ (w0 : Int32), z_F M1 19 29 = some (.int w0) → 0 ≤ w0.toInt ∧ w0.toInt ≤ 7 → w0.toInt = p2.toInt → K none M1) : ∀ n : Nat, (∀ (M : zH) (b4 : Int32) (o5 : Option Value) (z0 : Int32) (z1 : Int32) (z2 : Int32) (z3 : Int32), z_X T zw266 M0 M → 0 ≤ b4.toInt ∧ b4.toInt ≤ 1 → z_F M 19 29 = some (.int z0) → 0 ≤ z0.toInt ∧ z0.toInt ≤ 7 → z_F M 19 30 = some (.int z1) → 1 ≤ z1.toInt ∧ z1.toInt ≤ 3 → z_Ar M 31 z0.toNatClampNeg = z2 → 1 ≤ z2.toInt ∧ z2.toInt ≤ 6 → z_F M 19 41 = some (.int z3) → 0 ≤ z3.toInt ∧ z3.toInt ≤ 216 → z2.toInt ≤ 6 → 1 ≤ z2.toInt → z1.toInt = p3.toInt → z0.toInt = p2.toInt → z_NB M z1.toInt z2.toInt → (b4.toInt = 1 → z_V z2.toInt (z_Ar M 43) z1.toInt.toNat = z3.toInt) → ((((0) * 3 + 1) * 742588 + (2 * (371293 - z_V 13 (z_Ar M 43) z1.toInt.toNat) + b4.toInt)) * 3 + 2) * 4 + (0) < (n : Int) → z_ev (d + 5) 266 14 [some (.ref 19), some (.int p1), some (.int p2), some (.int p3), some (.int b4), o5] [] M K) ∧ (∀ (M : zH) (b4 : Int32) (b5 : Int32) (z0 : Int32) (z1 : Int32) (z2 : Int32) (z3 : Int32), z_X T zw266 M0 M → 1 ≤ b4.toInt ∧ b4.toInt ≤ 1 → 0 ≤ b5.toInt ∧ b5.toInt ≤ 3 → z_F M 19 29 = some (.int z0) → 0 ≤ z0.toInt ∧ z0.toInt ≤ 7 → z_F M 19 30 = some (.int z1) → 1 ≤ z1.toInt ∧ z1.toInt ≤ 3 → z_Ar M 31 z0.toNatClampNeg = z2 → 1 ≤ z2.toInt ∧ z2.toInt ≤ 6 → z_F M 19 41 = some (.int z3) → 0 ≤ z3.toInt ∧ z3.toInt ≤ 215 → z2.toInt ≤ 6 → 1 ≤ z2.toInt → z1.toInt = p3.toInt → z0.toInt = p2.toInt → z3.toInt ≤ 215 → z_NB M z1.toInt z2.toInt → (b4.toInt = 1 → z_V z2.toInt (z_Ar M 43) z1.toInt.toNat = z3.toInt) → ((((0) * 3 + 1) * 742588 + (2 * (371293 - z_V 13 (z_Ar M 43) z1.toInt.toNat) + b4.toInt)) * 3 + 0) * 4 + (3 - b5.toInt) < (n : Int) → z_ev (d + 5) 266 53 [some (.ref 19), some (.int p1), some (.int p2), some (.int p3), some (.int b4), some (.int b5)] [] M K) := by
  intro n
  induction n with
  | zero => exact ⟨(by intro M b4 o5 z0 z1 z2 z3 X hh0 hp0 hh2 hp1 hh4 hp2 hh6 hp3 hh8 hh9 hh10 hh11 hh12 hn hr hE; have hV := z_V5 hn (by omega) (by omega) (by omega); have hW := z_V216 hn (by omega) (by omega) (by omega) (by omega); exfalso; omega), (by intro M b4 b5 z0 z1 z2 z3 X hh0 hh1 hp0 hh3 hp1 hh5 hp2 hh7 hp3 hh9 hh10 hh11 hh12 hh13 hh14 hn hr hE; have hV := z_V5 hn (by omega) (by omega) (by omega); have hW := z_V216 hn (by omega) (by omega) (by omega) (by omega); exfalso; omega)⟩
  | succ n ih =>
    refine ⟨?_, ?_⟩
    · skip
      intro M b4 o5 z0 z1 z2 z3 X hh0 hp0 hh2 hp1 hh4 hp2 hh6 hp3 hh8 hh9 hh10 hh11 hh12 hn hr hE
      have hV := z_V5 hn (by omega) (by omega) (by omega)
      have hW := z_V216 hn (by omega) (by omega) (by omega) (by omega)
      refine z_xP zt266 5 16 [some (.ref 19), some (.int p1), some (.int p2), some (.int p3), some (.int b4), o5] [.int b4] rfl rfl ?_
      refine z_xZ zt266 6 rfl rfl (fun (h1 : b4.toInt = 0) => ?_) (fun (h1 : b4.toInt ≠ 0) => ?_)
      · skip
        have f19 : T[19]? = some (.inl (12, 0, 0, 0, 0)) := X.1.k rfl (by decide)
        exact z_xrv zt266 48 rfl zzr266 (kk M X z0 hp0 ⟨by omega, by omega⟩ (by omega))
      refine z_xP zt266 7 21 [some (.ref 19), some (.int p1), some (.int p2), some (.int p3), some (.int b4), o5] [.int p1, .ref 19] rfl rfl ?_
      have f19 : T[19]? = some (.inl (12, 0, 0, 0, 0)) := X.1.k rfl (by decide)
      refine z_xcV (vs := [.ref 19, .int p1]) (r := []) (L2 := [some (.ref 19), some (.int p1), none]) zt266 8 rfl zo266 zzcV12_303 (Or.inl rfl) rfl X f19 rfl rfl rfl (Nat.le_of_ble_eq_true rfl) zzm239 (Nat.le_of_ble_eq_true rfl) rfl ?_
      refine zC239 X.1 (by omega) (fun M2 X3  => ?_)
      have X4 := X.go X3 (z_sb (by decide))
      show z_ev (d + 5) 266 24 [some (.ref 19), some (.int p1), some (.int p2), some (.int p3), some (.int b4), o5] [] M2 _
      refine z_xP zt266 9 25 [some (.ref 19), some (.int p1), some (.int p2), some (.int p3), some (.int b4), o5] [.ref 19] rfl rfl ?_
      refine z_xgX (b := 44) zt266 10 rfl zo266 zzf12_82 X4 f19 (by decide) (by decide) rfl ?_
      refine z_xP zt266 11 29 [some (.ref 19), some (.int p1), some (.int p2), some (.int p3), some (.int b4), o5] [.ref 19, .ref 44] rfl rfl ?_
      have h6 := (X3.2.f f19 (by decide) hp3)
      refine z_xgv zt266 12 rfl zo266 zzf12_339 X4 f19 (by decide) h6 ?_
      refine z_xP zt266 13 33 [some (.ref 19), some (.int p1), some (.int p2), some (.int p3), some (.int b4), o5] [.ref 19, .int z3, .ref 44] rfl rfl ?_
      refine z_xgI zt266 14 rfl zo266 zzf12_275 X4 f19 (by decide) (by decide) rfl (fun (x8 : Int32) h7 (h9 : (-2147483648) ≤ x8.toInt) (h10 : x8.toInt ≤ 2147483647) => ?_)
      have f44 : T[44]? = some (.inr (44, 0, 216, (-2147483648), 2147483647)) := X4.1.k rfl (by decide)
      refine z_xis zt266 15 rfl X4 f44 (by decide) (by decide) (by omega) (by omega) (Int32.le_toInt _) (Int32.toInt_le _) (by decide) (fun M11 X12 e13 h14 => ?_)
      refine z_xP zt266 16 38 [some (.ref 19), some (.int p1), some (.int p2), some (.int p3), some (.int b4), o5] [.ref 19] rfl rfl ?_
      refine z_xgX (b := 45) zt266 17 rfl zo266 zzf12_85 X12 f19 (by decide) (by decide) rfl ?_
      refine z_xP zt266 18 42 [some (.ref 19), some (.int p1), some (.int p2), some (.int p3), some (.int b4), o5] [.ref 19, .ref 45] rfl rfl ?_
      have h15 := (e13.f f19 (by decide) h6)
      refine z_xgv zt266 19 rfl zo266 zzf12_339 X12 f19 (by decide) h15 ?_
      refine z_xP zt266 20 46 [some (.ref 19), some (.int p1), some (.int p2), some (.int p3), some (.int b4), o5] [.ref 19, .int z3, .ref 45] rfl rfl ?_
      refine z_xgI zt266 21 rfl zo266 zzf12_278 X12 f19 (by decide) (by decide) rfl (fun (x17 : Int32) h16 (h18 : (-2147483648) ≤ x17.toInt) (h19 : x17.toInt ≤ 2147483647) => ?_)
      have f45 : T[45]? = some (.inr (45, 0, 216, (-2147483648), 2147483647)) := X12.1.k rfl (by decide)
      refine z_xis zt266 22 rfl X12 f45 (by decide) (by decide) (by omega) (by omega) (Int32.le_toInt _) (Int32.toInt_le _) (by decide) (fun M20 X21 e22 h23 => ?_)
      refine z_xP zt266 23 53 [some (.ref 19), some (.int p1), some (.int p2), some (.int p3), some (.int b4), some (.int 0)] [] rfl rfl ?_
      have h24 := (e22.f f19 (by decide) (e13.f f19 (by decide) (X3.2.f f19 (by decide) hp0)))
      have h25 := (e22.f f19 (by decide) (e13.f f19 (by decide) (X3.2.f f19 (by decide) hp1)))
      have f31 : T[31]? = some (.inr (31, 0, 8, 0, 1024)) := X21.1.k rfl (by decide)
      have h26 := ((congrFun (e22.a f31 (by decide)) _).trans ((congrFun (e13.a f31 (by decide)) _).trans ((congrFun (X3.2.a f31 (by decide)) _).trans hp2)))
      have h27 := (e22.f f19 (by decide) h15)
      have f43 : T[43]? = some (.inr (43, 0, 9, 0, 1023)) := X21.1.k rfl (by decide)
      have h28 := z_Ve (b := z2.toInt) (n := z1.toInt.toNat) (X3.2.a f43 (by decide))
      have h29 := z_Ve (b := z2.toInt) (n := z1.toInt.toNat) (e13.a f43 (by decide))
      have h30 := z_Ve (b := z2.toInt) (n := z1.toInt.toNat) (e22.a f43 (by decide))
      have h31 := z_NBm hn (X3.2.a f43 (by decide)) rfl rfl
      have h32 := z_Ve (b := 13) (n := z1.toInt.toNat) (X3.2.a f43 (by decide))
      have h33 := z_NBm h31 (e13.a f43 (by decide)) rfl rfl
      have h34 := z_Ve (b := 13) (n := z1.toInt.toNat) (e13.a f43 (by decide))
      have h35 := z_NBm h33 (e22.a f43 (by decide)) rfl rfl
      have h36 := z_Ve (b := 13) (n := z1.toInt.toNat) (e22.a f43 (by decide))
      have h37 := z_V5 h35 (by omega) (by omega) (by omega)
      have q0 : ((0 : Int32)).toInt = 0 := rfl
      exact ih.2 M20 b4 (0) z0 z1 z2 z3 X21 ⟨by omega, by omega⟩ (by decide) h24 ⟨by omega, by omega⟩ h25 ⟨by omega, by omega⟩ h26 ⟨by omega, by omega⟩ h27 ⟨by omega, by omega⟩ (by omega) (by omega) (by omega) (by omega) (by omega) h35 (by omega) (by omega)
    · skip
      intro M b4 b5 z0 z1 z2 z3 X hh0 hh1 hp0 hh3 hp1 hh5 hp2 hh7 hp3 hh9 hh10 hh11 hh12 hh13 hh14 hn hr hE
      have hV := z_V5 hn (by omega) (by omega) (by omega)
      have hW := z_V216 hn (by omega) (by omega) (by omega) (by omega)
      refine z_xP zt266 24 56 [some (.ref 19), some (.int p1), some (.int p2), some (.int p3), some (.int b4), some (.int b5)] [.int p3, .int b5] rfl rfl ?_
      refine z_xJ zt266 25 rfl rfl (fun (h1 : p3.toInt ≤ b5.toInt) => ?_) (fun (h1 : b5.toInt < p3.toInt) => ?_)
      · skip
        refine z_xP zt266 40 88 [some (.ref 19), some (.int p1), some (.int p2), some (.int p3), some (.int b4), some (.int b5)] [.ref 19, .ref 19] rfl rfl ?_
        have f19 : T[19]? = some (.inl (12, 0, 0, 0, 0)) := X.1.k rfl (by decide)
        refine z_xgv zt266 41 rfl zo266 zzf12_339 X f19 (by decide) hp3 ?_
        refine z_xP zt266 42 92 [some (.ref 19), some (.int p1), some (.int p2), some (.int p3), some (.int b4), some (.int b5)] [.int 1, .int z3, .ref 19] rfl rfl ?_
        refine z_xI zt266 43 rfl rfl (fun (x2 : Int32) (h3 : x2.toInt = z3.toInt + 1) => ?_) (z_pAdd rfl rfl (by omega) (by omega))
        refine z_xpf zt266 44 rfl zo266 zzf12_339 X f19 (by decide) (by decide) ⟨by omega, by omega⟩ rfl (by decide) zw12_41 (fun M4 X5 e6 h7 => ?_)
        refine z_xP zt266 45 98 [some (.ref 19), some (.int p1), some (.int p2), some (.int p3), some (.int b4), some (.int b5)] [.int 1, .ref 19] rfl rfl ?_
        refine z_xcV (vs := [.ref 19, .int 1]) (r := []) (L2 := [some (.ref 19), some (.int 1), none, none, none]) zt266 46 rfl zo266 zzcV12_326 (Or.inl rfl) rfl X5 f19 rfl rfl rfl (Nat.le_of_ble_eq_true rfl) zzm255 (Nat.le_of_ble_eq_true rfl) rfl ?_
        have q1 : ((1 : Int32)).toInt = 1 := rfl
        have h8 := (e6.f f19 (by decide) hp0)
        have h9 := (e6.f f19 (by decide) hp1)
        have f31 : T[31]? = some (.inr (31, 0, 8, 0, 1024)) := X5.1.k rfl (by decide)
        have h10 := ((congrFun (e6.a f31 (by decide)) _).trans hp2)
        have f43 : T[43]? = some (.inr (43, 0, 9, 0, 1023)) := X5.1.k rfl (by decide)
        have h11 := z_Ve (b := z2.toInt) (n := z1.toInt.toNat) (e6.a f43 (by decide))
        have h12 := z_NBm hn (e6.a f43 (by decide)) rfl rfl
        have h13 := z_Ve (b := 13) (n := z1.toInt.toNat) (e6.a f43 (by decide))
        have q1 : ((1 : Int32)).toInt = 1 := rfl
        refine zC255 X5.1 (by decide) h8 ⟨by omega, by omega⟩ h9 ⟨by omega, by omega⟩ h10 ⟨by omega, by omega⟩ h12 (fun x27 M14 X15 h28 h29 h16 h17 h18 z19 h20 h21 h22 z23 h24 h25 h26 => ?_)
        have X30 := X5.go X15 (z_sb (by decide))
        show z_ev (d + 5) 266 101 [some (.ref 19), some (.int p1), some (.int p2), some (.int p3), some (.int b4), some (.int b5)] [.int x27] M14 _
        refine z_xP zt266 47 14 [some (.ref 19), some (.int p1), some (.int p2), some (.int p3), some (.int x27), some (.int b5)] [] rfl rfl ?_
        have h32 := (X15.2.f f19 (by decide) h8)
        have h33 := (X15.2.f f19 (by decide) h9)
        have h34 := ((congrFun (X15.2.a f31 (by decide)) _).trans h10)
        have h35 := (X15.2.f f19 (by decide) h7)
        have h36 := z_V5 h16 (by omega) (by omega) (by omega)
        exact ih.1 M14 x27 (some (.int b5)) z0 z1 z2 x2 X30 ⟨by omega, by omega⟩ h32 ⟨by omega, by omega⟩ h33 ⟨by omega, by omega⟩ h34 ⟨by omega, by omega⟩ h35 ⟨by omega, by omega⟩ (by omega) (by omega) (by omega) (by omega) h16 (by omega) (by omega)
      refine z_xP zt266 26 60 [some (.ref 19), some (.int p1), some (.int p2), some (.int p3), some (.int b4), some (.int b5)] [.ref 19] rfl rfl ?_
      have f19 : T[19]? = some (.inl (12, 0, 0, 0, 0)) := X.1.k rfl (by decide)
      refine z_xgX (b := 46) zt266 27 rfl zo266 zzf12_88 X f19 (by decide) (by decide) rfl ?_
      refine z_xP zt266 28 65 [some (.ref 19), some (.int p1), some (.int p2), some (.int p3), some (.int b4), some (.int b5)] [.ref 19, .int 3, .ref 46] rfl rfl ?_
      refine z_xgv zt266 29 rfl zo266 zzf12_339 X f19 (by decide) hp3 ?_
      refine z_xI zt266 30 rfl rfl (fun (x37 : Int32) (h38 : x37.toInt = 3 * z3.toInt) => ?_) (z_pMul rfl rfl (by omega) (by omega))
      refine z_xP zt266 31 71 [some (.ref 19), some (.int p1), some (.int p2), some (.int p3), some (.int b4), some (.int b5)] [.int b5, .int x37, .ref 46] rfl rfl ?_
      refine z_xI zt266 32 rfl rfl (fun (x39 : Int32) (h40 : x39.toInt = x37.toInt + b5.toInt) => ?_) (z_pAdd rfl rfl (by omega) (by omega))
      refine z_xP zt266 33 73 [some (.ref 19), some (.int p1), some (.int p2), some (.int p3), some (.int b4), some (.int b5)] [.ref 19, .int x39, .ref 46] rfl rfl ?_
      refine z_xgX (b := 43) zt266 34 rfl zo266 zzf12_79 X f19 (by decide) (by decide) rfl ?_
      refine z_xP zt266 35 78 [some (.ref 19), some (.int p1), some (.int p2), some (.int p3), some (.int b4), some (.int b5)] [.int b5, .ref 43, .int x39, .ref 46] rfl rfl ?_
      have f43 : T[43]? = some (.inr (43, 0, 9, 0, 1023)) := X.1.k rfl (by decide)
      refine z_xil zt266 36 rfl X f43 (by decide) (by omega) (by omega) (fun (x41 : Int32) h42 (h43 : 0 ≤ x41.toInt) (h44 : x41.toInt ≤ 1023) => ?_)
      have f46 : T[46]? = some (.inr (46, 0, 648, 0, 1023)) := X.1.k rfl (by decide)
      refine z_xis zt266 37 rfl X f46 (by decide) (by decide) (by omega) (by omega) (by omega) (by omega) (by decide) (fun M45 X46 e47 h48 => ?_)
      refine z_xN zt266 38 rfl rfl (fun (x49 : Int32) (h50 : x49.toInt = b5.toInt + 1) => ?_) (z_pAdd rfl rfl (by omega) (by omega))
      show z_ev (d + 5) 266 83 [some (.ref 19), some (.int p1), some (.int p2), some (.int p3), some (.int b4), some (.int x49)] [] M45 _
      refine z_xP zt266 39 53 [some (.ref 19), some (.int p1), some (.int p2), some (.int p3), some (.int b4), some (.int x49)] [] rfl rfl ?_
      have h51 := (e47.f f19 (by decide) hp0)
      have h52 := (e47.f f19 (by decide) hp1)
      have f31 : T[31]? = some (.inr (31, 0, 8, 0, 1024)) := X46.1.k rfl (by decide)
      have h53 := ((congrFun (e47.a f31 (by decide)) _).trans hp2)
      have h54 := (e47.f f19 (by decide) hp3)
      have h55 := z_Ve (b := z2.toInt) (n := z1.toInt.toNat) (e47.a f43 (by decide))
      have h56 := z_NBm hn (e47.a f43 (by decide)) rfl rfl
      have h57 := z_Ve (b := 13) (n := z1.toInt.toNat) (e47.a f43 (by decide))
      have h58 := z_V5 h56 (by omega) (by omega) (by omega)
      exact ih.2 M45 b4 x49 z0 z1 z2 z3 X46 ⟨by omega, by omega⟩ ⟨by omega, by omega⟩ h51 ⟨by omega, by omega⟩ h52 ⟨by omega, by omega⟩ h53 ⟨by omega, by omega⟩ h54 ⟨by omega, by omega⟩ (by omega) (by omega) (by omega) (by omega) (by omega) h56 (by omega) (by omega)
theorem zC266 {T : List zK} {d : Nat} {K : Option Value → zH → Prop} {p1 : Int32} {p2 : Int32} {p3 : Int32} {zp0 : Int32} {zl0 : Int32} {M0 : zH} (hW : z_W M0 T) (u1 : 0 ≤ p1.toInt ∧ p1.toInt ≤ 19) (u2 : 0 ≤ p2.toInt ∧ p2.toInt ≤ 7) (u3 : 1 ≤ p3.toInt ∧ p3.toInt ≤ 3) (hz0 : z_F M0 19 29 = some (.int zp0)) (bz0 : 0 ≤ zp0.toInt ∧ zp0.toInt ≤ 7) (hl0 : z_Ar M0 31 p2.toNatClampNeg = zl0) (bl0 : 1 ≤ zl0.toInt ∧ zl0.toInt ≤ 6) (kk : ∀ (M1 : zH), z_X T zw266 M0 M1 → ∀ (w0 : Int32), z_F M1 19 29 = some (.int w0) → 0 ≤ w0.toInt ∧ w0.toInt ≤ 7 → w0.toInt = p2.toInt → K none M1) : z_ev (d + 5) 266 0 [some (.ref 19), some (.int p1), some (.int p2), some (.int p3), none, none] [] M0 K := by
  have X : z_X T zw266 M0 M0 := .refl hW
  refine z_xP zt266 0 2 [some (.ref 19), some (.int p1), some (.int p2), some (.int p3), none, none] [.int 0, .ref 19] rfl rfl ?_
  have f19 : T[19]? = some (.inl (12, 0, 0, 0, 0)) := X.1.k rfl (by decide)
  have q0 : ((0 : Int32)).toInt = 0 := rfl
  refine z_xpf zt266 1 rfl zo266 zzf12_339 X f19 (by decide) (by decide) ⟨by omega, by omega⟩ rfl (by decide) zw12_41 (fun M1 X2 e3 h4 => ?_)
  refine z_xP zt266 2 8 [some (.ref 19), some (.int p1), some (.int p2), some (.int p3), none, none] [.int p3, .int p2, .ref 19] rfl rfl ?_
  refine z_xcV (vs := [.ref 19, .int p2, .int p3]) (r := []) (L2 := [some (.ref 19), some (.int p2), some (.int p3), none]) zt266 3 rfl zo266 zzcV12_323 (Or.inl rfl) rfl X2 f19 rfl rfl rfl (Nat.le_of_ble_eq_true rfl) zzm252 (Nat.le_of_ble_eq_true rfl) rfl ?_
  have f31 : T[31]? = some (.inr (31, 0, 8, 0, 1024)) := X2.1.k rfl (by decide)
  have h5 := ((congrFun (e3.a f31 (by decide)) _).trans hl0)
  refine zC252 X2.1 (by omega) (by omega) h5 ⟨by omega, by omega⟩ (fun M7 X8 h9 h10 h11 => ?_)
  have X12 := X2.go X8 (z_sb (by decide))
  show z_ev (d + 5) 266 11 [some (.ref 19), some (.int p1), some (.int p2), some (.int p3), none, none] [] M7 _
  have h14 := z_NBw (L2 := zl0.toInt) h9 (by omega)
  refine z_xP zt266 4 14 [some (.ref 19), some (.int p1), some (.int p2), some (.int p3), some (.int 1), none] [] rfl rfl ?_
  have h15 := ((congrFun (X8.2.a f31 (by decide)) _).trans h5)
  have h16 := (X8.2.f f19 (by decide) h4)
  have q0 : ((0 : Int32)).toInt = 0 := rfl
  have h17 := z_V5 h14 (by omega) (by omega) (by omega)
  have h18 := z_V0 (b := zl0.toInt) (N := p3.toInt.toNat) h9 (by omega)
  have q1 : ((1 : Int32)).toInt = 1 := rfl
  exact (zB266 u1 u2 u3 hz0 bz0 hl0 bl0 kk 26733168).1 M7 (1) none p2 p3 zl0 (0) X12 (by decide) h10 ⟨by omega, by omega⟩ h11 ⟨by omega, by omega⟩ h15 ⟨by omega, by omega⟩ h16 (by decide) (by omega) (by omega) (by omega) (by omega) h14 (by omega) (by omega)
def zw268 : List Nat := []
theorem zB268 {T : List zK} {d : Nat} {K : Option Value → zH → Prop} {p1 : Int32} {p2 : Int32} {zp0 : Int32} {zl0 : Int32} {M0 : zH} (u1 : 0 ≤ p1.toInt ∧ p1.toInt ≤ 215) (u2 : 1 ≤ p2.toInt ∧ p2.toInt ≤ 3) (hz0 : z_F M0 19 29 = some (.int zp0)) (bz0 : 0 ≤ zp0.toInt ∧ zp0.toInt ≤ 7) (hl0 : z_Ar M0 31 zp0.toNatClampNeg = zl0) (bl0 : 1 ≤ zl0.toInt ∧ zl0.toInt ≤ 6) (kk : ∀ (x : Int32) (M1 : zH), z_X T zw268 M0 M1 → 0 ≤ x.toInt → x.toInt ≤ 2047 → 0 ≤ x.toInt ∧ x.toInt ≤ 215 → ∀ (w0 : Int32), z_F M1 19 29 = some (.int w0) → 0 ≤ w0.toInt ∧ w0.toInt ≤ 7 → w0.toInt = zp0.toInt → K (some (.int x)) M1) : ∀ n : Nat, (∀ (M : zH) (b3 : Int32) (b4 : Int32) (b5 : Int32) (o6 : Option Value) (z0 : Int32) (z1 : Int32), z_X T zw268 M0 M → 0 ≤ b3.toInt ∧ b3.toInt ≤ 2047 → 1 ≤ b4.toInt ∧ b4.toInt ≤ 6 → 0 ≤ b5.toInt ∧ b5.toInt ≤ 6 → z_F M 19 29 = some (.int z0) → 0 ≤ z0.toInt ∧ z0.toInt ≤ 7 → z_Ar M 31 z0.toNatClampNeg = z1 → 1 ≤ z1.toInt ∧ z1.toInt ≤ 6 → z0.toInt = zp0.toInt → z1.toInt = zl0.toInt → b4.toInt = z1.toInt → 0 ≤ b5.toInt → M = M0 → z_RI (z_Ar M0 46 (3 * p1.toInt.toNat)).toInt (z_Ar M0 46 (3 * p1.toInt.toNat + 1)).toInt (z_Ar M0 46 (3 * p1.toInt.toNat + 2)).toInt p2.toInt b5.toInt 0 b3.toInt → ((((0) * 3 + 1) * 7 + (6 - b5.toInt)) * 3 + 2) * 4 + (0) < (n : Int) → z_ev d 268 16 [some (.ref 19), some (.int p1), some (.int p2), some (.int b3), some (.int b4), some (.int b5), o6] [] M K) ∧ (∀ (M : zH) (b3 : Int32) (b4 : Int32) (b5 : Int32) (b6 : Int32) (z0 : Int32) (z1 : Int32), z_X T zw268 M0 M → 0 ≤ b3.toInt ∧ b3.toInt ≤ 2047 → 1 ≤ b4.toInt ∧ b4.toInt ≤ 6 → 0 ≤ b5.toInt ∧ b5.toInt ≤ 5 → 0 ≤ b6.toInt ∧ b6.toInt ≤ 3 → z_F M 19 29 = some (.int z0) → 0 ≤ z0.toInt ∧ z0.toInt ≤ 7 → z_Ar M 31 z0.toNatClampNeg = z1 → 1 ≤ z1.toInt ∧ z1.toInt ≤ 6 → z0.toInt = zp0.toInt → z1.toInt = zl0.toInt → b4.toInt = z1.toInt → 0 ≤ b5.toInt → b5.toInt < b4.toInt → b6.toInt ≤ p2.toInt → M = M0 → z_RI (z_Ar M0 46 (3 * p1.toInt.toNat)).toInt (z_Ar M0 46 (3 * p1.toInt.toNat + 1)).toInt (z_Ar M0 46 (3 * p1.toInt.toNat + 2)).toInt p2.toInt b5.toInt b6.toInt b3.toInt → ((((0) * 3 + 1) * 7 + (6 - b5.toInt)) * 3 + 0) * 4 + (3 - b6.toInt) < (n : Int) → z_ev d 268 26 [some (.ref 19), some (.int p1), some (.int p2), some (.int b3), some (.int b4), some (.int b5), some (.int b6)] [] M K) := by
  intro n
  induction n with
  | zero => exact ⟨(by intro M b3 b4 b5 o6 z0 z1 X hh0 hh1 hh2 hp0 hh4 hp1 hh6 hh7 hh8 hh9 hh10 hM hr hE; have hb := z_RIb hr; exfalso; omega), (by intro M b3 b4 b5 b6 z0 z1 X hh0 hh1 hh2 hh3 hp0 hh5 hp1 hh7 hh8 hh9 hh10 hh11 hh12 hh13 hM hr hE; have hb := z_RIb hr; exfalso; omega)⟩
  | succ n ih =>
    refine ⟨?_, ?_⟩
    · skip
      intro M b3 b4 b5 o6 z0 z1 X hh0 hh1 hh2 hp0 hh4 hp1 hh6 hh7 hh8 hh9 hh10 hM hr hE
      have hb := z_RIb hr
      refine z_xP zt268 6 20 [some (.ref 19), some (.int p1), some (.int p2), some (.int b3), some (.int b4), some (.int b5), o6] [.int b4, .int b5] rfl rfl ?_
      refine z_xJ zt268 7 rfl rfl (fun (h1 : b4.toInt ≤ b5.toInt) => ?_) (fun (h1 : b5.toInt < b4.toInt) => ?_)
      · skip
        refine z_xP zt268 31 73 [some (.ref 19), some (.int p1), some (.int p2), some (.int b3), some (.int b4), some (.int b5), o6] [.int b3] rfl rfl ?_
        have f19 : T[19]? = some (.inl (12, 0, 0, 0, 0)) := X.1.k rfl (by decide)
        exact z_xri zt268 32 rfl zzr268 (kk b3 M X (by omega) (by omega) ⟨by omega, by omega⟩ z0 hp0 ⟨by omega, by omega⟩ (by omega))
      refine z_xP zt268 8 26 [some (.ref 19), some (.int p1), some (.int p2), some (.int b3), some (.int b4), some (.int b5), some (.int 0)] [] rfl rfl ?_
      have f19 : T[19]? = some (.inl (12, 0, 0, 0, 0)) := X.1.k rfl (by decide)
      have f31 : T[31]? = some (.inr (31, 0, 8, 0, 1024)) := X.1.k rfl (by decide)
      have q0 : ((0 : Int32)).toInt = 0 := rfl
      exact ih.2 M b3 b4 b5 (0) z0 z1 X ⟨by omega, by omega⟩ ⟨by omega, by omega⟩ ⟨by omega, by omega⟩ (by decide) hp0 ⟨by omega, by omega⟩ hp1 ⟨by omega, by omega⟩ (by omega) (by omega) (by omega) (by omega) (by omega) (by omega) hM (z_RIj hr (by omega)) (by omega)
    · skip
      intro M b3 b4 b5 b6 z0 z1 X hh0 hh1 hh2 hh3 hp0 hh5 hp1 hh7 hh8 hh9 hh10 hh11 hh12 hh13 hM hr hE
      have hb := z_RIb hr
      refine z_xP zt268 9 29 [some (.ref 19), some (.int p1), some (.int p2), some (.int b3), some (.int b4), some (.int b5), some (.int b6)] [.int p2, .int b6] rfl rfl ?_
      refine z_xJ zt268 10 rfl rfl (fun (h1 : p2.toInt ≤ b6.toInt) => ?_) (fun (h1 : b6.toInt < p2.toInt) => ?_)
      · skip
        refine z_xN zt268 29 rfl rfl (fun (x2 : Int32) (h3 : x2.toInt = b5.toInt + 1) => ?_) (z_pAdd rfl rfl (by omega) (by omega))
        show z_ev d 268 69 [some (.ref 19), some (.int p1), some (.int p2), some (.int b3), some (.int b4), some (.int x2), some (.int b6)] [] M _
        refine z_xP zt268 30 16 [some (.ref 19), some (.int p1), some (.int p2), some (.int b3), some (.int b4), some (.int x2), some (.int b6)] [] rfl rfl ?_
        have f19 : T[19]? = some (.inl (12, 0, 0, 0, 0)) := X.1.k rfl (by decide)
        have f31 : T[31]? = some (.inr (31, 0, 8, 0, 1024)) := X.1.k rfl (by decide)
        exact ih.1 M b3 b4 x2 (some (.int b6)) z0 z1 X ⟨by omega, by omega⟩ ⟨by omega, by omega⟩ ⟨by omega, by omega⟩ hp0 ⟨by omega, by omega⟩ hp1 ⟨by omega, by omega⟩ (by omega) (by omega) (by omega) (by omega) hM (z_RIk hr (by omega)) (by omega)
      refine z_xP zt268 11 33 [some (.ref 19), some (.int p1), some (.int p2), some (.int b3), some (.int b4), some (.int b5), some (.int b6)] [.ref 19] rfl rfl ?_
      have f19 : T[19]? = some (.inl (12, 0, 0, 0, 0)) := X.1.k rfl (by decide)
      refine z_xgX (b := 46) zt268 12 rfl zo268 zzf12_88 X f19 (by decide) (by decide) rfl ?_
      refine z_xP zt268 13 38 [some (.ref 19), some (.int p1), some (.int p2), some (.int b3), some (.int b4), some (.int b5), some (.int b6)] [.int p1, .int 3, .ref 46] rfl rfl ?_
      refine z_xI zt268 14 rfl rfl (fun (x4 : Int32) (h5 : x4.toInt = 3 * p1.toInt) => ?_) (z_pMul rfl rfl (by omega) (by omega))
      refine z_xP zt268 15 41 [some (.ref 19), some (.int p1), some (.int p2), some (.int b3), some (.int b4), some (.int b5), some (.int b6)] [.int b6, .int x4, .ref 46] rfl rfl ?_
      refine z_xI zt268 16 rfl rfl (fun (x6 : Int32) (h7 : x6.toInt = x4.toInt + b6.toInt) => ?_) (z_pAdd rfl rfl (by omega) (by omega))
      have f46 : T[46]? = some (.inr (46, 0, 648, 0, 1023)) := X.1.k rfl (by decide)
      refine z_xil zt268 17 rfl X f46 (by decide) (by omega) (by omega) (fun (x8 : Int32) h9 (h10 : 0 ≤ x8.toInt) (h11 : x8.toInt ≤ 1023) => ?_)
      refine z_xP zt268 18 45 [some (.ref 19), some (.int p1), some (.int p2), some (.int b3), some (.int b4), some (.int b5), some (.int b6)] [.int b5, .int x8] rfl rfl ?_
      refine z_xJ zt268 19 rfl rfl (fun (h12 : x8.toInt ≠ b5.toInt) => ?_) (fun (h12 : x8.toInt = b5.toInt) => ?_)
      · skip
        refine z_xP zt268 25 59 [some (.ref 19), some (.int p1), some (.int p2), some (.int b3), some (.int b4), some (.int b5), some (.int b6)] [.int b3] rfl rfl ?_
        refine z_xP zt268 26 60 [some (.ref 19), some (.int p1), some (.int p2), some (.int b3), some (.int b4), some (.int b5), some (.int b6)] [] rfl rfl ?_
        refine z_xN zt268 27 rfl rfl (fun (x13 : Int32) (h14 : x13.toInt = b6.toInt + 1) => ?_) (z_pAdd rfl rfl (by omega) (by omega))
        show z_ev d 268 63 [some (.ref 19), some (.int p1), some (.int p2), some (.int b3), some (.int b4), some (.int b5), some (.int x13)] [] M _
        refine z_xP zt268 28 26 [some (.ref 19), some (.int p1), some (.int p2), some (.int b3), some (.int b4), some (.int b5), some (.int x13)] [] rfl rfl ?_
        have f31 : T[31]? = some (.inr (31, 0, 8, 0, 1024)) := X.1.k rfl (by decide)
        have h15 := z_sel (b := 3 * p1.toInt.toNat) (j := b6.toInt) h9 (by omega) (by omega) (by omega)
        rw [hM] at h15
        exact ih.2 M b3 b4 b5 x13 z0 z1 X ⟨by omega, by omega⟩ ⟨by omega, by omega⟩ ⟨by omega, by omega⟩ ⟨by omega, by omega⟩ hp0 ⟨by omega, by omega⟩ hp1 ⟨by omega, by omega⟩ (by omega) (by omega) (by omega) (by omega) (by omega) (by omega) hM (z_RIn hr (by omega)) (by omega)
      refine z_xP zt268 20 51 [some (.ref 19), some (.int p1), some (.int p2), some (.int b3), some (.int b4), some (.int b5), some (.int b6)] [.int b4, .int b3] rfl rfl ?_
      refine z_xI zt268 21 rfl rfl (fun (x16 : Int32) (h17 : 0 ≤ x16.toInt ∧ x16.toInt ≤ 6 * b3.toInt) => ?_) (z_pM6 rfl rfl (by omega) (by omega) (by omega) (by omega))
      refine z_xP zt268 22 54 [some (.ref 19), some (.int p1), some (.int p2), some (.int b3), some (.int b4), some (.int b5), some (.int b6)] [.int b5, .int x16] rfl rfl ?_
      refine z_xI zt268 23 rfl rfl (fun (x18 : Int32) (h19 : x18.toInt = x16.toInt + b5.toInt) => ?_) (z_pAdd rfl rfl (by omega) (by omega))
      refine z_xP zt268 24 59 [some (.ref 19), some (.int p1), some (.int p2), some (.int b3), some (.int b4), some (.int b5), some (.int b6)] [.int x18] rfl rfl ?_
      refine z_xP zt268 26 60 [some (.ref 19), some (.int p1), some (.int p2), some (.int x18), some (.int b4), some (.int b5), some (.int b6)] [] rfl rfl ?_
      refine z_xN zt268 27 rfl rfl (fun (x20 : Int32) (h21 : x20.toInt = b6.toInt + 1) => ?_) (z_pAdd rfl rfl (by omega) (by omega))
      show z_ev d 268 63 [some (.ref 19), some (.int p1), some (.int p2), some (.int x18), some (.int b4), some (.int b5), some (.int x20)] [] M _
      refine z_xP zt268 28 26 [some (.ref 19), some (.int p1), some (.int p2), some (.int x18), some (.int b4), some (.int b5), some (.int x20)] [] rfl rfl ?_
      have f31 : T[31]? = some (.inr (31, 0, 8, 0, 1024)) := X.1.k rfl (by decide)
      have h22 := z_sel (b := 3 * p1.toInt.toNat) (j := b6.toInt) h9 (by omega) (by omega) (by omega)
      rw [hM] at h22
      exact ih.2 M x18 b4 b5 x20 z0 z1 X ⟨by omega, by omega⟩ ⟨by omega, by omega⟩ ⟨by omega, by omega⟩ ⟨by omega, by omega⟩ hp0 ⟨by omega, by omega⟩ hp1 ⟨by omega, by omega⟩ (by omega) (by omega) (by omega) (by omega) (by omega) (by omega) hM (z_RIm hr h22 (by omega) (by omega) (by omega) (by omega) (by omega)) (by omega)
theorem zC268 {T : List zK} {d : Nat} {K : Option Value → zH → Prop} {p1 : Int32} {p2 : Int32} {zp0 : Int32} {zl0 : Int32} {M0 : zH} (hW : z_W M0 T) (u1 : 0 ≤ p1.toInt ∧ p1.toInt ≤ 215) (u2 : 1 ≤ p2.toInt ∧ p2.toInt ≤ 3) (hz0 : z_F M0 19 29 = some (.int zp0)) (bz0 : 0 ≤ zp0.toInt ∧ zp0.toInt ≤ 7) (hl0 : z_Ar M0 31 zp0.toNatClampNeg = zl0) (bl0 : 1 ≤ zl0.toInt ∧ zl0.toInt ≤ 6) (kk : ∀ (x : Int32) (M1 : zH), z_X T zw268 M0 M1 → 0 ≤ x.toInt → x.toInt ≤ 2047 → 0 ≤ x.toInt ∧ x.toInt ≤ 215 → ∀ (w0 : Int32), z_F M1 19 29 = some (.int w0) → 0 ≤ w0.toInt ∧ w0.toInt ≤ 7 → w0.toInt = zp0.toInt → K (some (.int x)) M1) : z_ev d 268 0 [some (.ref 19), some (.int p1), some (.int p2), none, none, none, none] [] M0 K := by
  have X : z_X T zw268 M0 M0 := .refl hW
  refine z_xP zt268 0 3 [some (.ref 19), some (.int p1), some (.int p2), some (.int 0), none, none, none] [.ref 19] rfl rfl ?_
  have f19 : T[19]? = some (.inl (12, 0, 0, 0, 0)) := X.1.k rfl (by decide)
  refine z_xgX (b := 31) zt268 1 rfl zo268 zzf12_43 X f19 (by decide) (by decide) rfl ?_
  refine z_xP zt268 2 7 [some (.ref 19), some (.int p1), some (.int p2), some (.int 0), none, none, none] [.ref 19, .ref 31] rfl rfl ?_
  refine z_xgv zt268 3 rfl zo268 zzf12_242 X f19 (by decide) hz0 ?_
  have f31 : T[31]? = some (.inr (31, 0, 8, 0, 1024)) := X.1.k rfl (by decide)
  refine z_xil zt268 4 rfl X f31 (by decide) (by omega) (by omega) (fun (x1 : Int32) h2 (h3 : 0 ≤ x1.toInt) (h4 : x1.toInt ≤ 1024) => ?_)
  have h5 := congrArg Int32.toInt (h2.symm.trans hl0)
  refine z_xP zt268 5 16 [some (.ref 19), some (.int p1), some (.int p2), some (.int 0), some (.int x1), some (.int 0), none] [] rfl rfl ?_
  have q0 : ((0 : Int32)).toInt = 0 := rfl
  exact (zB268 u1 u2 hz0 bz0 hl0 bl0 kk 252).1 M0 (0) x1 (0) none zp0 zl0 X (by decide) ⟨by omega, by omega⟩ (by decide) hz0 ⟨by omega, by omega⟩ hl0 ⟨by omega, by omega⟩ (by omega) (by omega) (by omega) (by omega) rfl (z_RI0 (by omega)) (by omega)
def zw269 : List Nat := []
theorem zB269 {T : List zK} {d : Nat} {K : Option Value → zH → Prop} {p1 : Int32} {p2 : Int32} {M0 : zH} (u1 : 0 ≤ p1.toInt ∧ p1.toInt ≤ 215) (u2 : 1 ≤ p2.toInt ∧ p2.toInt ≤ 3) (kk : ∀ (x : Int32) (M1 : zH), z_X T zw269 M0 M1 → 0 ≤ x.toInt → x.toInt ≤ 1 → K (some (.int x)) M1) : ∀ n : Nat, (∀ (M : zH) (b3 : Int32) (b4 : Int32) (o5 : Option Value) (o6 : Option Value) (o7 : Option Value), z_X T zw269 M0 M → 0 ≤ b3.toInt ∧ b3.toInt ≤ 1 → 0 ≤ b4.toInt ∧ b4.toInt ≤ 10 → ((((((0) * 4 + 2) * 11 + (10 - b4.toInt)) * 4 + 3) * 217 + (0)) * 4 + 3) * 4 + (0) < (n : Int) → z_ev (d + 1) 269 5 [some (.ref 19), some (.int p1), some (.int p2), some (.int b3), some (.int b4), o5, o6, o7] [] M K) ∧ (∀ (M : zH) (b3 : Int32) (b4 : Int32) (b5 : Int32) (o6 : Option Value) (o7 : Option Value), z_X T zw269 M0 M → 0 ≤ b3.toInt ∧ b3.toInt ≤ 1 → 0 ≤ b4.toInt ∧ b4.toInt ≤ 9 → 0 ≤ b5.toInt ∧ b5.toInt ≤ 216 → ((((((0) * 4 + 2) * 11 + (10 - b4.toInt)) * 4 + 1) * 217 + (216 - b5.toInt)) * 4 + 3) * 4 + (0) < (n : Int) → z_ev (d + 1) 269 22 [some (.ref 19), some (.int p1), some (.int p2), some (.int b3), some (.int b4), some (.int b5), o6, o7] [] M K) ∧ (∀ (M : zH) (b3 : Int32) (b4 : Int32) (b5 : Int32) (b6 : Int32) (b7 : Int32), z_X T zw269 M0 M → 1 ≤ p1.toInt ∧ p1.toInt ≤ 215 → 0 ≤ b3.toInt ∧ b3.toInt ≤ 1 → 0 ≤ b4.toInt ∧ b4.toInt ≤ 9 → 0 ≤ b5.toInt ∧ b5.toInt ≤ 215 → 0 ≤ b6.toInt ∧ b6.toInt ≤ 1 → 0 ≤ b7.toInt ∧ b7.toInt ≤ 3 → ((((((0) * 4 + 2) * 11 + (10 - b4.toInt)) * 4 + 1) * 217 + (216 - b5.toInt)) * 4 + 0) * 4 + (3 - b7.toInt) < (n : Int) → z_ev (d + 1) 269 34 [some (.ref 19), some (.int p1), some (.int p2), some (.int b3), some (.int b4), some (.int b5), some (.int b6), some (.int b7)] [] M K) := by
  intro n
  induction n with
  | zero => exact ⟨(by intros; exfalso; omega), (by intros; exfalso; omega), (by intros; exfalso; omega)⟩
  | succ n ih =>
    refine ⟨?_, ?_, ?_⟩
    · skip
      intro M b3 b4 o5 o6 o7 X hh0 hh1 hE
      refine z_xP zt269 1 8 [some (.ref 19), some (.int p1), some (.int p2), some (.int b3), some (.int b4), o5, o6, o7] [.ref 19, .int b4] rfl rfl ?_
      have f19 : T[19]? = some (.inl (12, 0, 0, 0, 0)) := X.1.k rfl (by decide)
      refine z_xgX (b := 24) zt269 2 rfl zo269 zzf12_22 X f19 (by decide) (by decide) rfl ?_
      refine z_xP zt269 3 12 [some (.ref 19), some (.int p1), some (.int p2), some (.int b3), some (.int b4), o5, o6, o7] [.ref 19, .ref 24, .int b4] rfl rfl ?_
      refine z_xgI zt269 4 rfl zo269 zzf12_242 X f19 (by decide) (by decide) rfl (fun (x2 : Int32) h1 (h3 : 0 ≤ x2.toInt) (h4 : x2.toInt ≤ 7) => ?_)
      have f24 : T[24]? = some (.inr (24, 0, 8, 0, 10)) := X.1.k rfl (by decide)
      refine z_xil zt269 5 rfl X f24 (by decide) (by omega) (by omega) (fun (x5 : Int32) h6 (h7 : 0 ≤ x5.toInt) (h8 : x5.toInt ≤ 10) => ?_)
      refine z_xJ zt269 6 rfl rfl (fun (h9 : x5.toInt ≤ b4.toInt) => ?_) (fun (h9 : b4.toInt < x5.toInt) => ?_)
      · skip
        refine z_xP zt269 82 178 [some (.ref 19), some (.int p1), some (.int p2), some (.int b3), some (.int b4), o5, o6, o7] [.int b3] rfl rfl ?_
        exact z_xrz zt269 83 rfl zzr269 (by omega) (by omega) (kk b3 M X (by omega) (by omega))
      refine z_xP zt269 7 22 [some (.ref 19), some (.int p1), some (.int p2), some (.int b3), some (.int b4), some (.int 0), o6, o7] [] rfl rfl ?_
      have q0 : ((0 : Int32)).toInt = 0 := rfl
      exact ih.2.1 M b3 b4 (0) (o6) (o7) X ⟨by omega, by omega⟩ ⟨by omega, by omega⟩ (by decide) (by omega)
    · skip
      intro M b3 b4 b5 o6 o7 X hh0 hh1 hh2 hE
      refine z_xP zt269 8 25 [some (.ref 19), some (.int p1), some (.int p2), some (.int b3), some (.int b4), some (.int b5), o6, o7] [.int p1, .int b5] rfl rfl ?_
      refine z_xJ zt269 9 rfl rfl (fun (h1 : p1.toInt ≤ b5.toInt) => ?_) (fun (h1 : b5.toInt < p1.toInt) => ?_)
      · skip
        refine z_xN zt269 80 rfl rfl (fun (x2 : Int32) (h3 : x2.toInt = b4.toInt + 1) => ?_) (z_pAdd rfl rfl (by omega) (by omega))
        show z_ev (d + 1) 269 174 [some (.ref 19), some (.int p1), some (.int p2), some (.int b3), some (.int x2), some (.int b5), o6, o7] [] M _
        refine z_xP zt269 81 5 [some (.ref 19), some (.int p1), some (.int p2), some (.int b3), some (.int x2), some (.int b5), o6, o7] [] rfl rfl ?_
        exact ih.1 M b3 x2 (some (.int b5)) (o6) (o7) X ⟨by omega, by omega⟩ ⟨by omega, by omega⟩ (by omega)
      refine z_xP zt269 10 34 [some (.ref 19), some (.int p1), some (.int p2), some (.int b3), some (.int b4), some (.int b5), some (.int 1), some (.int 0)] [] rfl rfl ?_
      have q0 : ((0 : Int32)).toInt = 0 := rfl
      have q1 : ((1 : Int32)).toInt = 1 := rfl
      exact ih.2.2 M b3 b4 b5 (1) (0) X ⟨by omega, by omega⟩ ⟨by omega, by omega⟩ ⟨by omega, by omega⟩ ⟨by omega, by omega⟩ (by decide) (by decide) (by omega)
    · skip
      intro M b3 b4 b5 b6 b7 X hh0 hh1 hh2 hh3 hh4 hh5 hE
      refine z_xP zt269 11 37 [some (.ref 19), some (.int p1), some (.int p2), some (.int b3), some (.int b4), some (.int b5), some (.int b6), some (.int b7)] [.int p2, .int b7] rfl rfl ?_
      refine z_xJ zt269 12 rfl rfl (fun (h1 : p2.toInt ≤ b7.toInt) => ?_) (fun (h1 : b7.toInt < p2.toInt) => ?_)
      · skip
        refine z_xP zt269 33 87 [some (.ref 19), some (.int p1), some (.int p2), some (.int b3), some (.int b4), some (.int b5), some (.int b6), some (.int b7)] [.ref 19] rfl rfl ?_
        have f19 : T[19]? = some (.inl (12, 0, 0, 0, 0)) := X.1.k rfl (by decide)
        refine z_xgX (b := 44) zt269 34 rfl zo269 zzf12_82 X f19 (by decide) (by decide) rfl ?_
        refine z_xP zt269 35 91 [some (.ref 19), some (.int p1), some (.int p2), some (.int b3), some (.int b4), some (.int b5), some (.int b6), some (.int b7)] [.int p1, .ref 44] rfl rfl ?_
        have f44 : T[44]? = some (.inr (44, 0, 216, (-2147483648), 2147483647)) := X.1.k rfl (by decide)
        refine z_xil zt269 36 rfl X f44 (by decide) (by omega) (by omega) (fun (x2 : Int32) h3 (h4 : (-2147483648) ≤ x2.toInt) (h5 : x2.toInt ≤ 2147483647) => ?_)
        refine z_xP zt269 37 94 [some (.ref 19), some (.int p1), some (.int p2), some (.int b3), some (.int b4), some (.int b5), some (.int b6), some (.int b7)] [.int b4, .int x2] rfl rfl ?_
        have h6 := z_b32 x2
        refine z_xI zt269 38 rfl rfl (P := fun _ => True) (fun (x7 : Int32) _ => ?_) trivial
        refine z_xP zt269 39 96 [some (.ref 19), some (.int p1), some (.int p2), some (.int b3), some (.int b4), some (.int b5), some (.int b6), some (.int b7)] [.int 1, .int x7] rfl rfl ?_
        refine z_xI zt269 40 rfl rfl (fun (x9 : Int32) (h10 : 0 ≤ x9.toInt ∧ x9.toInt ≤ 1) => ?_) (z_pAnd rfl (by omega))
        refine z_xP zt269 41 98 [some (.ref 19), some (.int p1), some (.int p2), some (.int b3), some (.int b4), some (.int b5), some (.int b6), some (.int b7)] [.ref 19, .int x9] rfl rfl ?_
        refine z_xgX (b := 44) zt269 42 rfl zo269 zzf12_82 X f19 (by decide) (by decide) rfl ?_
        refine z_xP zt269 43 103 [some (.ref 19), some (.int p1), some (.int p2), some (.int b3), some (.int b4), some (.int b5), some (.int b6), some (.int b7)] [.int b5, .ref 44, .int x9] rfl rfl ?_
        refine z_xil zt269 44 rfl X f44 (by decide) (by omega) (by omega) (fun (x11 : Int32) h12 (h13 : (-2147483648) ≤ x11.toInt) (h14 : x11.toInt ≤ 2147483647) => ?_)
        refine z_xP zt269 45 106 [some (.ref 19), some (.int p1), some (.int p2), some (.int b3), some (.int b4), some (.int b5), some (.int b6), some (.int b7)] [.int b4, .int x11, .int x9] rfl rfl ?_
        have h15 := z_b32 x11
        refine z_xI zt269 46 rfl rfl (P := fun _ => True) (fun (x16 : Int32) _ => ?_) trivial
        refine z_xP zt269 47 108 [some (.ref 19), some (.int p1), some (.int p2), some (.int b3), some (.int b4), some (.int b5), some (.int b6), some (.int b7)] [.int 1, .int x16, .int x9] rfl rfl ?_
        refine z_xI zt269 48 rfl rfl (fun (x18 : Int32) (h19 : 0 ≤ x18.toInt ∧ x18.toInt ≤ 1) => ?_) (z_pAnd rfl (by omega))
        refine z_xJ zt269 49 rfl rfl (fun (h20 : x9.toInt ≠ x18.toInt) => ?_) (fun (h20 : x9.toInt = x18.toInt) => ?_)
        · skip
          refine z_xP zt269 68 143 [some (.ref 19), some (.int p1), some (.int p2), some (.int b3), some (.int b4), some (.int b5), some (.int b6), some (.int b7)] [.int 0] rfl rfl ?_
          refine z_xP zt269 69 146 [some (.ref 19), some (.int p1), some (.int p2), some (.int b3), some (.int b4), some (.int b5), some (.int b6), some (.int 0)] [.int b3] rfl rfl ?_
          refine z_xZ zt269 70 rfl rfl (fun (h21 : b3.toInt = 0) => ?_) (fun (h21 : b3.toInt ≠ 0) => ?_)
          · skip
            refine z_xP zt269 76 164 [some (.ref 19), some (.int p1), some (.int p2), some (.int b3), some (.int b4), some (.int b5), some (.int b6), some (.int 0)] [.int 0] rfl rfl ?_
            refine z_xP zt269 77 165 [some (.ref 19), some (.int p1), some (.int p2), some (.int 0), some (.int b4), some (.int b5), some (.int b6), some (.int 0)] [] rfl rfl ?_
            refine z_xN zt269 78 rfl rfl (fun (x22 : Int32) (h23 : x22.toInt = b5.toInt + 1) => ?_) (z_pAdd rfl rfl (by omega) (by omega))
            show z_ev (d + 1) 269 168 [some (.ref 19), some (.int p1), some (.int p2), some (.int 0), some (.int b4), some (.int x22), some (.int b6), some (.int 0)] [] M _
            refine z_xP zt269 79 22 [some (.ref 19), some (.int p1), some (.int p2), some (.int 0), some (.int b4), some (.int x22), some (.int b6), some (.int 0)] [] rfl rfl ?_
            have q0 : ((0 : Int32)).toInt = 0 := rfl
            exact ih.2.1 M (0) b4 x22 (some (.int b6)) (some (.int 0)) X (by decide) ⟨by omega, by omega⟩ ⟨by omega, by omega⟩ (by omega)
          refine z_xP zt269 71 151 [some (.ref 19), some (.int p1), some (.int p2), some (.int b3), some (.int b4), some (.int b5), some (.int b6), some (.int 0)] [.int b6] rfl rfl ?_
          refine z_xZ zt269 72 rfl rfl (fun (h24 : b6.toInt = 0) => ?_) (fun (h24 : b6.toInt ≠ 0) => ?_)
          · skip
            refine z_xP zt269 75 164 [some (.ref 19), some (.int p1), some (.int p2), some (.int b3), some (.int b4), some (.int b5), some (.int b6), some (.int 0)] [.int 1] rfl rfl ?_
            refine z_xP zt269 77 165 [some (.ref 19), some (.int p1), some (.int p2), some (.int 1), some (.int b4), some (.int b5), some (.int b6), some (.int 0)] [] rfl rfl ?_
            refine z_xN zt269 78 rfl rfl (fun (x25 : Int32) (h26 : x25.toInt = b5.toInt + 1) => ?_) (z_pAdd rfl rfl (by omega) (by omega))
            show z_ev (d + 1) 269 168 [some (.ref 19), some (.int p1), some (.int p2), some (.int 1), some (.int b4), some (.int x25), some (.int b6), some (.int 0)] [] M _
            refine z_xP zt269 79 22 [some (.ref 19), some (.int p1), some (.int p2), some (.int 1), some (.int b4), some (.int x25), some (.int b6), some (.int 0)] [] rfl rfl ?_
            have q0 : ((0 : Int32)).toInt = 0 := rfl
            have q1 : ((1 : Int32)).toInt = 1 := rfl
            exact ih.2.1 M (1) b4 x25 (some (.int b6)) (some (.int 0)) X (by decide) ⟨by omega, by omega⟩ ⟨by omega, by omega⟩ (by omega)
          refine z_xP zt269 73 156 [some (.ref 19), some (.int p1), some (.int p2), some (.int b3), some (.int b4), some (.int b5), some (.int b6), some (.int 0)] [.int 0] rfl rfl ?_
          refine z_xZ zt269 74 rfl rfl (fun (h27 : (0 : Int) = 0) => ?_) (fun (h27 : (0 : Int) ≠ 0) => absurd h27 (by omega))
          refine z_xP zt269 76 164 [some (.ref 19), some (.int p1), some (.int p2), some (.int b3), some (.int b4), some (.int b5), some (.int b6), some (.int 0)] [.int 0] rfl rfl ?_
          refine z_xP zt269 77 165 [some (.ref 19), some (.int p1), some (.int p2), some (.int 0), some (.int b4), some (.int b5), some (.int b6), some (.int 0)] [] rfl rfl ?_
          refine z_xN zt269 78 rfl rfl (fun (x28 : Int32) (h29 : x28.toInt = b5.toInt + 1) => ?_) (z_pAdd rfl rfl (by omega) (by omega))
          show z_ev (d + 1) 269 168 [some (.ref 19), some (.int p1), some (.int p2), some (.int 0), some (.int b4), some (.int x28), some (.int b6), some (.int 0)] [] M _
          refine z_xP zt269 79 22 [some (.ref 19), some (.int p1), some (.int p2), some (.int 0), some (.int b4), some (.int x28), some (.int b6), some (.int 0)] [] rfl rfl ?_
          have q0 : ((0 : Int32)).toInt = 0 := rfl
          exact ih.2.1 M (0) b4 x28 (some (.int b6)) (some (.int 0)) X (by decide) ⟨by omega, by omega⟩ ⟨by omega, by omega⟩ (by omega)
        refine z_xP zt269 50 113 [some (.ref 19), some (.int p1), some (.int p2), some (.int b3), some (.int b4), some (.int b5), some (.int b6), some (.int b7)] [.ref 19] rfl rfl ?_
        refine z_xgX (b := 45) zt269 51 rfl zo269 zzf12_85 X f19 (by decide) (by decide) rfl ?_
        refine z_xP zt269 52 117 [some (.ref 19), some (.int p1), some (.int p2), some (.int b3), some (.int b4), some (.int b5), some (.int b6), some (.int b7)] [.int p1, .ref 45] rfl rfl ?_
        have f45 : T[45]? = some (.inr (45, 0, 216, (-2147483648), 2147483647)) := X.1.k rfl (by decide)
        refine z_xil zt269 53 rfl X f45 (by decide) (by omega) (by omega) (fun (x30 : Int32) h31 (h32 : (-2147483648) ≤ x30.toInt) (h33 : x30.toInt ≤ 2147483647) => ?_)
        refine z_xP zt269 54 120 [some (.ref 19), some (.int p1), some (.int p2), some (.int b3), some (.int b4), some (.int b5), some (.int b6), some (.int b7)] [.int b4, .int x30] rfl rfl ?_
        have h34 := z_b32 x30
        refine z_xI zt269 55 rfl rfl (P := fun _ => True) (fun (x35 : Int32) _ => ?_) trivial
        refine z_xP zt269 56 122 [some (.ref 19), some (.int p1), some (.int p2), some (.int b3), some (.int b4), some (.int b5), some (.int b6), some (.int b7)] [.int 1, .int x35] rfl rfl ?_
        refine z_xI zt269 57 rfl rfl (fun (x37 : Int32) (h38 : 0 ≤ x37.toInt ∧ x37.toInt ≤ 1) => ?_) (z_pAnd rfl (by omega))
        refine z_xP zt269 58 124 [some (.ref 19), some (.int p1), some (.int p2), some (.int b3), some (.int b4), some (.int b5), some (.int b6), some (.int b7)] [.ref 19, .int x37] rfl rfl ?_
        refine z_xgX (b := 45) zt269 59 rfl zo269 zzf12_85 X f19 (by decide) (by decide) rfl ?_
        refine z_xP zt269 60 129 [some (.ref 19), some (.int p1), some (.int p2), some (.int b3), some (.int b4), some (.int b5), some (.int b6), some (.int b7)] [.int b5, .ref 45, .int x37] rfl rfl ?_
        refine z_xil zt269 61 rfl X f45 (by decide) (by omega) (by omega) (fun (x39 : Int32) h40 (h41 : (-2147483648) ≤ x39.toInt) (h42 : x39.toInt ≤ 2147483647) => ?_)
        refine z_xP zt269 62 132 [some (.ref 19), some (.int p1), some (.int p2), some (.int b3), some (.int b4), some (.int b5), some (.int b6), some (.int b7)] [.int b4, .int x39, .int x37] rfl rfl ?_
        have h43 := z_b32 x39
        refine z_xI zt269 63 rfl rfl (P := fun _ => True) (fun (x44 : Int32) _ => ?_) trivial
        refine z_xP zt269 64 134 [some (.ref 19), some (.int p1), some (.int p2), some (.int b3), some (.int b4), some (.int b5), some (.int b6), some (.int b7)] [.int 1, .int x44, .int x37] rfl rfl ?_
        refine z_xI zt269 65 rfl rfl (fun (x46 : Int32) (h47 : 0 ≤ x46.toInt ∧ x46.toInt ≤ 1) => ?_) (z_pAnd rfl (by omega))
        refine z_xJ zt269 66 rfl rfl (fun (h48 : x37.toInt ≠ x46.toInt) => ?_) (fun (h48 : x37.toInt = x46.toInt) => ?_)
        · skip
          refine z_xP zt269 68 143 [some (.ref 19), some (.int p1), some (.int p2), some (.int b3), some (.int b4), some (.int b5), some (.int b6), some (.int b7)] [.int 0] rfl rfl ?_
          refine z_xP zt269 69 146 [some (.ref 19), some (.int p1), some (.int p2), some (.int b3), some (.int b4), some (.int b5), some (.int b6), some (.int 0)] [.int b3] rfl rfl ?_
          refine z_xZ zt269 70 rfl rfl (fun (h49 : b3.toInt = 0) => ?_) (fun (h49 : b3.toInt ≠ 0) => ?_)
          · skip
            refine z_xP zt269 76 164 [some (.ref 19), some (.int p1), some (.int p2), some (.int b3), some (.int b4), some (.int b5), some (.int b6), some (.int 0)] [.int 0] rfl rfl ?_
            refine z_xP zt269 77 165 [some (.ref 19), some (.int p1), some (.int p2), some (.int 0), some (.int b4), some (.int b5), some (.int b6), some (.int 0)] [] rfl rfl ?_
            refine z_xN zt269 78 rfl rfl (fun (x50 : Int32) (h51 : x50.toInt = b5.toInt + 1) => ?_) (z_pAdd rfl rfl (by omega) (by omega))
            show z_ev (d + 1) 269 168 [some (.ref 19), some (.int p1), some (.int p2), some (.int 0), some (.int b4), some (.int x50), some (.int b6), some (.int 0)] [] M _
            refine z_xP zt269 79 22 [some (.ref 19), some (.int p1), some (.int p2), some (.int 0), some (.int b4), some (.int x50), some (.int b6), some (.int 0)] [] rfl rfl ?_
            have q0 : ((0 : Int32)).toInt = 0 := rfl
            exact ih.2.1 M (0) b4 x50 (some (.int b6)) (some (.int 0)) X (by decide) ⟨by omega, by omega⟩ ⟨by omega, by omega⟩ (by omega)
          refine z_xP zt269 71 151 [some (.ref 19), some (.int p1), some (.int p2), some (.int b3), some (.int b4), some (.int b5), some (.int b6), some (.int 0)] [.int b6] rfl rfl ?_
          refine z_xZ zt269 72 rfl rfl (fun (h52 : b6.toInt = 0) => ?_) (fun (h52 : b6.toInt ≠ 0) => ?_)
          · skip
            refine z_xP zt269 75 164 [some (.ref 19), some (.int p1), some (.int p2), some (.int b3), some (.int b4), some (.int b5), some (.int b6), some (.int 0)] [.int 1] rfl rfl ?_
            refine z_xP zt269 77 165 [some (.ref 19), some (.int p1), some (.int p2), some (.int 1), some (.int b4), some (.int b5), some (.int b6), some (.int 0)] [] rfl rfl ?_
            refine z_xN zt269 78 rfl rfl (fun (x53 : Int32) (h54 : x53.toInt = b5.toInt + 1) => ?_) (z_pAdd rfl rfl (by omega) (by omega))
            show z_ev (d + 1) 269 168 [some (.ref 19), some (.int p1), some (.int p2), some (.int 1), some (.int b4), some (.int x53), some (.int b6), some (.int 0)] [] M _
            refine z_xP zt269 79 22 [some (.ref 19), some (.int p1), some (.int p2), some (.int 1), some (.int b4), some (.int x53), some (.int b6), some (.int 0)] [] rfl rfl ?_
            have q0 : ((0 : Int32)).toInt = 0 := rfl
            have q1 : ((1 : Int32)).toInt = 1 := rfl
            exact ih.2.1 M (1) b4 x53 (some (.int b6)) (some (.int 0)) X (by decide) ⟨by omega, by omega⟩ ⟨by omega, by omega⟩ (by omega)
          refine z_xP zt269 73 156 [some (.ref 19), some (.int p1), some (.int p2), some (.int b3), some (.int b4), some (.int b5), some (.int b6), some (.int 0)] [.int 0] rfl rfl ?_
          refine z_xZ zt269 74 rfl rfl (fun (h55 : (0 : Int) = 0) => ?_) (fun (h55 : (0 : Int) ≠ 0) => absurd h55 (by omega))
          refine z_xP zt269 76 164 [some (.ref 19), some (.int p1), some (.int p2), some (.int b3), some (.int b4), some (.int b5), some (.int b6), some (.int 0)] [.int 0] rfl rfl ?_
          refine z_xP zt269 77 165 [some (.ref 19), some (.int p1), some (.int p2), some (.int 0), some (.int b4), some (.int b5), some (.int b6), some (.int 0)] [] rfl rfl ?_
          refine z_xN zt269 78 rfl rfl (fun (x56 : Int32) (h57 : x56.toInt = b5.toInt + 1) => ?_) (z_pAdd rfl rfl (by omega) (by omega))
          show z_ev (d + 1) 269 168 [some (.ref 19), some (.int p1), some (.int p2), some (.int 0), some (.int b4), some (.int x56), some (.int b6), some (.int 0)] [] M _
          refine z_xP zt269 79 22 [some (.ref 19), some (.int p1), some (.int p2), some (.int 0), some (.int b4), some (.int x56), some (.int b6), some (.int 0)] [] rfl rfl ?_
          have q0 : ((0 : Int32)).toInt = 0 := rfl
          exact ih.2.1 M (0) b4 x56 (some (.int b6)) (some (.int 0)) X (by decide) ⟨by omega, by omega⟩ ⟨by omega, by omega⟩ (by omega)
        refine z_xP zt269 67 143 [some (.ref 19), some (.int p1), some (.int p2), some (.int b3), some (.int b4), some (.int b5), some (.int b6), some (.int b7)] [.int 1] rfl rfl ?_
        refine z_xP zt269 69 146 [some (.ref 19), some (.int p1), some (.int p2), some (.int b3), some (.int b4), some (.int b5), some (.int b6), some (.int 1)] [.int b3] rfl rfl ?_
        refine z_xZ zt269 70 rfl rfl (fun (h58 : b3.toInt = 0) => ?_) (fun (h58 : b3.toInt ≠ 0) => ?_)
        · skip
          refine z_xP zt269 76 164 [some (.ref 19), some (.int p1), some (.int p2), some (.int b3), some (.int b4), some (.int b5), some (.int b6), some (.int 1)] [.int 0] rfl rfl ?_
          refine z_xP zt269 77 165 [some (.ref 19), some (.int p1), some (.int p2), some (.int 0), some (.int b4), some (.int b5), some (.int b6), some (.int 1)] [] rfl rfl ?_
          refine z_xN zt269 78 rfl rfl (fun (x59 : Int32) (h60 : x59.toInt = b5.toInt + 1) => ?_) (z_pAdd rfl rfl (by omega) (by omega))
          show z_ev (d + 1) 269 168 [some (.ref 19), some (.int p1), some (.int p2), some (.int 0), some (.int b4), some (.int x59), some (.int b6), some (.int 1)] [] M _
          refine z_xP zt269 79 22 [some (.ref 19), some (.int p1), some (.int p2), some (.int 0), some (.int b4), some (.int x59), some (.int b6), some (.int 1)] [] rfl rfl ?_
          have q0 : ((0 : Int32)).toInt = 0 := rfl
          have q1 : ((1 : Int32)).toInt = 1 := rfl
          exact ih.2.1 M (0) b4 x59 (some (.int b6)) (some (.int 1)) X (by decide) ⟨by omega, by omega⟩ ⟨by omega, by omega⟩ (by omega)
        refine z_xP zt269 71 151 [some (.ref 19), some (.int p1), some (.int p2), some (.int b3), some (.int b4), some (.int b5), some (.int b6), some (.int 1)] [.int b6] rfl rfl ?_
        refine z_xZ zt269 72 rfl rfl (fun (h61 : b6.toInt = 0) => ?_) (fun (h61 : b6.toInt ≠ 0) => ?_)
        · skip
          refine z_xP zt269 75 164 [some (.ref 19), some (.int p1), some (.int p2), some (.int b3), some (.int b4), some (.int b5), some (.int b6), some (.int 1)] [.int 1] rfl rfl ?_
          refine z_xP zt269 77 165 [some (.ref 19), some (.int p1), some (.int p2), some (.int 1), some (.int b4), some (.int b5), some (.int b6), some (.int 1)] [] rfl rfl ?_
          refine z_xN zt269 78 rfl rfl (fun (x62 : Int32) (h63 : x62.toInt = b5.toInt + 1) => ?_) (z_pAdd rfl rfl (by omega) (by omega))
          show z_ev (d + 1) 269 168 [some (.ref 19), some (.int p1), some (.int p2), some (.int 1), some (.int b4), some (.int x62), some (.int b6), some (.int 1)] [] M _
          refine z_xP zt269 79 22 [some (.ref 19), some (.int p1), some (.int p2), some (.int 1), some (.int b4), some (.int x62), some (.int b6), some (.int 1)] [] rfl rfl ?_
          have q1 : ((1 : Int32)).toInt = 1 := rfl
          exact ih.2.1 M (1) b4 x62 (some (.int b6)) (some (.int 1)) X (by decide) ⟨by omega, by omega⟩ ⟨by omega, by omega⟩ (by omega)
        refine z_xP zt269 73 156 [some (.ref 19), some (.int p1), some (.int p2), some (.int b3), some (.int b4), some (.int b5), some (.int b6), some (.int 1)] [.int 1] rfl rfl ?_
        refine z_xZ zt269 74 rfl rfl (fun (h64 : (1 : Int) = 0) => absurd h64 (by omega)) (fun (h64 : (1 : Int) ≠ 0) => ?_)
        refine z_xP zt269 75 164 [some (.ref 19), some (.int p1), some (.int p2), some (.int b3), some (.int b4), some (.int b5), some (.int b6), some (.int 1)] [.int 1] rfl rfl ?_
        refine z_xP zt269 77 165 [some (.ref 19), some (.int p1), some (.int p2), some (.int 1), some (.int b4), some (.int b5), some (.int b6), some (.int 1)] [] rfl rfl ?_
        refine z_xN zt269 78 rfl rfl (fun (x65 : Int32) (h66 : x65.toInt = b5.toInt + 1) => ?_) (z_pAdd rfl rfl (by omega) (by omega))
        show z_ev (d + 1) 269 168 [some (.ref 19), some (.int p1), some (.int p2), some (.int 1), some (.int b4), some (.int x65), some (.int b6), some (.int 1)] [] M _
        refine z_xP zt269 79 22 [some (.ref 19), some (.int p1), some (.int p2), some (.int 1), some (.int b4), some (.int x65), some (.int b6), some (.int 1)] [] rfl rfl ?_
        have q1 : ((1 : Int32)).toInt = 1 := rfl
        exact ih.2.1 M (1) b4 x65 (some (.int b6)) (some (.int 1)) X (by decide) ⟨by omega, by omega⟩ ⟨by omega, by omega⟩ (by omega)
      refine z_xP zt269 13 42 [some (.ref 19), some (.int p1), some (.int p2), some (.int b3), some (.int b4), some (.int b5), some (.int b6), some (.int b7)] [.int b6] rfl rfl ?_
      refine z_xZ zt269 14 rfl rfl (fun (h67 : b6.toInt = 0) => ?_) (fun (h67 : b6.toInt ≠ 0) => ?_)
      · skip
        refine z_xP zt269 29 78 [some (.ref 19), some (.int p1), some (.int p2), some (.int b3), some (.int b4), some (.int b5), some (.int b6), some (.int b7)] [.int 0] rfl rfl ?_
        refine z_xP zt269 30 80 [some (.ref 19), some (.int p1), some (.int p2), some (.int b3), some (.int b4), some (.int b5), some (.int 0), some (.int b7)] [] rfl rfl ?_
        refine z_xN zt269 31 rfl rfl (fun (x68 : Int32) (h69 : x68.toInt = b7.toInt + 1) => ?_) (z_pAdd rfl rfl (by omega) (by omega))
        show z_ev (d + 1) 269 83 [some (.ref 19), some (.int p1), some (.int p2), some (.int b3), some (.int b4), some (.int b5), some (.int 0), some (.int x68)] [] M _
        refine z_xP zt269 32 34 [some (.ref 19), some (.int p1), some (.int p2), some (.int b3), some (.int b4), some (.int b5), some (.int 0), some (.int x68)] [] rfl rfl ?_
        have q0 : ((0 : Int32)).toInt = 0 := rfl
        exact ih.2.2 M b3 b4 b5 (0) x68 X ⟨by omega, by omega⟩ ⟨by omega, by omega⟩ ⟨by omega, by omega⟩ ⟨by omega, by omega⟩ (by decide) ⟨by omega, by omega⟩ (by omega)
      refine z_xP zt269 15 49 [some (.ref 19), some (.int p1), some (.int p2), some (.int b3), some (.int b4), some (.int b5), some (.int b6), some (.int b7)] [.int b7, .int p1, .ref 19] rfl rfl ?_
      have f19 : T[19]? = some (.inl (12, 0, 0, 0, 0)) := X.1.k rfl (by decide)
      refine z_xcV (vs := [.ref 19, .int p1, .int b7]) (r := []) (L2 := [some (.ref 19), some (.int p1), some (.int b7)]) zt269 16 rfl zo269 zzcV12_342 (Or.inl rfl) rfl X f19 rfl rfl rfl (Nat.le_of_ble_eq_true rfl) zzm267 (Nat.le_of_ble_eq_true rfl) rfl ?_
      refine z_xP zt267 0 1 [some (.ref 19), some (.int p1), some (.int b7)] [.ref 19] rfl rfl ?_
      refine z_xgX (b := 30) zt267 1 rfl zo267 zzf12_40 X f19 (by decide) (by decide) rfl ?_
      refine z_xP zt267 2 8 [some (.ref 19), some (.int p1), some (.int b7)] [.ref 19, .int 1024, .ref 30] rfl rfl ?_
      refine z_xgI zt267 3 rfl zo267 zzf12_242 X f19 (by decide) (by decide) rfl (fun (x71 : Int32) h70 (h72 : 0 ≤ x71.toInt) (h73 : x71.toInt ≤ 7) => ?_)
      refine z_xI zt267 4 rfl rfl (fun (x74 : Int32) (h75 : x74.toInt = 1024 * x71.toInt) => ?_) (z_pMul rfl rfl (by omega) (by omega))
      refine z_xP zt267 5 13 [some (.ref 19), some (.int p1), some (.int b7)] [.ref 19, .int x74, .ref 30] rfl rfl ?_
      refine z_xgX (b := 46) zt267 6 rfl zo267 zzf12_88 X f19 (by decide) (by decide) rfl ?_
      refine z_xP zt267 7 18 [some (.ref 19), some (.int p1), some (.int b7)] [.int p1, .int 3, .ref 46, .int x74, .ref 30] rfl rfl ?_
      refine z_xI zt267 8 rfl rfl (fun (x76 : Int32) (h77 : x76.toInt = 3 * p1.toInt) => ?_) (z_pMul rfl rfl (by omega) (by omega))
      refine z_xP zt267 9 20 [some (.ref 19), some (.int p1), some (.int b7)] [.int b7, .int x76, .ref 46, .int x74, .ref 30] rfl rfl ?_
      refine z_xI zt267 10 rfl rfl (fun (x78 : Int32) (h79 : x78.toInt = x76.toInt + b7.toInt) => ?_) (z_pAdd rfl rfl (by omega) (by omega))
      have f46 : T[46]? = some (.inr (46, 0, 648, 0, 1023)) := X.1.k rfl (by decide)
      refine z_xil zt267 11 rfl X f46 (by decide) (by omega) (by omega) (fun (x80 : Int32) h81 (h82 : 0 ≤ x80.toInt) (h83 : x80.toInt ≤ 1023) => ?_)
      refine z_xI zt267 12 rfl rfl (fun (x84 : Int32) (h85 : x84.toInt = x74.toInt + x80.toInt) => ?_) (z_pAdd rfl rfl (by omega) (by omega))
      have f30 : T[30]? = some (.inr (30, 0, 8192, 0, 1023)) := X.1.k rfl (by decide)
      refine z_xil zt267 13 rfl X f30 (by decide) (by omega) (by omega) (fun (x86 : Int32) h87 (h88 : 0 ≤ x86.toInt) (h89 : x86.toInt ≤ 1023) => ?_)
      refine z_xri zt267 14 rfl zzr267 ?_
      show z_ev (d + 1) 269 52 [some (.ref 19), some (.int p1), some (.int p2), some (.int b3), some (.int b4), some (.int b5), some (.int b6), some (.int b7)] [.int x86] M _
      refine z_xP zt269 17 54 [some (.ref 19), some (.int p1), some (.int p2), some (.int b3), some (.int b4), some (.int b5), some (.int b6), some (.int b7)] [.int b4, .int x86] rfl rfl ?_
      refine z_xI zt269 18 rfl rfl (fun (x90 : Int32) (h91 : 0 ≤ x90.toInt ∧ x90.toInt ≤ x86.toInt) => ?_) (z_pShrN rfl (by omega))
      refine z_xP zt269 19 56 [some (.ref 19), some (.int p1), some (.int p2), some (.int b3), some (.int b4), some (.int b5), some (.int b6), some (.int b7)] [.int 1, .int x90] rfl rfl ?_
      refine z_xI zt269 20 rfl rfl (fun (x92 : Int32) (h93 : 0 ≤ x92.toInt ∧ x92.toInt ≤ x90.toInt ∧ x92.toInt ≤ 1) => ?_) (z_pAnd2 rfl rfl (by omega) (by omega))
      refine z_xP zt269 21 62 [some (.ref 19), some (.int p1), some (.int p2), some (.int b3), some (.int b4), some (.int b5), some (.int b6), some (.int b7)] [.int b7, .int b5, .ref 19, .int x92] rfl rfl ?_
      refine z_xcV (vs := [.ref 19, .int b5, .int b7]) (r := [.int x92]) (L2 := [some (.ref 19), some (.int b5), some (.int b7)]) zt269 22 rfl zo269 zzcV12_342 (Or.inl rfl) rfl X f19 rfl rfl rfl (Nat.le_of_ble_eq_true rfl) zzm267 (Nat.le_of_ble_eq_true rfl) rfl ?_
      refine z_xP zt267 0 1 [some (.ref 19), some (.int b5), some (.int b7)] [.ref 19] rfl rfl ?_
      refine z_xgX (b := 30) zt267 1 rfl zo267 zzf12_40 X f19 (by decide) (by decide) rfl ?_
      refine z_xP zt267 2 8 [some (.ref 19), some (.int b5), some (.int b7)] [.ref 19, .int 1024, .ref 30] rfl rfl ?_
      refine z_xgv zt267 3 rfl zo267 zzf12_242 X f19 (by decide) h70 ?_
      refine z_xI zt267 4 rfl rfl (fun (x94 : Int32) (h95 : x94.toInt = 1024 * x71.toInt) => ?_) (z_pMul rfl rfl (by omega) (by omega))
      refine z_xP zt267 5 13 [some (.ref 19), some (.int b5), some (.int b7)] [.ref 19, .int x94, .ref 30] rfl rfl ?_
      refine z_xgX (b := 46) zt267 6 rfl zo267 zzf12_88 X f19 (by decide) (by decide) rfl ?_
      refine z_xP zt267 7 18 [some (.ref 19), some (.int b5), some (.int b7)] [.int b5, .int 3, .ref 46, .int x94, .ref 30] rfl rfl ?_
      refine z_xI zt267 8 rfl rfl (fun (x96 : Int32) (h97 : x96.toInt = 3 * b5.toInt) => ?_) (z_pMul rfl rfl (by omega) (by omega))
      refine z_xP zt267 9 20 [some (.ref 19), some (.int b5), some (.int b7)] [.int b7, .int x96, .ref 46, .int x94, .ref 30] rfl rfl ?_
      refine z_xI zt267 10 rfl rfl (fun (x98 : Int32) (h99 : x98.toInt = x96.toInt + b7.toInt) => ?_) (z_pAdd rfl rfl (by omega) (by omega))
      refine z_xil zt267 11 rfl X f46 (by decide) (by omega) (by omega) (fun (x100 : Int32) h101 (h102 : 0 ≤ x100.toInt) (h103 : x100.toInt ≤ 1023) => ?_)
      refine z_xI zt267 12 rfl rfl (fun (x104 : Int32) (h105 : x104.toInt = x94.toInt + x100.toInt) => ?_) (z_pAdd rfl rfl (by omega) (by omega))
      refine z_xil zt267 13 rfl X f30 (by decide) (by omega) (by omega) (fun (x106 : Int32) h107 (h108 : 0 ≤ x106.toInt) (h109 : x106.toInt ≤ 1023) => ?_)
      refine z_xri zt267 14 rfl zzr267 ?_
      show z_ev (d + 1) 269 65 [some (.ref 19), some (.int p1), some (.int p2), some (.int b3), some (.int b4), some (.int b5), some (.int b6), some (.int b7)] [.int x106, .int x92] M _
      refine z_xP zt269 23 67 [some (.ref 19), some (.int p1), some (.int p2), some (.int b3), some (.int b4), some (.int b5), some (.int b6), some (.int b7)] [.int b4, .int x106, .int x92] rfl rfl ?_
      refine z_xI zt269 24 rfl rfl (fun (x110 : Int32) (h111 : 0 ≤ x110.toInt ∧ x110.toInt ≤ x106.toInt) => ?_) (z_pShrN rfl (by omega))
      refine z_xP zt269 25 69 [some (.ref 19), some (.int p1), some (.int p2), some (.int b3), some (.int b4), some (.int b5), some (.int b6), some (.int b7)] [.int 1, .int x110, .int x92] rfl rfl ?_
      refine z_xI zt269 26 rfl rfl (fun (x112 : Int32) (h113 : 0 ≤ x112.toInt ∧ x112.toInt ≤ x110.toInt ∧ x112.toInt ≤ 1) => ?_) (z_pAnd2 rfl rfl (by omega) (by omega))
      refine z_xJ zt269 27 rfl rfl (fun (h114 : x92.toInt ≠ x112.toInt) => ?_) (fun (h114 : x92.toInt = x112.toInt) => ?_)
      · skip
        refine z_xP zt269 29 78 [some (.ref 19), some (.int p1), some (.int p2), some (.int b3), some (.int b4), some (.int b5), some (.int b6), some (.int b7)] [.int 0] rfl rfl ?_
        refine z_xP zt269 30 80 [some (.ref 19), some (.int p1), some (.int p2), some (.int b3), some (.int b4), some (.int b5), some (.int 0), some (.int b7)] [] rfl rfl ?_
        refine z_xN zt269 31 rfl rfl (fun (x115 : Int32) (h116 : x115.toInt = b7.toInt + 1) => ?_) (z_pAdd rfl rfl (by omega) (by omega))
        show z_ev (d + 1) 269 83 [some (.ref 19), some (.int p1), some (.int p2), some (.int b3), some (.int b4), some (.int b5), some (.int 0), some (.int x115)] [] M _
        refine z_xP zt269 32 34 [some (.ref 19), some (.int p1), some (.int p2), some (.int b3), some (.int b4), some (.int b5), some (.int 0), some (.int x115)] [] rfl rfl ?_
        have q0 : ((0 : Int32)).toInt = 0 := rfl
        exact ih.2.2 M b3 b4 b5 (0) x115 X ⟨by omega, by omega⟩ ⟨by omega, by omega⟩ ⟨by omega, by omega⟩ ⟨by omega, by omega⟩ (by decide) ⟨by omega, by omega⟩ (by omega)
      refine z_xP zt269 28 78 [some (.ref 19), some (.int p1), some (.int p2), some (.int b3), some (.int b4), some (.int b5), some (.int b6), some (.int b7)] [.int 1] rfl rfl ?_
      refine z_xP zt269 30 80 [some (.ref 19), some (.int p1), some (.int p2), some (.int b3), some (.int b4), some (.int b5), some (.int 1), some (.int b7)] [] rfl rfl ?_
      refine z_xN zt269 31 rfl rfl (fun (x117 : Int32) (h118 : x117.toInt = b7.toInt + 1) => ?_) (z_pAdd rfl rfl (by omega) (by omega))
      show z_ev (d + 1) 269 83 [some (.ref 19), some (.int p1), some (.int p2), some (.int b3), some (.int b4), some (.int b5), some (.int 1), some (.int x117)] [] M _
      refine z_xP zt269 32 34 [some (.ref 19), some (.int p1), some (.int p2), some (.int b3), some (.int b4), some (.int b5), some (.int 1), some (.int x117)] [] rfl rfl ?_
      have q1 : ((1 : Int32)).toInt = 1 := rfl
      exact ih.2.2 M b3 b4 b5 (1) x117 X ⟨by omega, by omega⟩ ⟨by omega, by omega⟩ ⟨by omega, by omega⟩ ⟨by omega, by omega⟩ (by decide) ⟨by omega, by omega⟩ (by omega)
theorem zC269 {T : List zK} {d : Nat} {K : Option Value → zH → Prop} {p1 : Int32} {p2 : Int32} {M0 : zH} (hW : z_W M0 T) (u1 : 0 ≤ p1.toInt ∧ p1.toInt ≤ 215) (u2 : 1 ≤ p2.toInt ∧ p2.toInt ≤ 3) (kk : ∀ (x : Int32) (M1 : zH), z_X T zw269 M0 M1 → 0 ≤ x.toInt → x.toInt ≤ 1 → K (some (.int x)) M1) : z_ev (d + 1) 269 0 [some (.ref 19), some (.int p1), some (.int p2), none, none, none, none, none] [] M0 K := by
  have X : z_X T zw269 M0 M0 := .refl hW
  refine z_xP zt269 0 5 [some (.ref 19), some (.int p1), some (.int p2), some (.int 1), some (.int 0), none, none, none] [] rfl rfl ?_
  have q0 : ((0 : Int32)).toInt = 0 := rfl
  have q1 : ((1 : Int32)).toInt = 1 := rfl
  exact (zB269 u1 u2 kk 611072).1 M0 (1) (0) none none none X (by decide) (by decide) (by omega)
def zw270 : List Nat := []
theorem zB270 {T : List zK} {d : Nat} {K : Option Value → zH → Prop} {p1 : Int32} {p2 : Int32} {M0 : zH} (u1 : 0 ≤ p1.toInt ∧ p1.toInt ≤ 215) (u2 : 1 ≤ p2.toInt ∧ p2.toInt ≤ 3) (kk : ∀ (x : Int32) (M1 : zH), z_X T zw270 M0 M1 → 0 ≤ x.toInt → x.toInt ≤ 1 → K (some (.int x)) M1) : ∀ n : Nat, (∀ (M : zH) (b3 : Int32) (b4 : Int32), z_X T zw270 M0 M → 0 ≤ b3.toInt ∧ b3.toInt ≤ 1 → 1 ≤ b4.toInt ∧ b4.toInt ≤ 3 → ((0) * 2 + 0) * 3 + (3 - b4.toInt) < (n : Int) → z_ev (d + 1) 270 5 [some (.ref 19), some (.int p1), some (.int p2), some (.int b3), some (.int b4)] [] M K) := by
  intro n
  induction n with
  | zero => exact by intros; exfalso; omega
  | succ n ih =>
    intro M b3 b4 X hh0 hh1 hE
    refine z_xP zt270 1 8 [some (.ref 19), some (.int p1), some (.int p2), some (.int b3), some (.int b4)] [.int p2, .int b4] rfl rfl ?_
    refine z_xJ zt270 2 rfl rfl (fun (h1 : p2.toInt ≤ b4.toInt) => ?_) (fun (h1 : b4.toInt < p2.toInt) => ?_)
    · skip
      refine z_xP zt270 23 50 [some (.ref 19), some (.int p1), some (.int p2), some (.int b3), some (.int b4)] [.int b3] rfl rfl ?_
      refine z_xZ zt270 24 rfl rfl (fun (h2 : b3.toInt = 0) => ?_) (fun (h2 : b3.toInt ≠ 0) => ?_)
      · skip
        refine z_xP zt270 44 95 [some (.ref 19), some (.int p1), some (.int p2), some (.int b3), some (.int b4)] [.int 1] rfl rfl ?_
        have q1 : ((1 : Int32)).toInt = 1 := rfl
        exact z_xrz zt270 46 rfl zzr270 (by decide) (by decide) (kk 1 M X (by omega) (by omega))
      refine z_xP zt270 25 54 [some (.ref 19), some (.int p1), some (.int p2), some (.int b3), some (.int b4)] [.ref 19] rfl rfl ?_
      have f19 : T[19]? = some (.inl (12, 0, 0, 0, 0)) := X.1.k rfl (by decide)
      refine z_xgX (b := 44) zt270 26 rfl zo270 zzf12_82 X f19 (by decide) (by decide) rfl ?_
      refine z_xP zt270 27 58 [some (.ref 19), some (.int p1), some (.int p2), some (.int b3), some (.int b4)] [.int p1, .ref 44] rfl rfl ?_
      have f44 : T[44]? = some (.inr (44, 0, 216, (-2147483648), 2147483647)) := X.1.k rfl (by decide)
      refine z_xil zt270 28 rfl X f44 (by decide) (by omega) (by omega) (fun (x3 : Int32) h4 (h5 : (-2147483648) ≤ x3.toInt) (h6 : x3.toInt ≤ 2147483647) => ?_)
      refine z_xP zt270 29 62 [some (.ref 19), some (.int p1), some (.int p2), some (.int b3), some (.int b4)] [.int 0, .int p1, .ref 19, .int x3] rfl rfl ?_
      refine z_xcV (vs := [.ref 19, .int p1, .int 0]) (r := [.int x3]) (L2 := [some (.ref 19), some (.int p1), some (.int 0)]) zt270 30 rfl zo270 zzcV12_342 (Or.inl rfl) rfl X f19 rfl rfl rfl (Nat.le_of_ble_eq_true rfl) zzm267 (Nat.le_of_ble_eq_true rfl) rfl ?_
      refine z_xP zt267 0 1 [some (.ref 19), some (.int p1), some (.int 0)] [.ref 19] rfl rfl ?_
      refine z_xgX (b := 30) zt267 1 rfl zo267 zzf12_40 X f19 (by decide) (by decide) rfl ?_
      refine z_xP zt267 2 8 [some (.ref 19), some (.int p1), some (.int 0)] [.ref 19, .int 1024, .ref 30] rfl rfl ?_
      refine z_xgI zt267 3 rfl zo267 zzf12_242 X f19 (by decide) (by decide) rfl (fun (x8 : Int32) h7 (h9 : 0 ≤ x8.toInt) (h10 : x8.toInt ≤ 7) => ?_)
      refine z_xI zt267 4 rfl rfl (fun (x11 : Int32) (h12 : x11.toInt = 1024 * x8.toInt) => ?_) (z_pMul rfl rfl (by omega) (by omega))
      refine z_xP zt267 5 13 [some (.ref 19), some (.int p1), some (.int 0)] [.ref 19, .int x11, .ref 30] rfl rfl ?_
      refine z_xgX (b := 46) zt267 6 rfl zo267 zzf12_88 X f19 (by decide) (by decide) rfl ?_
      refine z_xP zt267 7 18 [some (.ref 19), some (.int p1), some (.int 0)] [.int p1, .int 3, .ref 46, .int x11, .ref 30] rfl rfl ?_
      refine z_xI zt267 8 rfl rfl (fun (x13 : Int32) (h14 : x13.toInt = 3 * p1.toInt) => ?_) (z_pMul rfl rfl (by omega) (by omega))
      refine z_xP zt267 9 20 [some (.ref 19), some (.int p1), some (.int 0)] [.int 0, .int x13, .ref 46, .int x11, .ref 30] rfl rfl ?_
      refine z_xI zt267 10 rfl rfl (fun (x15 : Int32) (h16 : x15.toInt = x13.toInt + 0) => ?_) (z_pAdd rfl rfl (by omega) (by omega))
      have f46 : T[46]? = some (.inr (46, 0, 648, 0, 1023)) := X.1.k rfl (by decide)
      refine z_xil zt267 11 rfl X f46 (by decide) (by omega) (by omega) (fun (x17 : Int32) h18 (h19 : 0 ≤ x17.toInt) (h20 : x17.toInt ≤ 1023) => ?_)
      refine z_xI zt267 12 rfl rfl (fun (x21 : Int32) (h22 : x21.toInt = x11.toInt + x17.toInt) => ?_) (z_pAdd rfl rfl (by omega) (by omega))
      have f30 : T[30]? = some (.inr (30, 0, 8192, 0, 1023)) := X.1.k rfl (by decide)
      refine z_xil zt267 13 rfl X f30 (by decide) (by omega) (by omega) (fun (x23 : Int32) h24 (h25 : 0 ≤ x23.toInt) (h26 : x23.toInt ≤ 1023) => ?_)
      refine z_xri zt267 14 rfl zzr267 ?_
      show z_ev (d + 1) 270 65 [some (.ref 19), some (.int p1), some (.int p2), some (.int b3), some (.int b4)] [.int x23, .int x3] M _
      have h27 := z_b32 x3
      refine z_xJ zt270 31 rfl rfl (fun (h28 : x3.toInt ≠ x23.toInt) => ?_) (fun (h28 : x3.toInt = x23.toInt) => ?_)
      · skip
        refine z_xP zt270 45 95 [some (.ref 19), some (.int p1), some (.int p2), some (.int b3), some (.int b4)] [.int 0] rfl rfl ?_
        have q0 : ((0 : Int32)).toInt = 0 := rfl
        exact z_xrz zt270 46 rfl zzr270 (by decide) (by decide) (kk 0 M X (by omega) (by omega))
      refine z_xP zt270 32 69 [some (.ref 19), some (.int p1), some (.int p2), some (.int b3), some (.int b4)] [.ref 19] rfl rfl ?_
      refine z_xgX (b := 45) zt270 33 rfl zo270 zzf12_85 X f19 (by decide) (by decide) rfl ?_
      refine z_xP zt270 34 73 [some (.ref 19), some (.int p1), some (.int p2), some (.int b3), some (.int b4)] [.int p1, .ref 45] rfl rfl ?_
      have f45 : T[45]? = some (.inr (45, 0, 216, (-2147483648), 2147483647)) := X.1.k rfl (by decide)
      refine z_xil zt270 35 rfl X f45 (by decide) (by omega) (by omega) (fun (x29 : Int32) h30 (h31 : (-2147483648) ≤ x29.toInt) (h32 : x29.toInt ≤ 2147483647) => ?_)
      refine z_xP zt270 36 75 [some (.ref 19), some (.int p1), some (.int p2), some (.int b3), some (.int b4)] [.ref 19, .int x29] rfl rfl ?_
      refine z_xcV (vs := [.ref 19]) (r := [.int x29]) (L2 := [some (.ref 19)]) zt270 37 rfl zo270 zzcV12_248 (Or.inl rfl) rfl X f19 rfl rfl rfl (Nat.le_of_ble_eq_true rfl) zzm240 (Nat.le_of_ble_eq_true rfl) rfl ?_
      refine z_xP zt240 0 2 [some (.ref 19)] [.ref 19, .int 1] rfl rfl ?_
      refine z_xgX (b := 24) zt240 1 rfl zo240 zzf12_22 X f19 (by decide) (by decide) rfl ?_
      refine z_xP zt240 2 6 [some (.ref 19)] [.ref 19, .ref 24, .int 1] rfl rfl ?_
      refine z_xgv zt240 3 rfl zo240 zzf12_242 X f19 (by decide) h7 ?_
      have f24 : T[24]? = some (.inr (24, 0, 8, 0, 10)) := X.1.k rfl (by decide)
      refine z_xil zt240 4 rfl X f24 (by decide) (by omega) (by omega) (fun (x33 : Int32) h34 (h35 : 0 ≤ x33.toInt) (h36 : x33.toInt ≤ 10) => ?_)
      refine z_xI zt240 5 rfl rfl (fun (x37 : Int32) (h38 : 1 ≤ x37.toInt ∧ x37.toInt ≤ 1024) => ?_) (z_pShlB (a := 1) (b := 10) (c := 1024) (r := 1024) rfl rfl (by omega) (by omega) (by omega) (by omega) (by decide) (by decide) (by decide) (by decide))
      refine z_xP zt240 6 12 [some (.ref 19)] [.int 1, .int x37] rfl rfl ?_
      refine z_xI zt240 7 rfl rfl (fun (x39 : Int32) (h40 : x39.toInt = x37.toInt - 1) => ?_) (z_pSub rfl rfl (by omega) (by omega))
      refine z_xri zt240 8 rfl zzr240 ?_
      show z_ev (d + 1) 270 78 [some (.ref 19), some (.int p1), some (.int p2), some (.int b3), some (.int b4)] [.int x39, .int x29] M _
      refine z_xP zt270 38 81 [some (.ref 19), some (.int p1), some (.int p2), some (.int b3), some (.int b4)] [.int 0, .int p1, .ref 19, .int x39, .int x29] rfl rfl ?_
      refine z_xcV (vs := [.ref 19, .int p1, .int 0]) (r := [.int x39, .int x29]) (L2 := [some (.ref 19), some (.int p1), some (.int 0)]) zt270 39 rfl zo270 zzcV12_342 (Or.inl rfl) rfl X f19 rfl rfl rfl (Nat.le_of_ble_eq_true rfl) zzm267 (Nat.le_of_ble_eq_true rfl) rfl ?_
      refine z_xP zt267 0 1 [some (.ref 19), some (.int p1), some (.int 0)] [.ref 19] rfl rfl ?_
      refine z_xgX (b := 30) zt267 1 rfl zo267 zzf12_40 X f19 (by decide) (by decide) rfl ?_
      refine z_xP zt267 2 8 [some (.ref 19), some (.int p1), some (.int 0)] [.ref 19, .int 1024, .ref 30] rfl rfl ?_
      refine z_xgv zt267 3 rfl zo267 zzf12_242 X f19 (by decide) h7 ?_
      refine z_xI zt267 4 rfl rfl (fun (x41 : Int32) (h42 : x41.toInt = 1024 * x8.toInt) => ?_) (z_pMul rfl rfl (by omega) (by omega))
      refine z_xP zt267 5 13 [some (.ref 19), some (.int p1), some (.int 0)] [.ref 19, .int x41, .ref 30] rfl rfl ?_
      refine z_xgX (b := 46) zt267 6 rfl zo267 zzf12_88 X f19 (by decide) (by decide) rfl ?_
      refine z_xP zt267 7 18 [some (.ref 19), some (.int p1), some (.int 0)] [.int p1, .int 3, .ref 46, .int x41, .ref 30] rfl rfl ?_
      refine z_xI zt267 8 rfl rfl (fun (x43 : Int32) (h44 : x43.toInt = 3 * p1.toInt) => ?_) (z_pMul rfl rfl (by omega) (by omega))
      refine z_xP zt267 9 20 [some (.ref 19), some (.int p1), some (.int 0)] [.int 0, .int x43, .ref 46, .int x41, .ref 30] rfl rfl ?_
      refine z_xI zt267 10 rfl rfl (fun (x45 : Int32) (h46 : x45.toInt = x43.toInt + 0) => ?_) (z_pAdd rfl rfl (by omega) (by omega))
      refine z_xil zt267 11 rfl X f46 (by decide) (by omega) (by omega) (fun (x47 : Int32) h48 (h49 : 0 ≤ x47.toInt) (h50 : x47.toInt ≤ 1023) => ?_)
      refine z_xI zt267 12 rfl rfl (fun (x51 : Int32) (h52 : x51.toInt = x41.toInt + x47.toInt) => ?_) (z_pAdd rfl rfl (by omega) (by omega))
      refine z_xil zt267 13 rfl X f30 (by decide) (by omega) (by omega) (fun (x53 : Int32) h54 (h55 : 0 ≤ x53.toInt) (h56 : x53.toInt ≤ 1023) => ?_)
      refine z_xri zt267 14 rfl zzr267 ?_
      show z_ev (d + 1) 270 84 [some (.ref 19), some (.int p1), some (.int p2), some (.int b3), some (.int b4)] [.int x53, .int x39, .int x29] M _
      refine z_xP zt270 40 85 [some (.ref 19), some (.int p1), some (.int p2), some (.int b3), some (.int b4)] [.int (-1), .int x53, .int x39, .int x29] rfl rfl ?_
      refine z_xI zt270 41 rfl rfl (P := fun _ => True) (fun (x57 : Int32) _ => ?_) trivial
      refine z_xI zt270 42 rfl rfl (fun (x59 : Int32) (h60 : 0 ≤ x59.toInt ∧ x59.toInt ≤ x39.toInt) => ?_) (z_pAndL rfl (by omega))
      have h61 := z_b32 x29
      refine z_xJ zt270 43 rfl rfl (fun (h62 : x29.toInt ≠ x59.toInt) => ?_) (fun (h62 : x29.toInt = x59.toInt) => ?_)
      · skip
        refine z_xP zt270 45 95 [some (.ref 19), some (.int p1), some (.int p2), some (.int b3), some (.int b4)] [.int 0] rfl rfl ?_
        have q0 : ((0 : Int32)).toInt = 0 := rfl
        exact z_xrz zt270 46 rfl zzr270 (by decide) (by decide) (kk 0 M X (by omega) (by omega))
      refine z_xP zt270 44 95 [some (.ref 19), some (.int p1), some (.int p2), some (.int b3), some (.int b4)] [.int 1] rfl rfl ?_
      have q1 : ((1 : Int32)).toInt = 1 := rfl
      exact z_xrz zt270 46 rfl zzr270 (by decide) (by decide) (kk 1 M X (by omega) (by omega))
    refine z_xP zt270 3 12 [some (.ref 19), some (.int p1), some (.int p2), some (.int b3), some (.int b4)] [.int b3] rfl rfl ?_
    refine z_xZ zt270 4 rfl rfl (fun (h63 : b3.toInt = 0) => ?_) (fun (h63 : b3.toInt ≠ 0) => ?_)
    · skip
      refine z_xP zt270 19 42 [some (.ref 19), some (.int p1), some (.int p2), some (.int b3), some (.int b4)] [.int 0] rfl rfl ?_
      refine z_xP zt270 20 43 [some (.ref 19), some (.int p1), some (.int p2), some (.int 0), some (.int b4)] [] rfl rfl ?_
      refine z_xN zt270 21 rfl rfl (fun (x64 : Int32) (h65 : x64.toInt = b4.toInt + 1) => ?_) (z_pAdd rfl rfl (by omega) (by omega))
      show z_ev (d + 1) 270 46 [some (.ref 19), some (.int p1), some (.int p2), some (.int 0), some (.int x64)] [] M _
      refine z_xP zt270 22 5 [some (.ref 19), some (.int p1), some (.int p2), some (.int 0), some (.int x64)] [] rfl rfl ?_
      have q0 : ((0 : Int32)).toInt = 0 := rfl
      exact ih M (0) x64 X (by decide) ⟨by omega, by omega⟩ (by omega)
    refine z_xP zt270 5 16 [some (.ref 19), some (.int p1), some (.int p2), some (.int b3), some (.int b4)] [.ref 19] rfl rfl ?_
    have f19 : T[19]? = some (.inl (12, 0, 0, 0, 0)) := X.1.k rfl (by decide)
    refine z_xgX (b := 46) zt270 6 rfl zo270 zzf12_88 X f19 (by decide) (by decide) rfl ?_
    refine z_xP zt270 7 21 [some (.ref 19), some (.int p1), some (.int p2), some (.int b3), some (.int b4)] [.int p1, .int 3, .ref 46] rfl rfl ?_
    refine z_xI zt270 8 rfl rfl (fun (x66 : Int32) (h67 : x66.toInt = 3 * p1.toInt) => ?_) (z_pMul rfl rfl (by omega) (by omega))
    refine z_xP zt270 9 24 [some (.ref 19), some (.int p1), some (.int p2), some (.int b3), some (.int b4)] [.int b4, .int x66, .ref 46] rfl rfl ?_
    refine z_xI zt270 10 rfl rfl (fun (x68 : Int32) (h69 : x68.toInt = x66.toInt + b4.toInt) => ?_) (z_pAdd rfl rfl (by omega) (by omega))
    have f46 : T[46]? = some (.inr (46, 0, 648, 0, 1023)) := X.1.k rfl (by decide)
    refine z_xil zt270 11 rfl X f46 (by decide) (by omega) (by omega) (fun (x70 : Int32) h71 (h72 : 0 ≤ x70.toInt) (h73 : x70.toInt ≤ 1023) => ?_)
    refine z_xP zt270 12 27 [some (.ref 19), some (.int p1), some (.int p2), some (.int b3), some (.int b4)] [.ref 19, .int x70] rfl rfl ?_
    refine z_xgX (b := 46) zt270 13 rfl zo270 zzf12_88 X f19 (by decide) (by decide) rfl ?_
    refine z_xP zt270 14 32 [some (.ref 19), some (.int p1), some (.int p2), some (.int b3), some (.int b4)] [.int p1, .int 3, .ref 46, .int x70] rfl rfl ?_
    refine z_xI zt270 15 rfl rfl (fun (x74 : Int32) (h75 : x74.toInt = 3 * p1.toInt) => ?_) (z_pMul rfl rfl (by omega) (by omega))
    refine z_xil zt270 16 rfl X f46 (by decide) (by omega) (by omega) (fun (x76 : Int32) h77 (h78 : 0 ≤ x76.toInt) (h79 : x76.toInt ≤ 1023) => ?_)
    refine z_xJ zt270 17 rfl rfl (fun (h80 : x70.toInt ≠ x76.toInt) => ?_) (fun (h80 : x70.toInt = x76.toInt) => ?_)
    · skip
      refine z_xP zt270 19 42 [some (.ref 19), some (.int p1), some (.int p2), some (.int b3), some (.int b4)] [.int 0] rfl rfl ?_
      refine z_xP zt270 20 43 [some (.ref 19), some (.int p1), some (.int p2), some (.int 0), some (.int b4)] [] rfl rfl ?_
      refine z_xN zt270 21 rfl rfl (fun (x81 : Int32) (h82 : x81.toInt = b4.toInt + 1) => ?_) (z_pAdd rfl rfl (by omega) (by omega))
      show z_ev (d + 1) 270 46 [some (.ref 19), some (.int p1), some (.int p2), some (.int 0), some (.int x81)] [] M _
      refine z_xP zt270 22 5 [some (.ref 19), some (.int p1), some (.int p2), some (.int 0), some (.int x81)] [] rfl rfl ?_
      have q0 : ((0 : Int32)).toInt = 0 := rfl
      exact ih M (0) x81 X (by decide) ⟨by omega, by omega⟩ (by omega)
    refine z_xP zt270 18 42 [some (.ref 19), some (.int p1), some (.int p2), some (.int b3), some (.int b4)] [.int 1] rfl rfl ?_
    refine z_xP zt270 20 43 [some (.ref 19), some (.int p1), some (.int p2), some (.int 1), some (.int b4)] [] rfl rfl ?_
    refine z_xN zt270 21 rfl rfl (fun (x83 : Int32) (h84 : x83.toInt = b4.toInt + 1) => ?_) (z_pAdd rfl rfl (by omega) (by omega))
    show z_ev (d + 1) 270 46 [some (.ref 19), some (.int p1), some (.int p2), some (.int 1), some (.int x83)] [] M _
    refine z_xP zt270 22 5 [some (.ref 19), some (.int p1), some (.int p2), some (.int 1), some (.int x83)] [] rfl rfl ?_
    have q1 : ((1 : Int32)).toInt = 1 := rfl
    exact ih M (1) x83 X (by decide) ⟨by omega, by omega⟩ (by omega)
theorem zC270 {T : List zK} {d : Nat} {K : Option Value → zH → Prop} {p1 : Int32} {p2 : Int32} {M0 : zH} (hW : z_W M0 T) (u1 : 0 ≤ p1.toInt ∧ p1.toInt ≤ 215) (u2 : 1 ≤ p2.toInt ∧ p2.toInt ≤ 3) (kk : ∀ (x : Int32) (M1 : zH), z_X T zw270 M0 M1 → 0 ≤ x.toInt → x.toInt ≤ 1 → K (some (.int x)) M1) : z_ev (d + 1) 270 0 [some (.ref 19), some (.int p1), some (.int p2), none, none] [] M0 K := by
  have X : z_X T zw270 M0 M0 := .refl hW
  refine z_xP zt270 0 5 [some (.ref 19), some (.int p1), some (.int p2), some (.int 1), some (.int 1)] [] rfl rfl ?_
  have q1 : ((1 : Int32)).toInt = 1 := rfl
  exact (zB270 u1 u2 kk 6) M0 (1) (1) X (by decide) (by decide) (by omega)
def zw265 : List Nat := [39, 40, 41, 42, 43, 44, 45, 46, 2229, 2230, 2234, 2235, 2241]
theorem zB265 {T : List zK} {d : Nat} {K : Option Value → zH → Prop} {p1 : Int32} {p2 : Int32} {p3 : Int32} {p4 : Int32} {zl0 : Int32} {M0 : zH} (u1 : 0 ≤ p1.toInt ∧ p1.toInt ≤ 19) (u2 : 0 ≤ p2.toInt ∧ p2.toInt ≤ 7) (u3 : 1 ≤ p3.toInt ∧ p3.toInt ≤ 3) (u4 : 0 ≤ p4.toInt ∧ p4.toInt ≤ 4) (hl0 : z_Ar M0 31 p2.toNatClampNeg = zl0) (bl0 : 1 ≤ zl0.toInt ∧ zl0.toInt ≤ 6) (kk : ∀ (x : Int32) (M1 : zH), z_X T zw265 M0 M1 → (-2) ≤ x.toInt → x.toInt ≤ 215 → K (some (.int x)) M1) : ∀ n : Nat, (∀ (M : zH) (b5 : Int32) (o6 : Option Value) (o7 : Option Value), z_X T zw265 M0 M → 4 ≤ p4.toInt ∧ p4.toInt ≤ 4 → 0 ≤ b5.toInt ∧ b5.toInt ≤ 3 → ((((0) * 4 + 2) * 217 + (3 - b5.toInt)) * 4 + 3) * 217 + (0) < (n : Int) → z_ev (d + 6) 265 16 [some (.ref 19), some (.int p1), some (.int p2), some (.int p3), some (.int p4), some (.int b5), o6, o7] [] M K) ∧ (∀ (M : zH) (b5 : Int32) (b6 : Int32) (b7 : Int32), z_X T zw265 M0 M → 4 ≤ p4.toInt ∧ p4.toInt ≤ 4 → 0 ≤ b5.toInt ∧ b5.toInt ≤ 2 → 0 ≤ b6.toInt ∧ b6.toInt ≤ 1 → 0 ≤ b7.toInt ∧ b7.toInt ≤ 216 → ((((0) * 4 + 2) * 217 + (3 - b5.toInt)) * 4 + 1) * 217 + (216 - b7.toInt) < (n : Int) → z_ev (d + 6) 265 28 [some (.ref 19), some (.int p1), some (.int p2), some (.int p3), some (.int p4), some (.int b5), some (.int b6), some (.int b7)] [] M K) ∧ (∀ (M : zH) (b5 : Int32) (o6 : Option Value) (o7 : Option Value) (z0 : Int32) (z1 : Int32), z_X T zw265 M0 M → 0 ≤ p4.toInt ∧ p4.toInt ≤ 3 → 0 ≤ b5.toInt ∧ b5.toInt ≤ 216 → z_F M 19 29 = some (.int z0) → 0 ≤ z0.toInt ∧ z0.toInt ≤ 7 → z_Ar M 31 z0.toNatClampNeg = z1 → 1 ≤ z1.toInt ∧ z1.toInt ≤ 6 → z1.toInt ≤ 6 → 1 ≤ z1.toInt → ((((0) * 4 + 0) * 217 + (216 - b5.toInt)) * 4 + 3) * 217 + (0) < (n : Int) → z_ev (d + 6) 265 118 [some (.ref 19), some (.int p1), some (.int p2), some (.int p3), some (.int p4), some (.int b5), o6, o7] [] M K) := by
  intro n
  induction n with
  | zero => exact ⟨(by intros; exfalso; omega), (by intros; exfalso; omega), (by intros; exfalso; omega)⟩
  | succ n ih =>
    refine ⟨?_, ?_, ?_⟩
    · skip
      intro M b5 o6 o7 X hh0 hh1 hE
      refine z_xP zt265 5 19 [some (.ref 19), some (.int p1), some (.int p2), some (.int p3), some (.int p4), some (.int b5), o6, o7] [.int p3, .int b5] rfl rfl ?_
      refine z_xJ zt265 6 rfl rfl (fun (h1 : p3.toInt ≤ b5.toInt) => ?_) (fun (h1 : b5.toInt < p3.toInt) => ?_)
      · skip
        refine z_xP zt265 43 114 [some (.ref 19), some (.int p1), some (.int p2), some (.int p3), some (.int p4), some (.int b5), o6, o7] [.int (-2)] rfl rfl ?_
        have qm2 : (((-2) : Int32)).toInt = (-2) := rfl
        exact z_xri zt265 44 rfl zzr265 (kk (-2) M X (by omega) (by omega))
      refine z_xP zt265 7 28 [some (.ref 19), some (.int p1), some (.int p2), some (.int p3), some (.int p4), some (.int b5), some (.int 1), some (.int 0)] [] rfl rfl ?_
      have q0 : ((0 : Int32)).toInt = 0 := rfl
      have q1 : ((1 : Int32)).toInt = 1 := rfl
      exact ih.2.1 M b5 (1) (0) X ⟨by omega, by omega⟩ ⟨by omega, by omega⟩ (by decide) (by decide) (by omega)
    · skip
      intro M b5 b6 b7 X hh0 hh1 hh2 hh3 hE
      refine z_xP zt265 8 31 [some (.ref 19), some (.int p1), some (.int p2), some (.int p3), some (.int p4), some (.int b5), some (.int b6), some (.int b7)] [.ref 19, .int b7] rfl rfl ?_
      have f19 : T[19]? = some (.inl (12, 0, 0, 0, 0)) := X.1.k rfl (by decide)
      refine z_xgI zt265 9 rfl zo265 zzf12_339 X f19 (by decide) (by decide) rfl (fun (x2 : Int32) h1 (h3 : 0 ≤ x2.toInt) (h4 : x2.toInt ≤ 216) => ?_)
      refine z_xJ zt265 10 rfl rfl (fun (h5 : x2.toInt ≤ b7.toInt) => ?_) (fun (h5 : b7.toInt < x2.toInt) => ?_)
      · skip
        refine z_xP zt265 37 100 [some (.ref 19), some (.int p1), some (.int p2), some (.int p3), some (.int p4), some (.int b5), some (.int b6), some (.int b7)] [.int b6] rfl rfl ?_
        refine z_xZ zt265 38 rfl rfl (fun (h6 : b6.toInt = 0) => ?_) (fun (h6 : b6.toInt ≠ 0) => ?_)
        · skip
          refine z_xN zt265 41 rfl rfl (fun (x7 : Int32) (h8 : x7.toInt = b5.toInt + 1) => ?_) (z_pAdd rfl rfl (by omega) (by omega))
          show z_ev (d + 6) 265 109 [some (.ref 19), some (.int p1), some (.int p2), some (.int p3), some (.int p4), some (.int x7), some (.int b6), some (.int b7)] [] M _
          refine z_xP zt265 42 16 [some (.ref 19), some (.int p1), some (.int p2), some (.int p3), some (.int p4), some (.int x7), some (.int b6), some (.int b7)] [] rfl rfl ?_
          exact ih.1 M x7 (some (.int b6)) (some (.int b7)) X ⟨by omega, by omega⟩ ⟨by omega, by omega⟩ (by omega)
        refine z_xP zt265 39 105 [some (.ref 19), some (.int p1), some (.int p2), some (.int p3), some (.int p4), some (.int b5), some (.int b6), some (.int b7)] [.int b5] rfl rfl ?_
        exact z_xri zt265 40 rfl zzr265 (kk b5 M X (by omega) (by omega))
      refine z_xP zt265 11 39 [some (.ref 19), some (.int p1), some (.int p2), some (.int p3), some (.int p4), some (.int b5), some (.int b6), some (.int b7)] [.int b6] rfl rfl ?_
      refine z_xZ zt265 12 rfl rfl (fun (h9 : b6.toInt = 0) => ?_) (fun (h9 : b6.toInt ≠ 0) => ?_)
      · skip
        refine z_xP zt265 33 90 [some (.ref 19), some (.int p1), some (.int p2), some (.int p3), some (.int p4), some (.int b5), some (.int b6), some (.int b7)] [.int 0] rfl rfl ?_
        refine z_xP zt265 34 92 [some (.ref 19), some (.int p1), some (.int p2), some (.int p3), some (.int p4), some (.int b5), some (.int 0), some (.int b7)] [] rfl rfl ?_
        refine z_xN zt265 35 rfl rfl (fun (x10 : Int32) (h11 : x10.toInt = b7.toInt + 1) => ?_) (z_pAdd rfl rfl (by omega) (by omega))
        show z_ev (d + 6) 265 95 [some (.ref 19), some (.int p1), some (.int p2), some (.int p3), some (.int p4), some (.int b5), some (.int 0), some (.int x10)] [] M _
        refine z_xP zt265 36 28 [some (.ref 19), some (.int p1), some (.int p2), some (.int p3), some (.int p4), some (.int b5), some (.int 0), some (.int x10)] [] rfl rfl ?_
        have q0 : ((0 : Int32)).toInt = 0 := rfl
        exact ih.2.1 M b5 (0) x10 X ⟨by omega, by omega⟩ ⟨by omega, by omega⟩ (by decide) ⟨by omega, by omega⟩ (by omega)
      refine z_xP zt265 13 43 [some (.ref 19), some (.int p1), some (.int p2), some (.int p3), some (.int p4), some (.int b5), some (.int b6), some (.int b7)] [.ref 19] rfl rfl ?_
      refine z_xgX (b := 44) zt265 14 rfl zo265 zzf12_82 X f19 (by decide) (by decide) rfl ?_
      refine z_xP zt265 15 48 [some (.ref 19), some (.int p1), some (.int p2), some (.int p3), some (.int p4), some (.int b5), some (.int b6), some (.int b7)] [.int b7, .ref 44] rfl rfl ?_
      have f44 : T[44]? = some (.inr (44, 0, 216, (-2147483648), 2147483647)) := X.1.k rfl (by decide)
      refine z_xil zt265 16 rfl X f44 (by decide) (by omega) (by omega) (fun (x12 : Int32) h13 (h14 : (-2147483648) ≤ x12.toInt) (h15 : x12.toInt ≤ 2147483647) => ?_)
      refine z_xP zt265 17 54 [some (.ref 19), some (.int p1), some (.int p2), some (.int p3), some (.int p4), some (.int b5), some (.int b6), some (.int b7)] [.int b5, .int b7, .ref 19, .int x12] rfl rfl ?_
      refine z_xcV (vs := [.ref 19, .int b7, .int b5]) (r := [.int x12]) (L2 := [some (.ref 19), some (.int b7), some (.int b5)]) zt265 18 rfl zo265 zzcV12_342 (Or.inl rfl) rfl X f19 rfl rfl rfl (Nat.le_of_ble_eq_true rfl) zzm267 (Nat.le_of_ble_eq_true rfl) rfl ?_
      refine z_xP zt267 0 1 [some (.ref 19), some (.int b7), some (.int b5)] [.ref 19] rfl rfl ?_
      refine z_xgX (b := 30) zt267 1 rfl zo267 zzf12_40 X f19 (by decide) (by decide) rfl ?_
      refine z_xP zt267 2 8 [some (.ref 19), some (.int b7), some (.int b5)] [.ref 19, .int 1024, .ref 30] rfl rfl ?_
      refine z_xgI zt267 3 rfl zo267 zzf12_242 X f19 (by decide) (by decide) rfl (fun (x17 : Int32) h16 (h18 : 0 ≤ x17.toInt) (h19 : x17.toInt ≤ 7) => ?_)
      refine z_xI zt267 4 rfl rfl (fun (x20 : Int32) (h21 : x20.toInt = 1024 * x17.toInt) => ?_) (z_pMul rfl rfl (by omega) (by omega))
      refine z_xP zt267 5 13 [some (.ref 19), some (.int b7), some (.int b5)] [.ref 19, .int x20, .ref 30] rfl rfl ?_
      refine z_xgX (b := 46) zt267 6 rfl zo267 zzf12_88 X f19 (by decide) (by decide) rfl ?_
      refine z_xP zt267 7 18 [some (.ref 19), some (.int b7), some (.int b5)] [.int b7, .int 3, .ref 46, .int x20, .ref 30] rfl rfl ?_
      refine z_xI zt267 8 rfl rfl (fun (x22 : Int32) (h23 : x22.toInt = 3 * b7.toInt) => ?_) (z_pMul rfl rfl (by omega) (by omega))
      refine z_xP zt267 9 20 [some (.ref 19), some (.int b7), some (.int b5)] [.int b5, .int x22, .ref 46, .int x20, .ref 30] rfl rfl ?_
      refine z_xI zt267 10 rfl rfl (fun (x24 : Int32) (h25 : x24.toInt = x22.toInt + b5.toInt) => ?_) (z_pAdd rfl rfl (by omega) (by omega))
      have f46 : T[46]? = some (.inr (46, 0, 648, 0, 1023)) := X.1.k rfl (by decide)
      refine z_xil zt267 11 rfl X f46 (by decide) (by omega) (by omega) (fun (x26 : Int32) h27 (h28 : 0 ≤ x26.toInt) (h29 : x26.toInt ≤ 1023) => ?_)
      refine z_xI zt267 12 rfl rfl (fun (x30 : Int32) (h31 : x30.toInt = x20.toInt + x26.toInt) => ?_) (z_pAdd rfl rfl (by omega) (by omega))
      have f30 : T[30]? = some (.inr (30, 0, 8192, 0, 1023)) := X.1.k rfl (by decide)
      refine z_xil zt267 13 rfl X f30 (by decide) (by omega) (by omega) (fun (x32 : Int32) h33 (h34 : 0 ≤ x32.toInt) (h35 : x32.toInt ≤ 1023) => ?_)
      refine z_xri zt267 14 rfl zzr267 ?_
      show z_ev (d + 6) 265 57 [some (.ref 19), some (.int p1), some (.int p2), some (.int p3), some (.int p4), some (.int b5), some (.int b6), some (.int b7)] [.int x32, .int x12] M _
      have h36 := z_b32 x12
      refine z_xJ zt265 19 rfl rfl (fun (h37 : x12.toInt ≠ x32.toInt) => ?_) (fun (h37 : x12.toInt = x32.toInt) => ?_)
      · skip
        refine z_xP zt265 33 90 [some (.ref 19), some (.int p1), some (.int p2), some (.int p3), some (.int p4), some (.int b5), some (.int b6), some (.int b7)] [.int 0] rfl rfl ?_
        refine z_xP zt265 34 92 [some (.ref 19), some (.int p1), some (.int p2), some (.int p3), some (.int p4), some (.int b5), some (.int 0), some (.int b7)] [] rfl rfl ?_
        refine z_xN zt265 35 rfl rfl (fun (x38 : Int32) (h39 : x38.toInt = b7.toInt + 1) => ?_) (z_pAdd rfl rfl (by omega) (by omega))
        show z_ev (d + 6) 265 95 [some (.ref 19), some (.int p1), some (.int p2), some (.int p3), some (.int p4), some (.int b5), some (.int 0), some (.int x38)] [] M _
        refine z_xP zt265 36 28 [some (.ref 19), some (.int p1), some (.int p2), some (.int p3), some (.int p4), some (.int b5), some (.int 0), some (.int x38)] [] rfl rfl ?_
        have q0 : ((0 : Int32)).toInt = 0 := rfl
        exact ih.2.1 M b5 (0) x38 X ⟨by omega, by omega⟩ ⟨by omega, by omega⟩ (by decide) ⟨by omega, by omega⟩ (by omega)
      refine z_xP zt265 20 61 [some (.ref 19), some (.int p1), some (.int p2), some (.int p3), some (.int p4), some (.int b5), some (.int b6), some (.int b7)] [.ref 19] rfl rfl ?_
      refine z_xgX (b := 45) zt265 21 rfl zo265 zzf12_85 X f19 (by decide) (by decide) rfl ?_
      refine z_xP zt265 22 66 [some (.ref 19), some (.int p1), some (.int p2), some (.int p3), some (.int p4), some (.int b5), some (.int b6), some (.int b7)] [.int b7, .ref 45] rfl rfl ?_
      have f45 : T[45]? = some (.inr (45, 0, 216, (-2147483648), 2147483647)) := X.1.k rfl (by decide)
      refine z_xil zt265 23 rfl X f45 (by decide) (by omega) (by omega) (fun (x40 : Int32) h41 (h42 : (-2147483648) ≤ x40.toInt) (h43 : x40.toInt ≤ 2147483647) => ?_)
      refine z_xP zt265 24 68 [some (.ref 19), some (.int p1), some (.int p2), some (.int p3), some (.int p4), some (.int b5), some (.int b6), some (.int b7)] [.ref 19, .int x40] rfl rfl ?_
      refine z_xcV (vs := [.ref 19]) (r := [.int x40]) (L2 := [some (.ref 19)]) zt265 25 rfl zo265 zzcV12_248 (Or.inl rfl) rfl X f19 rfl rfl rfl (Nat.le_of_ble_eq_true rfl) zzm240 (Nat.le_of_ble_eq_true rfl) rfl ?_
      refine z_xP zt240 0 2 [some (.ref 19)] [.ref 19, .int 1] rfl rfl ?_
      refine z_xgX (b := 24) zt240 1 rfl zo240 zzf12_22 X f19 (by decide) (by decide) rfl ?_
      refine z_xP zt240 2 6 [some (.ref 19)] [.ref 19, .ref 24, .int 1] rfl rfl ?_
      refine z_xgv zt240 3 rfl zo240 zzf12_242 X f19 (by decide) h16 ?_
      have f24 : T[24]? = some (.inr (24, 0, 8, 0, 10)) := X.1.k rfl (by decide)
      refine z_xil zt240 4 rfl X f24 (by decide) (by omega) (by omega) (fun (x44 : Int32) h45 (h46 : 0 ≤ x44.toInt) (h47 : x44.toInt ≤ 10) => ?_)
      refine z_xI zt240 5 rfl rfl (fun (x48 : Int32) (h49 : 1 ≤ x48.toInt ∧ x48.toInt ≤ 1024) => ?_) (z_pShlB (a := 1) (b := 10) (c := 1024) (r := 1024) rfl rfl (by omega) (by omega) (by omega) (by omega) (by decide) (by decide) (by decide) (by decide))
      refine z_xP zt240 6 12 [some (.ref 19)] [.int 1, .int x48] rfl rfl ?_
      refine z_xI zt240 7 rfl rfl (fun (x50 : Int32) (h51 : x50.toInt = x48.toInt - 1) => ?_) (z_pSub rfl rfl (by omega) (by omega))
      refine z_xri zt240 8 rfl zzr240 ?_
      show z_ev (d + 6) 265 71 [some (.ref 19), some (.int p1), some (.int p2), some (.int p3), some (.int p4), some (.int b5), some (.int b6), some (.int b7)] [.int x50, .int x40] M _
      refine z_xP zt265 26 76 [some (.ref 19), some (.int p1), some (.int p2), some (.int p3), some (.int p4), some (.int b5), some (.int b6), some (.int b7)] [.int b5, .int b7, .ref 19, .int x50, .int x40] rfl rfl ?_
      refine z_xcV (vs := [.ref 19, .int b7, .int b5]) (r := [.int x50, .int x40]) (L2 := [some (.ref 19), some (.int b7), some (.int b5)]) zt265 27 rfl zo265 zzcV12_342 (Or.inl rfl) rfl X f19 rfl rfl rfl (Nat.le_of_ble_eq_true rfl) zzm267 (Nat.le_of_ble_eq_true rfl) rfl ?_
      refine z_xP zt267 0 1 [some (.ref 19), some (.int b7), some (.int b5)] [.ref 19] rfl rfl ?_
      refine z_xgX (b := 30) zt267 1 rfl zo267 zzf12_40 X f19 (by decide) (by decide) rfl ?_
      refine z_xP zt267 2 8 [some (.ref 19), some (.int b7), some (.int b5)] [.ref 19, .int 1024, .ref 30] rfl rfl ?_
      refine z_xgv zt267 3 rfl zo267 zzf12_242 X f19 (by decide) h16 ?_
      refine z_xI zt267 4 rfl rfl (fun (x52 : Int32) (h53 : x52.toInt = 1024 * x17.toInt) => ?_) (z_pMul rfl rfl (by omega) (by omega))
      refine z_xP zt267 5 13 [some (.ref 19), some (.int b7), some (.int b5)] [.ref 19, .int x52, .ref 30] rfl rfl ?_
      refine z_xgX (b := 46) zt267 6 rfl zo267 zzf12_88 X f19 (by decide) (by decide) rfl ?_
      refine z_xP zt267 7 18 [some (.ref 19), some (.int b7), some (.int b5)] [.int b7, .int 3, .ref 46, .int x52, .ref 30] rfl rfl ?_
      refine z_xI zt267 8 rfl rfl (fun (x54 : Int32) (h55 : x54.toInt = 3 * b7.toInt) => ?_) (z_pMul rfl rfl (by omega) (by omega))
      refine z_xP zt267 9 20 [some (.ref 19), some (.int b7), some (.int b5)] [.int b5, .int x54, .ref 46, .int x52, .ref 30] rfl rfl ?_
      refine z_xI zt267 10 rfl rfl (fun (x56 : Int32) (h57 : x56.toInt = x54.toInt + b5.toInt) => ?_) (z_pAdd rfl rfl (by omega) (by omega))
      refine z_xil zt267 11 rfl X f46 (by decide) (by omega) (by omega) (fun (x58 : Int32) h59 (h60 : 0 ≤ x58.toInt) (h61 : x58.toInt ≤ 1023) => ?_)
      refine z_xI zt267 12 rfl rfl (fun (x62 : Int32) (h63 : x62.toInt = x52.toInt + x58.toInt) => ?_) (z_pAdd rfl rfl (by omega) (by omega))
      refine z_xil zt267 13 rfl X f30 (by decide) (by omega) (by omega) (fun (x64 : Int32) h65 (h66 : 0 ≤ x64.toInt) (h67 : x64.toInt ≤ 1023) => ?_)
      refine z_xri zt267 14 rfl zzr267 ?_
      show z_ev (d + 6) 265 79 [some (.ref 19), some (.int p1), some (.int p2), some (.int p3), some (.int p4), some (.int b5), some (.int b6), some (.int b7)] [.int x64, .int x50, .int x40] M _
      refine z_xP zt265 28 80 [some (.ref 19), some (.int p1), some (.int p2), some (.int p3), some (.int p4), some (.int b5), some (.int b6), some (.int b7)] [.int (-1), .int x64, .int x50, .int x40] rfl rfl ?_
      refine z_xI zt265 29 rfl rfl (P := fun _ => True) (fun (x68 : Int32) _ => ?_) trivial
      refine z_xI zt265 30 rfl rfl (fun (x70 : Int32) (h71 : 0 ≤ x70.toInt ∧ x70.toInt ≤ x50.toInt) => ?_) (z_pAndL rfl (by omega))
      have h72 := z_b32 x40
      refine z_xJ zt265 31 rfl rfl (fun (h73 : x40.toInt ≠ x70.toInt) => ?_) (fun (h73 : x40.toInt = x70.toInt) => ?_)
      · skip
        refine z_xP zt265 33 90 [some (.ref 19), some (.int p1), some (.int p2), some (.int p3), some (.int p4), some (.int b5), some (.int b6), some (.int b7)] [.int 0] rfl rfl ?_
        refine z_xP zt265 34 92 [some (.ref 19), some (.int p1), some (.int p2), some (.int p3), some (.int p4), some (.int b5), some (.int 0), some (.int b7)] [] rfl rfl ?_
        refine z_xN zt265 35 rfl rfl (fun (x74 : Int32) (h75 : x74.toInt = b7.toInt + 1) => ?_) (z_pAdd rfl rfl (by omega) (by omega))
        show z_ev (d + 6) 265 95 [some (.ref 19), some (.int p1), some (.int p2), some (.int p3), some (.int p4), some (.int b5), some (.int 0), some (.int x74)] [] M _
        refine z_xP zt265 36 28 [some (.ref 19), some (.int p1), some (.int p2), some (.int p3), some (.int p4), some (.int b5), some (.int 0), some (.int x74)] [] rfl rfl ?_
        have q0 : ((0 : Int32)).toInt = 0 := rfl
        exact ih.2.1 M b5 (0) x74 X ⟨by omega, by omega⟩ ⟨by omega, by omega⟩ (by decide) ⟨by omega, by omega⟩ (by omega)
      refine z_xP zt265 32 90 [some (.ref 19), some (.int p1), some (.int p2), some (.int p3), some (.int p4), some (.int b5), some (.int b6), some (.int b7)] [.int 1] rfl rfl ?_
      refine z_xP zt265 34 92 [some (.ref 19), some (.int p1), some (.int p2), some (.int p3), some (.int p4), some (.int b5), some (.int 1), some (.int b7)] [] rfl rfl ?_
      refine z_xN zt265 35 rfl rfl (fun (x76 : Int32) (h77 : x76.toInt = b7.toInt + 1) => ?_) (z_pAdd rfl rfl (by omega) (by omega))
      show z_ev (d + 6) 265 95 [some (.ref 19), some (.int p1), some (.int p2), some (.int p3), some (.int p4), some (.int b5), some (.int 1), some (.int x76)] [] M _
      refine z_xP zt265 36 28 [some (.ref 19), some (.int p1), some (.int p2), some (.int p3), some (.int p4), some (.int b5), some (.int 1), some (.int x76)] [] rfl rfl ?_
      have q1 : ((1 : Int32)).toInt = 1 := rfl
      exact ih.2.1 M b5 (1) x76 X ⟨by omega, by omega⟩ ⟨by omega, by omega⟩ (by decide) ⟨by omega, by omega⟩ (by omega)
    · skip
      intro M b5 o6 o7 z0 z1 X hh0 hh1 hp0 hh3 hp1 hh5 hh6 hh7 hE
      refine z_xP zt265 46 121 [some (.ref 19), some (.int p1), some (.int p2), some (.int p3), some (.int p4), some (.int b5), o6, o7] [.ref 19, .int b5] rfl rfl ?_
      have f19 : T[19]? = some (.inl (12, 0, 0, 0, 0)) := X.1.k rfl (by decide)
      refine z_xgI zt265 47 rfl zo265 zzf12_339 X f19 (by decide) (by decide) rfl (fun (x2 : Int32) h1 (h3 : 0 ≤ x2.toInt) (h4 : x2.toInt ≤ 216) => ?_)
      refine z_xJ zt265 48 rfl rfl (fun (h5 : x2.toInt ≤ b5.toInt) => ?_) (fun (h5 : b5.toInt < x2.toInt) => ?_)
      · skip
        refine z_xP zt265 100 255 [some (.ref 19), some (.int p1), some (.int p2), some (.int p3), some (.int p4), some (.int b5), o6, o7] [.int (-2)] rfl rfl ?_
        have qm2 : (((-2) : Int32)).toInt = (-2) := rfl
        exact z_xri zt265 101 rfl zzr265 (kk (-2) M X (by omega) (by omega))
      refine z_xP zt265 49 131 [some (.ref 19), some (.int p1), some (.int p2), some (.int p3), some (.int p4), some (.int b5), o6, o7] [.int p3, .int b5, .ref 19] rfl rfl ?_
      refine z_xcV (vs := [.ref 19, .int b5, .int p3]) (r := []) (L2 := [some (.ref 19), some (.int b5), some (.int p3), none, none, none, none]) zt265 50 rfl zo265 zzcV12_349 (Or.inl rfl) rfl X f19 rfl rfl rfl (Nat.le_of_ble_eq_true rfl) zzm268 (Nat.le_of_ble_eq_true rfl) rfl ?_
      have f31 : T[31]? = some (.inr (31, 0, 8, 0, 1024)) := X.1.k rfl (by decide)
      refine zC268 X.1 (by omega) (by omega) hp0 ⟨by omega, by omega⟩ hp1 ⟨by omega, by omega⟩ (fun x13 M6 X7 h14 h15 h8 z9 h10 h11 h12 => ?_)
      have X16 := X.go X7 (z_sb (by decide))
      show z_ev (d + 6) 265 134 [some (.ref 19), some (.int p1), some (.int p2), some (.int p3), some (.int p4), some (.int b5), o6, o7] [.int x13] M6 _
      refine z_xP zt265 51 138 [some (.ref 19), some (.int p1), some (.int p2), some (.int p3), some (.int p4), some (.int b5), some (.int x13), o7] [.int p4] rfl rfl ?_
      refine z_xZ zt265 52 rfl rfl (fun (h18 : p4.toInt ≠ 0) => ?_) (fun (h18 : p4.toInt = 0) => ?_)
      · skip
        refine z_xP zt265 73 186 [some (.ref 19), some (.int p1), some (.int p2), some (.int p3), some (.int p4), some (.int b5), some (.int x13), o7] [.int 1, .int p4] rfl rfl ?_
        refine z_xJ zt265 74 rfl rfl (fun (h19 : p4.toInt ≠ 1) => ?_) (fun (h19 : p4.toInt = 1) => ?_)
        · skip
          refine z_xP zt265 78 202 [some (.ref 19), some (.int p1), some (.int p2), some (.int p3), some (.int p4), some (.int b5), some (.int x13), o7] [.int 2, .int p4] rfl rfl ?_
          refine z_xJ zt265 79 rfl rfl (fun (h20 : p4.toInt ≠ 2) => ?_) (fun (h20 : p4.toInt = 2) => ?_)
          · skip
            refine z_xP zt265 83 217 [some (.ref 19), some (.int p1), some (.int p2), some (.int p3), some (.int p4), some (.int b5), some (.int x13), o7] [.ref 19, .ref 19] rfl rfl ?_
            have h21 := (X7.2.f f19 (by decide) hp0)
            refine z_xgv zt265 84 rfl zo265 zzf12_242 X16 f19 (by decide) h21 ?_
            refine z_xP zt265 85 221 [some (.ref 19), some (.int p1), some (.int p2), some (.int p3), some (.int p4), some (.int b5), some (.int x13), o7] [.ref 19, .int z0, .ref 19] rfl rfl ?_
            refine z_xgX (b := 44) zt265 86 rfl zo265 zzf12_82 X16 f19 (by decide) (by decide) rfl ?_
            refine z_xP zt265 87 226 [some (.ref 19), some (.int p1), some (.int p2), some (.int p3), some (.int p4), some (.int b5), some (.int x13), o7] [.int b5, .ref 44, .int z0, .ref 19] rfl rfl ?_
            have f44 : T[44]? = some (.inr (44, 0, 216, (-2147483648), 2147483647)) := X16.1.k rfl (by decide)
            refine z_xil zt265 88 rfl X16 f44 (by decide) (by omega) (by omega) (fun (x22 : Int32) h23 (h24 : (-2147483648) ≤ x22.toInt) (h25 : x22.toInt ≤ 2147483647) => ?_)
            refine z_xP zt265 89 228 [some (.ref 19), some (.int p1), some (.int p2), some (.int p3), some (.int p4), some (.int b5), some (.int x13), o7] [.ref 19, .int x22, .int z0, .ref 19] rfl rfl ?_
            refine z_xgX (b := 45) zt265 90 rfl zo265 zzf12_85 X16 f19 (by decide) (by decide) rfl ?_
            refine z_xP zt265 91 233 [some (.ref 19), some (.int p1), some (.int p2), some (.int p3), some (.int p4), some (.int b5), some (.int x13), o7] [.int b5, .ref 45, .int x22, .int z0, .ref 19] rfl rfl ?_
            have f45 : T[45]? = some (.inr (45, 0, 216, (-2147483648), 2147483647)) := X16.1.k rfl (by decide)
            refine z_xil zt265 92 rfl X16 f45 (by decide) (by omega) (by omega) (fun (x26 : Int32) h27 (h28 : (-2147483648) ≤ x26.toInt) (h29 : x26.toInt ≤ 2147483647) => ?_)
            refine z_xcV (vs := [.ref 19, .int z0, .int x22, .int x26]) (r := []) (L2 := [some (.ref 19), some (.int z0), some (.int x22), some (.int x26), none, none]) zt265 93 rfl zo265 zzcV12_222 (Or.inl rfl) rfl X16 f19 rfl rfl rfl (Nat.le_of_ble_eq_true rfl) zzm215 (Nat.le_of_ble_eq_true rfl) rfl ?_
            refine zC215 X16.1 (by omega) (fun x32 M30 X31 h33 h34 => ?_)
            have X35 := X16.go X31 (z_sb (by decide))
            show z_ev (d + 6) 265 237 [some (.ref 19), some (.int p1), some (.int p2), some (.int p3), some (.int p4), some (.int b5), some (.int x13), o7] [.int x32] M30 _
            refine z_xP zt265 94 241 [some (.ref 19), some (.int p1), some (.int p2), some (.int p3), some (.int p4), some (.int b5), some (.int x13), some (.int x32)] [.int x32] rfl rfl ?_
            refine z_xZ zt265 95 rfl rfl (fun (h37 : x32.toInt ≠ 0) => ?_) (fun (h37 : x32.toInt = 0) => ?_)
            · skip
              refine z_xN zt265 98 rfl rfl (fun (x38 : Int32) (h39 : x38.toInt = b5.toInt + 1) => ?_) (z_pAdd rfl rfl (by omega) (by omega))
              show z_ev (d + 6) 265 250 [some (.ref 19), some (.int p1), some (.int p2), some (.int p3), some (.int p4), some (.int x38), some (.int x13), some (.int x32)] [] M30 _
              refine z_xP zt265 99 118 [some (.ref 19), some (.int p1), some (.int p2), some (.int p3), some (.int p4), some (.int x38), some (.int x13), some (.int x32)] [] rfl rfl ?_
              have h40 := (X31.2.f f19 (by decide) h21)
              have h41 := ((congrFun (X31.2.a f31 (by decide)) _).trans ((congrFun (X7.2.a f31 (by decide)) _).trans hp1))
              exact ih.2.2 M30 x38 (some (.int x13)) (some (.int x32)) z0 z1 X35 ⟨by omega, by omega⟩ ⟨by omega, by omega⟩ h40 ⟨by omega, by omega⟩ h41 ⟨by omega, by omega⟩ (by omega) (by omega) (by omega)
            refine z_xP zt265 96 246 [some (.ref 19), some (.int p1), some (.int p2), some (.int p3), some (.int p4), some (.int b5), some (.int x13), some (.int x32)] [.int b5] rfl rfl ?_
            exact z_xri zt265 97 rfl zzr265 (kk b5 M30 X35 (by omega) (by omega))
          refine z_xP zt265 80 209 [some (.ref 19), some (.int p1), some (.int p2), some (.int p3), some (.int p4), some (.int b5), some (.int x13), o7] [.int p3, .int b5, .ref 19] rfl rfl ?_
          refine z_xcV (vs := [.ref 19, .int b5, .int p3]) (r := []) (L2 := [some (.ref 19), some (.int b5), some (.int p3), none, none]) zt265 81 rfl zo265 zzcV12_355 (Or.inl rfl) rfl X16 f19 rfl rfl rfl (Nat.le_of_ble_eq_true rfl) zzm270 (Nat.le_of_ble_eq_true rfl) rfl ?_
          refine zC270 X16.1 (by omega) (by omega) (fun x44 M42 X43 h45 h46 => ?_)
          have X47 := X16.go X43 (z_sb (by decide))
          show z_ev (d + 6) 265 212 [some (.ref 19), some (.int p1), some (.int p2), some (.int p3), some (.int p4), some (.int b5), some (.int x13), o7] [.int x44] M42 _
          refine z_xP zt265 82 237 [some (.ref 19), some (.int p1), some (.int p2), some (.int p3), some (.int p4), some (.int b5), some (.int x13), o7] [.int x44] rfl rfl ?_
          refine z_xP zt265 94 241 [some (.ref 19), some (.int p1), some (.int p2), some (.int p3), some (.int p4), some (.int b5), some (.int x13), some (.int x44)] [.int x44] rfl rfl ?_
          refine z_xZ zt265 95 rfl rfl (fun (h49 : x44.toInt ≠ 0) => ?_) (fun (h49 : x44.toInt = 0) => ?_)
          · skip
            refine z_xN zt265 98 rfl rfl (fun (x50 : Int32) (h51 : x50.toInt = b5.toInt + 1) => ?_) (z_pAdd rfl rfl (by omega) (by omega))
            show z_ev (d + 6) 265 250 [some (.ref 19), some (.int p1), some (.int p2), some (.int p3), some (.int p4), some (.int x50), some (.int x13), some (.int x44)] [] M42 _
            refine z_xP zt265 99 118 [some (.ref 19), some (.int p1), some (.int p2), some (.int p3), some (.int p4), some (.int x50), some (.int x13), some (.int x44)] [] rfl rfl ?_
            have h52 := (X43.2.f f19 (by decide) (X7.2.f f19 (by decide) hp0))
            have h53 := ((congrFun (X43.2.a f31 (by decide)) _).trans ((congrFun (X7.2.a f31 (by decide)) _).trans hp1))
            exact ih.2.2 M42 x50 (some (.int x13)) (some (.int x44)) z0 z1 X47 ⟨by omega, by omega⟩ ⟨by omega, by omega⟩ h52 ⟨by omega, by omega⟩ h53 ⟨by omega, by omega⟩ (by omega) (by omega) (by omega)
          refine z_xP zt265 96 246 [some (.ref 19), some (.int p1), some (.int p2), some (.int p3), some (.int p4), some (.int b5), some (.int x13), some (.int x44)] [.int b5] rfl rfl ?_
          exact z_xri zt265 97 rfl zzr265 (kk b5 M42 X47 (by omega) (by omega))
        refine z_xP zt265 75 193 [some (.ref 19), some (.int p1), some (.int p2), some (.int p3), some (.int p4), some (.int b5), some (.int x13), o7] [.int p3, .int b5, .ref 19] rfl rfl ?_
        refine z_xcV (vs := [.ref 19, .int b5, .int p3]) (r := []) (L2 := [some (.ref 19), some (.int b5), some (.int p3), none, none, none, none, none]) zt265 76 rfl zo265 zzcV12_352 (Or.inl rfl) rfl X16 f19 rfl rfl rfl (Nat.le_of_ble_eq_true rfl) zzm269 (Nat.le_of_ble_eq_true rfl) rfl ?_
        refine zC269 X16.1 (by omega) (by omega) (fun x56 M54 X55 h57 h58 => ?_)
        have X59 := X16.go X55 (z_sb (by decide))
        show z_ev (d + 6) 265 196 [some (.ref 19), some (.int p1), some (.int p2), some (.int p3), some (.int p4), some (.int b5), some (.int x13), o7] [.int x56] M54 _
        refine z_xP zt265 77 237 [some (.ref 19), some (.int p1), some (.int p2), some (.int p3), some (.int p4), some (.int b5), some (.int x13), o7] [.int x56] rfl rfl ?_
        refine z_xP zt265 94 241 [some (.ref 19), some (.int p1), some (.int p2), some (.int p3), some (.int p4), some (.int b5), some (.int x13), some (.int x56)] [.int x56] rfl rfl ?_
        refine z_xZ zt265 95 rfl rfl (fun (h61 : x56.toInt ≠ 0) => ?_) (fun (h61 : x56.toInt = 0) => ?_)
        · skip
          refine z_xN zt265 98 rfl rfl (fun (x62 : Int32) (h63 : x62.toInt = b5.toInt + 1) => ?_) (z_pAdd rfl rfl (by omega) (by omega))
          show z_ev (d + 6) 265 250 [some (.ref 19), some (.int p1), some (.int p2), some (.int p3), some (.int p4), some (.int x62), some (.int x13), some (.int x56)] [] M54 _
          refine z_xP zt265 99 118 [some (.ref 19), some (.int p1), some (.int p2), some (.int p3), some (.int p4), some (.int x62), some (.int x13), some (.int x56)] [] rfl rfl ?_
          have h64 := (X55.2.f f19 (by decide) (X7.2.f f19 (by decide) hp0))
          have h65 := ((congrFun (X55.2.a f31 (by decide)) _).trans ((congrFun (X7.2.a f31 (by decide)) _).trans hp1))
          exact ih.2.2 M54 x62 (some (.int x13)) (some (.int x56)) z0 z1 X59 ⟨by omega, by omega⟩ ⟨by omega, by omega⟩ h64 ⟨by omega, by omega⟩ h65 ⟨by omega, by omega⟩ (by omega) (by omega) (by omega)
        refine z_xP zt265 96 246 [some (.ref 19), some (.int p1), some (.int p2), some (.int p3), some (.int p4), some (.int b5), some (.int x13), some (.int x56)] [.int b5] rfl rfl ?_
        exact z_xri zt265 97 rfl zzr265 (kk b5 M54 X59 (by omega) (by omega))
      refine z_xP zt265 53 142 [some (.ref 19), some (.int p1), some (.int p2), some (.int p3), some (.int p4), some (.int b5), some (.int x13), o7] [.ref 19] rfl rfl ?_
      refine z_xgX (b := 44) zt265 54 rfl zo265 zzf12_82 X16 f19 (by decide) (by decide) rfl ?_
      refine z_xP zt265 55 147 [some (.ref 19), some (.int p1), some (.int p2), some (.int p3), some (.int p4), some (.int b5), some (.int x13), o7] [.int b5, .ref 44] rfl rfl ?_
      have f44 : T[44]? = some (.inr (44, 0, 216, (-2147483648), 2147483647)) := X16.1.k rfl (by decide)
      refine z_xil zt265 56 rfl X16 f44 (by decide) (by omega) (by omega) (fun (x66 : Int32) h67 (h68 : (-2147483648) ≤ x66.toInt) (h69 : x66.toInt ≤ 2147483647) => ?_)
      refine z_xP zt265 57 149 [some (.ref 19), some (.int p1), some (.int p2), some (.int p3), some (.int p4), some (.int b5), some (.int x13), o7] [.ref 19, .int x66] rfl rfl ?_
      refine z_xgX (b := 44) zt265 58 rfl zo265 zzf12_82 X16 f19 (by decide) (by decide) rfl ?_
      refine z_xP zt265 59 154 [some (.ref 19), some (.int p1), some (.int p2), some (.int p3), some (.int p4), some (.int b5), some (.int x13), o7] [.int x13, .ref 44, .int x66] rfl rfl ?_
      refine z_xil zt265 60 rfl X16 f44 (by decide) (by omega) (by omega) (fun (x70 : Int32) h71 (h72 : (-2147483648) ≤ x70.toInt) (h73 : x70.toInt ≤ 2147483647) => ?_)
      have h74 := z_b32 x66
      have h75 := z_b32 x70
      refine z_xJ zt265 61 rfl rfl (fun (h76 : x66.toInt ≠ x70.toInt) => ?_) (fun (h76 : x66.toInt = x70.toInt) => ?_)
      · skip
        refine z_xP zt265 72 237 [some (.ref 19), some (.int p1), some (.int p2), some (.int p3), some (.int p4), some (.int b5), some (.int x13), o7] [.int 0] rfl rfl ?_
        refine z_xP zt265 94 241 [some (.ref 19), some (.int p1), some (.int p2), some (.int p3), some (.int p4), some (.int b5), some (.int x13), some (.int 0)] [.int 0] rfl rfl ?_
        refine z_xZ zt265 95 rfl rfl (fun (h77 : (0 : Int) ≠ 0) => absurd h77 (by omega)) (fun (h77 : (0 : Int) = 0) => ?_)
        refine z_xP zt265 96 246 [some (.ref 19), some (.int p1), some (.int p2), some (.int p3), some (.int p4), some (.int b5), some (.int x13), some (.int 0)] [.int b5] rfl rfl ?_
        exact z_xri zt265 97 rfl zzr265 (kk b5 M6 X16 (by omega) (by omega))
      refine z_xP zt265 62 159 [some (.ref 19), some (.int p1), some (.int p2), some (.int p3), some (.int p4), some (.int b5), some (.int x13), o7] [.ref 19] rfl rfl ?_
      refine z_xgX (b := 45) zt265 63 rfl zo265 zzf12_85 X16 f19 (by decide) (by decide) rfl ?_
      refine z_xP zt265 64 164 [some (.ref 19), some (.int p1), some (.int p2), some (.int p3), some (.int p4), some (.int b5), some (.int x13), o7] [.int b5, .ref 45] rfl rfl ?_
      have f45 : T[45]? = some (.inr (45, 0, 216, (-2147483648), 2147483647)) := X16.1.k rfl (by decide)
      refine z_xil zt265 65 rfl X16 f45 (by decide) (by omega) (by omega) (fun (x78 : Int32) h79 (h80 : (-2147483648) ≤ x78.toInt) (h81 : x78.toInt ≤ 2147483647) => ?_)
      refine z_xP zt265 66 166 [some (.ref 19), some (.int p1), some (.int p2), some (.int p3), some (.int p4), some (.int b5), some (.int x13), o7] [.ref 19, .int x78] rfl rfl ?_
      refine z_xgX (b := 45) zt265 67 rfl zo265 zzf12_85 X16 f19 (by decide) (by decide) rfl ?_
      refine z_xP zt265 68 171 [some (.ref 19), some (.int p1), some (.int p2), some (.int p3), some (.int p4), some (.int b5), some (.int x13), o7] [.int x13, .ref 45, .int x78] rfl rfl ?_
      refine z_xil zt265 69 rfl X16 f45 (by decide) (by omega) (by omega) (fun (x82 : Int32) h83 (h84 : (-2147483648) ≤ x82.toInt) (h85 : x82.toInt ≤ 2147483647) => ?_)
      have h86 := z_b32 x78
      have h87 := z_b32 x82
      refine z_xJ zt265 70 rfl rfl (fun (h88 : x78.toInt ≠ x82.toInt) => ?_) (fun (h88 : x78.toInt = x82.toInt) => ?_)
      · skip
        refine z_xP zt265 72 237 [some (.ref 19), some (.int p1), some (.int p2), some (.int p3), some (.int p4), some (.int b5), some (.int x13), o7] [.int 0] rfl rfl ?_
        refine z_xP zt265 94 241 [some (.ref 19), some (.int p1), some (.int p2), some (.int p3), some (.int p4), some (.int b5), some (.int x13), some (.int 0)] [.int 0] rfl rfl ?_
        refine z_xZ zt265 95 rfl rfl (fun (h89 : (0 : Int) ≠ 0) => absurd h89 (by omega)) (fun (h89 : (0 : Int) = 0) => ?_)
        refine z_xP zt265 96 246 [some (.ref 19), some (.int p1), some (.int p2), some (.int p3), some (.int p4), some (.int b5), some (.int x13), some (.int 0)] [.int b5] rfl rfl ?_
        exact z_xri zt265 97 rfl zzr265 (kk b5 M6 X16 (by omega) (by omega))
      refine z_xP zt265 71 237 [some (.ref 19), some (.int p1), some (.int p2), some (.int p3), some (.int p4), some (.int b5), some (.int x13), o7] [.int 1] rfl rfl ?_
      refine z_xP zt265 94 241 [some (.ref 19), some (.int p1), some (.int p2), some (.int p3), some (.int p4), some (.int b5), some (.int x13), some (.int 1)] [.int 1] rfl rfl ?_
      refine z_xZ zt265 95 rfl rfl (fun (h90 : (1 : Int) ≠ 0) => ?_) (fun (h90 : (1 : Int) = 0) => absurd h90 (by omega))
      refine z_xN zt265 98 rfl rfl (fun (x91 : Int32) (h92 : x91.toInt = b5.toInt + 1) => ?_) (z_pAdd rfl rfl (by omega) (by omega))
      show z_ev (d + 6) 265 250 [some (.ref 19), some (.int p1), some (.int p2), some (.int p3), some (.int p4), some (.int x91), some (.int x13), some (.int 1)] [] M6 _
      refine z_xP zt265 99 118 [some (.ref 19), some (.int p1), some (.int p2), some (.int p3), some (.int p4), some (.int x91), some (.int x13), some (.int 1)] [] rfl rfl ?_
      have h93 := (X7.2.f f19 (by decide) hp0)
      have h94 := ((congrFun (X7.2.a f31 (by decide)) _).trans hp1)
      have q1 : ((1 : Int32)).toInt = 1 := rfl
      exact ih.2.2 M6 x91 (some (.int x13)) (some (.int 1)) z0 z1 X16 ⟨by omega, by omega⟩ ⟨by omega, by omega⟩ h93 ⟨by omega, by omega⟩ h94 ⟨by omega, by omega⟩ (by omega) (by omega) (by omega)
theorem zC265 {T : List zK} {d : Nat} {K : Option Value → zH → Prop} {p1 : Int32} {p2 : Int32} {p3 : Int32} {p4 : Int32} {zl0 : Int32} {M0 : zH} (hW : z_W M0 T) (u1 : 0 ≤ p1.toInt ∧ p1.toInt ≤ 19) (u2 : 0 ≤ p2.toInt ∧ p2.toInt ≤ 7) (u3 : 1 ≤ p3.toInt ∧ p3.toInt ≤ 3) (u4 : 0 ≤ p4.toInt ∧ p4.toInt ≤ 4) (hl0 : z_Ar M0 31 p2.toNatClampNeg = zl0) (bl0 : 1 ≤ zl0.toInt ∧ zl0.toInt ≤ 6) (kk : ∀ (x : Int32) (M1 : zH), z_X T zw265 M0 M1 → (-2) ≤ x.toInt → x.toInt ≤ 215 → K (some (.int x)) M1) : z_ev (d + 6) 265 0 [some (.ref 19), some (.int p1), some (.int p2), some (.int p3), some (.int p4), none, none, none] [] M0 K := by
  have X : z_X T zw265 M0 M0 := .refl hW
  refine z_xP zt265 0 4 [some (.ref 19), some (.int p1), some (.int p2), some (.int p3), some (.int p4), none, none, none] [.int p3, .int p2, .int p1, .ref 19] rfl rfl ?_
  have f19 : T[19]? = some (.inl (12, 0, 0, 0, 0)) := X.1.k rfl (by decide)
  refine z_xcV (vs := [.ref 19, .int p1, .int p2, .int p3]) (r := []) (L2 := [some (.ref 19), some (.int p1), some (.int p2), some (.int p3), none, none]) zt265 1 rfl zo265 zzcV12_345 (Or.inl rfl) rfl X f19 rfl rfl rfl (Nat.le_of_ble_eq_true rfl) zzm266 (Nat.le_of_ble_eq_true rfl) rfl ?_
  obtain ⟨x1, h2, h3, h4⟩ := z_W.fi X.1 f19 (k := 29) (lo := 0) (hi := 7) (by decide) rfl
  have f31 : T[31]? = some (.inr (31, 0, 8, 0, 1024)) := X.1.k rfl (by decide)
  refine zC266 X.1 (by omega) (by omega) (by omega) h2 ⟨by omega, by omega⟩ hl0 ⟨by omega, by omega⟩ (fun M5 X6 z7 h8 h9 h10 => ?_)
  have X11 := X.go X6 (z_sb (by decide))
  show z_ev (d + 6) 265 7 [some (.ref 19), some (.int p1), some (.int p2), some (.int p3), some (.int p4), none, none, none] [] M5 _
  have h13 : z7 = p2 := z_sub (c := p2.toInt) (by omega) rfl
  have h14 := h8
  rw [h13] at h14
  refine z_xP zt265 2 10 [some (.ref 19), some (.int p1), some (.int p2), some (.int p3), some (.int p4), none, none, none] [.int 4, .int p4] rfl rfl ?_
  refine z_xJ zt265 3 rfl rfl (fun (h15 : p4.toInt ≠ 4) => ?_) (fun (h15 : p4.toInt = 4) => ?_)
  · skip
    refine z_xP zt265 45 118 [some (.ref 19), some (.int p1), some (.int p2), some (.int p3), some (.int p4), some (.int 0), none, none] [] rfl rfl ?_
    have h16 := ((congrFun (X6.2.a f31 (by decide)) _).trans hl0)
    have q0 : ((0 : Int32)).toInt = 0 := rfl
    exact (zB265 u1 u2 u3 u4 hl0 bl0 kk 753424).2.2 M5 (0) none none p2 zl0 X11 ⟨by omega, by omega⟩ (by decide) h14 ⟨by omega, by omega⟩ h16 ⟨by omega, by omega⟩ (by omega) (by omega) (by omega)
  refine z_xP zt265 4 16 [some (.ref 19), some (.int p1), some (.int p2), some (.int p3), some (.int p4), some (.int 0), none, none] [] rfl rfl ?_
  have q0 : ((0 : Int32)).toInt = 0 := rfl
  exact (zB265 u1 u2 u3 u4 hl0 bl0 kk 753424).1 M5 (0) none none X11 ⟨by omega, by omega⟩ (by decide) (by omega)
def zw264 : List Nat := [39, 40, 41, 42, 43, 44, 45, 46, 2229, 2230, 2234, 2235, 2241]
theorem zC264 {T : List zK} {d : Nat} {K : Option Value → zH → Prop} {p1 : Int32} {p2 : Int32} {p3 : Int32} {p4 : Int32} {M0 : zH} (hW : z_W M0 T) (hR : z_G4 M0) (kk : ∀ (x : Int32) (M1 : zH), z_X T zw264 M0 M1 → (-4) ≤ x.toInt → x.toInt ≤ 215 → K (some (.int x)) M1) : z_ev (d + 7) 264 0 [some (.ref 19), some (.int p1), some (.int p2), some (.int p3), some (.int p4)] [] M0 K := by
  have X : z_X T zw264 M0 M0 := .refl hW
  refine z_xP zt264 0 2 [some (.ref 19), some (.int p1), some (.int p2), some (.int p3), some (.int p4)] [.int p1, .ref 19] rfl rfl ?_
  have f19 : T[19]? = some (.inl (12, 0, 0, 0, 0)) := X.1.k rfl (by decide)
  refine z_xcV (vs := [.ref 19, .int p1]) (r := []) (L2 := [some (.ref 19), some (.int p1)]) zt264 1 rfl zo264 zzcV12_272 (Or.inl rfl) rfl X f19 rfl rfl rfl (Nat.le_of_ble_eq_true rfl) zzm237 (Nat.le_of_ble_eq_true rfl) rfl ?_
  refine z_xP zt237 0 1 [some (.ref 19), some (.int p1)] [.int p1] rfl rfl ?_
  refine z_xZ zt237 1 rfl rfl (fun (h1 : p1.toInt < 0) => ?_) (fun (h1 : 0 ≤ p1.toInt) => ?_)
  · skip
    refine z_xP zt237 6 17 [some (.ref 19), some (.int p1)] [.int 0] rfl rfl ?_
    refine z_xrz zt237 7 rfl zzr237 (by decide) (by decide) ?_
    show z_ev (d + 7) 264 5 [some (.ref 19), some (.int p1), some (.int p2), some (.int p3), some (.int p4)] [.int 0] M0 _
    refine z_xZ zt264 2 rfl rfl (fun (h2 : (0 : Int) = 0) => ?_) (fun (h2 : (0 : Int) ≠ 0) => absurd h2 (by omega))
    refine z_xP zt264 18 42 [some (.ref 19), some (.int p1), some (.int p2), some (.int p3), some (.int p4)] [.int (-1)] rfl rfl ?_
    have qm1 : (((-1) : Int32)).toInt = (-1) := rfl
    exact z_xri zt264 19 rfl zzr264 (kk (-1) M0 X (by omega) (by omega))
  refine z_xP zt237 2 6 [some (.ref 19), some (.int p1)] [.ref 19, .int p1] rfl rfl ?_
  refine z_xgI zt237 3 rfl zo237 zzf12_269 X f19 (by decide) (by decide) rfl (fun (x4 : Int32) h3 (h5 : 0 ≤ x4.toInt) (h6 : x4.toInt ≤ 20) => ?_)
  have h7 := z_b32 p1
  refine z_xJ zt237 4 rfl rfl (fun (h8 : x4.toInt ≤ p1.toInt) => ?_) (fun (h8 : p1.toInt < x4.toInt) => ?_)
  · skip
    refine z_xP zt237 6 17 [some (.ref 19), some (.int p1)] [.int 0] rfl rfl ?_
    refine z_xrz zt237 7 rfl zzr237 (by decide) (by decide) ?_
    show z_ev (d + 7) 264 5 [some (.ref 19), some (.int p1), some (.int p2), some (.int p3), some (.int p4)] [.int 0] M0 _
    refine z_xZ zt264 2 rfl rfl (fun (h9 : (0 : Int) = 0) => ?_) (fun (h9 : (0 : Int) ≠ 0) => absurd h9 (by omega))
    refine z_xP zt264 18 42 [some (.ref 19), some (.int p1), some (.int p2), some (.int p3), some (.int p4)] [.int (-1)] rfl rfl ?_
    have qm1 : (((-1) : Int32)).toInt = (-1) := rfl
    exact z_xri zt264 19 rfl zzr264 (kk (-1) M0 X (by omega) (by omega))
  refine z_xP zt237 5 17 [some (.ref 19), some (.int p1)] [.int 1] rfl rfl ?_
  refine z_xrz zt237 7 rfl zzr237 (by decide) (by decide) ?_
  show z_ev (d + 7) 264 5 [some (.ref 19), some (.int p1), some (.int p2), some (.int p3), some (.int p4)] [.int 1] M0 _
  refine z_xZ zt264 2 rfl rfl (fun (h10 : (1 : Int) = 0) => absurd h10 (by omega)) (fun (h10 : (1 : Int) ≠ 0) => ?_)
  refine z_xP zt264 3 10 [some (.ref 19), some (.int p1), some (.int p2), some (.int p3), some (.int p4)] [.int p2, .ref 19] rfl rfl ?_
  refine z_xcV (vs := [.ref 19, .int p2]) (r := []) (L2 := [some (.ref 19), some (.int p2)]) zt264 4 rfl zo264 zzcV12_209 (Or.inl rfl) rfl X f19 rfl rfl rfl (Nat.le_of_ble_eq_true rfl) zzm209 (Nat.le_of_ble_eq_true rfl) rfl ?_
  refine z_xP zt209 0 1 [some (.ref 19), some (.int p2)] [.int p2] rfl rfl ?_
  refine z_xZ zt209 1 rfl rfl (fun (h11 : p2.toInt < 0) => ?_) (fun (h11 : 0 ≤ p2.toInt) => ?_)
  · skip
    refine z_xP zt209 6 17 [some (.ref 19), some (.int p2)] [.int 0] rfl rfl ?_
    refine z_xrz zt209 7 rfl zzr209 (by decide) (by decide) ?_
    show z_ev (d + 7) 264 13 [some (.ref 19), some (.int p1), some (.int p2), some (.int p3), some (.int p4)] [.int 0] M0 _
    refine z_xZ zt264 5 rfl rfl (fun (h12 : (0 : Int) = 0) => ?_) (fun (h12 : (0 : Int) ≠ 0) => absurd h12 (by omega))
    refine z_xP zt264 18 42 [some (.ref 19), some (.int p1), some (.int p2), some (.int p3), some (.int p4)] [.int (-1)] rfl rfl ?_
    have qm1 : (((-1) : Int32)).toInt = (-1) := rfl
    exact z_xri zt264 19 rfl zzr264 (kk (-1) M0 X (by omega) (by omega))
  refine z_xP zt209 2 6 [some (.ref 19), some (.int p2)] [.ref 19, .int p2] rfl rfl ?_
  refine z_xgI zt209 3 rfl zo209 zzf12_110 X f19 (by decide) (by decide) rfl (fun (x14 : Int32) h13 (h15 : 0 ≤ x14.toInt) (h16 : x14.toInt ≤ 8) => ?_)
  have h17 := z_b32 p2
  refine z_xJ zt209 4 rfl rfl (fun (h18 : x14.toInt ≤ p2.toInt) => ?_) (fun (h18 : p2.toInt < x14.toInt) => ?_)
  · skip
    refine z_xP zt209 6 17 [some (.ref 19), some (.int p2)] [.int 0] rfl rfl ?_
    refine z_xrz zt209 7 rfl zzr209 (by decide) (by decide) ?_
    show z_ev (d + 7) 264 13 [some (.ref 19), some (.int p1), some (.int p2), some (.int p3), some (.int p4)] [.int 0] M0 _
    refine z_xZ zt264 5 rfl rfl (fun (h19 : (0 : Int) = 0) => ?_) (fun (h19 : (0 : Int) ≠ 0) => absurd h19 (by omega))
    refine z_xP zt264 18 42 [some (.ref 19), some (.int p1), some (.int p2), some (.int p3), some (.int p4)] [.int (-1)] rfl rfl ?_
    have qm1 : (((-1) : Int32)).toInt = (-1) := rfl
    exact z_xri zt264 19 rfl zzr264 (kk (-1) M0 X (by omega) (by omega))
  refine z_xP zt209 5 17 [some (.ref 19), some (.int p2)] [.int 1] rfl rfl ?_
  refine z_xrz zt209 7 rfl zzr209 (by decide) (by decide) ?_
  show z_ev (d + 7) 264 13 [some (.ref 19), some (.int p1), some (.int p2), some (.int p3), some (.int p4)] [.int 1] M0 _
  refine z_xZ zt264 5 rfl rfl (fun (h20 : (1 : Int) = 0) => absurd h20 (by omega)) (fun (h20 : (1 : Int) ≠ 0) => ?_)
  refine z_xP zt264 6 17 [some (.ref 19), some (.int p1), some (.int p2), some (.int p3), some (.int p4)] [.int p3] rfl rfl ?_
  have h21 := z_b32 p3
  refine z_xL zt264 7 rfl rfl (fun (y22 : Int64) (h23 : y22.toInt = p3.toInt) => ?_) (z_qI2L rfl)
  refine z_xP zt264 8 19 [some (.ref 19), some (.int p1), some (.int p2), some (.int p3), some (.int p4)] [.long 1, .long y22] rfl rfl ?_
  refine z_xl2 zt264 9 rfl zo264 zkl12_358 ?_
  refine z_xcS (vs := [.long y22, .long 1, .long 3]) (r := []) (L2 := [some (.long y22), none, some (.long 1), none, some (.long 3), none]) zt264 10 rfl zo264 zzcS12_116 (Or.inl rfl) (Nat.le_of_ble_eq_true rfl) rfl rfl (Nat.le_of_ble_eq_true rfl) zzm189 (Nat.le_of_ble_eq_true rfl) rfl ?_
  refine z_xP zt189 0 2 [some (.long y22), none, some (.long 1), none, some (.long 3), none] [.long 1, .long y22] rfl rfl ?_
  refine z_xI zt189 1 rfl rfl (fun (x24 : Int32) (h25 : (x24.toInt < 0 ∧ y22.toInt < 1) ∨ (x24.toInt = 0 ∧ y22.toInt = 1) ∨ (0 < x24.toInt ∧ 1 < y22.toInt)) => ?_) (z_qCmp rfl rfl)
  refine z_xZ zt189 2 rfl rfl (fun (h26 : x24.toInt < 0) => ?_) (fun (h26 : 0 ≤ x24.toInt) => ?_)
  · skip
    refine z_xP zt189 7 18 [some (.long y22), none, some (.long 1), none, some (.long 3), none] [.int 0] rfl rfl ?_
    refine z_xrz zt189 8 rfl zzr189 (by decide) (by decide) ?_
    show z_ev (d + 7) 264 25 [some (.ref 19), some (.int p1), some (.int p2), some (.int p3), some (.int p4)] [.int 0] M0 _
    refine z_xZ zt264 11 rfl rfl (fun (h27 : (0 : Int) = 0) => ?_) (fun (h27 : (0 : Int) ≠ 0) => absurd h27 (by omega))
    refine z_xP zt264 18 42 [some (.ref 19), some (.int p1), some (.int p2), some (.int p3), some (.int p4)] [.int (-1)] rfl rfl ?_
    have qm1 : (((-1) : Int32)).toInt = (-1) := rfl
    exact z_xri zt264 19 rfl zzr264 (kk (-1) M0 X (by omega) (by omega))
  refine z_xP zt189 3 9 [some (.long y22), none, some (.long 1), none, some (.long 3), none] [.long 3, .long y22] rfl rfl ?_
  refine z_xI zt189 4 rfl rfl (fun (x28 : Int32) (h29 : (x28.toInt < 0 ∧ y22.toInt < 3) ∨ (x28.toInt = 0 ∧ y22.toInt = 3) ∨ (0 < x28.toInt ∧ 3 < y22.toInt)) => ?_) (z_qCmp rfl rfl)
  refine z_xZ zt189 5 rfl rfl (fun (h30 : 0 < x28.toInt) => ?_) (fun (h30 : x28.toInt ≤ 0) => ?_)
  · skip
    refine z_xP zt189 7 18 [some (.long y22), none, some (.long 1), none, some (.long 3), none] [.int 0] rfl rfl ?_
    refine z_xrz zt189 8 rfl zzr189 (by decide) (by decide) ?_
    show z_ev (d + 7) 264 25 [some (.ref 19), some (.int p1), some (.int p2), some (.int p3), some (.int p4)] [.int 0] M0 _
    refine z_xZ zt264 11 rfl rfl (fun (h31 : (0 : Int) = 0) => ?_) (fun (h31 : (0 : Int) ≠ 0) => absurd h31 (by omega))
    refine z_xP zt264 18 42 [some (.ref 19), some (.int p1), some (.int p2), some (.int p3), some (.int p4)] [.int (-1)] rfl rfl ?_
    have qm1 : (((-1) : Int32)).toInt = (-1) := rfl
    exact z_xri zt264 19 rfl zzr264 (kk (-1) M0 X (by omega) (by omega))
  refine z_xP zt189 6 18 [some (.long y22), none, some (.long 1), none, some (.long 3), none] [.int 1] rfl rfl ?_
  refine z_xrz zt189 8 rfl zzr189 (by decide) (by decide) ?_
  show z_ev (d + 7) 264 25 [some (.ref 19), some (.int p1), some (.int p2), some (.int p3), some (.int p4)] [.int 1] M0 _
  refine z_xZ zt264 11 rfl rfl (fun (h32 : (1 : Int) = 0) => absurd h32 (by omega)) (fun (h32 : (1 : Int) ≠ 0) => ?_)
  refine z_xP zt264 12 30 [some (.ref 19), some (.int p1), some (.int p2), some (.int p3), some (.int p4)] [.int p4] rfl rfl ?_
  have h33 := z_b32 p4
  refine z_xL zt264 13 rfl rfl (fun (y34 : Int64) (h35 : y34.toInt = p4.toInt) => ?_) (z_qI2L rfl)
  refine z_xP zt264 14 32 [some (.ref 19), some (.int p1), some (.int p2), some (.int p3), some (.int p4)] [.long 0, .long y34] rfl rfl ?_
  refine z_xl2 zt264 15 rfl zo264 zkl12_114 ?_
  refine z_xcS (vs := [.long y34, .long 0, .long 4]) (r := []) (L2 := [some (.long y34), none, some (.long 0), none, some (.long 4), none]) zt264 16 rfl zo264 zzcS12_116 (Or.inl rfl) (Nat.le_of_ble_eq_true rfl) rfl rfl (Nat.le_of_ble_eq_true rfl) zzm189 (Nat.le_of_ble_eq_true rfl) rfl ?_
  refine z_xP zt189 0 2 [some (.long y34), none, some (.long 0), none, some (.long 4), none] [.long 0, .long y34] rfl rfl ?_
  refine z_xI zt189 1 rfl rfl (fun (x36 : Int32) (h37 : (x36.toInt < 0 ∧ y34.toInt < 0) ∨ (x36.toInt = 0 ∧ y34.toInt = 0) ∨ (0 < x36.toInt ∧ 0 < y34.toInt)) => ?_) (z_qCmp rfl rfl)
  refine z_xZ zt189 2 rfl rfl (fun (h38 : x36.toInt < 0) => ?_) (fun (h38 : 0 ≤ x36.toInt) => ?_)
  · skip
    refine z_xP zt189 7 18 [some (.long y34), none, some (.long 0), none, some (.long 4), none] [.int 0] rfl rfl ?_
    refine z_xrz zt189 8 rfl zzr189 (by decide) (by decide) ?_
    show z_ev (d + 7) 264 38 [some (.ref 19), some (.int p1), some (.int p2), some (.int p3), some (.int p4)] [.int 0] M0 _
    refine z_xZ zt264 17 rfl rfl (fun (h39 : (0 : Int) ≠ 0) => absurd h39 (by omega)) (fun (h39 : (0 : Int) = 0) => ?_)
    refine z_xP zt264 18 42 [some (.ref 19), some (.int p1), some (.int p2), some (.int p3), some (.int p4)] [.int (-1)] rfl rfl ?_
    have qm1 : (((-1) : Int32)).toInt = (-1) := rfl
    exact z_xri zt264 19 rfl zzr264 (kk (-1) M0 X (by omega) (by omega))
  refine z_xP zt189 3 9 [some (.long y34), none, some (.long 0), none, some (.long 4), none] [.long 4, .long y34] rfl rfl ?_
  refine z_xI zt189 4 rfl rfl (fun (x40 : Int32) (h41 : (x40.toInt < 0 ∧ y34.toInt < 4) ∨ (x40.toInt = 0 ∧ y34.toInt = 4) ∨ (0 < x40.toInt ∧ 4 < y34.toInt)) => ?_) (z_qCmp rfl rfl)
  refine z_xZ zt189 5 rfl rfl (fun (h42 : 0 < x40.toInt) => ?_) (fun (h42 : x40.toInt ≤ 0) => ?_)
  · skip
    refine z_xP zt189 7 18 [some (.long y34), none, some (.long 0), none, some (.long 4), none] [.int 0] rfl rfl ?_
    refine z_xrz zt189 8 rfl zzr189 (by decide) (by decide) ?_
    show z_ev (d + 7) 264 38 [some (.ref 19), some (.int p1), some (.int p2), some (.int p3), some (.int p4)] [.int 0] M0 _
    refine z_xZ zt264 17 rfl rfl (fun (h43 : (0 : Int) ≠ 0) => absurd h43 (by omega)) (fun (h43 : (0 : Int) = 0) => ?_)
    refine z_xP zt264 18 42 [some (.ref 19), some (.int p1), some (.int p2), some (.int p3), some (.int p4)] [.int (-1)] rfl rfl ?_
    have qm1 : (((-1) : Int32)).toInt = (-1) := rfl
    exact z_xri zt264 19 rfl zzr264 (kk (-1) M0 X (by omega) (by omega))
  refine z_xP zt189 6 18 [some (.long y34), none, some (.long 0), none, some (.long 4), none] [.int 1] rfl rfl ?_
  refine z_xrz zt189 8 rfl zzr189 (by decide) (by decide) ?_
  show z_ev (d + 7) 264 38 [some (.ref 19), some (.int p1), some (.int p2), some (.int p3), some (.int p4)] [.int 1] M0 _
  refine z_xZ zt264 17 rfl rfl (fun (h44 : (1 : Int) ≠ 0) => ?_) (fun (h44 : (1 : Int) = 0) => absurd h44 (by omega))
  refine z_xP zt264 20 44 [some (.ref 19), some (.int p1), some (.int p2), some (.int p3), some (.int p4)] [.ref 19] rfl rfl ?_
  refine z_xgX (b := 31) zt264 21 rfl zo264 zzf12_43 X f19 (by decide) (by decide) rfl ?_
  refine z_xP zt264 22 48 [some (.ref 19), some (.int p1), some (.int p2), some (.int p3), some (.int p4)] [.int p2, .ref 31] rfl rfl ?_
  have f31 : T[31]? = some (.inr (31, 0, 8, 0, 1024)) := X.1.k rfl (by decide)
  refine z_xil zt264 23 rfl X f31 (by decide) (by omega) (by omega) (fun (x45 : Int32) h46 (h47 : 0 ≤ x45.toInt) (h48 : x45.toInt ≤ 1024) => ?_)
  refine z_xP zt264 24 51 [some (.ref 19), some (.int p1), some (.int p2), some (.int p3), some (.int p4)] [.int 6, .int x45] rfl rfl ?_
  refine z_xJ zt264 25 rfl rfl (fun (h49 : x45.toInt ≤ 6) => ?_) (fun (h49 : 6 < x45.toInt) => ?_)
  · skip
    refine z_xP zt264 27 65 [some (.ref 19), some (.int p1), some (.int p2), some (.int p3), some (.int p4)] [.int p4, .int p3, .int p2, .int p1, .ref 19] rfl rfl ?_
    refine z_xcV (vs := [.ref 19, .int p1, .int p2, .int p3, .int p4]) (r := []) (L2 := [some (.ref 19), some (.int p1), some (.int p2), some (.int p3), some (.int p4), none, none, none]) zt264 28 rfl zo264 zzcV12_360 (Or.inl rfl) rfl X f19 rfl rfl rfl (Nat.le_of_ble_eq_true rfl) zzm265 (Nat.le_of_ble_eq_true rfl) rfl ?_
    have h50 := z_G4u (hR.go X (by decide)) h13 (by omega) (by omega) h46
    refine zC265 X.1 (by omega) (by omega) (by omega) (by omega) h46 ⟨by omega, by omega⟩ (fun x53 M51 X52 h54 h55 => ?_)
    have X56 := X.go X52 (z_sb (by decide))
    show z_ev (d + 7) 264 68 [some (.ref 19), some (.int p1), some (.int p2), some (.int p3), some (.int p4)] [.int x53] M51 _
    exact z_xri zt264 29 rfl zzr264 (kk x53 M51 X56 (by omega) (by omega))
  refine z_xP zt264 26 68 [some (.ref 19), some (.int p1), some (.int p2), some (.int p3), some (.int p4)] [.int (-4)] rfl rfl ?_
  have qm4 : (((-4) : Int32)).toInt = (-4) := rfl
  exact z_xri zt264 29 rfl zzr264 (kk (-4) M0 X (by omega) (by omega))
def zw271 : List Nat := [39, 40, 41, 42, 43, 44, 45, 46, 2229, 2230, 2234, 2235, 2241]
theorem zB271 {T : List zK} {d : Nat} {K : Option Value → zH → Prop} {p1 : Int32} {p2 : Int32} {p3 : Int32} {M0 : zH} (hR : z_G4 M0) (kk : ∀ (x : Int32) (M1 : zH), z_X T zw271 M0 M1 → (-4) ≤ x.toInt → x.toInt ≤ 19 → K (some (.int x)) M1) : ∀ n : Nat, (∀ (M : zH) (b4 : Int32) (o5 : Option Value) (o6 : Option Value) (z0 : Int32) (z1 : Int32), z_X T zw271 M0 M → 0 ≤ p1.toInt ∧ p1.toInt ≤ 7 → 1 ≤ p2.toInt ∧ p2.toInt ≤ 3 → 1 ≤ p3.toInt ∧ p3.toInt ≤ 31 → 0 ≤ b4.toInt ∧ b4.toInt ≤ 20 → z_F M 19 13 = some (.int z0) → 1 ≤ z0.toInt ∧ z0.toInt ≤ 8 → z_Ar M 31 p1.toNatClampNeg = z1 → 0 ≤ z1.toInt ∧ z1.toInt ≤ 6 → p1.toInt < z0.toInt → z1.toInt ≤ 6 → ((((0) * 3 + 1) * 21 + (20 - b4.toInt)) * 3 + 2) * 6 + (0) < (n : Int) → z_ev (d + 7) 271 51 [some (.ref 19), some (.int p1), some (.int p2), some (.int p3), some (.int b4), o5, o6] [] M K) ∧ (∀ (M : zH) (b4 : Int32) (b5 : Int32) (b6 : Int32) (z0 : Int32) (z1 : Int32), z_X T zw271 M0 M → 0 ≤ p1.toInt ∧ p1.toInt ≤ 7 → 1 ≤ p2.toInt ∧ p2.toInt ≤ 3 → 1 ≤ p3.toInt ∧ p3.toInt ≤ 31 → 0 ≤ b4.toInt ∧ b4.toInt ≤ 19 → 0 ≤ b5.toInt ∧ b5.toInt ≤ 1 → 0 ≤ b6.toInt ∧ b6.toInt ≤ 5 → z_F M 19 13 = some (.int z0) → 1 ≤ z0.toInt ∧ z0.toInt ≤ 8 → z_Ar M 31 p1.toNatClampNeg = z1 → 0 ≤ z1.toInt ∧ z1.toInt ≤ 6 → p1.toInt < z0.toInt → z1.toInt ≤ 6 → ((((0) * 3 + 1) * 21 + (20 - b4.toInt)) * 3 + 0) * 6 + (5 - b6.toInt) < (n : Int) → z_ev (d + 7) 271 66 [some (.ref 19), some (.int p1), some (.int p2), some (.int p3), some (.int b4), some (.int b5), some (.int b6)] [] M K) := by
  intro n
  induction n with
  | zero => exact ⟨(by intros; exfalso; omega), (by intros; exfalso; omega)⟩
  | succ n ih =>
    refine ⟨?_, ?_⟩
    · skip
      intro M b4 o5 o6 z0 z1 X hh0 hh1 hh2 hh3 hp0 hh5 hp1 hh7 hh8 hh9 hE
      refine z_xP zt271 26 54 [some (.ref 19), some (.int p1), some (.int p2), some (.int p3), some (.int b4), o5, o6] [.ref 19, .int b4] rfl rfl ?_
      have f19 : T[19]? = some (.inl (12, 0, 0, 0, 0)) := X.1.k rfl (by decide)
      refine z_xgI zt271 27 rfl zo271 zzf12_269 X f19 (by decide) (by decide) rfl (fun (x2 : Int32) h1 (h3 : 0 ≤ x2.toInt) (h4 : x2.toInt ≤ 20) => ?_)
      refine z_xJ zt271 28 rfl rfl (fun (h5 : x2.toInt ≤ b4.toInt) => ?_) (fun (h5 : b4.toInt < x2.toInt) => ?_)
      · skip
        refine z_xP zt271 54 130 [some (.ref 19), some (.int p1), some (.int p2), some (.int p3), some (.int b4), o5, o6] [.int (-2)] rfl rfl ?_
        have qm2 : (((-2) : Int32)).toInt = (-2) := rfl
        exact z_xri zt271 55 rfl zzr271 (kk (-2) M X (by omega) (by omega))
      refine z_xP zt271 29 66 [some (.ref 19), some (.int p1), some (.int p2), some (.int p3), some (.int b4), some (.int 1), some (.int 0)] [] rfl rfl ?_
      have f31 : T[31]? = some (.inr (31, 0, 8, 0, 1024)) := X.1.k rfl (by decide)
      have q0 : ((0 : Int32)).toInt = 0 := rfl
      have q1 : ((1 : Int32)).toInt = 1 := rfl
      exact ih.2 M b4 (1) (0) z0 z1 X ⟨by omega, by omega⟩ ⟨by omega, by omega⟩ ⟨by omega, by omega⟩ ⟨by omega, by omega⟩ (by decide) (by decide) hp0 ⟨by omega, by omega⟩ hp1 ⟨by omega, by omega⟩ (by omega) (by omega) (by omega)
    · skip
      intro M b4 b5 b6 z0 z1 X hh0 hh1 hh2 hh3 hh4 hh5 hp0 hh7 hp1 hh9 hh10 hh11 hE
      refine z_xP zt271 30 69 [some (.ref 19), some (.int p1), some (.int p2), some (.int p3), some (.int b4), some (.int b5), some (.int b6)] [.int 5, .int b6] rfl rfl ?_
      refine z_xJ zt271 31 rfl rfl (fun (h1 : 5 ≤ b6.toInt) => ?_) (fun (h1 : b6.toInt < 5) => ?_)
      · skip
        refine z_xP zt271 48 116 [some (.ref 19), some (.int p1), some (.int p2), some (.int p3), some (.int b4), some (.int b5), some (.int b6)] [.int b5] rfl rfl ?_
        refine z_xZ zt271 49 rfl rfl (fun (h2 : b5.toInt = 0) => ?_) (fun (h2 : b5.toInt ≠ 0) => ?_)
        · skip
          refine z_xN zt271 52 rfl rfl (fun (x3 : Int32) (h4 : x3.toInt = b4.toInt + 1) => ?_) (z_pAdd rfl rfl (by omega) (by omega))
          show z_ev (d + 7) 271 125 [some (.ref 19), some (.int p1), some (.int p2), some (.int p3), some (.int x3), some (.int b5), some (.int b6)] [] M _
          refine z_xP zt271 53 51 [some (.ref 19), some (.int p1), some (.int p2), some (.int p3), some (.int x3), some (.int b5), some (.int b6)] [] rfl rfl ?_
          have f19 : T[19]? = some (.inl (12, 0, 0, 0, 0)) := X.1.k rfl (by decide)
          have f31 : T[31]? = some (.inr (31, 0, 8, 0, 1024)) := X.1.k rfl (by decide)
          exact ih.1 M x3 (some (.int b5)) (some (.int b6)) z0 z1 X ⟨by omega, by omega⟩ ⟨by omega, by omega⟩ ⟨by omega, by omega⟩ ⟨by omega, by omega⟩ hp0 ⟨by omega, by omega⟩ hp1 ⟨by omega, by omega⟩ (by omega) (by omega) (by omega)
        refine z_xP zt271 50 121 [some (.ref 19), some (.int p1), some (.int p2), some (.int p3), some (.int b4), some (.int b5), some (.int b6)] [.int b4] rfl rfl ?_
        exact z_xri zt271 51 rfl zzr271 (kk b4 M X (by omega) (by omega))
      refine z_xP zt271 32 74 [some (.ref 19), some (.int p1), some (.int p2), some (.int p3), some (.int b4), some (.int b5), some (.int b6)] [.int b5] rfl rfl ?_
      refine z_xZ zt271 33 rfl rfl (fun (h5 : b5.toInt = 0) => ?_) (fun (h5 : b5.toInt ≠ 0) => ?_)
      · skip
        refine z_xP zt271 48 116 [some (.ref 19), some (.int p1), some (.int p2), some (.int p3), some (.int b4), some (.int b5), some (.int b6)] [.int b5] rfl rfl ?_
        refine z_xZ zt271 49 rfl rfl (fun (h6 : b5.toInt = 0) => ?_) (fun (h6 : b5.toInt ≠ 0) => absurd h6 (by omega))
        refine z_xN zt271 52 rfl rfl (fun (x7 : Int32) (h8 : x7.toInt = b4.toInt + 1) => ?_) (z_pAdd rfl rfl (by omega) (by omega))
        show z_ev (d + 7) 271 125 [some (.ref 19), some (.int p1), some (.int p2), some (.int p3), some (.int x7), some (.int b5), some (.int b6)] [] M _
        refine z_xP zt271 53 51 [some (.ref 19), some (.int p1), some (.int p2), some (.int p3), some (.int x7), some (.int b5), some (.int b6)] [] rfl rfl ?_
        have f19 : T[19]? = some (.inl (12, 0, 0, 0, 0)) := X.1.k rfl (by decide)
        have f31 : T[31]? = some (.inr (31, 0, 8, 0, 1024)) := X.1.k rfl (by decide)
        exact ih.1 M x7 (some (.int b5)) (some (.int b6)) z0 z1 X ⟨by omega, by omega⟩ ⟨by omega, by omega⟩ ⟨by omega, by omega⟩ ⟨by omega, by omega⟩ hp0 ⟨by omega, by omega⟩ hp1 ⟨by omega, by omega⟩ (by omega) (by omega) (by omega)
      refine z_xP zt271 34 80 [some (.ref 19), some (.int p1), some (.int p2), some (.int p3), some (.int b4), some (.int b5), some (.int b6)] [.int b6, .int p3] rfl rfl ?_
      refine z_xI zt271 35 rfl rfl (fun (x9 : Int32) (h10 : 0 ≤ x9.toInt ∧ x9.toInt ≤ p3.toInt) => ?_) (z_pShrN rfl (by omega))
      refine z_xP zt271 36 82 [some (.ref 19), some (.int p1), some (.int p2), some (.int p3), some (.int b4), some (.int b5), some (.int b6)] [.int 1, .int x9] rfl rfl ?_
      refine z_xI zt271 37 rfl rfl (fun (x11 : Int32) (h12 : 0 ≤ x11.toInt ∧ x11.toInt ≤ x9.toInt ∧ x11.toInt ≤ 1) => ?_) (z_pAnd2 rfl rfl (by omega) (by omega))
      refine z_xZ zt271 38 rfl rfl (fun (h13 : x11.toInt = 0) => ?_) (fun (h13 : x11.toInt ≠ 0) => ?_)
      · skip
        refine z_xP zt271 43 106 [some (.ref 19), some (.int p1), some (.int p2), some (.int p3), some (.int b4), some (.int b5), some (.int b6)] [.int 1] rfl rfl ?_
        refine z_xP zt271 45 108 [some (.ref 19), some (.int p1), some (.int p2), some (.int p3), some (.int b4), some (.int 1), some (.int b6)] [] rfl rfl ?_
        refine z_xN zt271 46 rfl rfl (fun (x14 : Int32) (h15 : x14.toInt = b6.toInt + 1) => ?_) (z_pAdd rfl rfl (by omega) (by omega))
        show z_ev (d + 7) 271 111 [some (.ref 19), some (.int p1), some (.int p2), some (.int p3), some (.int b4), some (.int 1), some (.int x14)] [] M _
        refine z_xP zt271 47 66 [some (.ref 19), some (.int p1), some (.int p2), some (.int p3), some (.int b4), some (.int 1), some (.int x14)] [] rfl rfl ?_
        have f19 : T[19]? = some (.inl (12, 0, 0, 0, 0)) := X.1.k rfl (by decide)
        have f31 : T[31]? = some (.inr (31, 0, 8, 0, 1024)) := X.1.k rfl (by decide)
        have q1 : ((1 : Int32)).toInt = 1 := rfl
        exact ih.2 M b4 (1) x14 z0 z1 X ⟨by omega, by omega⟩ ⟨by omega, by omega⟩ ⟨by omega, by omega⟩ ⟨by omega, by omega⟩ (by decide) ⟨by omega, by omega⟩ hp0 ⟨by omega, by omega⟩ hp1 ⟨by omega, by omega⟩ (by omega) (by omega) (by omega)
      refine z_xP zt271 39 93 [some (.ref 19), some (.int p1), some (.int p2), some (.int p3), some (.int b4), some (.int b5), some (.int b6)] [.int b6, .int p2, .int p1, .int b4, .ref 19] rfl rfl ?_
      have f19 : T[19]? = some (.inl (12, 0, 0, 0, 0)) := X.1.k rfl (by decide)
      refine z_xcV (vs := [.ref 19, .int b4, .int p1, .int p2, .int b6]) (r := []) (L2 := [some (.ref 19), some (.int b4), some (.int p1), some (.int p2), some (.int b6), none, none, none]) zt271 40 rfl zo271 zzcV12_360 (Or.inl rfl) rfl X f19 rfl rfl rfl (Nat.le_of_ble_eq_true rfl) zzm265 (Nat.le_of_ble_eq_true rfl) rfl ?_
      have f31 : T[31]? = some (.inr (31, 0, 8, 0, 1024)) := X.1.k rfl (by decide)
      have h16 := z_G4u (hR.go X (by decide)) hp0 (by omega) (by omega) hp1
      refine zC265 X.1 (by omega) (by omega) (by omega) (by omega) hp1 ⟨by omega, by omega⟩ (fun x19 M17 X18 h20 h21 => ?_)
      have X22 := X.go X18 (z_sb (by decide))
      show z_ev (d + 7) 271 96 [some (.ref 19), some (.int p1), some (.int p2), some (.int p3), some (.int b4), some (.int b5), some (.int b6)] [.int x19] M17 _
      refine z_xP zt271 41 98 [some (.ref 19), some (.int p1), some (.int p2), some (.int p3), some (.int b4), some (.int b5), some (.int b6)] [.int (-2), .int x19] rfl rfl ?_
      refine z_xJ zt271 42 rfl rfl (fun (h24 : x19.toInt ≠ (-2)) => ?_) (fun (h24 : x19.toInt = (-2)) => ?_)
      · skip
        refine z_xP zt271 44 106 [some (.ref 19), some (.int p1), some (.int p2), some (.int p3), some (.int b4), some (.int b5), some (.int b6)] [.int 0] rfl rfl ?_
        refine z_xP zt271 45 108 [some (.ref 19), some (.int p1), some (.int p2), some (.int p3), some (.int b4), some (.int 0), some (.int b6)] [] rfl rfl ?_
        refine z_xN zt271 46 rfl rfl (fun (x25 : Int32) (h26 : x25.toInt = b6.toInt + 1) => ?_) (z_pAdd rfl rfl (by omega) (by omega))
        show z_ev (d + 7) 271 111 [some (.ref 19), some (.int p1), some (.int p2), some (.int p3), some (.int b4), some (.int 0), some (.int x25)] [] M17 _
        refine z_xP zt271 47 66 [some (.ref 19), some (.int p1), some (.int p2), some (.int p3), some (.int b4), some (.int 0), some (.int x25)] [] rfl rfl ?_
        have h27 := (X18.2.f f19 (by decide) hp0)
        have h28 := ((congrFun (X18.2.a f31 (by decide)) _).trans hp1)
        have q0 : ((0 : Int32)).toInt = 0 := rfl
        exact ih.2 M17 b4 (0) x25 z0 z1 X22 ⟨by omega, by omega⟩ ⟨by omega, by omega⟩ ⟨by omega, by omega⟩ ⟨by omega, by omega⟩ (by decide) ⟨by omega, by omega⟩ h27 ⟨by omega, by omega⟩ h28 ⟨by omega, by omega⟩ (by omega) (by omega) (by omega)
      refine z_xP zt271 43 106 [some (.ref 19), some (.int p1), some (.int p2), some (.int p3), some (.int b4), some (.int b5), some (.int b6)] [.int 1] rfl rfl ?_
      refine z_xP zt271 45 108 [some (.ref 19), some (.int p1), some (.int p2), some (.int p3), some (.int b4), some (.int 1), some (.int b6)] [] rfl rfl ?_
      refine z_xN zt271 46 rfl rfl (fun (x29 : Int32) (h30 : x29.toInt = b6.toInt + 1) => ?_) (z_pAdd rfl rfl (by omega) (by omega))
      show z_ev (d + 7) 271 111 [some (.ref 19), some (.int p1), some (.int p2), some (.int p3), some (.int b4), some (.int 1), some (.int x29)] [] M17 _
      refine z_xP zt271 47 66 [some (.ref 19), some (.int p1), some (.int p2), some (.int p3), some (.int b4), some (.int 1), some (.int x29)] [] rfl rfl ?_
      have h31 := (X18.2.f f19 (by decide) hp0)
      have h32 := ((congrFun (X18.2.a f31 (by decide)) _).trans hp1)
      have q1 : ((1 : Int32)).toInt = 1 := rfl
      exact ih.2 M17 b4 (1) x29 z0 z1 X22 ⟨by omega, by omega⟩ ⟨by omega, by omega⟩ ⟨by omega, by omega⟩ ⟨by omega, by omega⟩ (by decide) ⟨by omega, by omega⟩ h31 ⟨by omega, by omega⟩ h32 ⟨by omega, by omega⟩ (by omega) (by omega) (by omega)
theorem zC271 {T : List zK} {d : Nat} {K : Option Value → zH → Prop} {p1 : Int32} {p2 : Int32} {p3 : Int32} {M0 : zH} (hW : z_W M0 T) (hR : z_G4 M0) (kk : ∀ (x : Int32) (M1 : zH), z_X T zw271 M0 M1 → (-4) ≤ x.toInt → x.toInt ≤ 19 → K (some (.int x)) M1) : z_ev (d + 7) 271 0 [some (.ref 19), some (.int p1), some (.int p2), some (.int p3), none, none, none] [] M0 K := by
  have X : z_X T zw271 M0 M0 := .refl hW
  refine z_xP zt271 0 2 [some (.ref 19), some (.int p1), some (.int p2), some (.int p3), none, none, none] [.int p1, .ref 19] rfl rfl ?_
  have f19 : T[19]? = some (.inl (12, 0, 0, 0, 0)) := X.1.k rfl (by decide)
  refine z_xcV (vs := [.ref 19, .int p1]) (r := []) (L2 := [some (.ref 19), some (.int p1)]) zt271 1 rfl zo271 zzcV12_209 (Or.inl rfl) rfl X f19 rfl rfl rfl (Nat.le_of_ble_eq_true rfl) zzm209 (Nat.le_of_ble_eq_true rfl) rfl ?_
  refine z_xP zt209 0 1 [some (.ref 19), some (.int p1)] [.int p1] rfl rfl ?_
  refine z_xZ zt209 1 rfl rfl (fun (h1 : p1.toInt < 0) => ?_) (fun (h1 : 0 ≤ p1.toInt) => ?_)
  · skip
    refine z_xP zt209 6 17 [some (.ref 19), some (.int p1)] [.int 0] rfl rfl ?_
    refine z_xrz zt209 7 rfl zzr209 (by decide) (by decide) ?_
    show z_ev (d + 7) 271 5 [some (.ref 19), some (.int p1), some (.int p2), some (.int p3), none, none, none] [.int 0] M0 _
    refine z_xZ zt271 2 rfl rfl (fun (h2 : (0 : Int) = 0) => ?_) (fun (h2 : (0 : Int) ≠ 0) => absurd h2 (by omega))
    refine z_xP zt271 15 33 [some (.ref 19), some (.int p1), some (.int p2), some (.int p3), none, none, none] [.int (-1)] rfl rfl ?_
    have qm1 : (((-1) : Int32)).toInt = (-1) := rfl
    exact z_xri zt271 16 rfl zzr271 (kk (-1) M0 X (by omega) (by omega))
  refine z_xP zt209 2 6 [some (.ref 19), some (.int p1)] [.ref 19, .int p1] rfl rfl ?_
  refine z_xgI zt209 3 rfl zo209 zzf12_110 X f19 (by decide) (by decide) rfl (fun (x4 : Int32) h3 (h5 : 0 ≤ x4.toInt) (h6 : x4.toInt ≤ 8) => ?_)
  have h7 := z_b32 p1
  refine z_xJ zt209 4 rfl rfl (fun (h8 : x4.toInt ≤ p1.toInt) => ?_) (fun (h8 : p1.toInt < x4.toInt) => ?_)
  · skip
    refine z_xP zt209 6 17 [some (.ref 19), some (.int p1)] [.int 0] rfl rfl ?_
    refine z_xrz zt209 7 rfl zzr209 (by decide) (by decide) ?_
    show z_ev (d + 7) 271 5 [some (.ref 19), some (.int p1), some (.int p2), some (.int p3), none, none, none] [.int 0] M0 _
    refine z_xZ zt271 2 rfl rfl (fun (h9 : (0 : Int) = 0) => ?_) (fun (h9 : (0 : Int) ≠ 0) => absurd h9 (by omega))
    refine z_xP zt271 15 33 [some (.ref 19), some (.int p1), some (.int p2), some (.int p3), none, none, none] [.int (-1)] rfl rfl ?_
    have qm1 : (((-1) : Int32)).toInt = (-1) := rfl
    exact z_xri zt271 16 rfl zzr271 (kk (-1) M0 X (by omega) (by omega))
  refine z_xP zt209 5 17 [some (.ref 19), some (.int p1)] [.int 1] rfl rfl ?_
  refine z_xrz zt209 7 rfl zzr209 (by decide) (by decide) ?_
  show z_ev (d + 7) 271 5 [some (.ref 19), some (.int p1), some (.int p2), some (.int p3), none, none, none] [.int 1] M0 _
  refine z_xZ zt271 2 rfl rfl (fun (h10 : (1 : Int) = 0) => absurd h10 (by omega)) (fun (h10 : (1 : Int) ≠ 0) => ?_)
  refine z_xP zt271 3 9 [some (.ref 19), some (.int p1), some (.int p2), some (.int p3), none, none, none] [.int p2] rfl rfl ?_
  have h11 := z_b32 p2
  refine z_xL zt271 4 rfl rfl (fun (y12 : Int64) (h13 : y12.toInt = p2.toInt) => ?_) (z_qI2L rfl)
  refine z_xP zt271 5 11 [some (.ref 19), some (.int p1), some (.int p2), some (.int p3), none, none, none] [.long 1, .long y12] rfl rfl ?_
  refine z_xl2 zt271 6 rfl zo271 zkl12_358 ?_
  refine z_xcS (vs := [.long y12, .long 1, .long 3]) (r := []) (L2 := [some (.long y12), none, some (.long 1), none, some (.long 3), none]) zt271 7 rfl zo271 zzcS12_116 (Or.inl rfl) (Nat.le_of_ble_eq_true rfl) rfl rfl (Nat.le_of_ble_eq_true rfl) zzm189 (Nat.le_of_ble_eq_true rfl) rfl ?_
  refine z_xP zt189 0 2 [some (.long y12), none, some (.long 1), none, some (.long 3), none] [.long 1, .long y12] rfl rfl ?_
  refine z_xI zt189 1 rfl rfl (fun (x14 : Int32) (h15 : (x14.toInt < 0 ∧ y12.toInt < 1) ∨ (x14.toInt = 0 ∧ y12.toInt = 1) ∨ (0 < x14.toInt ∧ 1 < y12.toInt)) => ?_) (z_qCmp rfl rfl)
  refine z_xZ zt189 2 rfl rfl (fun (h16 : x14.toInt < 0) => ?_) (fun (h16 : 0 ≤ x14.toInt) => ?_)
  · skip
    refine z_xP zt189 7 18 [some (.long y12), none, some (.long 1), none, some (.long 3), none] [.int 0] rfl rfl ?_
    refine z_xrz zt189 8 rfl zzr189 (by decide) (by decide) ?_
    show z_ev (d + 7) 271 17 [some (.ref 19), some (.int p1), some (.int p2), some (.int p3), none, none, none] [.int 0] M0 _
    refine z_xZ zt271 8 rfl rfl (fun (h17 : (0 : Int) = 0) => ?_) (fun (h17 : (0 : Int) ≠ 0) => absurd h17 (by omega))
    refine z_xP zt271 15 33 [some (.ref 19), some (.int p1), some (.int p2), some (.int p3), none, none, none] [.int (-1)] rfl rfl ?_
    have qm1 : (((-1) : Int32)).toInt = (-1) := rfl
    exact z_xri zt271 16 rfl zzr271 (kk (-1) M0 X (by omega) (by omega))
  refine z_xP zt189 3 9 [some (.long y12), none, some (.long 1), none, some (.long 3), none] [.long 3, .long y12] rfl rfl ?_
  refine z_xI zt189 4 rfl rfl (fun (x18 : Int32) (h19 : (x18.toInt < 0 ∧ y12.toInt < 3) ∨ (x18.toInt = 0 ∧ y12.toInt = 3) ∨ (0 < x18.toInt ∧ 3 < y12.toInt)) => ?_) (z_qCmp rfl rfl)
  refine z_xZ zt189 5 rfl rfl (fun (h20 : 0 < x18.toInt) => ?_) (fun (h20 : x18.toInt ≤ 0) => ?_)
  · skip
    refine z_xP zt189 7 18 [some (.long y12), none, some (.long 1), none, some (.long 3), none] [.int 0] rfl rfl ?_
    refine z_xrz zt189 8 rfl zzr189 (by decide) (by decide) ?_
    show z_ev (d + 7) 271 17 [some (.ref 19), some (.int p1), some (.int p2), some (.int p3), none, none, none] [.int 0] M0 _
    refine z_xZ zt271 8 rfl rfl (fun (h21 : (0 : Int) = 0) => ?_) (fun (h21 : (0 : Int) ≠ 0) => absurd h21 (by omega))
    refine z_xP zt271 15 33 [some (.ref 19), some (.int p1), some (.int p2), some (.int p3), none, none, none] [.int (-1)] rfl rfl ?_
    have qm1 : (((-1) : Int32)).toInt = (-1) := rfl
    exact z_xri zt271 16 rfl zzr271 (kk (-1) M0 X (by omega) (by omega))
  refine z_xP zt189 6 18 [some (.long y12), none, some (.long 1), none, some (.long 3), none] [.int 1] rfl rfl ?_
  refine z_xrz zt189 8 rfl zzr189 (by decide) (by decide) ?_
  show z_ev (d + 7) 271 17 [some (.ref 19), some (.int p1), some (.int p2), some (.int p3), none, none, none] [.int 1] M0 _
  refine z_xZ zt271 8 rfl rfl (fun (h22 : (1 : Int) = 0) => absurd h22 (by omega)) (fun (h22 : (1 : Int) ≠ 0) => ?_)
  refine z_xP zt271 9 21 [some (.ref 19), some (.int p1), some (.int p2), some (.int p3), none, none, none] [.int p3] rfl rfl ?_
  have h23 := z_b32 p3
  refine z_xL zt271 10 rfl rfl (fun (y24 : Int64) (h25 : y24.toInt = p3.toInt) => ?_) (z_qI2L rfl)
  refine z_xP zt271 11 23 [some (.ref 19), some (.int p1), some (.int p2), some (.int p3), none, none, none] [.long 1, .long y24] rfl rfl ?_
  refine z_xl2 zt271 12 rfl zo271 zkl12_363 ?_
  refine z_xcS (vs := [.long y24, .long 1, .long 31]) (r := []) (L2 := [some (.long y24), none, some (.long 1), none, some (.long 31), none]) zt271 13 rfl zo271 zzcS12_116 (Or.inl rfl) (Nat.le_of_ble_eq_true rfl) rfl rfl (Nat.le_of_ble_eq_true rfl) zzm189 (Nat.le_of_ble_eq_true rfl) rfl ?_
  refine z_xP zt189 0 2 [some (.long y24), none, some (.long 1), none, some (.long 31), none] [.long 1, .long y24] rfl rfl ?_
  refine z_xI zt189 1 rfl rfl (fun (x26 : Int32) (h27 : (x26.toInt < 0 ∧ y24.toInt < 1) ∨ (x26.toInt = 0 ∧ y24.toInt = 1) ∨ (0 < x26.toInt ∧ 1 < y24.toInt)) => ?_) (z_qCmp rfl rfl)
  refine z_xZ zt189 2 rfl rfl (fun (h28 : x26.toInt < 0) => ?_) (fun (h28 : 0 ≤ x26.toInt) => ?_)
  · skip
    refine z_xP zt189 7 18 [some (.long y24), none, some (.long 1), none, some (.long 31), none] [.int 0] rfl rfl ?_
    refine z_xrz zt189 8 rfl zzr189 (by decide) (by decide) ?_
    show z_ev (d + 7) 271 29 [some (.ref 19), some (.int p1), some (.int p2), some (.int p3), none, none, none] [.int 0] M0 _
    refine z_xZ zt271 14 rfl rfl (fun (h29 : (0 : Int) ≠ 0) => absurd h29 (by omega)) (fun (h29 : (0 : Int) = 0) => ?_)
    refine z_xP zt271 15 33 [some (.ref 19), some (.int p1), some (.int p2), some (.int p3), none, none, none] [.int (-1)] rfl rfl ?_
    have qm1 : (((-1) : Int32)).toInt = (-1) := rfl
    exact z_xri zt271 16 rfl zzr271 (kk (-1) M0 X (by omega) (by omega))
  refine z_xP zt189 3 9 [some (.long y24), none, some (.long 1), none, some (.long 31), none] [.long 31, .long y24] rfl rfl ?_
  refine z_xI zt189 4 rfl rfl (fun (x30 : Int32) (h31 : (x30.toInt < 0 ∧ y24.toInt < 31) ∨ (x30.toInt = 0 ∧ y24.toInt = 31) ∨ (0 < x30.toInt ∧ 31 < y24.toInt)) => ?_) (z_qCmp rfl rfl)
  refine z_xZ zt189 5 rfl rfl (fun (h32 : 0 < x30.toInt) => ?_) (fun (h32 : x30.toInt ≤ 0) => ?_)
  · skip
    refine z_xP zt189 7 18 [some (.long y24), none, some (.long 1), none, some (.long 31), none] [.int 0] rfl rfl ?_
    refine z_xrz zt189 8 rfl zzr189 (by decide) (by decide) ?_
    show z_ev (d + 7) 271 29 [some (.ref 19), some (.int p1), some (.int p2), some (.int p3), none, none, none] [.int 0] M0 _
    refine z_xZ zt271 14 rfl rfl (fun (h33 : (0 : Int) ≠ 0) => absurd h33 (by omega)) (fun (h33 : (0 : Int) = 0) => ?_)
    refine z_xP zt271 15 33 [some (.ref 19), some (.int p1), some (.int p2), some (.int p3), none, none, none] [.int (-1)] rfl rfl ?_
    have qm1 : (((-1) : Int32)).toInt = (-1) := rfl
    exact z_xri zt271 16 rfl zzr271 (kk (-1) M0 X (by omega) (by omega))
  refine z_xP zt189 6 18 [some (.long y24), none, some (.long 1), none, some (.long 31), none] [.int 1] rfl rfl ?_
  refine z_xrz zt189 8 rfl zzr189 (by decide) (by decide) ?_
  show z_ev (d + 7) 271 29 [some (.ref 19), some (.int p1), some (.int p2), some (.int p3), none, none, none] [.int 1] M0 _
  refine z_xZ zt271 14 rfl rfl (fun (h34 : (1 : Int) ≠ 0) => ?_) (fun (h34 : (1 : Int) = 0) => absurd h34 (by omega))
  refine z_xP zt271 17 35 [some (.ref 19), some (.int p1), some (.int p2), some (.int p3), none, none, none] [.ref 19] rfl rfl ?_
  refine z_xgX (b := 31) zt271 18 rfl zo271 zzf12_43 X f19 (by decide) (by decide) rfl ?_
  refine z_xP zt271 19 39 [some (.ref 19), some (.int p1), some (.int p2), some (.int p3), none, none, none] [.int p1, .ref 31] rfl rfl ?_
  have f31 : T[31]? = some (.inr (31, 0, 8, 0, 1024)) := X.1.k rfl (by decide)
  refine z_xil zt271 20 rfl X f31 (by decide) (by omega) (by omega) (fun (x35 : Int32) h36 (h37 : 0 ≤ x35.toInt) (h38 : x35.toInt ≤ 1024) => ?_)
  refine z_xP zt271 21 42 [some (.ref 19), some (.int p1), some (.int p2), some (.int p3), none, none, none] [.int 6, .int x35] rfl rfl ?_
  refine z_xJ zt271 22 rfl rfl (fun (h39 : x35.toInt ≤ 6) => ?_) (fun (h39 : 6 < x35.toInt) => ?_)
  · skip
    refine z_xP zt271 25 51 [some (.ref 19), some (.int p1), some (.int p2), some (.int p3), some (.int 0), none, none] [] rfl rfl ?_
    have q0 : ((0 : Int32)).toInt = 0 := rfl
    exact (zB271 hR kk 1134).1 M0 (0) none none x4 x35 X ⟨by omega, by omega⟩ ⟨by omega, by omega⟩ ⟨by omega, by omega⟩ (by decide) h3 ⟨by omega, by omega⟩ h36 ⟨by omega, by omega⟩ (by omega) (by omega) (by omega)
  refine z_xP zt271 23 47 [some (.ref 19), some (.int p1), some (.int p2), some (.int p3), none, none, none] [.int (-4)] rfl rfl ?_
  have qm4 : (((-4) : Int32)).toInt = (-4) := rfl
  exact z_xri zt271 24 rfl zzr271 (kk (-4) M0 X (by omega) (by omega))
def zw273 : List Nat := [39, 40, 41, 43, 47, 2229, 2230, 2234, 2235, 2243]
theorem zB273 {T : List zK} {d : Nat} {K : Option Value → zH → Prop} {p1 : Int32} {p2 : Int32} {p3 : Int32} {M0 : zH} (u1 : 0 ≤ p1.toInt ∧ p1.toInt ≤ 7) (u2 : 1 ≤ p2.toInt ∧ p2.toInt ≤ 5) (u3 : 0 ≤ p3.toInt ∧ p3.toInt ≤ 255) (kk : ∀ (x : Int32) (M1 : zH), z_X T zw273 M0 M1 → 0 ≤ x.toInt → x.toInt ≤ 1 → K (some (.int x)) M1) : ∀ n : Nat, (∀ (M : zH) (b4 : Int32), z_X T zw273 M0 M → 0 ≤ b4.toInt ∧ b4.toInt ≤ 1024 → ((((0) * 8 + 6) * 742588 + (1024 - b4.toInt)) * 8 + 7) * 13 + (0) < (n : Int) → z_ev (d + 3) 273 8 [some (.ref 19), some (.int p1), some (.int p2), some (.int p3), some (.int b4), none, none, none, none, none] [] M K) ∧ (∀ (M : zH) (b4 : Int32), z_X T zw273 M0 M → 0 ≤ b4.toInt ∧ b4.toInt ≤ 5 → b4.toInt ≤ p2.toInt → 0 ≤ b4.toInt → z_NB M b4.toInt 1 → ((((0) * 8 + 5) * 742588 + (5 - b4.toInt)) * 8 + 7) * 13 + (0) < (n : Int) → z_ev (d + 3) 273 92 [some (.ref 19), some (.int p1), some (.int p2), some (.int p3), some (.int b4), none, none, none, none, none] [] M K) ∧ (∀ (M : zH) (b4 : Int32) (b5 : Int32) (o6 : Option Value) (o7 : Option Value) (o8 : Option Value) (o9 : Option Value) (z0 : Int32), z_X T zw273 M0 M → 0 ≤ b4.toInt ∧ b4.toInt ≤ 1 → 0 ≤ b5.toInt ∧ b5.toInt ≤ 1 → z_F M 19 43 = some (.int z0) → 0 ≤ z0.toInt ∧ z0.toInt ≤ 12 → z_NB M p2.toInt 13 → (b4.toInt = 1 → b5.toInt = 1 → z_NB M p2.toInt (z_mx z0.toInt)) → ((((0) * 8 + 4) * 742588 + (2 * (371293 - z_V 13 (z_Ar M 43) p2.toInt.toNat) + b5.toInt)) * 8 + 7) * 13 + (0) < (n : Int) → z_ev (d + 3) 273 118 [some (.ref 19), some (.int p1), some (.int p2), some (.int p3), some (.int b4), some (.int b5), o6, o7, o8, o9] [] M K) ∧ (∀ (M : zH) (b4 : Int32) (b5 : Int32) (b6 : Int32) (o7 : Option Value) (o8 : Option Value) (o9 : Option Value) (z0 : Int32) (eg : Int), z_X T zw273 M0 M → 1 ≤ b4.toInt ∧ b4.toInt ≤ 1 → 1 ≤ b5.toInt ∧ b5.toInt ≤ 1 → 0 ≤ b6.toInt ∧ b6.toInt ≤ 5 → z_F M 19 43 = some (.int z0) → 0 ≤ z0.toInt ∧ z0.toInt ≤ 12 → z_NB M p2.toInt (z_mx z0.toInt) → eg = 2 * (371293 - z_V 13 (z_Ar M 43) p2.toInt.toNat) + 1 → ((((0) * 8 + 4) * 742588 + (eg)) * 8 + 3) * 13 + (5 - b6.toInt) < (n : Int) → z_ev (d + 3) 273 131 [some (.ref 19), some (.int p1), some (.int p2), some (.int p3), some (.int b4), some (.int b5), some (.int b6), o7, o8, o9] [] M K) ∧ (∀ (M : zH) (b4 : Int32) (b5 : Int32) (b6 : Int32) (b7 : Int32) (o8 : Option Value) (o9 : Option Value) (z0 : Int32) (eg : Int), z_X T zw273 M0 M → 1 ≤ b4.toInt ∧ b4.toInt ≤ 1 → 1 ≤ b5.toInt ∧ b5.toInt ≤ 1 → 0 ≤ b6.toInt ∧ b6.toInt ≤ 1 → 0 ≤ b7.toInt ∧ b7.toInt ≤ 12 → z_F M 19 43 = some (.int z0) → 0 ≤ z0.toInt ∧ z0.toInt ≤ 12 → (b6.toInt = 0 ∨ 1 ≤ z0.toInt) → z_NB M p2.toInt (z_mx z0.toInt) → eg = 2 * (371293 - z_V 13 (z_Ar M 43) p2.toInt.toNat) + 1 → ((((0) * 8 + 4) * 742588 + (eg)) * 8 + 2) * 13 + (12 - b7.toInt) < (n : Int) → z_ev (d + 3) 273 185 [some (.ref 19), some (.int p1), some (.int p2), some (.int p3), some (.int b4), some (.int b5), some (.int b6), some (.int b7), o8, o9] [] M K) ∧ (∀ (M : zH) (b4 : Int32) (b5 : Int32) (b6 : Int32) (b7 : Int32) (o8 : Option Value) (o9 : Option Value) (z0 : Int32) (eg : Int), z_X T zw273 M0 M → 0 ≤ b4.toInt ∧ b4.toInt ≤ 1 → 1 ≤ b5.toInt ∧ b5.toInt ≤ 1 → 0 ≤ b6.toInt ∧ b6.toInt ≤ 1 → (-1) ≤ b7.toInt ∧ b7.toInt ≤ 4 → z_F M 19 43 = some (.int z0) → 0 ≤ z0.toInt ∧ z0.toInt ≤ 12 → (b4.toInt = 0 ∨ 1 ≤ z0.toInt) → b7.toInt ≤ p2.toInt - 1 → z_NB M p2.toInt (z_mx z0.toInt) → eg = 2 * (371293 - z_V 13 (z_Ar M 43) p2.toInt.toNat) + 1 → ((((0) * 8 + 4) * 742588 + (eg)) * 8 + 1) * 13 + (b7.toInt - (-1)) < (n : Int) → z_ev (d + 3) 273 242 [some (.ref 19), some (.int p1), some (.int p2), some (.int p3), some (.int b4), some (.int b5), some (.int b6), some (.int b7), o8, o9] [] M K) ∧ (∀ (M : zH) (b4 : Int32) (b5 : Int32) (b6 : Int32) (b7 : Int32) (b8 : Int32) (b9 : Int32) (z0 : Int32) (eg : Int), z_X T zw273 M0 M → 0 ≤ b4.toInt ∧ b4.toInt ≤ 1 → 0 ≤ b5.toInt ∧ b5.toInt ≤ 1 → 0 ≤ b6.toInt ∧ b6.toInt ≤ 1 → (-1) ≤ b7.toInt ∧ b7.toInt ≤ 4 → 0 ≤ b8.toInt ∧ b8.toInt ≤ 1024 → (-1) ≤ b9.toInt ∧ b9.toInt ≤ 5 → z_F M 19 43 = some (.int z0) → 0 ≤ z0.toInt ∧ z0.toInt ≤ 12 → (b4.toInt = 0 ∨ 1 ≤ z0.toInt) → (b5.toInt = 0 ∨ (b5.toInt = 1 ∧ 0 ≤ b7.toInt ∧ b7.toInt < p2.toInt ∧ b7.toInt ≤ b9.toInt ∧ 1 ≤ b8.toInt ∧ b8.toInt ≤ 12 ∧ (b4.toInt = 0 ∨ b8.toInt < z_mx z0.toInt))) → b9.toInt ≤ p2.toInt → -1 ≤ b9.toInt → z_MX M p2.toInt b7.toInt b9.toInt b8.toInt b4.toInt b5.toInt z0.toInt eg p2.toInt.toNat → ((((0) * 8 + 4) * 742588 + (eg)) * 8 + 0) * 13 + (5 - b9.toInt) < (n : Int) → z_ev (d + 3) 273 305 [some (.ref 19), some (.int p1), some (.int p2), some (.int p3), some (.int b4), some (.int b5), some (.int b6), some (.int b7), some (.int b8), some (.int b9)] [] M K) := by
  intro n
  induction n with
  | zero => exact ⟨(by intros; exfalso; omega), (by intros; exfalso; omega), (by intro M b4 b5 o6 o7 o8 o9 z0 X hh0 hh1 hp0 hh3 hb hn hE; have hV := z_V5 hb (by omega) (by omega) (by omega); have hmx := z_mxf z0.toInt; exfalso; omega), (by intro M b4 b5 b6 o7 o8 o9 z0 eg X hh0 hh1 hh2 hp0 hh4 hn hE hE; have hmx := z_mxf z0.toInt; have hV := z_V5 hn (by omega) (by omega) (by omega); exfalso; omega), (by intro M b4 b5 b6 b7 o8 o9 z0 eg X hh0 hh1 hh2 hh3 hp0 hh5 hh6 hn hE hE; have hmx := z_mxf z0.toInt; have hV := z_V5 hn (by omega) (by omega) (by omega); exfalso; omega), (by intro M b4 b5 b6 b7 o8 o9 z0 eg X hh0 hh1 hh2 hh3 hp0 hh5 hh6 hh7 hn hE hE; have hmx := z_mxf z0.toInt; have hV := z_V5 hn (by omega) (by omega) (by omega); exfalso; omega), (by intro M b4 b5 b6 b7 b8 b9 z0 eg X hh0 hh1 hh2 hh3 hh4 hh5 hp0 hh7 hh8 hh9 hh10 hh11 hx hE; have hmx := z_mxf z0.toInt; have hV := z_MXb hx (by omega) (by omega) (by omega); exfalso; omega)⟩
  | succ n ih =>
    refine ⟨?_, ?_, ?_, ?_, ?_, ?_, ?_⟩
    · skip
      intro M b4 X hh0 hE
      refine z_xP zt273 3 12 [some (.ref 19), some (.int p1), some (.int p2), some (.int p3), some (.int b4), none, none, none, none, none] [.ref 19, .int 1, .int b4] rfl rfl ?_
      have f19 : T[19]? = some (.inl (12, 0, 0, 0, 0)) := X.1.k rfl (by decide)
      refine z_xgX (b := 24) zt273 4 rfl zo273 zzf12_22 X f19 (by decide) (by decide) rfl ?_
      refine z_xP zt273 5 16 [some (.ref 19), some (.int p1), some (.int p2), some (.int p3), some (.int b4), none, none, none, none, none] [.int p1, .ref 24, .int 1, .int b4] rfl rfl ?_
      have f24 : T[24]? = some (.inr (24, 0, 8, 0, 10)) := X.1.k rfl (by decide)
      refine z_xil zt273 6 rfl X f24 (by decide) (by omega) (by omega) (fun (x1 : Int32) h2 (h3 : 0 ≤ x1.toInt) (h4 : x1.toInt ≤ 10) => ?_)
      refine z_xI zt273 7 rfl rfl (fun (x5 : Int32) (h6 : 1 ≤ x5.toInt ∧ x5.toInt ≤ 1024) => ?_) (z_pShlB (a := 1) (b := 10) (c := 1024) (r := 1024) rfl rfl (by omega) (by omega) (by omega) (by omega) (by decide) (by decide) (by decide) (by decide))
      refine z_xJ zt273 8 rfl rfl (fun (h7 : x5.toInt ≤ b4.toInt) => ?_) (fun (h7 : b4.toInt < x5.toInt) => ?_)
      · skip
        refine z_xP zt273 39 81 [some (.ref 19), some (.int p1), some (.int p2), some (.int p3), some (.int b4), none, none, none, none, none] [.int p1, .ref 19] rfl rfl ?_
        refine z_xpf zt273 40 rfl zo273 zzf12_242 X f19 (by decide) (by decide) ⟨by omega, by omega⟩ rfl (by decide) zw12_29 (fun M8 X9 e10 h11 => ?_)
        refine z_xP zt273 41 86 [some (.ref 19), some (.int p1), some (.int p2), some (.int p3), some (.int b4), none, none, none, none, none] [.int p2, .ref 19] rfl rfl ?_
        refine z_xpf zt273 42 rfl zo273 zzf12_245 X9 f19 (by decide) (by decide) ⟨by omega, by omega⟩ rfl (by decide) zw12_30 (fun M12 X13 e14 h15 => ?_)
        refine z_xP zt273 43 92 [some (.ref 19), some (.int p1), some (.int p2), some (.int p3), some (.int 0), none, none, none, none, none] [] rfl rfl ?_
        have q0 : ((0 : Int32)).toInt = 0 := rfl
        exact ih.2.1 M12 (0) X13 (by decide) (by omega) (by omega) (z_NB0 (by omega)) (by omega)
      refine z_xP zt273 9 22 [some (.ref 19), some (.int p1), some (.int p2), some (.int p3), some (.int b4), none, none, none, none, none] [.ref 19] rfl rfl ?_
      refine z_xgX (b := 29) zt273 10 rfl zo273 zzf12_37 X f19 (by decide) (by decide) rfl ?_
      refine z_xP zt273 11 29 [some (.ref 19), some (.int p1), some (.int p2), some (.int p3), some (.int b4), none, none, none, none, none] [.int p1, .int 1024, .ref 29] rfl rfl ?_
      refine z_xI zt273 12 rfl rfl (fun (x16 : Int32) (h17 : x16.toInt = 1024 * p1.toInt) => ?_) (z_pMul rfl rfl (by omega) (by omega))
      refine z_xP zt273 13 32 [some (.ref 19), some (.int p1), some (.int p2), some (.int p3), some (.int b4), none, none, none, none, none] [.int b4, .int x16, .ref 29] rfl rfl ?_
      refine z_xI zt273 14 rfl rfl (fun (x18 : Int32) (h19 : x18.toInt = x16.toInt + b4.toInt) => ?_) (z_pAdd rfl rfl (by omega) (by omega))
      have f29 : T[29]? = some (.inr (29, 0, 8192, (-2147483648), 2147483647)) := X.1.k rfl (by decide)
      refine z_xil zt273 15 rfl X f29 (by decide) (by omega) (by omega) (fun (x20 : Int32) h21 (h22 : (-2147483648) ≤ x20.toInt) (h23 : x20.toInt ≤ 2147483647) => ?_)
      refine z_xP zt273 16 36 [some (.ref 19), some (.int p1), some (.int p2), some (.int p3), some (.int b4), none, none, none, none, none] [.int (-1), .int p3, .int x20] rfl rfl ?_
      refine z_xI zt273 17 rfl rfl (P := fun _ => True) (fun (x24 : Int32) _ => ?_) trivial
      refine z_xI zt273 18 rfl rfl (P := fun _ => True) (fun (x26 : Int32) _ => ?_) trivial
      refine z_xZ zt273 19 rfl rfl (fun (h28 : x26.toInt ≠ 0) => ?_) (fun (h28 : x26.toInt = 0) => ?_)
      · skip
        refine z_xN zt273 37 rfl rfl (fun (x29 : Int32) (h30 : x29.toInt = b4.toInt + 1) => ?_) (z_pAdd rfl rfl (by omega) (by omega))
        show z_ev (d + 3) 273 76 [some (.ref 19), some (.int p1), some (.int p2), some (.int p3), some (.int x29), none, none, none, none, none] [] M _
        refine z_xP zt273 38 8 [some (.ref 19), some (.int p1), some (.int p2), some (.int p3), some (.int x29), none, none, none, none, none] [] rfl rfl ?_
        exact ih.1 M x29 X ⟨by omega, by omega⟩ (by omega)
      refine z_xP zt273 20 42 [some (.ref 19), some (.int p1), some (.int p2), some (.int p3), some (.int b4), none, none, none, none, none] [.ref 19] rfl rfl ?_
      refine z_xgI zt273 21 rfl zo273 zzf12_365 X f19 (by decide) (by decide) rfl (fun (x32 : Int32) h31 (h33 : 0 ≤ x32.toInt) (h34 : x32.toInt ≤ 12) => ?_)
      refine z_xP zt273 22 47 [some (.ref 19), some (.int p1), some (.int p2), some (.int p3), some (.int b4), none, none, none, none, none] [.int 12, .int x32] rfl rfl ?_
      refine z_xJ zt273 23 rfl rfl (fun (h35 : x32.toInt ≠ 12) => ?_) (fun (h35 : x32.toInt = 12) => ?_)
      · skip
        refine z_xP zt273 26 53 [some (.ref 19), some (.int p1), some (.int p2), some (.int p3), some (.int b4), none, none, none, none, none] [.ref 19] rfl rfl ?_
        refine z_xgX (b := 47) zt273 27 rfl zo273 zzf12_91 X f19 (by decide) (by decide) rfl ?_
        refine z_xP zt273 28 57 [some (.ref 19), some (.int p1), some (.int p2), some (.int p3), some (.int b4), none, none, none, none, none] [.ref 19, .ref 47] rfl rfl ?_
        refine z_xgv zt273 29 rfl zo273 zzf12_365 X f19 (by decide) h31 ?_
        refine z_xP zt273 30 62 [some (.ref 19), some (.int p1), some (.int p2), some (.int p3), some (.int b4), none, none, none, none, none] [.int b4, .int x32, .ref 47] rfl rfl ?_
        have f47 : T[47]? = some (.inr (47, 0, 12, (-2147483648), 2147483647)) := X.1.k rfl (by decide)
        refine z_xis zt273 31 rfl X f47 (by decide) (by decide) (by omega) (by omega) (Int32.le_toInt _) (Int32.toInt_le _) (by decide) (fun M36 X37 e38 h39 => ?_)
        refine z_xP zt273 32 65 [some (.ref 19), some (.int p1), some (.int p2), some (.int p3), some (.int b4), none, none, none, none, none] [.ref 19, .ref 19] rfl rfl ?_
        have h40 := (e38.f f19 (by decide) h31)
        refine z_xgv zt273 33 rfl zo273 zzf12_365 X37 f19 (by decide) h40 ?_
        refine z_xP zt273 34 69 [some (.ref 19), some (.int p1), some (.int p2), some (.int p3), some (.int b4), none, none, none, none, none] [.int 1, .int x32, .ref 19] rfl rfl ?_
        refine z_xI zt273 35 rfl rfl (fun (x41 : Int32) (h42 : x41.toInt = x32.toInt + 1) => ?_) (z_pAdd rfl rfl (by omega) (by omega))
        refine z_xpf zt273 36 rfl zo273 zzf12_365 X37 f19 (by decide) (by decide) ⟨by omega, by omega⟩ rfl (by decide) zw12_43 (fun M43 X44 e45 h46 => ?_)
        refine z_xN zt273 37 rfl rfl (fun (x47 : Int32) (h48 : x47.toInt = b4.toInt + 1) => ?_) (z_pAdd rfl rfl (by omega) (by omega))
        show z_ev (d + 3) 273 76 [some (.ref 19), some (.int p1), some (.int p2), some (.int p3), some (.int x47), none, none, none, none, none] [] M43 _
        refine z_xP zt273 38 8 [some (.ref 19), some (.int p1), some (.int p2), some (.int p3), some (.int x47), none, none, none, none, none] [] rfl rfl ?_
        exact ih.1 M43 x47 X44 ⟨by omega, by omega⟩ (by omega)
      refine z_xP zt273 24 51 [some (.ref 19), some (.int p1), some (.int p2), some (.int p3), some (.int b4), none, none, none, none, none] [.int 0] rfl rfl ?_
      have q0 : ((0 : Int32)).toInt = 0 := rfl
      exact z_xrz zt273 25 rfl zzr273 (by decide) (by decide) (kk 0 M X (by omega) (by omega))
    · skip
      intro M b4 X hh0 hh1 hh2 hz hE
      refine z_xP zt273 44 95 [some (.ref 19), some (.int p1), some (.int p2), some (.int p3), some (.int b4), none, none, none, none, none] [.int p2, .int b4] rfl rfl ?_
      refine z_xJ zt273 45 rfl rfl (fun (h1 : p2.toInt ≤ b4.toInt) => ?_) (fun (h1 : b4.toInt < p2.toInt) => ?_)
      · skip
        refine z_xP zt273 52 118 [some (.ref 19), some (.int p1), some (.int p2), some (.int p3), some (.int 1), some (.int 1), none, none, none, none] [] rfl rfl ?_
        have f19 : T[19]? = some (.inl (12, 0, 0, 0, 0)) := X.1.k rfl (by decide)
        obtain ⟨x2, h3, h4, h5⟩ := z_W.fi X.1 f19 (k := 43) (lo := 0) (hi := 12) (by decide) rfl
        have h6 : z_NB M p2.toInt 13 := z_NBw (z_NBm hz rfl (by omega) rfl) (by omega)
        have h7 := z_V5 h6 (by omega) (by omega) (by omega)
        have q1 : ((1 : Int32)).toInt = 1 := rfl
        exact ih.2.2.1 M (1) (1) none none none none x2 X (by decide) (by decide) h3 ⟨by omega, by omega⟩ h6 (fun _ _ => z_NBw (z_NBm hz rfl (by omega) rfl) (by have h6 := z_mxf x2.toInt; omega)) (by omega)
      refine z_xP zt273 46 99 [some (.ref 19), some (.int p1), some (.int p2), some (.int p3), some (.int b4), none, none, none, none, none] [.ref 19] rfl rfl ?_
      have f19 : T[19]? = some (.inl (12, 0, 0, 0, 0)) := X.1.k rfl (by decide)
      refine z_xgX (b := 43) zt273 47 rfl zo273 zzf12_79 X f19 (by decide) (by decide) rfl ?_
      refine z_xP zt273 48 105 [some (.ref 19), some (.int p1), some (.int p2), some (.int p3), some (.int b4), none, none, none, none, none] [.int 0, .int b4, .ref 43] rfl rfl ?_
      have f43 : T[43]? = some (.inr (43, 0, 9, 0, 1023)) := X.1.k rfl (by decide)
      have q0 : ((0 : Int32)).toInt = 0 := rfl
      refine z_xis zt273 49 rfl X f43 (by decide) (by decide) (by omega) (by omega) (by omega) (by omega) (by decide) (fun M8 X9 e10 h11 => ?_)
      refine z_xN zt273 50 rfl rfl (fun (x12 : Int32) (h13 : x12.toInt = b4.toInt + 1) => ?_) (z_pAdd rfl rfl (by omega) (by omega))
      show z_ev (d + 3) 273 109 [some (.ref 19), some (.int p1), some (.int p2), some (.int p3), some (.int x12), none, none, none, none, none] [] M8 _
      refine z_xP zt273 51 92 [some (.ref 19), some (.int p1), some (.int p2), some (.int p3), some (.int x12), none, none, none, none, none] [] rfl rfl ?_
      exact ih.2.1 M8 x12 X9 ⟨by omega, by omega⟩ (by omega) (by omega) (z_NBs hz h11 rfl (by omega) (by omega) (by omega) (by omega)) (by omega)
    · skip
      intro M b4 b5 o6 o7 o8 o9 z0 X hh0 hh1 hp0 hh3 hb hn hE
      have hV := z_V5 hb (by omega) (by omega) (by omega)
      have hmx := z_mxf z0.toInt
      refine z_xP zt273 53 120 [some (.ref 19), some (.int p1), some (.int p2), some (.int p3), some (.int b4), some (.int b5), o6, o7, o8, o9] [.int b5] rfl rfl ?_
      refine z_xZ zt273 54 rfl rfl (fun (h1 : b5.toInt = 0) => ?_) (fun (h1 : b5.toInt ≠ 0) => ?_)
      · skip
        refine z_xP zt273 140 336 [some (.ref 19), some (.int p1), some (.int p2), some (.int p3), some (.int b4), some (.int b5), o6, o7, o8, o9] [.int b4] rfl rfl ?_
        exact z_xrz zt273 141 rfl zzr273 (by omega) (by omega) (kk b4 M X (by omega) (by omega))
      refine z_xP zt273 55 125 [some (.ref 19), some (.int p1), some (.int p2), some (.int p3), some (.int b4), some (.int b5), o6, o7, o8, o9] [.int b4] rfl rfl ?_
      refine z_xZ zt273 56 rfl rfl (fun (h2 : b4.toInt = 0) => ?_) (fun (h2 : b4.toInt ≠ 0) => ?_)
      · skip
        refine z_xP zt273 140 336 [some (.ref 19), some (.int p1), some (.int p2), some (.int p3), some (.int b4), some (.int b5), o6, o7, o8, o9] [.int b4] rfl rfl ?_
        exact z_xrz zt273 141 rfl zzr273 (by omega) (by omega) (kk b4 M X (by omega) (by omega))
      refine z_xP zt273 57 131 [some (.ref 19), some (.int p1), some (.int p2), some (.int p3), some (.int b4), some (.int b5), some (.int 0), o7, o8, o9] [] rfl rfl ?_
      have f19 : T[19]? = some (.inl (12, 0, 0, 0, 0)) := X.1.k rfl (by decide)
      have q0 : ((0 : Int32)).toInt = 0 := rfl
      exact ih.2.2.2.1 M b4 b5 (0) (o7) (o8) (o9) z0 (2 * (371293 - z_V 13 (z_Ar M 43) p2.toInt.toNat) + 1) X ⟨by omega, by omega⟩ ⟨by omega, by omega⟩ (by decide) hp0 ⟨by omega, by omega⟩ (hn (by omega) (by omega)) (by omega) (by omega)
    · skip
      intro M b4 b5 b6 o7 o8 o9 z0 eg X hh0 hh1 hh2 hp0 hh4 hn hE hE
      have hmx := z_mxf z0.toInt
      have hV := z_V5 hn (by omega) (by omega) (by omega)
      refine z_xP zt273 58 134 [some (.ref 19), some (.int p1), some (.int p2), some (.int p3), some (.int b4), some (.int b5), some (.int b6), o7, o8, o9] [.int p2, .int b6] rfl rfl ?_
      refine z_xJ zt273 59 rfl rfl (fun (h1 : p2.toInt ≤ b6.toInt) => ?_) (fun (h1 : b6.toInt < p2.toInt) => ?_)
      · skip
        refine z_xP zt273 70 163 [some (.ref 19), some (.int p1), some (.int p2), some (.int p3), some (.int b4), some (.int b5), some (.int b6), o7, o8, o9] [.int 0, .ref 19] rfl rfl ?_
        have f19 : T[19]? = some (.inl (12, 0, 0, 0, 0)) := X.1.k rfl (by decide)
        have q0 : ((0 : Int32)).toInt = 0 := rfl
        refine z_xpf zt273 71 rfl zo273 zzf12_275 X f19 (by decide) (by decide) ⟨by omega, by omega⟩ rfl (by decide) zw12_34 (fun M2 X3 e4 h5 => ?_)
        refine z_xP zt273 72 168 [some (.ref 19), some (.int p1), some (.int p2), some (.int p3), some (.int b4), some (.int b5), some (.int b6), o7, o8, o9] [.int 0, .ref 19] rfl rfl ?_
        have q0 : ((0 : Int32)).toInt = 0 := rfl
        refine z_xpf zt273 73 rfl zo273 zzf12_278 X3 f19 (by decide) (by decide) ⟨by omega, by omega⟩ rfl (by decide) zw12_35 (fun M6 X7 e8 h9 => ?_)
        refine z_xP zt273 74 173 [some (.ref 19), some (.int p1), some (.int p2), some (.int p3), some (.int b4), some (.int b5), some (.int b6), o7, o8, o9] [.ref 19, .ref 19] rfl rfl ?_
        refine z_xcV (vs := [.ref 19]) (r := [.ref 19]) (L2 := [some (.ref 19)]) zt273 75 rfl zo273 zzcV12_248 (Or.inl rfl) rfl X7 f19 rfl rfl rfl (Nat.le_of_ble_eq_true rfl) zzm240 (Nat.le_of_ble_eq_true rfl) rfl ?_
        refine z_xP zt240 0 2 [some (.ref 19)] [.ref 19, .int 1] rfl rfl ?_
        refine z_xgX (b := 24) zt240 1 rfl zo240 zzf12_22 X7 f19 (by decide) (by decide) rfl ?_
        refine z_xP zt240 2 6 [some (.ref 19)] [.ref 19, .ref 24, .int 1] rfl rfl ?_
        refine z_xgI zt240 3 rfl zo240 zzf12_242 X7 f19 (by decide) (by decide) rfl (fun (x11 : Int32) h10 (h12 : 0 ≤ x11.toInt) (h13 : x11.toInt ≤ 7) => ?_)
        have f24 : T[24]? = some (.inr (24, 0, 8, 0, 10)) := X7.1.k rfl (by decide)
        refine z_xil zt240 4 rfl X7 f24 (by decide) (by omega) (by omega) (fun (x14 : Int32) h15 (h16 : 0 ≤ x14.toInt) (h17 : x14.toInt ≤ 10) => ?_)
        refine z_xI zt240 5 rfl rfl (fun (x18 : Int32) (h19 : 1 ≤ x18.toInt ∧ x18.toInt ≤ 1024) => ?_) (z_pShlB (a := 1) (b := 10) (c := 1024) (r := 1024) rfl rfl (by omega) (by omega) (by omega) (by omega) (by decide) (by decide) (by decide) (by decide))
        refine z_xP zt240 6 12 [some (.ref 19)] [.int 1, .int x18] rfl rfl ?_
        refine z_xI zt240 7 rfl rfl (fun (x20 : Int32) (h21 : x20.toInt = x18.toInt - 1) => ?_) (z_pSub rfl rfl (by omega) (by omega))
        refine z_xri zt240 8 rfl zzr240 ?_
        show z_ev (d + 3) 273 176 [some (.ref 19), some (.int p1), some (.int p2), some (.int p3), some (.int b4), some (.int b5), some (.int b6), o7, o8, o9] [.int x20, .ref 19] M6 _
        refine z_xcV (vs := [.ref 19, .int x20]) (r := []) (L2 := [some (.ref 19), some (.int x20), none]) zt273 76 rfl zo273 zzcV12_288 (Or.inl rfl) rfl X7 f19 rfl rfl rfl (Nat.le_of_ble_eq_true rfl) zzm241 (Nat.le_of_ble_eq_true rfl) rfl ?_
        refine zC241 X7.1 (fun M22 X23  => ?_)
        have X24 := X7.go X23 (z_sb (by decide))
        show z_ev (d + 3) 273 179 [some (.ref 19), some (.int p1), some (.int p2), some (.int p3), some (.int b4), some (.int b5), some (.int b6), o7, o8, o9] [] M22 _
        refine z_xP zt273 77 185 [some (.ref 19), some (.int p1), some (.int p2), some (.int p3), some (.int b4), some (.int b5), some (.int 0), some (.int 0), o8, o9] [] rfl rfl ?_
        have h26 := (X23.2.f f19 (by decide) (e8.f f19 (by decide) (e4.f f19 (by decide) hp0)))
        have f43 : T[43]? = some (.inr (43, 0, 9, 0, 1023)) := X24.1.k rfl (by decide)
        have h27 := z_Ve (b := 13) (n := p2.toInt.toNat) (e4.a f43 (by decide))
        have h28 := z_Ve (b := 13) (n := p2.toInt.toNat) (e8.a f43 (by decide))
        have h29 := z_Ve (b := 13) (n := p2.toInt.toNat) (X23.2.a f43 (by decide))
        have q0 : ((0 : Int32)).toInt = 0 := rfl
        exact ih.2.2.2.2.1 M22 b4 b5 (0) (0) (o8) (o9) z0 eg X24 ⟨by omega, by omega⟩ ⟨by omega, by omega⟩ (by decide) (by decide) h26 ⟨by omega, by omega⟩ (by omega) (z_NBm (z_NBm (z_NBm hn (e4.a f43 (by decide)) rfl rfl) (e8.a f43 (by decide)) rfl rfl) (X23.2.a f43 (by decide)) rfl rfl) (by omega) (by omega)
      refine z_xP zt273 60 141 [some (.ref 19), some (.int p1), some (.int p2), some (.int p3), some (.int b4), some (.int b5), some (.int b6), o7, o8, o9] [.ref 19, .int b6, .ref 19] rfl rfl ?_
      have f19 : T[19]? = some (.inl (12, 0, 0, 0, 0)) := X.1.k rfl (by decide)
      refine z_xgX (b := 47) zt273 61 rfl zo273 zzf12_91 X f19 (by decide) (by decide) rfl ?_
      refine z_xP zt273 62 145 [some (.ref 19), some (.int p1), some (.int p2), some (.int p3), some (.int b4), some (.int b5), some (.int b6), o7, o8, o9] [.ref 19, .ref 47, .int b6, .ref 19] rfl rfl ?_
      refine z_xgX (b := 43) zt273 63 rfl zo273 zzf12_79 X f19 (by decide) (by decide) rfl ?_
      refine z_xP zt273 64 150 [some (.ref 19), some (.int p1), some (.int p2), some (.int p3), some (.int b4), some (.int b5), some (.int b6), o7, o8, o9] [.int b6, .ref 43, .ref 47, .int b6, .ref 19] rfl rfl ?_
      have f43 : T[43]? = some (.inr (43, 0, 9, 0, 1023)) := X.1.k rfl (by decide)
      refine z_xil zt273 65 rfl X f43 (by decide) (by omega) (by omega) (fun (x30 : Int32) h31 (h32 : 0 ≤ x30.toInt) (h33 : x30.toInt ≤ 1023) => ?_)
      have h34 := z_NBl hn h31 (by omega) (by omega)
      have f47 : T[47]? = some (.inr (47, 0, 12, (-2147483648), 2147483647)) := X.1.k rfl (by decide)
      refine z_xil zt273 66 rfl X f47 (by decide) (by omega) (by omega) (fun (x35 : Int32) h36 (h37 : (-2147483648) ≤ x35.toInt) (h38 : x35.toInt ≤ 2147483647) => ?_)
      refine z_xcV (vs := [.ref 19, .int b6, .int x35]) (r := []) (L2 := [some (.ref 19), some (.int b6), some (.int x35)]) zt273 67 rfl zo273 zzcV12_315 (Or.inl rfl) rfl X f19 rfl rfl rfl (Nat.le_of_ble_eq_true rfl) zzm254 (Nat.le_of_ble_eq_true rfl) rfl ?_
      refine z_xP zt254 0 1 [some (.ref 19), some (.int b6), some (.int x35)] [.ref 19] rfl rfl ?_
      refine z_xgX (b := 39) zt254 1 rfl zo254 zzf12_67 X f19 (by decide) (by decide) rfl ?_
      refine z_xP zt254 2 6 [some (.ref 19), some (.int b6), some (.int x35)] [.int 1, .int b6, .ref 39] rfl rfl ?_
      have f39 : T[39]? = some (.inr (39, 0, 9, (-2147483648), 2147483647)) := X.1.k rfl (by decide)
      have q1 : ((1 : Int32)).toInt = 1 := rfl
      refine z_xis zt254 3 rfl X f39 (by decide) (by decide) (by omega) (by omega) (by omega) (by omega) (by decide) (fun M39 X40 e41 h42 => ?_)
      refine z_xP zt254 4 8 [some (.ref 19), some (.int b6), some (.int x35)] [.ref 19] rfl rfl ?_
      refine z_xgX (b := 40) zt254 5 rfl zo254 zzf12_70 X40 f19 (by decide) (by decide) rfl ?_
      refine z_xP zt254 6 13 [some (.ref 19), some (.int b6), some (.int x35)] [.int x35, .int b6, .ref 40] rfl rfl ?_
      have f40 : T[40]? = some (.inr (40, 0, 9, (-2147483648), 2147483647)) := X40.1.k rfl (by decide)
      refine z_xis zt254 7 rfl X40 f40 (by decide) (by decide) (by omega) (by omega) (Int32.le_toInt _) (Int32.toInt_le _) (by decide) (fun M43 X44 e45 h46 => ?_)
      refine z_xP zt254 8 15 [some (.ref 19), some (.int b6), some (.int x35)] [.ref 19] rfl rfl ?_
      refine z_xgX (b := 41) zt254 9 rfl zo254 zzf12_73 X44 f19 (by decide) (by decide) rfl ?_
      refine z_xP zt254 10 20 [some (.ref 19), some (.int b6), some (.int x35)] [.ref 19, .int b6, .ref 41] rfl rfl ?_
      refine z_xcV (vs := [.ref 19]) (r := [.int b6, .ref 41]) (L2 := [some (.ref 19)]) zt254 11 rfl zo254 zzcV12_248 (Or.inl rfl) rfl X44 f19 rfl rfl rfl (Nat.le_of_ble_eq_true rfl) zzm240 (Nat.le_of_ble_eq_true rfl) rfl ?_
      refine z_xP zt240 0 2 [some (.ref 19)] [.ref 19, .int 1] rfl rfl ?_
      refine z_xgX (b := 24) zt240 1 rfl zo240 zzf12_22 X44 f19 (by decide) (by decide) rfl ?_
      refine z_xP zt240 2 6 [some (.ref 19)] [.ref 19, .ref 24, .int 1] rfl rfl ?_
      refine z_xgI zt240 3 rfl zo240 zzf12_242 X44 f19 (by decide) (by decide) rfl (fun (x48 : Int32) h47 (h49 : 0 ≤ x48.toInt) (h50 : x48.toInt ≤ 7) => ?_)
      have f24 : T[24]? = some (.inr (24, 0, 8, 0, 10)) := X44.1.k rfl (by decide)
      refine z_xil zt240 4 rfl X44 f24 (by decide) (by omega) (by omega) (fun (x51 : Int32) h52 (h53 : 0 ≤ x51.toInt) (h54 : x51.toInt ≤ 10) => ?_)
      refine z_xI zt240 5 rfl rfl (fun (x55 : Int32) (h56 : 1 ≤ x55.toInt ∧ x55.toInt ≤ 1024) => ?_) (z_pShlB (a := 1) (b := 10) (c := 1024) (r := 1024) rfl rfl (by omega) (by omega) (by omega) (by omega) (by decide) (by decide) (by decide) (by decide))
      refine z_xP zt240 6 12 [some (.ref 19)] [.int 1, .int x55] rfl rfl ?_
      refine z_xI zt240 7 rfl rfl (fun (x57 : Int32) (h58 : x57.toInt = x55.toInt - 1) => ?_) (z_pSub rfl rfl (by omega) (by omega))
      refine z_xri zt240 8 rfl zzr240 ?_
      show z_ev (d + 2) 254 23 [some (.ref 19), some (.int b6), some (.int x35)] [.int x57, .int b6, .ref 41] M43 _
      refine z_xP zt254 12 25 [some (.ref 19), some (.int b6), some (.int x35)] [.int (-1), .int x35, .int x57, .int b6, .ref 41] rfl rfl ?_
      refine z_xI zt254 13 rfl rfl (P := fun _ => True) (fun (x59 : Int32) _ => ?_) trivial
      refine z_xI zt254 14 rfl rfl (fun (x61 : Int32) (h62 : 0 ≤ x61.toInt ∧ x61.toInt ≤ x57.toInt) => ?_) (z_pAndL rfl (by omega))
      have f41 : T[41]? = some (.inr (41, 0, 9, (-2147483648), 2147483647)) := X44.1.k rfl (by decide)
      refine z_xis zt254 15 rfl X44 f41 (by decide) (by decide) (by omega) (by omega) (Int32.le_toInt _) (Int32.toInt_le _) (by decide) (fun M63 X64 e65 h66 => ?_)
      refine z_xrv zt254 16 rfl zzr254 ?_
      show z_ev (d + 3) 273 155 [some (.ref 19), some (.int p1), some (.int p2), some (.int p3), some (.int b4), some (.int b5), some (.int b6), o7, o8, o9] [] M63 _
      refine z_xN zt273 68 rfl rfl (fun (x67 : Int32) (h68 : x67.toInt = b6.toInt + 1) => ?_) (z_pAdd rfl rfl (by omega) (by omega))
      show z_ev (d + 3) 273 158 [some (.ref 19), some (.int p1), some (.int p2), some (.int p3), some (.int b4), some (.int b5), some (.int x67), o7, o8, o9] [] M63 _
      refine z_xP zt273 69 131 [some (.ref 19), some (.int p1), some (.int p2), some (.int p3), some (.int b4), some (.int b5), some (.int x67), o7, o8, o9] [] rfl rfl ?_
      have h69 := (e65.f f19 (by decide) (e45.f f19 (by decide) (e41.f f19 (by decide) hp0)))
      have h70 := z_Ve (b := 13) (n := p2.toInt.toNat) (e41.a f43 (by decide))
      have h71 := z_Ve (b := 13) (n := p2.toInt.toNat) (e45.a f43 (by decide))
      have h72 := z_Ve (b := 13) (n := p2.toInt.toNat) (e65.a f43 (by decide))
      exact ih.2.2.2.1 M63 b4 b5 x67 (o7) (o8) (o9) z0 eg X64 ⟨by omega, by omega⟩ ⟨by omega, by omega⟩ ⟨by omega, by omega⟩ h69 ⟨by omega, by omega⟩ (z_NBm (z_NBm (z_NBm hn (e41.a f43 (by decide)) rfl rfl) (e45.a f43 (by decide)) rfl rfl) (e65.a f43 (by decide)) rfl rfl) (by omega) (by omega)
    · skip
      intro M b4 b5 b6 b7 o8 o9 z0 eg X hh0 hh1 hh2 hh3 hp0 hh5 hh6 hn hE hE
      have hmx := z_mxf z0.toInt
      have hV := z_V5 hn (by omega) (by omega) (by omega)
      refine z_xP zt273 78 188 [some (.ref 19), some (.int p1), some (.int p2), some (.int p3), some (.int b4), some (.int b5), some (.int b6), some (.int b7), o8, o9] [.ref 19, .int b7] rfl rfl ?_
      have f19 : T[19]? = some (.inl (12, 0, 0, 0, 0)) := X.1.k rfl (by decide)
      refine z_xgv zt273 79 rfl zo273 zzf12_365 X f19 (by decide) hp0 ?_
      refine z_xJ zt273 80 rfl rfl (fun (h1 : z0.toInt ≤ b7.toInt) => ?_) (fun (h1 : b7.toInt < z0.toInt) => ?_)
      · skip
        refine z_xP zt273 98 239 [some (.ref 19), some (.int p1), some (.int p2), some (.int p3), some (.int b6), some (.int b5), some (.int b6), some (.int b7), o8, o9] [.int 1, .int p2] rfl rfl ?_
        refine z_xI zt273 99 rfl rfl (fun (x2 : Int32) (h3 : x2.toInt = p2.toInt - 1) => ?_) (z_pSub rfl rfl (by omega) (by omega))
        refine z_xP zt273 100 242 [some (.ref 19), some (.int p1), some (.int p2), some (.int p3), some (.int b6), some (.int b5), some (.int b6), some (.int x2), o8, o9] [] rfl rfl ?_
        exact ih.2.2.2.2.2.1 M b6 b5 b6 x2 (o8) (o9) z0 eg X ⟨by omega, by omega⟩ ⟨by omega, by omega⟩ ⟨by omega, by omega⟩ ⟨by omega, by omega⟩ hp0 ⟨by omega, by omega⟩ (by omega) (by omega) hn (by omega) (by omega)
      refine z_xP zt273 81 196 [some (.ref 19), some (.int p1), some (.int p2), some (.int p3), some (.int b4), some (.int b5), some (.int b6), some (.int b7), o8, o9] [.int b6] rfl rfl ?_
      refine z_xZ zt273 82 rfl rfl (fun (h4 : b6.toInt ≠ 0) => ?_) (fun (h4 : b6.toInt = 0) => ?_)
      · skip
        refine z_xP zt273 93 225 [some (.ref 19), some (.int p1), some (.int p2), some (.int p3), some (.int b4), some (.int b5), some (.int b6), some (.int b7), o8, o9] [.int 1] rfl rfl ?_
        refine z_xP zt273 95 227 [some (.ref 19), some (.int p1), some (.int p2), some (.int p3), some (.int b4), some (.int b5), some (.int 1), some (.int b7), o8, o9] [] rfl rfl ?_
        refine z_xN zt273 96 rfl rfl (fun (x5 : Int32) (h6 : x5.toInt = b7.toInt + 1) => ?_) (z_pAdd rfl rfl (by omega) (by omega))
        show z_ev (d + 3) 273 230 [some (.ref 19), some (.int p1), some (.int p2), some (.int p3), some (.int b4), some (.int b5), some (.int 1), some (.int x5), o8, o9] [] M _
        refine z_xP zt273 97 185 [some (.ref 19), some (.int p1), some (.int p2), some (.int p3), some (.int b4), some (.int b5), some (.int 1), some (.int x5), o8, o9] [] rfl rfl ?_
        have q1 : ((1 : Int32)).toInt = 1 := rfl
        exact ih.2.2.2.2.1 M b4 b5 (1) x5 (o8) (o9) z0 eg X ⟨by omega, by omega⟩ ⟨by omega, by omega⟩ (by decide) ⟨by omega, by omega⟩ hp0 ⟨by omega, by omega⟩ (by omega) hn (by omega) (by omega)
      refine z_xP zt273 83 200 [some (.ref 19), some (.int p1), some (.int p2), some (.int p3), some (.int b4), some (.int b5), some (.int b6), some (.int b7), o8, o9] [.ref 19] rfl rfl ?_
      refine z_xgX (b := 47) zt273 84 rfl zo273 zzf12_91 X f19 (by decide) (by decide) rfl ?_
      refine z_xP zt273 85 205 [some (.ref 19), some (.int p1), some (.int p2), some (.int p3), some (.int b4), some (.int b5), some (.int b6), some (.int b7), o8, o9] [.int b7, .ref 47] rfl rfl ?_
      have f47 : T[47]? = some (.inr (47, 0, 12, (-2147483648), 2147483647)) := X.1.k rfl (by decide)
      refine z_xil zt273 86 rfl X f47 (by decide) (by omega) (by omega) (fun (x7 : Int32) h8 (h9 : (-2147483648) ≤ x7.toInt) (h10 : x7.toInt ≤ 2147483647) => ?_)
      refine z_xP zt273 87 207 [some (.ref 19), some (.int p1), some (.int p2), some (.int p3), some (.int b4), some (.int b5), some (.int b6), some (.int b7), o8, o9] [.ref 19, .int x7] rfl rfl ?_
      refine z_xgI zt273 88 rfl zo273 zzf12_275 X f19 (by decide) (by decide) rfl (fun (x12 : Int32) h11 (h13 : (-2147483648) ≤ x12.toInt) (h14 : x12.toInt ≤ 2147483647) => ?_)
      refine z_xP zt273 89 211 [some (.ref 19), some (.int p1), some (.int p2), some (.int p3), some (.int b4), some (.int b5), some (.int b6), some (.int b7), o8, o9] [.ref 19, .int x12, .int x7] rfl rfl ?_
      refine z_xgI zt273 90 rfl zo273 zzf12_278 X f19 (by decide) (by decide) rfl (fun (x16 : Int32) h15 (h17 : (-2147483648) ≤ x16.toInt) (h18 : x16.toInt ≤ 2147483647) => ?_)
      refine z_xcS (vs := [.int x7, .int x12, .int x16]) (r := []) (L2 := [some (.int x7), some (.int x12), some (.int x16)]) zt273 91 rfl zo273 zzcS12_216 (Or.inl rfl) (Nat.le_of_ble_eq_true rfl) rfl rfl (Nat.le_of_ble_eq_true rfl) zzm216 (Nat.le_of_ble_eq_true rfl) rfl ?_
      refine z_xP zt216 0 2 [some (.int x7), some (.int x12), some (.int x16)] [.int x12, .int x7] rfl rfl ?_
      refine z_xI zt216 1 rfl rfl (P := fun _ => True) (fun (x19 : Int32) _ => ?_) trivial
      refine z_xP zt216 2 4 [some (.int x7), some (.int x12), some (.int x16)] [.int x12, .int x19] rfl rfl ?_
      have h21 := z_b32 x19
      have h22 := z_b32 x12
      refine z_xJ zt216 3 rfl rfl (fun (h23 : x19.toInt ≠ x12.toInt) => ?_) (fun (h23 : x19.toInt = x12.toInt) => ?_)
      · skip
        refine z_xP zt216 8 18 [some (.int x7), some (.int x12), some (.int x16)] [.int 0] rfl rfl ?_
        refine z_xrz zt216 9 rfl zzr216 (by decide) (by decide) ?_
        show z_ev (d + 3) 273 217 [some (.ref 19), some (.int p1), some (.int p2), some (.int p3), some (.int b4), some (.int b5), some (.int b6), some (.int b7), o8, o9] [.int 0] M _
        refine z_xZ zt273 92 rfl rfl (fun (h24 : (0 : Int) = 0) => ?_) (fun (h24 : (0 : Int) ≠ 0) => absurd h24 (by omega))
        refine z_xP zt273 94 225 [some (.ref 19), some (.int p1), some (.int p2), some (.int p3), some (.int b4), some (.int b5), some (.int b6), some (.int b7), o8, o9] [.int 0] rfl rfl ?_
        refine z_xP zt273 95 227 [some (.ref 19), some (.int p1), some (.int p2), some (.int p3), some (.int b4), some (.int b5), some (.int 0), some (.int b7), o8, o9] [] rfl rfl ?_
        refine z_xN zt273 96 rfl rfl (fun (x25 : Int32) (h26 : x25.toInt = b7.toInt + 1) => ?_) (z_pAdd rfl rfl (by omega) (by omega))
        show z_ev (d + 3) 273 230 [some (.ref 19), some (.int p1), some (.int p2), some (.int p3), some (.int b4), some (.int b5), some (.int 0), some (.int x25), o8, o9] [] M _
        refine z_xP zt273 97 185 [some (.ref 19), some (.int p1), some (.int p2), some (.int p3), some (.int b4), some (.int b5), some (.int 0), some (.int x25), o8, o9] [] rfl rfl ?_
        have q0 : ((0 : Int32)).toInt = 0 := rfl
        exact ih.2.2.2.2.1 M b4 b5 (0) x25 (o8) (o9) z0 eg X ⟨by omega, by omega⟩ ⟨by omega, by omega⟩ (by decide) ⟨by omega, by omega⟩ hp0 ⟨by omega, by omega⟩ (by omega) hn (by omega) (by omega)
      refine z_xP zt216 4 9 [some (.int x7), some (.int x12), some (.int x16)] [.int x16, .int x7] rfl rfl ?_
      refine z_xI zt216 5 rfl rfl (P := fun _ => True) (fun (x27 : Int32) _ => ?_) trivial
      refine z_xZ zt216 6 rfl rfl (fun (h29 : x27.toInt ≠ 0) => ?_) (fun (h29 : x27.toInt = 0) => ?_)
      · skip
        refine z_xP zt216 8 18 [some (.int x7), some (.int x12), some (.int x16)] [.int 0] rfl rfl ?_
        refine z_xrz zt216 9 rfl zzr216 (by decide) (by decide) ?_
        show z_ev (d + 3) 273 217 [some (.ref 19), some (.int p1), some (.int p2), some (.int p3), some (.int b4), some (.int b5), some (.int b6), some (.int b7), o8, o9] [.int 0] M _
        refine z_xZ zt273 92 rfl rfl (fun (h30 : (0 : Int) = 0) => ?_) (fun (h30 : (0 : Int) ≠ 0) => absurd h30 (by omega))
        refine z_xP zt273 94 225 [some (.ref 19), some (.int p1), some (.int p2), some (.int p3), some (.int b4), some (.int b5), some (.int b6), some (.int b7), o8, o9] [.int 0] rfl rfl ?_
        refine z_xP zt273 95 227 [some (.ref 19), some (.int p1), some (.int p2), some (.int p3), some (.int b4), some (.int b5), some (.int 0), some (.int b7), o8, o9] [] rfl rfl ?_
        refine z_xN zt273 96 rfl rfl (fun (x31 : Int32) (h32 : x31.toInt = b7.toInt + 1) => ?_) (z_pAdd rfl rfl (by omega) (by omega))
        show z_ev (d + 3) 273 230 [some (.ref 19), some (.int p1), some (.int p2), some (.int p3), some (.int b4), some (.int b5), some (.int 0), some (.int x31), o8, o9] [] M _
        refine z_xP zt273 97 185 [some (.ref 19), some (.int p1), some (.int p2), some (.int p3), some (.int b4), some (.int b5), some (.int 0), some (.int x31), o8, o9] [] rfl rfl ?_
        have q0 : ((0 : Int32)).toInt = 0 := rfl
        exact ih.2.2.2.2.1 M b4 b5 (0) x31 (o8) (o9) z0 eg X ⟨by omega, by omega⟩ ⟨by omega, by omega⟩ (by decide) ⟨by omega, by omega⟩ hp0 ⟨by omega, by omega⟩ (by omega) hn (by omega) (by omega)
      refine z_xP zt216 7 18 [some (.int x7), some (.int x12), some (.int x16)] [.int 1] rfl rfl ?_
      refine z_xrz zt216 9 rfl zzr216 (by decide) (by decide) ?_
      show z_ev (d + 3) 273 217 [some (.ref 19), some (.int p1), some (.int p2), some (.int p3), some (.int b4), some (.int b5), some (.int b6), some (.int b7), o8, o9] [.int 1] M _
      refine z_xZ zt273 92 rfl rfl (fun (h33 : (1 : Int) = 0) => absurd h33 (by omega)) (fun (h33 : (1 : Int) ≠ 0) => ?_)
      refine z_xP zt273 93 225 [some (.ref 19), some (.int p1), some (.int p2), some (.int p3), some (.int b4), some (.int b5), some (.int b6), some (.int b7), o8, o9] [.int 1] rfl rfl ?_
      refine z_xP zt273 95 227 [some (.ref 19), some (.int p1), some (.int p2), some (.int p3), some (.int b4), some (.int b5), some (.int 1), some (.int b7), o8, o9] [] rfl rfl ?_
      refine z_xN zt273 96 rfl rfl (fun (x34 : Int32) (h35 : x34.toInt = b7.toInt + 1) => ?_) (z_pAdd rfl rfl (by omega) (by omega))
      show z_ev (d + 3) 273 230 [some (.ref 19), some (.int p1), some (.int p2), some (.int p3), some (.int b4), some (.int b5), some (.int 1), some (.int x34), o8, o9] [] M _
      refine z_xP zt273 97 185 [some (.ref 19), some (.int p1), some (.int p2), some (.int p3), some (.int b4), some (.int b5), some (.int 1), some (.int x34), o8, o9] [] rfl rfl ?_
      have q1 : ((1 : Int32)).toInt = 1 := rfl
      exact ih.2.2.2.2.1 M b4 b5 (1) x34 (o8) (o9) z0 eg X ⟨by omega, by omega⟩ ⟨by omega, by omega⟩ (by decide) ⟨by omega, by omega⟩ hp0 ⟨by omega, by omega⟩ (by omega) hn (by omega) (by omega)
    · skip
      intro M b4 b5 b6 b7 o8 o9 z0 eg X hh0 hh1 hh2 hh3 hp0 hh5 hh6 hh7 hn hE hE
      have hmx := z_mxf z0.toInt
      have hV := z_V5 hn (by omega) (by omega) (by omega)
      refine z_xP zt273 101 244 [some (.ref 19), some (.int p1), some (.int p2), some (.int p3), some (.int b4), some (.int b5), some (.int b6), some (.int b7), o8, o9] [.int b7] rfl rfl ?_
      refine z_xZ zt273 102 rfl rfl (fun (h1 : b7.toInt < 0) => ?_) (fun (h1 : 0 ≤ b7.toInt) => ?_)
      · skip
        refine z_xP zt273 114 271 [some (.ref 19), some (.int p1), some (.int p2), some (.int p3), some (.int b4), some (.int b5), some (.int b6), some (.int b7), o8, o9] [.int b7] rfl rfl ?_
        refine z_xZ zt273 115 rfl rfl (fun (h2 : b7.toInt < 0) => ?_) (fun (h2 : 0 ≤ b7.toInt) => absurd h2 (by omega))
        refine z_xP zt273 117 279 [some (.ref 19), some (.int p1), some (.int p2), some (.int p3), some (.int b4), some (.int b5), some (.int b6), some (.int b7), o8, o9] [.int 0] rfl rfl ?_
        refine z_xP zt273 118 283 [some (.ref 19), some (.int p1), some (.int p2), some (.int p3), some (.int b4), some (.int 0), some (.int b6), some (.int b7), o8, o9] [.int 0] rfl rfl ?_
        refine z_xZ zt273 119 rfl rfl (fun (h3 : (0 : Int) = 0) => ?_) (fun (h3 : (0 : Int) ≠ 0) => absurd h3 (by omega))
        refine z_xP zt273 127 299 [some (.ref 19), some (.int p1), some (.int p2), some (.int p3), some (.int b4), some (.int 0), some (.int b6), some (.int b7), o8, o9] [.int 0] rfl rfl ?_
        refine z_xP zt273 128 305 [some (.ref 19), some (.int p1), some (.int p2), some (.int p3), some (.int b4), some (.int 0), some (.int b6), some (.int b7), some (.int 0), some (.int b7)] [] rfl rfl ?_
        have f19 : T[19]? = some (.inl (12, 0, 0, 0, 0)) := X.1.k rfl (by decide)
        have q0 : ((0 : Int32)).toInt = 0 := rfl
        exact ih.2.2.2.2.2.2 M b4 (0) b6 b7 (0) b7 z0 eg X ⟨by omega, by omega⟩ (by decide) ⟨by omega, by omega⟩ ⟨by omega, by omega⟩ (by decide) ⟨by omega, by omega⟩ hp0 ⟨by omega, by omega⟩ (by omega) (by omega) (by omega) (by omega) (z_MX0 (by omega) hn (by omega) (by omega) (fun h6 => absurd h6 (by omega))) (by omega)
      refine z_xP zt273 103 248 [some (.ref 19), some (.int p1), some (.int p2), some (.int p3), some (.int b4), some (.int b5), some (.int b6), some (.int b7), o8, o9] [.ref 19] rfl rfl ?_
      have f19 : T[19]? = some (.inl (12, 0, 0, 0, 0)) := X.1.k rfl (by decide)
      refine z_xgX (b := 43) zt273 104 rfl zo273 zzf12_79 X f19 (by decide) (by decide) rfl ?_
      refine z_xP zt273 105 253 [some (.ref 19), some (.int p1), some (.int p2), some (.int p3), some (.int b4), some (.int b5), some (.int b6), some (.int b7), o8, o9] [.int b7, .ref 43] rfl rfl ?_
      have f43 : T[43]? = some (.inr (43, 0, 9, 0, 1023)) := X.1.k rfl (by decide)
      refine z_xil zt273 106 rfl X f43 (by decide) (by omega) (by omega) (fun (x4 : Int32) h5 (h6 : 0 ≤ x4.toInt) (h7 : x4.toInt ≤ 1023) => ?_)
      have h8 := z_NBl hn h5 (by omega) (by omega)
      refine z_xP zt273 107 255 [some (.ref 19), some (.int p1), some (.int p2), some (.int p3), some (.int b4), some (.int b5), some (.int b6), some (.int b7), o8, o9] [.ref 19, .int x4] rfl rfl ?_
      refine z_xgv zt273 108 rfl zo273 zzf12_365 X f19 (by decide) hp0 ?_
      refine z_xP zt273 109 259 [some (.ref 19), some (.int p1), some (.int p2), some (.int p3), some (.int b4), some (.int b5), some (.int b6), some (.int b7), o8, o9] [.int 1, .int z0, .int x4] rfl rfl ?_
      refine z_xI zt273 110 rfl rfl (fun (x9 : Int32) (h10 : x9.toInt = z0.toInt - 1) => ?_) (z_pSub rfl rfl (by omega) (by omega))
      refine z_xJ zt273 111 rfl rfl (fun (h11 : x4.toInt ≠ x9.toInt) => ?_) (fun (h11 : x4.toInt = x9.toInt) => ?_)
      · skip
        refine z_xP zt273 114 271 [some (.ref 19), some (.int p1), some (.int p2), some (.int p3), some (.int b4), some (.int b5), some (.int b6), some (.int b7), o8, o9] [.int b7] rfl rfl ?_
        refine z_xZ zt273 115 rfl rfl (fun (h12 : b7.toInt < 0) => absurd h12 (by omega)) (fun (h12 : 0 ≤ b7.toInt) => ?_)
        refine z_xP zt273 116 279 [some (.ref 19), some (.int p1), some (.int p2), some (.int p3), some (.int b4), some (.int b5), some (.int b6), some (.int b7), o8, o9] [.int 1] rfl rfl ?_
        refine z_xP zt273 118 283 [some (.ref 19), some (.int p1), some (.int p2), some (.int p3), some (.int b4), some (.int 1), some (.int b6), some (.int b7), o8, o9] [.int 1] rfl rfl ?_
        refine z_xZ zt273 119 rfl rfl (fun (h13 : (1 : Int) = 0) => absurd h13 (by omega)) (fun (h13 : (1 : Int) ≠ 0) => ?_)
        refine z_xP zt273 120 287 [some (.ref 19), some (.int p1), some (.int p2), some (.int p3), some (.int b4), some (.int 1), some (.int b6), some (.int b7), o8, o9] [.ref 19] rfl rfl ?_
        refine z_xgX (b := 43) zt273 121 rfl zo273 zzf12_79 X f19 (by decide) (by decide) rfl ?_
        refine z_xP zt273 122 292 [some (.ref 19), some (.int p1), some (.int p2), some (.int p3), some (.int b4), some (.int 1), some (.int b6), some (.int b7), o8, o9] [.int b7, .ref 43] rfl rfl ?_
        refine z_xil zt273 123 rfl X f43 (by decide) (by omega) (by omega) (fun (x14 : Int32) h15 (h16 : 0 ≤ x14.toInt) (h17 : x14.toInt ≤ 1023) => ?_)
        have h18 := congrArg Int32.toInt (h15.symm.trans h5)
        have h19 := z_NBl hn h15 (by omega) (by omega)
        refine z_xP zt273 124 294 [some (.ref 19), some (.int p1), some (.int p2), some (.int p3), some (.int b4), some (.int 1), some (.int b6), some (.int b7), o8, o9] [.int 1, .int x14] rfl rfl ?_
        refine z_xI zt273 125 rfl rfl (fun (x20 : Int32) (h21 : x20.toInt = x14.toInt + 1) => ?_) (z_pAdd rfl rfl (by omega) (by omega))
        refine z_xP zt273 126 299 [some (.ref 19), some (.int p1), some (.int p2), some (.int p3), some (.int b4), some (.int 1), some (.int b6), some (.int b7), o8, o9] [.int x20] rfl rfl ?_
        refine z_xP zt273 128 305 [some (.ref 19), some (.int p1), some (.int p2), some (.int p3), some (.int b4), some (.int 1), some (.int b6), some (.int b7), some (.int x20), some (.int b7)] [] rfl rfl ?_
        have q1 : ((1 : Int32)).toInt = 1 := rfl
        exact ih.2.2.2.2.2.2 M b4 (1) b6 b7 x20 b7 z0 eg X ⟨by omega, by omega⟩ (by decide) ⟨by omega, by omega⟩ ⟨by omega, by omega⟩ ⟨by omega, by omega⟩ ⟨by omega, by omega⟩ hp0 ⟨by omega, by omega⟩ (by omega) (by omega) (by omega) (by omega) (z_MX0 (by omega) hn (by omega) (by omega) (fun _ => z_hvA h5 (by omega) (by omega))) (by omega)
      refine z_xN zt273 112 rfl rfl (fun (x22 : Int32) (h23 : x22.toInt = b7.toInt + (-1)) => ?_) (z_pAdd rfl rfl (by omega) (by omega))
      show z_ev (d + 3) 273 266 [some (.ref 19), some (.int p1), some (.int p2), some (.int p3), some (.int b4), some (.int b5), some (.int b6), some (.int x22), o8, o9] [] M _
      refine z_xP zt273 113 242 [some (.ref 19), some (.int p1), some (.int p2), some (.int p3), some (.int b4), some (.int b5), some (.int b6), some (.int x22), o8, o9] [] rfl rfl ?_
      exact ih.2.2.2.2.2.1 M b4 b5 b6 x22 (o8) (o9) z0 eg X ⟨by omega, by omega⟩ ⟨by omega, by omega⟩ ⟨by omega, by omega⟩ ⟨by omega, by omega⟩ hp0 ⟨by omega, by omega⟩ (by omega) (by omega) hn (by omega) (by omega)
    · skip
      intro M b4 b5 b6 b7 b8 b9 z0 eg X hh0 hh1 hh2 hh3 hh4 hh5 hp0 hh7 hh8 hh9 hh10 hh11 hx hE
      have hmx := z_mxf z0.toInt
      have hV := z_MXb hx (by omega) (by omega) (by omega)
      refine z_xP zt273 129 308 [some (.ref 19), some (.int p1), some (.int p2), some (.int p3), some (.int b4), some (.int b5), some (.int b6), some (.int b7), some (.int b8), some (.int b9)] [.int p2, .int b9] rfl rfl ?_
      refine z_xJ zt273 130 rfl rfl (fun (h1 : p2.toInt ≤ b9.toInt) => ?_) (fun (h1 : b9.toInt < p2.toInt) => ?_)
      · skip
        refine z_xP zt273 139 118 [some (.ref 19), some (.int p1), some (.int p2), some (.int p3), some (.int b4), some (.int b5), some (.int b6), some (.int b7), some (.int b8), some (.int b9)] [] rfl rfl ?_
        have f19 : T[19]? = some (.inl (12, 0, 0, 0, 0)) := X.1.k rfl (by decide)
        have h2 := z_MXe hx (by omega) (by omega) (by omega) (by omega)
        exact ih.2.2.1 M b4 b5 (some (.int b6)) (some (.int b7)) (some (.int b8)) (some (.int b9)) z0 X ⟨by omega, by omega⟩ ⟨by omega, by omega⟩ hp0 ⟨by omega, by omega⟩ h2.1 h2.2.1 (by omega)
      refine z_xP zt273 131 313 [some (.ref 19), some (.int p1), some (.int p2), some (.int p3), some (.int b4), some (.int b5), some (.int b6), some (.int b7), some (.int b8), some (.int b9)] [.int b5] rfl rfl ?_
      refine z_xZ zt273 132 rfl rfl (fun (h3 : b5.toInt = 0) => ?_) (fun (h3 : b5.toInt ≠ 0) => ?_)
      · skip
        refine z_xP zt273 139 118 [some (.ref 19), some (.int p1), some (.int p2), some (.int p3), some (.int b4), some (.int b5), some (.int b6), some (.int b7), some (.int b8), some (.int b9)] [] rfl rfl ?_
        have f19 : T[19]? = some (.inl (12, 0, 0, 0, 0)) := X.1.k rfl (by decide)
        have h4 := z_MXe hx (by omega) (by omega) (by omega) (by omega)
        exact ih.2.2.1 M b4 b5 (some (.int b6)) (some (.int b7)) (some (.int b8)) (some (.int b9)) z0 X ⟨by omega, by omega⟩ ⟨by omega, by omega⟩ hp0 ⟨by omega, by omega⟩ h4.1 h4.2.1 (by omega)
      refine z_xP zt273 133 317 [some (.ref 19), some (.int p1), some (.int p2), some (.int p3), some (.int b4), some (.int b5), some (.int b6), some (.int b7), some (.int b8), some (.int b9)] [.ref 19] rfl rfl ?_
      have f19 : T[19]? = some (.inl (12, 0, 0, 0, 0)) := X.1.k rfl (by decide)
      refine z_xgX (b := 43) zt273 134 rfl zo273 zzf12_79 X f19 (by decide) (by decide) rfl ?_
      refine z_xP zt273 135 324 [some (.ref 19), some (.int p1), some (.int p2), some (.int p3), some (.int b4), some (.int b5), some (.int b6), some (.int b7), some (.int b8), some (.int b9)] [.int b8, .int b9, .ref 43] rfl rfl ?_
      have f43 : T[43]? = some (.inr (43, 0, 9, 0, 1023)) := X.1.k rfl (by decide)
      refine z_xis zt273 136 rfl X f43 (by decide) (by decide) (by omega) (by omega) (by omega) (by omega) (by decide) (fun M5 X6 e7 h8 => ?_)
      refine z_xN zt273 137 rfl rfl (fun (x9 : Int32) (h10 : x9.toInt = b9.toInt + 1) => ?_) (z_pAdd rfl rfl (by omega) (by omega))
      show z_ev (d + 3) 273 328 [some (.ref 19), some (.int p1), some (.int p2), some (.int p3), some (.int b4), some (.int b5), some (.int b6), some (.int b7), some (.int b8), some (.int x9)] [] M5 _
      refine z_xP zt273 138 305 [some (.ref 19), some (.int p1), some (.int p2), some (.int p3), some (.int b4), some (.int b5), some (.int b6), some (.int b7), some (.int b8), some (.int x9)] [] rfl rfl ?_
      have h11 := (e7.f f19 (by decide) hp0)
      exact ih.2.2.2.2.2.2 M5 b4 b5 b6 b7 b8 x9 z0 eg X6 ⟨by omega, by omega⟩ ⟨by omega, by omega⟩ ⟨by omega, by omega⟩ ⟨by omega, by omega⟩ ⟨by omega, by omega⟩ ⟨by omega, by omega⟩ h11 ⟨by omega, by omega⟩ (by omega) (by omega) (by omega) (by omega) (z_MXs hx (by omega) h8 rfl (by omega) (by omega) (by omega) (by omega) (by omega) (by omega) (by omega)) (by omega)
theorem zC273 {T : List zK} {d : Nat} {K : Option Value → zH → Prop} {p1 : Int32} {p2 : Int32} {p3 : Int32} {M0 : zH} (hW : z_W M0 T) (u1 : 0 ≤ p1.toInt ∧ p1.toInt ≤ 7) (u2 : 1 ≤ p2.toInt ∧ p2.toInt ≤ 5) (u3 : 0 ≤ p3.toInt ∧ p3.toInt ≤ 255) (kk : ∀ (x : Int32) (M1 : zH), z_X T zw273 M0 M1 → 0 ≤ x.toInt → x.toInt ≤ 1 → K (some (.int x)) M1) : z_ev (d + 3) 273 0 [some (.ref 19), some (.int p1), some (.int p2), some (.int p3), none, none, none, none, none, none] [] M0 K := by
  have X : z_X T zw273 M0 M0 := .refl hW
  refine z_xP zt273 0 2 [some (.ref 19), some (.int p1), some (.int p2), some (.int p3), none, none, none, none, none, none] [.int 0, .ref 19] rfl rfl ?_
  have f19 : T[19]? = some (.inl (12, 0, 0, 0, 0)) := X.1.k rfl (by decide)
  have q0 : ((0 : Int32)).toInt = 0 := rfl
  refine z_xpf zt273 1 rfl zo273 zzf12_365 X f19 (by decide) (by decide) ⟨by omega, by omega⟩ rfl (by decide) zw12_43 (fun M1 X2 e3 h4 => ?_)
  refine z_xP zt273 2 8 [some (.ref 19), some (.int p1), some (.int p2), some (.int p3), some (.int 0), none, none, none, none, none] [] rfl rfl ?_
  have q0 : ((0 : Int32)).toInt = 0 := rfl
  exact (zB273 u1 u2 u3 kk 617833216).1 M1 (0) X2 (by decide) (by omega)
def zw272 : List Nat := [39, 40, 41, 43, 47, 2229, 2230, 2234, 2235, 2243]
theorem zB272 {T : List zK} {d : Nat} {K : Option Value → zH → Prop} {p1 : Int32} {p2 : Int32} {p3 : Int32} {M0 : zH}  (kk : ∀ (x : Int32) (M1 : zH), z_X T zw272 M0 M1 → K (some (.int x)) M1) : ∀ n : Nat, (∀ (M : zH) (b4 : Int32) (b5 : Int32) (b6 : Int32) (o7 : Option Value), z_X T zw272 M0 M → 0 ≤ p1.toInt ∧ p1.toInt ≤ 7 → 1 ≤ p2.toInt ∧ p2.toInt ≤ 5 → 0 ≤ p3.toInt ∧ p3.toInt ≤ 2 → (-1) ≤ b4.toInt ∧ b4.toInt ≤ 255 → 0 ≤ b6.toInt ∧ b6.toInt ≤ 256 → ((0) * 2 + 0) * 257 + (256 - b6.toInt) < (n : Int) → z_ev (d + 4) 272 43 [some (.ref 19), some (.int p1), some (.int p2), some (.int p3), some (.int b4), some (.int b5), some (.int b6), o7] [] M K) := by
  intro n
  induction n with
  | zero => exact by intros; exfalso; omega
  | succ n ih =>
    intro M b4 b5 b6 o7 X hh0 hh1 hh2 hh3 hh4 hE
    refine z_xP zt272 18 47 [some (.ref 19), some (.int p1), some (.int p2), some (.int p3), some (.int b4), some (.int b5), some (.int b6), o7] [.ref 19, .int 1, .int b6] rfl rfl ?_
    have f19 : T[19]? = some (.inl (12, 0, 0, 0, 0)) := X.1.k rfl (by decide)
    refine z_xgX (b := 25) zt272 19 rfl zo272 zzf12_25 X f19 (by decide) (by decide) rfl ?_
    refine z_xP zt272 20 51 [some (.ref 19), some (.int p1), some (.int p2), some (.int p3), some (.int b4), some (.int b5), some (.int b6), o7] [.int p1, .ref 25, .int 1, .int b6] rfl rfl ?_
    have f25 : T[25]? = some (.inr (25, 0, 8, 0, 8)) := X.1.k rfl (by decide)
    refine z_xil zt272 21 rfl X f25 (by decide) (by omega) (by omega) (fun (x1 : Int32) h2 (h3 : 0 ≤ x1.toInt) (h4 : x1.toInt ≤ 8) => ?_)
    refine z_xI zt272 22 rfl rfl (fun (x5 : Int32) (h6 : 1 ≤ x5.toInt ∧ x5.toInt ≤ 256) => ?_) (z_pShlB (a := 1) (b := 8) (c := 256) (r := 256) rfl rfl (by omega) (by omega) (by omega) (by omega) (by decide) (by decide) (by decide) (by decide))
    refine z_xJ zt272 23 rfl rfl (fun (h7 : x5.toInt ≤ b6.toInt) => ?_) (fun (h7 : b6.toInt < x5.toInt) => ?_)
    · skip
      refine z_xP zt272 61 160 [some (.ref 19), some (.int p1), some (.int p2), some (.int p3), some (.int b4), some (.int b5), some (.int b6), o7] [.int b4] rfl rfl ?_
      refine z_xZ zt272 62 rfl rfl (fun (h8 : 0 ≤ b4.toInt) => ?_) (fun (h8 : b4.toInt < 0) => ?_)
      · skip
        refine z_xP zt272 64 169 [some (.ref 19), some (.int p1), some (.int p2), some (.int p3), some (.int b4), some (.int b5), some (.int b6), o7] [.int p3] rfl rfl ?_
        refine z_xZ zt272 65 rfl rfl (fun (h9 : p3.toInt ≠ 0) => ?_) (fun (h9 : p3.toInt = 0) => ?_)
        · skip
          refine z_xP zt272 69 182 [some (.ref 19), some (.int p1), some (.int p2), some (.int p3), some (.int b4), some (.int b5), some (.int b6), o7] [.int 1, .int p3] rfl rfl ?_
          refine z_xJ zt272 70 rfl rfl (fun (h10 : p3.toInt ≠ 1) => ?_) (fun (h10 : p3.toInt = 1) => ?_)
          · skip
            refine z_xP zt272 72 192 [some (.ref 19), some (.int p1), some (.int p2), some (.int p3), some (.int b4), some (.int b5), some (.int b6), o7] [.int b5] rfl rfl ?_
            exact z_xri zt272 73 rfl zzr272 (kk b5 M X)
          refine z_xP zt272 71 192 [some (.ref 19), some (.int p1), some (.int p2), some (.int p3), some (.int b4), some (.int b5), some (.int b6), o7] [.int b4] rfl rfl ?_
          exact z_xri zt272 73 rfl zzr272 (kk b4 M X)
        refine z_xP zt272 66 174 [some (.ref 19), some (.int p1), some (.int p2), some (.int p3), some (.int b4), some (.int b5), some (.int b6), o7] [.int b4] rfl rfl ?_
        refine z_xcS (vs := [.int b4]) (r := []) (L2 := [some (.int b4), none, none]) zt272 67 rfl zo272 zzcS12_193 (Or.inl rfl) (Nat.le_of_ble_eq_true rfl) rfl rfl (Nat.le_of_ble_eq_true rfl) zzm207 (Nat.le_of_ble_eq_true rfl) rfl ?_
        refine zC207 X.1 (fun x13 M11 X12  => ?_)
        have X14 := X.go X12 (z_sb (by decide))
        show z_ev (d + 4) 272 177 [some (.ref 19), some (.int p1), some (.int p2), some (.int p3), some (.int b4), some (.int b5), some (.int b6), o7] [.int x13] M11 _
        refine z_xP zt272 68 192 [some (.ref 19), some (.int p1), some (.int p2), some (.int p3), some (.int b4), some (.int b5), some (.int b6), o7] [.int x13] rfl rfl ?_
        exact z_xri zt272 73 rfl zzr272 (kk x13 M11 X14)
      refine z_xP zt272 63 192 [some (.ref 19), some (.int p1), some (.int p2), some (.int p3), some (.int b4), some (.int b5), some (.int b6), o7] [.int (-2)] rfl rfl ?_
      have qm2 : (((-2) : Int32)).toInt = (-2) := rfl
      exact z_xri zt272 73 rfl zzr272 (kk (-2) M X)
    refine z_xP zt272 24 58 [some (.ref 19), some (.int p1), some (.int p2), some (.int p3), some (.int b4), some (.int b5), some (.int b6), o7] [.int b4] rfl rfl ?_
    refine z_xZ zt272 25 rfl rfl (fun (h16 : b4.toInt < 0) => ?_) (fun (h16 : 0 ≤ b4.toInt) => ?_)
    · skip
      refine z_xP zt272 31 79 [some (.ref 19), some (.int p1), some (.int p2), some (.int p3), some (.int b4), some (.int b5), some (.int b6), o7] [.int 1] rfl rfl ?_
      refine z_xP zt272 33 83 [some (.ref 19), some (.int p1), some (.int p2), some (.int p3), some (.int b4), some (.int b5), some (.int b6), some (.int 1)] [.int 1] rfl rfl ?_
      refine z_xZ zt272 34 rfl rfl (fun (h17 : (1 : Int) = 0) => absurd h17 (by omega)) (fun (h17 : (1 : Int) ≠ 0) => ?_)
      refine z_xP zt272 35 91 [some (.ref 19), some (.int p1), some (.int p2), some (.int p3), some (.int b4), some (.int b5), some (.int b6), some (.int 1)] [.int b6, .int p2, .int p1, .ref 19] rfl rfl ?_
      refine z_xcV (vs := [.ref 19, .int p1, .int p2, .int b6]) (r := []) (L2 := [some (.ref 19), some (.int p1), some (.int p2), some (.int b6), none, none, none, none, none, none]) zt272 36 rfl zo272 zzcV12_368 (Or.inl rfl) rfl X f19 rfl rfl rfl (Nat.le_of_ble_eq_true rfl) zzm273 (Nat.le_of_ble_eq_true rfl) rfl ?_
      refine zC273 X.1 (by omega) (by omega) (by omega) (fun x20 M18 X19 h21 h22 => ?_)
      have X23 := X.go X19 (z_sb (by decide))
      show z_ev (d + 4) 272 94 [some (.ref 19), some (.int p1), some (.int p2), some (.int p3), some (.int b4), some (.int b5), some (.int b6), some (.int 1)] [.int x20] M18 _
      refine z_xZ zt272 37 rfl rfl (fun (h25 : x20.toInt = 0) => ?_) (fun (h25 : x20.toInt ≠ 0) => ?_)
      · skip
        refine z_xN zt272 59 rfl rfl (fun (x26 : Int32) (h27 : x26.toInt = b6.toInt + 1) => ?_) (z_pAdd rfl rfl (by omega) (by omega))
        show z_ev (d + 4) 272 155 [some (.ref 19), some (.int p1), some (.int p2), some (.int p3), some (.int b4), some (.int b5), some (.int x26), some (.int 1)] [] M18 _
        refine z_xP zt272 60 43 [some (.ref 19), some (.int p1), some (.int p2), some (.int p3), some (.int b4), some (.int b5), some (.int x26), some (.int 1)] [] rfl rfl ?_
        have q1 : ((1 : Int32)).toInt = 1 := rfl
        exact ih M18 b4 b5 x26 (some (.int 1)) X23 ⟨by omega, by omega⟩ ⟨by omega, by omega⟩ ⟨by omega, by omega⟩ ⟨by omega, by omega⟩ ⟨by omega, by omega⟩ (by omega)
      refine z_xP zt272 38 99 [some (.ref 19), some (.int p1), some (.int p2), some (.int p3), some (.int b4), some (.int b5), some (.int b6), some (.int 1)] [.int b4] rfl rfl ?_
      refine z_xZ zt272 39 rfl rfl (fun (h28 : b4.toInt < 0) => ?_) (fun (h28 : 0 ≤ b4.toInt) => absurd h28 (by omega))
      refine z_xP zt272 48 123 [some (.ref 19), some (.int p1), some (.int p2), some (.int p3), some (.int b4), some (.int b5), some (.int b6), some (.int 1)] [.int 1] rfl rfl ?_
      refine z_xP zt272 49 127 [some (.ref 19), some (.int p1), some (.int p2), some (.int p3), some (.int b4), some (.int 1), some (.int b6), some (.int 1)] [.int b4] rfl rfl ?_
      refine z_xZ zt272 50 rfl rfl (fun (h29 : b4.toInt < 0) => ?_) (fun (h29 : 0 ≤ b4.toInt) => absurd h29 (by omega))
      refine z_xP zt272 56 150 [some (.ref 19), some (.int p1), some (.int p2), some (.int p3), some (.int b4), some (.int 1), some (.int b6), some (.int 1)] [.int b6] rfl rfl ?_
      refine z_xP zt272 58 152 [some (.ref 19), some (.int p1), some (.int p2), some (.int p3), some (.int b6), some (.int 1), some (.int b6), some (.int 1)] [] rfl rfl ?_
      refine z_xN zt272 59 rfl rfl (fun (x30 : Int32) (h31 : x30.toInt = b6.toInt + 1) => ?_) (z_pAdd rfl rfl (by omega) (by omega))
      show z_ev (d + 4) 272 155 [some (.ref 19), some (.int p1), some (.int p2), some (.int p3), some (.int b6), some (.int 1), some (.int x30), some (.int 1)] [] M18 _
      refine z_xP zt272 60 43 [some (.ref 19), some (.int p1), some (.int p2), some (.int p3), some (.int b6), some (.int 1), some (.int x30), some (.int 1)] [] rfl rfl ?_
      have q1 : ((1 : Int32)).toInt = 1 := rfl
      exact ih M18 b6 (1) x30 (some (.int 1)) X23 ⟨by omega, by omega⟩ ⟨by omega, by omega⟩ ⟨by omega, by omega⟩ ⟨by omega, by omega⟩ ⟨by omega, by omega⟩ (by omega)
    refine z_xP zt272 26 63 [some (.ref 19), some (.int p1), some (.int p2), some (.int p3), some (.int b4), some (.int b5), some (.int b6), o7] [.int b6] rfl rfl ?_
    refine z_xcS (vs := [.int b6]) (r := []) (L2 := [some (.int b6), none, none]) zt272 27 rfl zo272 zzcS12_193 (Or.inl rfl) (Nat.le_of_ble_eq_true rfl) rfl rfl (Nat.le_of_ble_eq_true rfl) zzm207 (Nat.le_of_ble_eq_true rfl) rfl ?_
    refine zC207 X.1 (fun x34 M32 X33  => ?_)
    have X35 := X.go X33 (z_sb (by decide))
    show z_ev (d + 4) 272 66 [some (.ref 19), some (.int p1), some (.int p2), some (.int p3), some (.int b4), some (.int b5), some (.int b6), o7] [.int x34] M32 _
    refine z_xP zt272 28 68 [some (.ref 19), some (.int p1), some (.int p2), some (.int p3), some (.int b4), some (.int b5), some (.int b6), o7] [.int b4, .int x34] rfl rfl ?_
    refine z_xcS (vs := [.int b4]) (r := [.int x34]) (L2 := [some (.int b4), none, none]) zt272 29 rfl zo272 zzcS12_193 (Or.inl rfl) (Nat.le_of_ble_eq_true rfl) rfl rfl (Nat.le_of_ble_eq_true rfl) zzm207 (Nat.le_of_ble_eq_true rfl) rfl ?_
    refine zC207 X35.1 (fun x39 M37 X38  => ?_)
    have X40 := X35.go X38 (z_sb (by decide))
    show z_ev (d + 4) 272 71 [some (.ref 19), some (.int p1), some (.int p2), some (.int p3), some (.int b4), some (.int b5), some (.int b6), o7] [.int x39, .int x34] M37 _
    have h42 := z_b32 x34
    have h43 := z_b32 x39
    refine z_xJ zt272 30 rfl rfl (fun (h44 : x39.toInt < x34.toInt) => ?_) (fun (h44 : x34.toInt ≤ x39.toInt) => ?_)
    · skip
      refine z_xP zt272 32 79 [some (.ref 19), some (.int p1), some (.int p2), some (.int p3), some (.int b4), some (.int b5), some (.int b6), o7] [.int 0] rfl rfl ?_
      refine z_xP zt272 33 83 [some (.ref 19), some (.int p1), some (.int p2), some (.int p3), some (.int b4), some (.int b5), some (.int b6), some (.int 0)] [.int 0] rfl rfl ?_
      refine z_xZ zt272 34 rfl rfl (fun (h45 : (0 : Int) = 0) => ?_) (fun (h45 : (0 : Int) ≠ 0) => absurd h45 (by omega))
      refine z_xN zt272 59 rfl rfl (fun (x46 : Int32) (h47 : x46.toInt = b6.toInt + 1) => ?_) (z_pAdd rfl rfl (by omega) (by omega))
      show z_ev (d + 4) 272 155 [some (.ref 19), some (.int p1), some (.int p2), some (.int p3), some (.int b4), some (.int b5), some (.int x46), some (.int 0)] [] M37 _
      refine z_xP zt272 60 43 [some (.ref 19), some (.int p1), some (.int p2), some (.int p3), some (.int b4), some (.int b5), some (.int x46), some (.int 0)] [] rfl rfl ?_
      have q0 : ((0 : Int32)).toInt = 0 := rfl
      exact ih M37 b4 b5 x46 (some (.int 0)) X40 ⟨by omega, by omega⟩ ⟨by omega, by omega⟩ ⟨by omega, by omega⟩ ⟨by omega, by omega⟩ ⟨by omega, by omega⟩ (by omega)
    refine z_xP zt272 31 79 [some (.ref 19), some (.int p1), some (.int p2), some (.int p3), some (.int b4), some (.int b5), some (.int b6), o7] [.int 1] rfl rfl ?_
    refine z_xP zt272 33 83 [some (.ref 19), some (.int p1), some (.int p2), some (.int p3), some (.int b4), some (.int b5), some (.int b6), some (.int 1)] [.int 1] rfl rfl ?_
    refine z_xZ zt272 34 rfl rfl (fun (h48 : (1 : Int) = 0) => absurd h48 (by omega)) (fun (h48 : (1 : Int) ≠ 0) => ?_)
    refine z_xP zt272 35 91 [some (.ref 19), some (.int p1), some (.int p2), some (.int p3), some (.int b4), some (.int b5), some (.int b6), some (.int 1)] [.int b6, .int p2, .int p1, .ref 19] rfl rfl ?_
    refine z_xcV (vs := [.ref 19, .int p1, .int p2, .int b6]) (r := []) (L2 := [some (.ref 19), some (.int p1), some (.int p2), some (.int b6), none, none, none, none, none, none]) zt272 36 rfl zo272 zzcV12_368 (Or.inl rfl) rfl X40 f19 rfl rfl rfl (Nat.le_of_ble_eq_true rfl) zzm273 (Nat.le_of_ble_eq_true rfl) rfl ?_
    refine zC273 X40.1 (by omega) (by omega) (by omega) (fun x51 M49 X50 h52 h53 => ?_)
    have X54 := X40.go X50 (z_sb (by decide))
    show z_ev (d + 4) 272 94 [some (.ref 19), some (.int p1), some (.int p2), some (.int p3), some (.int b4), some (.int b5), some (.int b6), some (.int 1)] [.int x51] M49 _
    refine z_xZ zt272 37 rfl rfl (fun (h56 : x51.toInt = 0) => ?_) (fun (h56 : x51.toInt ≠ 0) => ?_)
    · skip
      refine z_xN zt272 59 rfl rfl (fun (x57 : Int32) (h58 : x57.toInt = b6.toInt + 1) => ?_) (z_pAdd rfl rfl (by omega) (by omega))
      show z_ev (d + 4) 272 155 [some (.ref 19), some (.int p1), some (.int p2), some (.int p3), some (.int b4), some (.int b5), some (.int x57), some (.int 1)] [] M49 _
      refine z_xP zt272 60 43 [some (.ref 19), some (.int p1), some (.int p2), some (.int p3), some (.int b4), some (.int b5), some (.int x57), some (.int 1)] [] rfl rfl ?_
      have q1 : ((1 : Int32)).toInt = 1 := rfl
      exact ih M49 b4 b5 x57 (some (.int 1)) X54 ⟨by omega, by omega⟩ ⟨by omega, by omega⟩ ⟨by omega, by omega⟩ ⟨by omega, by omega⟩ ⟨by omega, by omega⟩ (by omega)
    refine z_xP zt272 38 99 [some (.ref 19), some (.int p1), some (.int p2), some (.int p3), some (.int b4), some (.int b5), some (.int b6), some (.int 1)] [.int b4] rfl rfl ?_
    refine z_xZ zt272 39 rfl rfl (fun (h59 : b4.toInt < 0) => absurd h59 (by omega)) (fun (h59 : 0 ≤ b4.toInt) => ?_)
    refine z_xP zt272 40 104 [some (.ref 19), some (.int p1), some (.int p2), some (.int p3), some (.int b4), some (.int b5), some (.int b6), some (.int 1)] [.int b6] rfl rfl ?_
    refine z_xcS (vs := [.int b6]) (r := []) (L2 := [some (.int b6), none, none]) zt272 41 rfl zo272 zzcS12_193 (Or.inl rfl) (Nat.le_of_ble_eq_true rfl) rfl rfl (Nat.le_of_ble_eq_true rfl) zzm207 (Nat.le_of_ble_eq_true rfl) rfl ?_
    refine zC207 X54.1 (fun x62 M60 X61  => ?_)
    have X63 := X54.go X61 (z_sb (by decide))
    show z_ev (d + 4) 272 107 [some (.ref 19), some (.int p1), some (.int p2), some (.int p3), some (.int b4), some (.int b5), some (.int b6), some (.int 1)] [.int x62] M60 _
    refine z_xP zt272 42 109 [some (.ref 19), some (.int p1), some (.int p2), some (.int p3), some (.int b4), some (.int b5), some (.int b6), some (.int 1)] [.int b4, .int x62] rfl rfl ?_
    refine z_xcS (vs := [.int b4]) (r := [.int x62]) (L2 := [some (.int b4), none, none]) zt272 43 rfl zo272 zzcS12_193 (Or.inl rfl) (Nat.le_of_ble_eq_true rfl) rfl rfl (Nat.le_of_ble_eq_true rfl) zzm207 (Nat.le_of_ble_eq_true rfl) rfl ?_
    refine zC207 X63.1 (fun x67 M65 X66  => ?_)
    have X68 := X63.go X66 (z_sb (by decide))
    show z_ev (d + 4) 272 112 [some (.ref 19), some (.int p1), some (.int p2), some (.int p3), some (.int b4), some (.int b5), some (.int b6), some (.int 1)] [.int x67, .int x62] M65 _
    have h70 := z_b32 x62
    have h71 := z_b32 x67
    refine z_xJ zt272 44 rfl rfl (fun (h72 : x62.toInt ≠ x67.toInt) => ?_) (fun (h72 : x62.toInt = x67.toInt) => ?_)
    · skip
      refine z_xP zt272 48 123 [some (.ref 19), some (.int p1), some (.int p2), some (.int p3), some (.int b4), some (.int b5), some (.int b6), some (.int 1)] [.int 1] rfl rfl ?_
      refine z_xP zt272 49 127 [some (.ref 19), some (.int p1), some (.int p2), some (.int p3), some (.int b4), some (.int 1), some (.int b6), some (.int 1)] [.int b4] rfl rfl ?_
      refine z_xZ zt272 50 rfl rfl (fun (h73 : b4.toInt < 0) => absurd h73 (by omega)) (fun (h73 : 0 ≤ b4.toInt) => ?_)
      refine z_xP zt272 51 132 [some (.ref 19), some (.int p1), some (.int p2), some (.int p3), some (.int b4), some (.int 1), some (.int b6), some (.int 1)] [.int b6] rfl rfl ?_
      refine z_xcS (vs := [.int b6]) (r := []) (L2 := [some (.int b6), none, none]) zt272 52 rfl zo272 zzcS12_193 (Or.inl rfl) (Nat.le_of_ble_eq_true rfl) rfl rfl (Nat.le_of_ble_eq_true rfl) zzm207 (Nat.le_of_ble_eq_true rfl) rfl ?_
      refine zC207 X68.1 (fun x76 M74 X75  => ?_)
      have X77 := X68.go X75 (z_sb (by decide))
      show z_ev (d + 4) 272 135 [some (.ref 19), some (.int p1), some (.int p2), some (.int p3), some (.int b4), some (.int 1), some (.int b6), some (.int 1)] [.int x76] M74 _
      refine z_xP zt272 53 137 [some (.ref 19), some (.int p1), some (.int p2), some (.int p3), some (.int b4), some (.int 1), some (.int b6), some (.int 1)] [.int b4, .int x76] rfl rfl ?_
      refine z_xcS (vs := [.int b4]) (r := [.int x76]) (L2 := [some (.int b4), none, none]) zt272 54 rfl zo272 zzcS12_193 (Or.inl rfl) (Nat.le_of_ble_eq_true rfl) rfl rfl (Nat.le_of_ble_eq_true rfl) zzm207 (Nat.le_of_ble_eq_true rfl) rfl ?_
      refine zC207 X77.1 (fun x81 M79 X80  => ?_)
      have X82 := X77.go X80 (z_sb (by decide))
      show z_ev (d + 4) 272 140 [some (.ref 19), some (.int p1), some (.int p2), some (.int p3), some (.int b4), some (.int 1), some (.int b6), some (.int 1)] [.int x81, .int x76] M79 _
      have h84 := z_b32 x76
      have h85 := z_b32 x81
      refine z_xJ zt272 55 rfl rfl (fun (h86 : x81.toInt ≤ x76.toInt) => ?_) (fun (h86 : x76.toInt < x81.toInt) => ?_)
      · skip
        refine z_xP zt272 57 150 [some (.ref 19), some (.int p1), some (.int p2), some (.int p3), some (.int b4), some (.int 1), some (.int b6), some (.int 1)] [.int b4] rfl rfl ?_
        refine z_xP zt272 58 152 [some (.ref 19), some (.int p1), some (.int p2), some (.int p3), some (.int b4), some (.int 1), some (.int b6), some (.int 1)] [] rfl rfl ?_
        refine z_xN zt272 59 rfl rfl (fun (x87 : Int32) (h88 : x87.toInt = b6.toInt + 1) => ?_) (z_pAdd rfl rfl (by omega) (by omega))
        show z_ev (d + 4) 272 155 [some (.ref 19), some (.int p1), some (.int p2), some (.int p3), some (.int b4), some (.int 1), some (.int x87), some (.int 1)] [] M79 _
        refine z_xP zt272 60 43 [some (.ref 19), some (.int p1), some (.int p2), some (.int p3), some (.int b4), some (.int 1), some (.int x87), some (.int 1)] [] rfl rfl ?_
        have q1 : ((1 : Int32)).toInt = 1 := rfl
        exact ih M79 b4 (1) x87 (some (.int 1)) X82 ⟨by omega, by omega⟩ ⟨by omega, by omega⟩ ⟨by omega, by omega⟩ ⟨by omega, by omega⟩ ⟨by omega, by omega⟩ (by omega)
      refine z_xP zt272 56 150 [some (.ref 19), some (.int p1), some (.int p2), some (.int p3), some (.int b4), some (.int 1), some (.int b6), some (.int 1)] [.int b6] rfl rfl ?_
      refine z_xP zt272 58 152 [some (.ref 19), some (.int p1), some (.int p2), some (.int p3), some (.int b6), some (.int 1), some (.int b6), some (.int 1)] [] rfl rfl ?_
      refine z_xN zt272 59 rfl rfl (fun (x89 : Int32) (h90 : x89.toInt = b6.toInt + 1) => ?_) (z_pAdd rfl rfl (by omega) (by omega))
      show z_ev (d + 4) 272 155 [some (.ref 19), some (.int p1), some (.int p2), some (.int p3), some (.int b6), some (.int 1), some (.int x89), some (.int 1)] [] M79 _
      refine z_xP zt272 60 43 [some (.ref 19), some (.int p1), some (.int p2), some (.int p3), some (.int b6), some (.int 1), some (.int x89), some (.int 1)] [] rfl rfl ?_
      have q1 : ((1 : Int32)).toInt = 1 := rfl
      exact ih M79 b6 (1) x89 (some (.int 1)) X82 ⟨by omega, by omega⟩ ⟨by omega, by omega⟩ ⟨by omega, by omega⟩ ⟨by omega, by omega⟩ ⟨by omega, by omega⟩ (by omega)
    refine z_xP zt272 45 118 [some (.ref 19), some (.int p1), some (.int p2), some (.int p3), some (.int b4), some (.int b5), some (.int b6), some (.int 1)] [.int 1, .int b5] rfl rfl ?_
    have h91 := z_b32 b5
    refine z_xI zt272 46 rfl rfl (P := fun _ => True) (fun (x92 : Int32) _ => ?_) trivial
    refine z_xP zt272 47 123 [some (.ref 19), some (.int p1), some (.int p2), some (.int p3), some (.int b4), some (.int b5), some (.int b6), some (.int 1)] [.int x92] rfl rfl ?_
    refine z_xP zt272 49 127 [some (.ref 19), some (.int p1), some (.int p2), some (.int p3), some (.int b4), some (.int x92), some (.int b6), some (.int 1)] [.int b4] rfl rfl ?_
    refine z_xZ zt272 50 rfl rfl (fun (h94 : b4.toInt < 0) => absurd h94 (by omega)) (fun (h94 : 0 ≤ b4.toInt) => ?_)
    refine z_xP zt272 51 132 [some (.ref 19), some (.int p1), some (.int p2), some (.int p3), some (.int b4), some (.int x92), some (.int b6), some (.int 1)] [.int b6] rfl rfl ?_
    refine z_xcS (vs := [.int b6]) (r := []) (L2 := [some (.int b6), none, none]) zt272 52 rfl zo272 zzcS12_193 (Or.inl rfl) (Nat.le_of_ble_eq_true rfl) rfl rfl (Nat.le_of_ble_eq_true rfl) zzm207 (Nat.le_of_ble_eq_true rfl) rfl ?_
    refine zC207 X68.1 (fun x97 M95 X96  => ?_)
    have X98 := X68.go X96 (z_sb (by decide))
    show z_ev (d + 4) 272 135 [some (.ref 19), some (.int p1), some (.int p2), some (.int p3), some (.int b4), some (.int x92), some (.int b6), some (.int 1)] [.int x97] M95 _
    refine z_xP zt272 53 137 [some (.ref 19), some (.int p1), some (.int p2), some (.int p3), some (.int b4), some (.int x92), some (.int b6), some (.int 1)] [.int b4, .int x97] rfl rfl ?_
    refine z_xcS (vs := [.int b4]) (r := [.int x97]) (L2 := [some (.int b4), none, none]) zt272 54 rfl zo272 zzcS12_193 (Or.inl rfl) (Nat.le_of_ble_eq_true rfl) rfl rfl (Nat.le_of_ble_eq_true rfl) zzm207 (Nat.le_of_ble_eq_true rfl) rfl ?_
    refine zC207 X98.1 (fun x102 M100 X101  => ?_)
    have X103 := X98.go X101 (z_sb (by decide))
    show z_ev (d + 4) 272 140 [some (.ref 19), some (.int p1), some (.int p2), some (.int p3), some (.int b4), some (.int x92), some (.int b6), some (.int 1)] [.int x102, .int x97] M100 _
    have h105 := z_b32 x97
    have h106 := z_b32 x102
    refine z_xJ zt272 55 rfl rfl (fun (h107 : x102.toInt ≤ x97.toInt) => ?_) (fun (h107 : x97.toInt < x102.toInt) => ?_)
    · skip
      refine z_xP zt272 57 150 [some (.ref 19), some (.int p1), some (.int p2), some (.int p3), some (.int b4), some (.int x92), some (.int b6), some (.int 1)] [.int b4] rfl rfl ?_
      refine z_xP zt272 58 152 [some (.ref 19), some (.int p1), some (.int p2), some (.int p3), some (.int b4), some (.int x92), some (.int b6), some (.int 1)] [] rfl rfl ?_
      refine z_xN zt272 59 rfl rfl (fun (x108 : Int32) (h109 : x108.toInt = b6.toInt + 1) => ?_) (z_pAdd rfl rfl (by omega) (by omega))
      show z_ev (d + 4) 272 155 [some (.ref 19), some (.int p1), some (.int p2), some (.int p3), some (.int b4), some (.int x92), some (.int x108), some (.int 1)] [] M100 _
      refine z_xP zt272 60 43 [some (.ref 19), some (.int p1), some (.int p2), some (.int p3), some (.int b4), some (.int x92), some (.int x108), some (.int 1)] [] rfl rfl ?_
      have q1 : ((1 : Int32)).toInt = 1 := rfl
      exact ih M100 b4 x92 x108 (some (.int 1)) X103 ⟨by omega, by omega⟩ ⟨by omega, by omega⟩ ⟨by omega, by omega⟩ ⟨by omega, by omega⟩ ⟨by omega, by omega⟩ (by omega)
    refine z_xP zt272 56 150 [some (.ref 19), some (.int p1), some (.int p2), some (.int p3), some (.int b4), some (.int x92), some (.int b6), some (.int 1)] [.int b6] rfl rfl ?_
    refine z_xP zt272 58 152 [some (.ref 19), some (.int p1), some (.int p2), some (.int p3), some (.int b6), some (.int x92), some (.int b6), some (.int 1)] [] rfl rfl ?_
    refine z_xN zt272 59 rfl rfl (fun (x110 : Int32) (h111 : x110.toInt = b6.toInt + 1) => ?_) (z_pAdd rfl rfl (by omega) (by omega))
    show z_ev (d + 4) 272 155 [some (.ref 19), some (.int p1), some (.int p2), some (.int p3), some (.int b6), some (.int x92), some (.int x110), some (.int 1)] [] M100 _
    refine z_xP zt272 60 43 [some (.ref 19), some (.int p1), some (.int p2), some (.int p3), some (.int b6), some (.int x92), some (.int x110), some (.int 1)] [] rfl rfl ?_
    have q1 : ((1 : Int32)).toInt = 1 := rfl
    exact ih M100 b6 x92 x110 (some (.int 1)) X103 ⟨by omega, by omega⟩ ⟨by omega, by omega⟩ ⟨by omega, by omega⟩ ⟨by omega, by omega⟩ ⟨by omega, by omega⟩ (by omega)
theorem zC272 {T : List zK} {d : Nat} {K : Option Value → zH → Prop} {p1 : Int32} {p2 : Int32} {p3 : Int32} {M0 : zH} (hW : z_W M0 T)  (kk : ∀ (x : Int32) (M1 : zH), z_X T zw272 M0 M1 → K (some (.int x)) M1) : z_ev (d + 4) 272 0 [some (.ref 19), some (.int p1), some (.int p2), some (.int p3), none, none, none, none] [] M0 K := by
  have X : z_X T zw272 M0 M0 := .refl hW
  refine z_xP zt272 0 2 [some (.ref 19), some (.int p1), some (.int p2), some (.int p3), none, none, none, none] [.int p1, .ref 19] rfl rfl ?_
  have f19 : T[19]? = some (.inl (12, 0, 0, 0, 0)) := X.1.k rfl (by decide)
  refine z_xcV (vs := [.ref 19, .int p1]) (r := []) (L2 := [some (.ref 19), some (.int p1)]) zt272 1 rfl zo272 zzcV12_209 (Or.inl rfl) rfl X f19 rfl rfl rfl (Nat.le_of_ble_eq_true rfl) zzm209 (Nat.le_of_ble_eq_true rfl) rfl ?_
  refine z_xP zt209 0 1 [some (.ref 19), some (.int p1)] [.int p1] rfl rfl ?_
  refine z_xZ zt209 1 rfl rfl (fun (h1 : p1.toInt < 0) => ?_) (fun (h1 : 0 ≤ p1.toInt) => ?_)
  · skip
    refine z_xP zt209 6 17 [some (.ref 19), some (.int p1)] [.int 0] rfl rfl ?_
    refine z_xrz zt209 7 rfl zzr209 (by decide) (by decide) ?_
    show z_ev (d + 4) 272 5 [some (.ref 19), some (.int p1), some (.int p2), some (.int p3), none, none, none, none] [.int 0] M0 _
    refine z_xZ zt272 2 rfl rfl (fun (h2 : (0 : Int) = 0) => ?_) (fun (h2 : (0 : Int) ≠ 0) => absurd h2 (by omega))
    refine z_xP zt272 15 33 [some (.ref 19), some (.int p1), some (.int p2), some (.int p3), none, none, none, none] [.int (-1)] rfl rfl ?_
    have qm1 : (((-1) : Int32)).toInt = (-1) := rfl
    exact z_xri zt272 16 rfl zzr272 (kk (-1) M0 X)
  refine z_xP zt209 2 6 [some (.ref 19), some (.int p1)] [.ref 19, .int p1] rfl rfl ?_
  refine z_xgI zt209 3 rfl zo209 zzf12_110 X f19 (by decide) (by decide) rfl (fun (x4 : Int32) h3 (h5 : 0 ≤ x4.toInt) (h6 : x4.toInt ≤ 8) => ?_)
  have h7 := z_b32 p1
  refine z_xJ zt209 4 rfl rfl (fun (h8 : x4.toInt ≤ p1.toInt) => ?_) (fun (h8 : p1.toInt < x4.toInt) => ?_)
  · skip
    refine z_xP zt209 6 17 [some (.ref 19), some (.int p1)] [.int 0] rfl rfl ?_
    refine z_xrz zt209 7 rfl zzr209 (by decide) (by decide) ?_
    show z_ev (d + 4) 272 5 [some (.ref 19), some (.int p1), some (.int p2), some (.int p3), none, none, none, none] [.int 0] M0 _
    refine z_xZ zt272 2 rfl rfl (fun (h9 : (0 : Int) = 0) => ?_) (fun (h9 : (0 : Int) ≠ 0) => absurd h9 (by omega))
    refine z_xP zt272 15 33 [some (.ref 19), some (.int p1), some (.int p2), some (.int p3), none, none, none, none] [.int (-1)] rfl rfl ?_
    have qm1 : (((-1) : Int32)).toInt = (-1) := rfl
    exact z_xri zt272 16 rfl zzr272 (kk (-1) M0 X)
  refine z_xP zt209 5 17 [some (.ref 19), some (.int p1)] [.int 1] rfl rfl ?_
  refine z_xrz zt209 7 rfl zzr209 (by decide) (by decide) ?_
  show z_ev (d + 4) 272 5 [some (.ref 19), some (.int p1), some (.int p2), some (.int p3), none, none, none, none] [.int 1] M0 _
  refine z_xZ zt272 2 rfl rfl (fun (h10 : (1 : Int) = 0) => absurd h10 (by omega)) (fun (h10 : (1 : Int) ≠ 0) => ?_)
  refine z_xP zt272 3 9 [some (.ref 19), some (.int p1), some (.int p2), some (.int p3), none, none, none, none] [.int p2] rfl rfl ?_
  have h11 := z_b32 p2
  refine z_xL zt272 4 rfl rfl (fun (y12 : Int64) (h13 : y12.toInt = p2.toInt) => ?_) (z_qI2L rfl)
  refine z_xP zt272 5 11 [some (.ref 19), some (.int p1), some (.int p2), some (.int p3), none, none, none, none] [.long 1, .long y12] rfl rfl ?_
  refine z_xl2 zt272 6 rfl zo272 zkl12_318 ?_
  refine z_xcS (vs := [.long y12, .long 1, .long 5]) (r := []) (L2 := [some (.long y12), none, some (.long 1), none, some (.long 5), none]) zt272 7 rfl zo272 zzcS12_116 (Or.inl rfl) (Nat.le_of_ble_eq_true rfl) rfl rfl (Nat.le_of_ble_eq_true rfl) zzm189 (Nat.le_of_ble_eq_true rfl) rfl ?_
  refine z_xP zt189 0 2 [some (.long y12), none, some (.long 1), none, some (.long 5), none] [.long 1, .long y12] rfl rfl ?_
  refine z_xI zt189 1 rfl rfl (fun (x14 : Int32) (h15 : (x14.toInt < 0 ∧ y12.toInt < 1) ∨ (x14.toInt = 0 ∧ y12.toInt = 1) ∨ (0 < x14.toInt ∧ 1 < y12.toInt)) => ?_) (z_qCmp rfl rfl)
  refine z_xZ zt189 2 rfl rfl (fun (h16 : x14.toInt < 0) => ?_) (fun (h16 : 0 ≤ x14.toInt) => ?_)
  · skip
    refine z_xP zt189 7 18 [some (.long y12), none, some (.long 1), none, some (.long 5), none] [.int 0] rfl rfl ?_
    refine z_xrz zt189 8 rfl zzr189 (by decide) (by decide) ?_
    show z_ev (d + 4) 272 17 [some (.ref 19), some (.int p1), some (.int p2), some (.int p3), none, none, none, none] [.int 0] M0 _
    refine z_xZ zt272 8 rfl rfl (fun (h17 : (0 : Int) = 0) => ?_) (fun (h17 : (0 : Int) ≠ 0) => absurd h17 (by omega))
    refine z_xP zt272 15 33 [some (.ref 19), some (.int p1), some (.int p2), some (.int p3), none, none, none, none] [.int (-1)] rfl rfl ?_
    have qm1 : (((-1) : Int32)).toInt = (-1) := rfl
    exact z_xri zt272 16 rfl zzr272 (kk (-1) M0 X)
  refine z_xP zt189 3 9 [some (.long y12), none, some (.long 1), none, some (.long 5), none] [.long 5, .long y12] rfl rfl ?_
  refine z_xI zt189 4 rfl rfl (fun (x18 : Int32) (h19 : (x18.toInt < 0 ∧ y12.toInt < 5) ∨ (x18.toInt = 0 ∧ y12.toInt = 5) ∨ (0 < x18.toInt ∧ 5 < y12.toInt)) => ?_) (z_qCmp rfl rfl)
  refine z_xZ zt189 5 rfl rfl (fun (h20 : 0 < x18.toInt) => ?_) (fun (h20 : x18.toInt ≤ 0) => ?_)
  · skip
    refine z_xP zt189 7 18 [some (.long y12), none, some (.long 1), none, some (.long 5), none] [.int 0] rfl rfl ?_
    refine z_xrz zt189 8 rfl zzr189 (by decide) (by decide) ?_
    show z_ev (d + 4) 272 17 [some (.ref 19), some (.int p1), some (.int p2), some (.int p3), none, none, none, none] [.int 0] M0 _
    refine z_xZ zt272 8 rfl rfl (fun (h21 : (0 : Int) = 0) => ?_) (fun (h21 : (0 : Int) ≠ 0) => absurd h21 (by omega))
    refine z_xP zt272 15 33 [some (.ref 19), some (.int p1), some (.int p2), some (.int p3), none, none, none, none] [.int (-1)] rfl rfl ?_
    have qm1 : (((-1) : Int32)).toInt = (-1) := rfl
    exact z_xri zt272 16 rfl zzr272 (kk (-1) M0 X)
  refine z_xP zt189 6 18 [some (.long y12), none, some (.long 1), none, some (.long 5), none] [.int 1] rfl rfl ?_
  refine z_xrz zt189 8 rfl zzr189 (by decide) (by decide) ?_
  show z_ev (d + 4) 272 17 [some (.ref 19), some (.int p1), some (.int p2), some (.int p3), none, none, none, none] [.int 1] M0 _
  refine z_xZ zt272 8 rfl rfl (fun (h22 : (1 : Int) = 0) => absurd h22 (by omega)) (fun (h22 : (1 : Int) ≠ 0) => ?_)
  refine z_xP zt272 9 21 [some (.ref 19), some (.int p1), some (.int p2), some (.int p3), none, none, none, none] [.int p3] rfl rfl ?_
  have h23 := z_b32 p3
  refine z_xL zt272 10 rfl rfl (fun (y24 : Int64) (h25 : y24.toInt = p3.toInt) => ?_) (z_qI2L rfl)
  refine z_xP zt272 11 23 [some (.ref 19), some (.int p1), some (.int p2), some (.int p3), none, none, none, none] [.long 0, .long y24] rfl rfl ?_
  refine z_xl2 zt272 12 rfl zo272 zkl12_240 ?_
  refine z_xcS (vs := [.long y24, .long 0, .long 2]) (r := []) (L2 := [some (.long y24), none, some (.long 0), none, some (.long 2), none]) zt272 13 rfl zo272 zzcS12_116 (Or.inl rfl) (Nat.le_of_ble_eq_true rfl) rfl rfl (Nat.le_of_ble_eq_true rfl) zzm189 (Nat.le_of_ble_eq_true rfl) rfl ?_
  refine z_xP zt189 0 2 [some (.long y24), none, some (.long 0), none, some (.long 2), none] [.long 0, .long y24] rfl rfl ?_
  refine z_xI zt189 1 rfl rfl (fun (x26 : Int32) (h27 : (x26.toInt < 0 ∧ y24.toInt < 0) ∨ (x26.toInt = 0 ∧ y24.toInt = 0) ∨ (0 < x26.toInt ∧ 0 < y24.toInt)) => ?_) (z_qCmp rfl rfl)
  refine z_xZ zt189 2 rfl rfl (fun (h28 : x26.toInt < 0) => ?_) (fun (h28 : 0 ≤ x26.toInt) => ?_)
  · skip
    refine z_xP zt189 7 18 [some (.long y24), none, some (.long 0), none, some (.long 2), none] [.int 0] rfl rfl ?_
    refine z_xrz zt189 8 rfl zzr189 (by decide) (by decide) ?_
    show z_ev (d + 4) 272 29 [some (.ref 19), some (.int p1), some (.int p2), some (.int p3), none, none, none, none] [.int 0] M0 _
    refine z_xZ zt272 14 rfl rfl (fun (h29 : (0 : Int) ≠ 0) => absurd h29 (by omega)) (fun (h29 : (0 : Int) = 0) => ?_)
    refine z_xP zt272 15 33 [some (.ref 19), some (.int p1), some (.int p2), some (.int p3), none, none, none, none] [.int (-1)] rfl rfl ?_
    have qm1 : (((-1) : Int32)).toInt = (-1) := rfl
    exact z_xri zt272 16 rfl zzr272 (kk (-1) M0 X)
  refine z_xP zt189 3 9 [some (.long y24), none, some (.long 0), none, some (.long 2), none] [.long 2, .long y24] rfl rfl ?_
  refine z_xI zt189 4 rfl rfl (fun (x30 : Int32) (h31 : (x30.toInt < 0 ∧ y24.toInt < 2) ∨ (x30.toInt = 0 ∧ y24.toInt = 2) ∨ (0 < x30.toInt ∧ 2 < y24.toInt)) => ?_) (z_qCmp rfl rfl)
  refine z_xZ zt189 5 rfl rfl (fun (h32 : 0 < x30.toInt) => ?_) (fun (h32 : x30.toInt ≤ 0) => ?_)
  · skip
    refine z_xP zt189 7 18 [some (.long y24), none, some (.long 0), none, some (.long 2), none] [.int 0] rfl rfl ?_
    refine z_xrz zt189 8 rfl zzr189 (by decide) (by decide) ?_
    show z_ev (d + 4) 272 29 [some (.ref 19), some (.int p1), some (.int p2), some (.int p3), none, none, none, none] [.int 0] M0 _
    refine z_xZ zt272 14 rfl rfl (fun (h33 : (0 : Int) ≠ 0) => absurd h33 (by omega)) (fun (h33 : (0 : Int) = 0) => ?_)
    refine z_xP zt272 15 33 [some (.ref 19), some (.int p1), some (.int p2), some (.int p3), none, none, none, none] [.int (-1)] rfl rfl ?_
    have qm1 : (((-1) : Int32)).toInt = (-1) := rfl
    exact z_xri zt272 16 rfl zzr272 (kk (-1) M0 X)
  refine z_xP zt189 6 18 [some (.long y24), none, some (.long 0), none, some (.long 2), none] [.int 1] rfl rfl ?_
  refine z_xrz zt189 8 rfl zzr189 (by decide) (by decide) ?_
  show z_ev (d + 4) 272 29 [some (.ref 19), some (.int p1), some (.int p2), some (.int p3), none, none, none, none] [.int 1] M0 _
  refine z_xZ zt272 14 rfl rfl (fun (h34 : (1 : Int) ≠ 0) => ?_) (fun (h34 : (1 : Int) = 0) => absurd h34 (by omega))
  refine z_xP zt272 17 43 [some (.ref 19), some (.int p1), some (.int p2), some (.int p3), some (.int (-1)), some (.int 0), some (.int 0), none] [] rfl rfl ?_
  have qm1 : (((-1) : Int32)).toInt = (-1) := rfl
  have q0 : ((0 : Int32)).toInt = 0 := rfl
  exact (zB272 kk 514) M0 ((-1)) (0) (0) none X ⟨by omega, by omega⟩ ⟨by omega, by omega⟩ ⟨by omega, by omega⟩ (by decide) (by decide) (by omega)
def zw275 : List Nat := [42, 2234, 2235, 2244, 2245]
def zQ275 (T : List zK) (N : Nat) : Prop := ∀ {d : Nat} {K : Option Value → zH → Prop} {p1 : Int32} {p2 : Int32} {p3 : Int32} {p4 : Int32} {zp0 : Int32} {zl0 : Int32}  {M0 : zH} (hW : z_W M0 T) (u1 : 0 ≤ p1.toInt ∧ p1.toInt ≤ 6) (u2 : 0 ≤ p2.toInt ∧ p2.toInt ≤ 63) (u4 : 0 ≤ p4.toInt ∧ p4.toInt ≤ 9) (hz0 : z_F M0 19 29 = some (.int zp0)) (bz0 : 0 ≤ zp0.toInt ∧ zp0.toInt ≤ 7) (hl0 : z_Ar M0 24 zp0.toNatClampNeg = zl0) (bl0 : 0 ≤ zl0.toInt ∧ zl0.toInt ≤ 6) (hpc : p1.toInt + z_pcn p2.toInt ≤ 6 ∧ 0 ≤ z_pcn p2.toInt) (hm : p2.toInt < (N : Int)) (hd : p2.toInt ≤ (d : Int)) (kk : ∀ (M1 : zH), z_X T zw275 M0 M1 → ∀ (w0 : Int32), z_F M1 19 29 = some (.int w0) → 0 ≤ w0.toInt ∧ w0.toInt ≤ 7 → w0.toInt = zp0.toInt → K none M1), z_ev (d + 12) 275 0 [some (.ref 19), some (.int p1), some (.int p2), some (.int p3), some (.int p4), none] [] M0 K
theorem zB275 {T : List zK} {d : Nat} {K : Option Value → zH → Prop} {p1 : Int32} {p2 : Int32} {p3 : Int32} {p4 : Int32} {zp0 : Int32} {zl0 : Int32} {N : Nat} {M0 : zH} (u1 : 0 ≤ p1.toInt ∧ p1.toInt ≤ 6) (u2 : 0 ≤ p2.toInt ∧ p2.toInt ≤ 63) (u4 : 0 ≤ p4.toInt ∧ p4.toInt ≤ 9) (hz0 : z_F M0 19 29 = some (.int zp0)) (bz0 : 0 ≤ zp0.toInt ∧ zp0.toInt ≤ 7) (hl0 : z_Ar M0 24 zp0.toNatClampNeg = zl0) (bl0 : 0 ≤ zl0.toInt ∧ zl0.toInt ≤ 6) (hpc : p1.toInt + z_pcn p2.toInt ≤ 6 ∧ 0 ≤ z_pcn p2.toInt) (ih275 : zQ275 T N) (hm : p2.toInt < (N : Int) + 1) (hd : p2.toInt ≤ (d : Int)) (kk : ∀ (M1 : zH), z_X T zw275 M0 M1 → ∀ (w0 : Int32), z_F M1 19 29 = some (.int w0) → 0 ≤ w0.toInt ∧ w0.toInt ≤ 7 → w0.toInt = zp0.toInt → K none M1) : ∀ n : Nat, (∀ (M : zH) (b5 : Int32) (z0 : Int32) (z1 : Int32), z_X T zw275 M0 M → 1 ≤ p2.toInt ∧ p2.toInt ≤ 63 → 0 ≤ b5.toInt ∧ b5.toInt ≤ 6 → z_F M 19 29 = some (.int z0) → 0 ≤ z0.toInt ∧ z0.toInt ≤ 7 → z_Ar M 24 z0.toNatClampNeg = z1 → 0 ≤ z1.toInt ∧ z1.toInt ≤ 6 → z0.toInt = zp0.toInt → z1.toInt = zl0.toInt → ((0) * 2 + 0) * 7 + (6 - b5.toInt) < (n : Int) → z_ev (d + 12) 275 65 [some (.ref 19), some (.int p1), some (.int p2), some (.int p3), some (.int p4), some (.int b5)] [] M K) := by
  intro n
  induction n with
  | zero => exact by intros; exfalso; omega
  | succ n ih =>
    intro M b5 z0 z1 X hh0 hh1 hp0 hh3 hp1 hh5 hh6 hh7 hE
    refine z_xP zt275 30 68 [some (.ref 19), some (.int p1), some (.int p2), some (.int p3), some (.int p4), some (.int b5)] [.ref 19, .int b5] rfl rfl ?_
    have f19 : T[19]? = some (.inl (12, 0, 0, 0, 0)) := X.1.k rfl (by decide)
    refine z_xgX (b := 24) zt275 31 rfl zo275 zzf12_22 X f19 (by decide) (by decide) rfl ?_
    refine z_xP zt275 32 72 [some (.ref 19), some (.int p1), some (.int p2), some (.int p3), some (.int p4), some (.int b5)] [.ref 19, .ref 24, .int b5] rfl rfl ?_
    refine z_xgv zt275 33 rfl zo275 zzf12_242 X f19 (by decide) hp0 ?_
    have f24 : T[24]? = some (.inr (24, 0, 8, 0, 10)) := X.1.k rfl (by decide)
    refine z_xil zt275 34 rfl X f24 (by decide) (by omega) (by omega) (fun (x1 : Int32) h2 (h3 : 0 ≤ x1.toInt) (h4 : x1.toInt ≤ 10) => ?_)
    have h5 := congrArg Int32.toInt (h2.symm.trans hp1)
    refine z_xJ zt275 35 rfl rfl (fun (h6 : x1.toInt ≤ b5.toInt) => ?_) (fun (h6 : b5.toInt < x1.toInt) => ?_)
    · skip
      exact z_xrv zt275 61 rfl zzr275 (kk M X z0 hp0 ⟨by omega, by omega⟩ (by omega))
    refine z_xP zt275 36 82 [some (.ref 19), some (.int p1), some (.int p2), some (.int p3), some (.int p4), some (.int b5)] [.int b5, .int p2] rfl rfl ?_
    refine z_xI zt275 37 rfl rfl (fun (x7 : Int32) (h8 : x7 = p2 >>> (b5 &&& 31) ∧ 0 ≤ x7.toInt ∧ x7.toInt ≤ p2.toInt) => ?_) (⟨rfl, z_pShrN rfl (by omega)⟩)
    refine z_xP zt275 38 84 [some (.ref 19), some (.int p1), some (.int p2), some (.int p3), some (.int p4), some (.int b5)] [.int 1, .int x7] rfl rfl ?_
    refine z_xI zt275 39 rfl rfl (fun (x9 : Int32) (h10 : x9 = x7 &&& 1 ∧ 0 ≤ x9.toInt ∧ x9.toInt ≤ 1) => ?_) (⟨rfl, z_pAnd rfl (by omega)⟩)
    refine z_xP zt275 40 86 [some (.ref 19), some (.int p1), some (.int p2), some (.int p3), some (.int p4), some (.int b5)] [.int 1, .int x9] rfl rfl ?_
    refine z_xJ zt275 41 rfl rfl (fun (h11 : x9.toInt ≠ 1) => ?_) (fun (h11 : x9.toInt = 1) => ?_)
    · skip
      refine z_xN zt275 59 rfl rfl (fun (x12 : Int32) (h13 : x12.toInt = b5.toInt + 1) => ?_) (z_pAdd rfl rfl (by omega) (by omega))
      show z_ev (d + 12) 275 124 [some (.ref 19), some (.int p1), some (.int p2), some (.int p3), some (.int p4), some (.int x12)] [] M _
      refine z_xP zt275 60 65 [some (.ref 19), some (.int p1), some (.int p2), some (.int p3), some (.int p4), some (.int x12)] [] rfl rfl ?_
      exact ih M x12 z0 z1 X ⟨by omega, by omega⟩ ⟨by omega, by omega⟩ hp0 ⟨by omega, by omega⟩ hp1 ⟨by omega, by omega⟩ (by omega) (by omega) (by omega)
    refine z_xP zt275 42 90 [some (.ref 19), some (.int p1), some (.int p2), some (.int p3), some (.int p4), some (.int b5)] [.ref 19] rfl rfl ?_
    refine z_xgX (b := 42) zt275 43 rfl zo275 zzf12_76 X f19 (by decide) (by decide) rfl ?_
    refine z_xP zt275 44 96 [some (.ref 19), some (.int p1), some (.int p2), some (.int p3), some (.int p4), some (.int b5)] [.int b5, .int p1, .ref 42] rfl rfl ?_
    have f42 : T[42]? = some (.inr (42, 0, 10, 0, 9)) := X.1.k rfl (by decide)
    refine z_xis zt275 45 rfl X f42 (by decide) (by decide) (by omega) (by omega) (by omega) (by omega) (by decide) (fun M14 X15 e16 h17 => ?_)
    refine z_xP zt275 46 100 [some (.ref 19), some (.int p1), some (.int p2), some (.int p3), some (.int p4), some (.int b5)] [.int 1, .int p1, .ref 19] rfl rfl ?_
    refine z_xI zt275 47 rfl rfl (fun (x18 : Int32) (h19 : x18.toInt = p1.toInt + 1) => ?_) (z_pAdd rfl rfl (by omega) (by omega))
    refine z_xP zt275 48 105 [some (.ref 19), some (.int p1), some (.int p2), some (.int p3), some (.int p4), some (.int b5)] [.int b5, .int 1, .int p2, .int x18, .ref 19] rfl rfl ?_
    refine z_xI zt275 49 rfl rfl (fun (x20 : Int32) (h21 : x20 = (1 : Int32) <<< (b5 &&& 31)) => ?_) (rfl)
    refine z_xP zt275 50 107 [some (.ref 19), some (.int p1), some (.int p2), some (.int p3), some (.int p4), some (.int b5)] [.int (-1), .int x20, .int p2, .int x18, .ref 19] rfl rfl ?_
    refine z_xI zt275 51 rfl rfl (fun (x22 : Int32) (h23 : x22 = x20 ^^^ (-1)) => ?_) (rfl)
    refine z_xI zt275 52 rfl rfl (fun (x24 : Int32) (h25 : 0 ≤ x24.toInt ∧ x24.toInt < p2.toInt ∧ z_pcn x24.toInt + 1 = z_pcn p2.toInt ∧ 0 ≤ z_pcn x24.toInt) => ?_) (z_clr h8.1 h10.1 (by omega) h21 h23 (by omega) (by omega) (by omega) (by omega))
    refine z_xP zt275 53 112 [some (.ref 19), some (.int p1), some (.int p2), some (.int p3), some (.int p4), some (.int b5)] [.int p3, .int 10, .int x24, .int x18, .ref 19] rfl rfl ?_
    have h26 := z_b32 p3
    refine z_xI zt275 54 rfl rfl (P := fun _ => True) (fun (x27 : Int32) _ => ?_) trivial
    refine z_xP zt275 55 115 [some (.ref 19), some (.int p1), some (.int p2), some (.int p3), some (.int p4), some (.int b5)] [.int b5, .int x27, .int x24, .int x18, .ref 19] rfl rfl ?_
    have h29 := z_b32 x27
    refine z_xI zt275 56 rfl rfl (P := fun _ => True) (fun (x30 : Int32) _ => ?_) trivial
    refine z_xP zt275 57 118 [some (.ref 19), some (.int p1), some (.int p2), some (.int p3), some (.int p4), some (.int b5)] [.int p4, .int x30, .int x24, .int x18, .ref 19] rfl rfl ?_
    obtain ⟨d32, hdd32⟩ : ∃ e, d = e + 1 := ⟨d - 1, by omega⟩
    subst hdd32
    refine z_xcV (vs := [.ref 19, .int x18, .int x24, .int x30, .int p4]) (r := []) (L2 := [some (.ref 19), some (.int x18), some (.int x24), some (.int x30), some (.int p4), none]) zt275 58 rfl zo275 zzcV12_377 (Or.inl rfl) rfl X15 f19 rfl rfl rfl (Nat.le_of_ble_eq_true rfl) zzm275 (Nat.le_of_ble_eq_true rfl) rfl ?_
    have h33 := z_b32 x30
    have h34 := (e16.f f19 (by decide) hp0)
    have h35 := ((congrFun (e16.a f24 (by decide)) _).trans hp1)
    refine ih275 X15.1 (by omega) (by omega) (by omega) h34 ⟨by omega, by omega⟩ h35 ⟨by omega, by omega⟩ ⟨by omega, by omega⟩ (by omega) (by omega) (fun M36 X37 z38 h39 h40 h41 => ?_)
    have X42 := X15.go X37 (z_sb (by decide))
    show z_ev (d32 + 1 + 12) 275 121 [some (.ref 19), some (.int p1), some (.int p2), some (.int p3), some (.int p4), some (.int b5)] [] M36 _
    refine z_xN zt275 59 rfl rfl (fun (x44 : Int32) (h45 : x44.toInt = b5.toInt + 1) => ?_) (z_pAdd rfl rfl (by omega) (by omega))
    show z_ev (d32 + 1 + 12) 275 124 [some (.ref 19), some (.int p1), some (.int p2), some (.int p3), some (.int p4), some (.int x44)] [] M36 _
    refine z_xP zt275 60 65 [some (.ref 19), some (.int p1), some (.int p2), some (.int p3), some (.int p4), some (.int x44)] [] rfl rfl ?_
    have h46 := (X37.2.f f19 (by decide) h34)
    have h47 := ((congrFun (X37.2.a f24 (by decide)) _).trans h35)
    exact ih M36 x44 z0 z1 X42 ⟨by omega, by omega⟩ ⟨by omega, by omega⟩ h46 ⟨by omega, by omega⟩ h47 ⟨by omega, by omega⟩ (by omega) (by omega) (by omega)
theorem zC275r {T : List zK} {d : Nat} {K : Option Value → zH → Prop} {p1 : Int32} {p2 : Int32} {p3 : Int32} {p4 : Int32} {zp0 : Int32} {zl0 : Int32} {N : Nat} {M0 : zH} (hW : z_W M0 T) (u1 : 0 ≤ p1.toInt ∧ p1.toInt ≤ 6) (u2 : 0 ≤ p2.toInt ∧ p2.toInt ≤ 63) (u4 : 0 ≤ p4.toInt ∧ p4.toInt ≤ 9) (hz0 : z_F M0 19 29 = some (.int zp0)) (bz0 : 0 ≤ zp0.toInt ∧ zp0.toInt ≤ 7) (hl0 : z_Ar M0 24 zp0.toNatClampNeg = zl0) (bl0 : 0 ≤ zl0.toInt ∧ zl0.toInt ≤ 6) (hpc : p1.toInt + z_pcn p2.toInt ≤ 6 ∧ 0 ≤ z_pcn p2.toInt) (ih275 : zQ275 T N) (hm : p2.toInt < (N : Int) + 1) (hd : p2.toInt ≤ (d : Int)) (kk : ∀ (M1 : zH), z_X T zw275 M0 M1 → ∀ (w0 : Int32), z_F M1 19 29 = some (.int w0) → 0 ≤ w0.toInt ∧ w0.toInt ≤ 7 → w0.toInt = zp0.toInt → K none M1) : z_ev (d + 12) 275 0 [some (.ref 19), some (.int p1), some (.int p2), some (.int p3), some (.int p4), none] [] M0 K := by
  have X : z_X T zw275 M0 M0 := .refl hW
  refine z_xP zt275 0 1 [some (.ref 19), some (.int p1), some (.int p2), some (.int p3), some (.int p4), none] [.int p2] rfl rfl ?_
  refine z_xZ zt275 1 rfl rfl (fun (h1 : p2.toInt ≠ 0) => ?_) (fun (h1 : p2.toInt = 0) => ?_)
  · skip
    refine z_xP zt275 29 65 [some (.ref 19), some (.int p1), some (.int p2), some (.int p3), some (.int p4), some (.int 0)] [] rfl rfl ?_
    have f19 : T[19]? = some (.inl (12, 0, 0, 0, 0)) := X.1.k rfl (by decide)
    have f24 : T[24]? = some (.inr (24, 0, 8, 0, 10)) := X.1.k rfl (by decide)
    have q0 : ((0 : Int32)).toInt = 0 := rfl
    exact (zB275 u1 u2 u4 hz0 bz0 hl0 bl0 hpc ih275 hm hd kk 14) M0 (0) zp0 zl0 X ⟨by omega, by omega⟩ (by decide) hz0 ⟨by omega, by omega⟩ hl0 ⟨by omega, by omega⟩ (by omega) (by omega) (by omega)
  refine z_xP zt275 2 6 [some (.ref 19), some (.int p1), some (.int p2), some (.int p3), some (.int p4), none] [.int 0, .ref 19] rfl rfl ?_
  have f19 : T[19]? = some (.inl (12, 0, 0, 0, 0)) := X.1.k rfl (by decide)
  have q0 : ((0 : Int32)).toInt = 0 := rfl
  refine z_xpf zt275 3 rfl zo275 zzf12_275 X f19 (by decide) (by decide) ⟨by omega, by omega⟩ rfl (by decide) zw12_34 (fun M2 X3 e4 h5 => ?_)
  refine z_xP zt275 4 11 [some (.ref 19), some (.int p1), some (.int p2), some (.int p3), some (.int p4), none] [.int 0, .ref 19] rfl rfl ?_
  have q0 : ((0 : Int32)).toInt = 0 := rfl
  refine z_xpf zt275 5 rfl zo275 zzf12_278 X3 f19 (by decide) (by decide) ⟨by omega, by omega⟩ rfl (by decide) zw12_35 (fun M6 X7 e8 h9 => ?_)
  refine z_xP zt275 6 16 [some (.ref 19), some (.int p1), some (.int p2), some (.int p3), some (.int p4), none] [.int (-1), .ref 19] rfl rfl ?_
  refine z_xcV (vs := [.ref 19, .int (-1)]) (r := []) (L2 := [some (.ref 19), some (.int (-1)), none, none, none, none]) zt275 7 rfl zo275 zzcV12_297 (Or.inl rfl) rfl X7 f19 rfl rfl rfl (Nat.le_of_ble_eq_true rfl) zzm246 (Nat.le_of_ble_eq_true rfl) rfl ?_
  have qm1 : (((-1) : Int32)).toInt = (-1) := rfl
  have qm1 : (((-1) : Int32)).toInt = (-1) := rfl
  refine zC246 X7.1 (by decide) (fun M10 X11  => ?_)
  have X12 := X7.go X11 (z_sb (by decide))
  show z_ev (d + 12) 275 19 [some (.ref 19), some (.int p1), some (.int p2), some (.int p3), some (.int p4), none] [] M10 _
  refine z_xP zt275 8 20 [some (.ref 19), some (.int p1), some (.int p2), some (.int p3), some (.int p4), none] [.ref 19] rfl rfl ?_
  refine z_xgI zt275 9 rfl zo275 zzf12_275 X12 f19 (by decide) (by decide) rfl (fun (x15 : Int32) h14 (h16 : (-2147483648) ≤ x15.toInt) (h17 : x15.toInt ≤ 2147483647) => ?_)
  refine z_xP zt275 10 25 [some (.ref 19), some (.int p1), some (.int p2), some (.int p3), some (.int p4), none] [.int p4, .int x15] rfl rfl ?_
  have h18 := z_b32 x15
  refine z_xI zt275 11 rfl rfl (P := fun _ => True) (fun (x19 : Int32) _ => ?_) trivial
  refine z_xP zt275 12 27 [some (.ref 19), some (.int p1), some (.int p2), some (.int p3), some (.int p4), none] [.int 1, .int x19] rfl rfl ?_
  refine z_xI zt275 13 rfl rfl (fun (x21 : Int32) (h22 : 0 ≤ x21.toInt ∧ x21.toInt ≤ 1) => ?_) (z_pAnd rfl (by omega))
  refine z_xP zt275 14 29 [some (.ref 19), some (.int p1), some (.int p2), some (.int p3), some (.int p4), none] [.int 1, .int x21] rfl rfl ?_
  refine z_xJ zt275 15 rfl rfl (fun (h23 : x21.toInt ≠ 1) => ?_) (fun (h23 : x21.toInt = 1) => ?_)
  · skip
    have h24 := (X11.2.f f19 (by decide) (e8.f f19 (by decide) (e4.f f19 (by decide) hz0)))
    exact z_xrv zt275 28 rfl zzr275 (kk M10 X12 zp0 h24 ⟨by omega, by omega⟩ (by omega))
  refine z_xP zt275 16 34 [some (.ref 19), some (.int p1), some (.int p2), some (.int p3), some (.int p4), none] [.ref 19, .ref 19] rfl rfl ?_
  refine z_xgI zt275 17 rfl zo275 zzf12_371 X12 f19 (by decide) (by decide) rfl (fun (x26 : Int32) h25 (h27 : (-2147483648) ≤ x26.toInt) (h28 : x26.toInt ≤ 2147483647) => ?_)
  refine z_xZ zt275 18 rfl rfl (fun (h29 : x26.toInt ≠ 0) => ?_) (fun (h29 : x26.toInt = 0) => ?_)
  · skip
    refine z_xP zt275 20 45 [some (.ref 19), some (.int p1), some (.int p2), some (.int p3), some (.int p4), none] [.ref 19, .ref 19] rfl rfl ?_
    refine z_xgI zt275 21 rfl zo275 zzf12_374 X12 f19 (by decide) (by decide) rfl (fun (x31 : Int32) h30 (h32 : (-2147483648) ≤ x31.toInt) (h33 : x31.toInt ≤ 2147483647) => ?_)
    refine z_xpf zt275 22 rfl zo275 zzf12_374 X12 f19 (by decide) (by decide) ⟨Int32.le_toInt _, Int32.toInt_le _⟩ rfl (by decide) zw12_45 (fun M34 X35 e36 h37 => ?_)
    refine z_xP zt275 23 53 [some (.ref 19), some (.int p1), some (.int p2), some (.int p3), some (.int p4), none] [.ref 19, .ref 19] rfl rfl ?_
    have h38 := (e36.f f19 (by decide) h25)
    refine z_xgv zt275 24 rfl zo275 zzf12_371 X35 f19 (by decide) h38 ?_
    refine z_xP zt275 25 57 [some (.ref 19), some (.int p1), some (.int p2), some (.int p3), some (.int p4), none] [.int 1, .int x26, .ref 19] rfl rfl ?_
    have h39 := z_b32 x26
    refine z_xI zt275 26 rfl rfl (P := fun _ => True) (fun (x40 : Int32) _ => ?_) trivial
    refine z_xpf zt275 27 rfl zo275 zzf12_371 X35 f19 (by decide) (by decide) ⟨Int32.le_toInt _, Int32.toInt_le _⟩ rfl (by decide) zw12_44 (fun M42 X43 e44 h45 => ?_)
    have h46 := (e44.f f19 (by decide) (e36.f f19 (by decide) (X11.2.f f19 (by decide) (e8.f f19 (by decide) (e4.f f19 (by decide) hz0)))))
    exact z_xrv zt275 28 rfl zzr275 (kk M42 X43 zp0 h46 ⟨by omega, by omega⟩ (by omega))
  refine z_xP zt275 19 48 [some (.ref 19), some (.int p1), some (.int p2), some (.int p3), some (.int p4), none] [.int p3, .ref 19] rfl rfl ?_
  refine z_xpf zt275 22 rfl zo275 zzf12_374 X12 f19 (by decide) (by decide) ⟨Int32.le_toInt _, Int32.toInt_le _⟩ rfl (by decide) zw12_45 (fun M47 X48 e49 h50 => ?_)
  refine z_xP zt275 23 53 [some (.ref 19), some (.int p1), some (.int p2), some (.int p3), some (.int p4), none] [.ref 19, .ref 19] rfl rfl ?_
  have h51 := (e49.f f19 (by decide) h25)
  refine z_xgv zt275 24 rfl zo275 zzf12_371 X48 f19 (by decide) h51 ?_
  refine z_xP zt275 25 57 [some (.ref 19), some (.int p1), some (.int p2), some (.int p3), some (.int p4), none] [.int 1, .int x26, .ref 19] rfl rfl ?_
  refine z_xI zt275 26 rfl rfl (fun (x52 : Int32) (h53 : x52.toInt = x26.toInt + 1) => ?_) (z_pAdd rfl rfl (by omega) (by omega))
  refine z_xpf zt275 27 rfl zo275 zzf12_371 X48 f19 (by decide) (by decide) ⟨Int32.le_toInt _, Int32.toInt_le _⟩ rfl (by decide) zw12_44 (fun M54 X55 e56 h57 => ?_)
  have h58 := (e56.f f19 (by decide) (e49.f f19 (by decide) (X11.2.f f19 (by decide) (e8.f f19 (by decide) (e4.f f19 (by decide) hz0)))))
  exact z_xrv zt275 28 rfl zzr275 (kk M54 X55 zp0 h58 ⟨by omega, by omega⟩ (by omega))
theorem zR275 {T : List zK} : ∀ N : Nat, zQ275 T N := by
  intro N
  induction N with
  | zero => exact (by unfold zQ275; intros; exfalso; omega)
  | succ N ih =>
      intro d K p1 p2 p3 p4 zp0 zl0 M0 hW u1 u2 u4 hz0 bz0 hl0 bl0 hpc hm hd kk
      exact zC275r hW u1 u2 u4 hz0 bz0 hl0 bl0 hpc ih (by omega) hd kk
theorem zC275 {T : List zK} {d : Nat} {K : Option Value → zH → Prop} {p1 : Int32} {p2 : Int32} {p3 : Int32} {p4 : Int32} {zp0 : Int32} {zl0 : Int32} {M0 : zH} (hW : z_W M0 T) (u1 : 0 ≤ p1.toInt ∧ p1.toInt ≤ 6) (u2 : 0 ≤ p2.toInt ∧ p2.toInt ≤ 63) (u4 : 0 ≤ p4.toInt ∧ p4.toInt ≤ 9) (hz0 : z_F M0 19 29 = some (.int zp0)) (bz0 : 0 ≤ zp0.toInt ∧ zp0.toInt ≤ 7) (hl0 : z_Ar M0 24 zp0.toNatClampNeg = zl0) (bl0 : 0 ≤ zl0.toInt ∧ zl0.toInt ≤ 6) (hpc : p1.toInt + z_pcn p2.toInt ≤ 6 ∧ 0 ≤ z_pcn p2.toInt) (kk : ∀ (M1 : zH), z_X T zw275 M0 M1 → ∀ (w0 : Int32), z_F M1 19 29 = some (.int w0) → 0 ≤ w0.toInt ∧ w0.toInt ≤ 7 → w0.toInt = zp0.toInt → K none M1) : z_ev (d + 75) 275 0 [some (.ref 19), some (.int p1), some (.int p2), some (.int p3), some (.int p4), none] [] M0 K := by
  have h : zQ275 T 64 := zR275 64
  unfold zQ275 at h
  exact h (d := d + 63) (K := K) hW u1 u2 u4 hz0 bz0 hl0 bl0 hpc (by omega) (by omega) kk
