/-! the class reads a tie -/
def zw8 : List Nat := [1102, 1103]
def zw10 : List Nat := [1103]
def zw12 : List Nat := [1102]
def zw14 : List Nat := []
def zw18 : List Nat := []
theorem zTC8 {T : List zK} {d : Nat} {K : Option Value → zH → Prop} {p1 : Int32} {bb : Nat → Int} {nn : Nat} {nu : Int → Int} {BB : Nat} {M0 : zH} (hW : z_W M0 T) (hT : z_TP M0 bb nn nu BB) (kk : ∀ (M1 : zH), z_X T zw8 M0 M1 → z_EX bb nn M0 M1 p1.toInt → K none M1) : z_ev d 8 0 [some (.ref 5), some (.int p1)] [] M0 K := by
  have X : z_X T zw8 M0 M0 := .refl hW
  refine z_xP zt8 0 1 [some (.ref 5), some (.int p1)] [.ref 5] rfl rfl ?_
  have f5 : T[5]? = some (.inl (1, 0, 0, 0, 0)) := X.1.k rfl (by decide)
  refine z_xgI zt8 1 rfl zo8 zzf1_32 X f5 (by decide) (by decide) rfl (fun (x2 : Int32) h1 (h3 : (-2147483648) ≤ x2.toInt) (h4 : x2.toInt ≤ 2147483647) => ?_)
  refine z_xZ zt8 2 rfl rfl (fun (h5 : x2.toInt < 0) => ?_) (fun (h5 : 0 ≤ x2.toInt) => ?_)
  · skip
    refine z_xP zt8 4 9 [some (.ref 5), some (.int p1)] [.ref 5] rfl rfl ?_
    refine z_xgI zt8 5 rfl zo8 zzf1_29 X f5 (by decide) (by decide) rfl (fun (x7 : Int32) h6 (h8 : 0 ≤ x7.toInt) (h9 : x7.toInt ≤ 160) => ?_)
    refine z_xP zt8 6 13 [some (.ref 5), some (.int p1)] [.ref 5, .int x7] rfl rfl ?_
    refine z_xgI zt8 7 rfl zo8 zzf1_25 X f5 (by decide) (by decide) rfl (fun (x11 : Int32) h10 (h12 : 0 ≤ x11.toInt) (h13 : x11.toInt ≤ 160) => ?_)
    refine z_xJ zt8 8 rfl rfl (fun (h14 : x11.toInt ≤ x7.toInt) => ?_) (fun (h14 : x7.toInt < x11.toInt) => ?_)
    · skip
      refine z_xP zt8 22 47 [some (.ref 5), some (.int p1)] [.ref 5, .ref 5] rfl rfl ?_
      refine z_xgv zt8 23 rfl zo8 zzf1_29 X f5 (by decide) h6 ?_
      refine z_xpf zt8 24 rfl zo8 zzf1_32 X f5 (by decide) (by decide) ⟨Int32.le_toInt _, Int32.toInt_le _⟩ rfl (by decide) zw1_3 (fun M15 X16 e17 h18 => ?_)
      exact z_xrv zt8 25 rfl zzr8 (kk M15 X16 (z_EXf h18 (by omega) (z_PSb hT h6 h10 (by omega))))
    refine z_xP zt8 9 20 [some (.ref 5), some (.int p1)] [.ref 5] rfl rfl ?_
    refine z_xgX (b := 6) zt8 10 rfl zo8 zzf1_9 X f5 (by decide) (by decide) rfl ?_
    refine z_xP zt8 11 24 [some (.ref 5), some (.int p1)] [.ref 5, .ref 6] rfl rfl ?_
    refine z_xgv zt8 12 rfl zo8 zzf1_29 X f5 (by decide) h6 ?_
    have f6 : T[6]? = some (.inr (6, 0, 160, (-2147483648), 2147483647)) := X.1.k rfl (by decide)
    refine z_xil zt8 13 rfl X f6 (by decide) (by omega) (by omega) (fun (x19 : Int32) h20 (h21 : (-2147483648) ≤ x19.toInt) (h22 : x19.toInt ≤ 2147483647) => ?_)
    have h23 := (hT.go X.1 X rfl).rng h10 h20 ⟨by omega, by omega⟩
    refine z_xP zt8 14 29 [some (.ref 5), some (.int p1)] [.int p1, .int x19] rfl rfl ?_
    have h24 := z_b32 p1
    refine z_xJ zt8 15 rfl rfl (fun (h25 : x19.toInt ≠ p1.toInt) => ?_) (fun (h25 : x19.toInt = p1.toInt) => ?_)
    · skip
      refine z_xP zt8 22 47 [some (.ref 5), some (.int p1)] [.ref 5, .ref 5] rfl rfl ?_
      refine z_xgv zt8 23 rfl zo8 zzf1_29 X f5 (by decide) h6 ?_
      refine z_xpf zt8 24 rfl zo8 zzf1_32 X f5 (by decide) (by decide) ⟨Int32.le_toInt _, Int32.toInt_le _⟩ rfl (by decide) zw1_3 (fun M26 X27 e28 h29 => ?_)
      exact z_xrv zt8 25 rfl zzr8 (kk M26 X27 (z_EXf h29 (by omega) (z_PSc hT h6 h20 (by omega))))
    refine z_xP zt8 16 34 [some (.ref 5), some (.int p1)] [.ref 5, .ref 5] rfl rfl ?_
    refine z_xgv zt8 17 rfl zo8 zzf1_29 X f5 (by decide) h6 ?_
    refine z_xP zt8 18 38 [some (.ref 5), some (.int p1)] [.int 1, .int x7, .ref 5] rfl rfl ?_
    refine z_xI zt8 19 rfl rfl (fun (x30 : Int32) (h31 : x30.toInt = x7.toInt + 1) => ?_) (z_pAdd rfl rfl (by omega) (by omega))
    refine z_xpf zt8 20 rfl zo8 zzf1_29 X f5 (by decide) (by decide) ⟨by omega, by omega⟩ rfl (by decide) zw1_2 (fun M32 X33 e34 h35 => ?_)
    refine z_xP zt8 21 53 [some (.ref 5), some (.int p1)] [] rfl rfl ?_
    have h36 := (e34.f f5 (by decide) h1)
    exact z_xrv zt8 25 rfl zzr8 (kk M32 X33 (z_EXd (z_PSd hT h1 (by omega) h6 h10 (by omega) h20 (by omega) h35 ⟨by omega, by omega⟩ h36)))
  exact z_xrv zt8 3 rfl zzr8 (kk M0 X (z_EXa h1 (by omega)))
theorem zTC10 {T : List zK} {d : Nat} {K : Option Value → zH → Prop} {bb : Nat → Int} {nn : Nat} {nu : Int → Int} {BB : Nat} {M0 : zH} (hW : z_W M0 T) (hT : z_TP M0 bb nn nu BB) (kk : ∀ (M1 : zH), z_X T zw10 M0 M1 → ¬ z_ok M1 → K none M1) : z_ev d 10 0 [some (.ref 5)] [] M0 K := by
  have X : z_X T zw10 M0 M0 := .refl hW
  refine z_xP zt10 0 1 [some (.ref 5)] [.ref 5] rfl rfl ?_
  have f5 : T[5]? = some (.inl (1, 0, 0, 0, 0)) := X.1.k rfl (by decide)
  refine z_xgI zt10 1 rfl zo10 zzf1_32 X f5 (by decide) (by decide) rfl (fun (x2 : Int32) h1 (h3 : (-2147483648) ≤ x2.toInt) (h4 : x2.toInt ≤ 2147483647) => ?_)
  refine z_xZ zt10 2 rfl rfl (fun (h5 : 0 ≤ x2.toInt) => ?_) (fun (h5 : x2.toInt < 0) => ?_)
  · skip
    exact z_xrv zt10 6 rfl zzr10 (kk M0 X (z_okN h1 (by omega)))
  refine z_xP zt10 3 9 [some (.ref 5)] [.ref 5, .ref 5] rfl rfl ?_
  refine z_xgI zt10 4 rfl zo10 zzf1_29 X f5 (by decide) (by decide) rfl (fun (x7 : Int32) h6 (h8 : 0 ≤ x7.toInt) (h9 : x7.toInt ≤ 160) => ?_)
  refine z_xpf zt10 5 rfl zo10 zzf1_32 X f5 (by decide) (by decide) ⟨Int32.le_toInt _, Int32.toInt_le _⟩ rfl (by decide) zw1_3 (fun M10 X11 e12 h13 => ?_)
  exact z_xrv zt10 6 rfl zzr10 (kk M10 X11 (z_okN h13 (by omega)))
theorem zTC12 {T : List zK} {d : Nat} {K : Option Value → zH → Prop} {p1 : Int32} {bb : Nat → Int} {nn : Nat} {nu : Int → Int} {BB : Nat} {M0 : zH} (hW : z_W M0 T) (hT : z_TP M0 bb nn nu BB) (kk : ∀ (x : Int32) (M1 : zH), z_X T zw12 M0 M1 → 0 ≤ x.toInt → x.toInt ≤ 1 → z_PS bb nn M0 M1 p1.toInt x.toInt → K (some (.int x)) M1) : z_ev d 12 0 [some (.ref 5), some (.int p1)] [] M0 K := by
  have X : z_X T zw12 M0 M0 := .refl hW
  refine z_xP zt12 0 1 [some (.ref 5), some (.int p1)] [.ref 5] rfl rfl ?_
  have f5 : T[5]? = some (.inl (1, 0, 0, 0, 0)) := X.1.k rfl (by decide)
  refine z_xgI zt12 1 rfl zo12 zzf1_32 X f5 (by decide) (by decide) rfl (fun (x2 : Int32) h1 (h3 : (-2147483648) ≤ x2.toInt) (h4 : x2.toInt ≤ 2147483647) => ?_)
  refine z_xZ zt12 2 rfl rfl (fun (h5 : 0 ≤ x2.toInt) => ?_) (fun (h5 : x2.toInt < 0) => ?_)
  · skip
    refine z_xP zt12 15 32 [some (.ref 5), some (.int p1)] [.int 0] rfl rfl ?_
    have q0 : ((0 : Int32)).toInt = 0 := rfl
    have q0 : ((0 : Int32)).toInt = 0 := rfl
    exact z_xrz zt12 16 rfl zzr12 (by decide) (by decide) (kk 0 M0 X (by omega) (by omega) (z_PSa h1 (by omega)))
  refine z_xP zt12 3 8 [some (.ref 5), some (.int p1)] [.ref 5] rfl rfl ?_
  refine z_xgI zt12 4 rfl zo12 zzf1_29 X f5 (by decide) (by decide) rfl (fun (x7 : Int32) h6 (h8 : 0 ≤ x7.toInt) (h9 : x7.toInt ≤ 160) => ?_)
  refine z_xP zt12 5 12 [some (.ref 5), some (.int p1)] [.ref 5, .int x7] rfl rfl ?_
  refine z_xgI zt12 6 rfl zo12 zzf1_25 X f5 (by decide) (by decide) rfl (fun (x11 : Int32) h10 (h12 : 0 ≤ x11.toInt) (h13 : x11.toInt ≤ 160) => ?_)
  refine z_xJ zt12 7 rfl rfl (fun (h14 : x11.toInt ≤ x7.toInt) => ?_) (fun (h14 : x7.toInt < x11.toInt) => ?_)
  · skip
    refine z_xP zt12 15 32 [some (.ref 5), some (.int p1)] [.int 0] rfl rfl ?_
    have q0 : ((0 : Int32)).toInt = 0 := rfl
    have q0 : ((0 : Int32)).toInt = 0 := rfl
    exact z_xrz zt12 16 rfl zzr12 (by decide) (by decide) (kk 0 M0 X (by omega) (by omega) (z_PSb hT h6 h10 (by omega)))
  refine z_xP zt12 8 19 [some (.ref 5), some (.int p1)] [.ref 5] rfl rfl ?_
  refine z_xgX (b := 6) zt12 9 rfl zo12 zzf1_9 X f5 (by decide) (by decide) rfl ?_
  refine z_xP zt12 10 23 [some (.ref 5), some (.int p1)] [.ref 5, .ref 6] rfl rfl ?_
  refine z_xgv zt12 11 rfl zo12 zzf1_29 X f5 (by decide) h6 ?_
  have f6 : T[6]? = some (.inr (6, 0, 160, (-2147483648), 2147483647)) := X.1.k rfl (by decide)
  refine z_xil zt12 12 rfl X f6 (by decide) (by omega) (by omega) (fun (x15 : Int32) h16 (h17 : (-2147483648) ≤ x15.toInt) (h18 : x15.toInt ≤ 2147483647) => ?_)
  have h19 := (hT.go X.1 X rfl).rng h10 h16 ⟨by omega, by omega⟩
  refine z_xP zt12 13 28 [some (.ref 5), some (.int p1)] [.int p1, .int x15] rfl rfl ?_
  have h20 := z_b32 p1
  refine z_xJ zt12 14 rfl rfl (fun (h21 : x15.toInt = p1.toInt) => ?_) (fun (h21 : x15.toInt ≠ p1.toInt) => ?_)
  · skip
    refine z_xP zt12 17 35 [some (.ref 5), some (.int p1)] [.ref 5, .ref 5] rfl rfl ?_
    refine z_xgv zt12 18 rfl zo12 zzf1_29 X f5 (by decide) h6 ?_
    refine z_xP zt12 19 39 [some (.ref 5), some (.int p1)] [.int 1, .int x7, .ref 5] rfl rfl ?_
    refine z_xI zt12 20 rfl rfl (fun (x22 : Int32) (h23 : x22.toInt = x7.toInt + 1) => ?_) (z_pAdd rfl rfl (by omega) (by omega))
    refine z_xpf zt12 21 rfl zo12 zzf1_29 X f5 (by decide) (by decide) ⟨by omega, by omega⟩ rfl (by decide) zw1_2 (fun M24 X25 e26 h27 => ?_)
    refine z_xP zt12 22 44 [some (.ref 5), some (.int p1)] [.int 1] rfl rfl ?_
    have q1 : ((1 : Int32)).toInt = 1 := rfl
    have h28 := (e26.f f5 (by decide) h1)
    have q1 : ((1 : Int32)).toInt = 1 := rfl
    exact z_xrz zt12 23 rfl zzr12 (by decide) (by decide) (kk 1 M24 X25 (by omega) (by omega) (z_PSd hT h1 (by omega) h6 h10 (by omega) h16 (by omega) h27 ⟨by omega, by omega⟩ h28))
  refine z_xP zt12 15 32 [some (.ref 5), some (.int p1)] [.int 0] rfl rfl ?_
  have q0 : ((0 : Int32)).toInt = 0 := rfl
  have q0 : ((0 : Int32)).toInt = 0 := rfl
  exact z_xrz zt12 16 rfl zzr12 (by decide) (by decide) (kk 0 M0 X (by omega) (by omega) (z_PSc hT h6 h16 (by omega)))
theorem zTC14 {T : List zK} {d : Nat} {K : Option Value → zH → Prop} {bb : Nat → Int} {nn : Nat} {nu : Int → Int} {BB : Nat} {M0 : zH} (hW : z_W M0 T) (hT : z_TP M0 bb nn nu BB) (kk : ∀ (x : Int32) (M1 : zH), z_X T zw14 M0 M1 → (-1) ≤ x.toInt → x.toInt ≤ 9 → z_QH bb nn nu M0 x.toInt → M1 = M0 → K (some (.int x)) M1) : z_ev d 14 0 [some (.ref 5), none] [] M0 K := by
  have X : z_X T zw14 M0 M0 := .refl hW
  refine z_xP zt14 0 1 [some (.ref 5), none] [.ref 5] rfl rfl ?_
  have f5 : T[5]? = some (.inl (1, 0, 0, 0, 0)) := X.1.k rfl (by decide)
  refine z_xgI zt14 1 rfl zo14 zzf1_32 X f5 (by decide) (by decide) rfl (fun (x2 : Int32) h1 (h3 : (-2147483648) ≤ x2.toInt) (h4 : x2.toInt ≤ 2147483647) => ?_)
  refine z_xZ zt14 2 rfl rfl (fun (h5 : 0 ≤ x2.toInt) => ?_) (fun (h5 : x2.toInt < 0) => ?_)
  · skip
    refine z_xP zt14 16 34 [some (.ref 5), none] [.int (-1)] rfl rfl ?_
    refine z_xP zt14 17 36 [some (.ref 5), some (.int (-1))] [.int (-1)] rfl rfl ?_
    refine z_xZ zt14 18 rfl rfl (fun (h6 : ((-1) : Int) < 0) => ?_) (fun (h6 : 0 ≤ ((-1) : Int)) => absurd h6 (by omega))
    refine z_xP zt14 21 55 [some (.ref 5), some (.int (-1))] [.int (-1)] rfl rfl ?_
    have qm1 : (((-1) : Int32)).toInt = (-1) := rfl
    have qm1 : (((-1) : Int32)).toInt = (-1) := rfl
    exact z_xri zt14 26 rfl zzr14 (kk (-1) M0 X (by omega) (by omega) (z_QHa h1 (by omega)) rfl)
  refine z_xP zt14 3 8 [some (.ref 5), none] [.ref 5] rfl rfl ?_
  refine z_xgI zt14 4 rfl zo14 zzf1_29 X f5 (by decide) (by decide) rfl (fun (x8 : Int32) h7 (h9 : 0 ≤ x8.toInt) (h10 : x8.toInt ≤ 160) => ?_)
  refine z_xP zt14 5 12 [some (.ref 5), none] [.ref 5, .int x8] rfl rfl ?_
  refine z_xgI zt14 6 rfl zo14 zzf1_25 X f5 (by decide) (by decide) rfl (fun (x12 : Int32) h11 (h13 : 0 ≤ x12.toInt) (h14 : x12.toInt ≤ 160) => ?_)
  refine z_xJ zt14 7 rfl rfl (fun (h15 : x12.toInt ≤ x8.toInt) => ?_) (fun (h15 : x8.toInt < x12.toInt) => ?_)
  · skip
    refine z_xP zt14 16 34 [some (.ref 5), none] [.int (-1)] rfl rfl ?_
    refine z_xP zt14 17 36 [some (.ref 5), some (.int (-1))] [.int (-1)] rfl rfl ?_
    refine z_xZ zt14 18 rfl rfl (fun (h16 : ((-1) : Int) < 0) => ?_) (fun (h16 : 0 ≤ ((-1) : Int)) => absurd h16 (by omega))
    refine z_xP zt14 21 55 [some (.ref 5), some (.int (-1))] [.int (-1)] rfl rfl ?_
    have qm1 : (((-1) : Int32)).toInt = (-1) := rfl
    have qm1 : (((-1) : Int32)).toInt = (-1) := rfl
    exact z_xri zt14 26 rfl zzr14 (kk (-1) M0 X (by omega) (by omega) (z_QHb hT h7 h11 (by omega)) rfl)
  refine z_xP zt14 8 19 [some (.ref 5), none] [.ref 5] rfl rfl ?_
  refine z_xgX (b := 6) zt14 9 rfl zo14 zzf1_9 X f5 (by decide) (by decide) rfl ?_
  refine z_xP zt14 10 23 [some (.ref 5), none] [.ref 5, .ref 6] rfl rfl ?_
  refine z_xgv zt14 11 rfl zo14 zzf1_29 X f5 (by decide) h7 ?_
  have f6 : T[6]? = some (.inr (6, 0, 160, (-2147483648), 2147483647)) := X.1.k rfl (by decide)
  refine z_xil zt14 12 rfl X f6 (by decide) (by omega) (by omega) (fun (x17 : Int32) h18 (h19 : (-2147483648) ≤ x17.toInt) (h20 : x17.toInt ≤ 2147483647) => ?_)
  have h21 := (hT.go X.1 X rfl).rng h11 h18 ⟨by omega, by omega⟩
  refine z_xP zt14 13 29 [some (.ref 5), none] [.int 97, .int x17] rfl rfl ?_
  refine z_xI zt14 14 rfl rfl (fun (x22 : Int32) (h23 : x22.toInt = x17.toInt - 97) => ?_) (z_pSub rfl rfl (by omega) (by omega))
  refine z_xP zt14 15 34 [some (.ref 5), none] [.int x22] rfl rfl ?_
  refine z_xP zt14 17 36 [some (.ref 5), some (.int x22)] [.int x22] rfl rfl ?_
  refine z_xZ zt14 18 rfl rfl (fun (h24 : x22.toInt < 0) => ?_) (fun (h24 : 0 ≤ x22.toInt) => ?_)
  · skip
    refine z_xP zt14 21 55 [some (.ref 5), some (.int x22)] [.int (-1)] rfl rfl ?_
    have qm1 : (((-1) : Int32)).toInt = (-1) := rfl
    have qm1 : (((-1) : Int32)).toInt = (-1) := rfl
    exact z_xri zt14 26 rfl zzr14 (kk (-1) M0 X (by omega) (by omega) (z_QHc hT h7 h18 (by omega)) rfl)
  refine z_xP zt14 19 42 [some (.ref 5), some (.int x22)] [.int 10, .int x22] rfl rfl ?_
  refine z_xJ zt14 20 rfl rfl (fun (h25 : x22.toInt < 10) => ?_) (fun (h25 : 10 ≤ x22.toInt) => ?_)
  · skip
    refine z_xP zt14 22 50 [some (.ref 5), some (.int x22)] [.ref 5] rfl rfl ?_
    refine z_xgX (b := 7) zt14 23 rfl zo14 zzf1_15 X f5 (by decide) (by decide) rfl ?_
    refine z_xP zt14 24 54 [some (.ref 5), some (.int x22)] [.int x22, .ref 7] rfl rfl ?_
    have f7 : T[7]? = some (.inr (7, 0, 10, (-1), 9)) := X.1.k rfl (by decide)
    refine z_xil zt14 25 rfl X f7 (by decide) (by omega) (by omega) (fun (x26 : Int32) h27 (h28 : (-1) ≤ x26.toInt) (h29 : x26.toInt ≤ 9) => ?_)
    exact z_xri zt14 26 rfl zzr14 (kk x26 M0 X (by omega) (by omega) (z_QHd hT h1 (by omega) h7 h11 ⟨by omega, by omega⟩ h18 ⟨by omega, by omega, by omega⟩ h27) rfl)
  refine z_xP zt14 21 55 [some (.ref 5), some (.int x22)] [.int (-1)] rfl rfl ?_
  have qm1 : (((-1) : Int32)).toInt = (-1) := rfl
  have qm1 : (((-1) : Int32)).toInt = (-1) := rfl
  exact z_xri zt14 26 rfl zzr14 (kk (-1) M0 X (by omega) (by omega) (z_QHc hT h7 h18 (by omega)) rfl)
theorem zTC18 {T : List zK} {d : Nat} {K : Option Value → zH → Prop} {p1 : Int32} {bb : Nat → Int} {nn : Nat} {nu : Int → Int} {BB : Nat} {M0 : zH} (hW : z_W M0 T) (u1 : 0 ≤ p1.toInt ∧ p1.toInt ≤ 9) (hT : z_TP M0 bb nn nu BB) (kk : ∀ (x : Int64) (M1 : zH), z_X T zw18 M0 M1 → z_bv x (z_bit p1.toInt.toNat) BB → M1 = M0 → K (some (.long x)) M1) : z_ev d 18 0 [some (.ref 5), some (.int p1)] [] M0 K := by
  have X : z_X T zw18 M0 M0 := .refl hW
  refine z_xP zt18 0 1 [some (.ref 5), some (.int p1)] [.int p1] rfl rfl ?_
  refine z_xgs zt18 1 rfl zo18 zg1_99 ?_
  have f2 : T[2]? = some (.inr (2, 1, 6, 0, 0)) := X.1.k rfl (by decide)
  refine z_xln zt18 2 rfl X f2 (by decide) (by decide) (fun (x1 : Int32) (h2 : x1.toInt = ((6 : Nat) : Int)) => ?_)
  refine z_xJ zt18 3 rfl rfl (fun (h3 : x1.toInt ≤ p1.toInt) => ?_) (fun (h3 : p1.toInt < x1.toInt) => ?_)
  · skip
    refine z_xP zt18 8 15 [some (.ref 5), some (.int p1)] [.ref 5] rfl rfl ?_
    have f5 : T[5]? = some (.inl (1, 0, 0, 0, 0)) := X.1.k rfl (by decide)
    refine z_xgI zt18 9 rfl zo18 zzf1_35 X f5 (by decide) (by decide) rfl (fun (x5 : Int32) h4 (h6 : (-2147483648) ≤ x5.toInt) (h7 : x5.toInt ≤ 2147483647) => ?_)
    refine z_xP zt18 10 19 [some (.ref 5), some (.int p1)] [.int p1, .int x5] rfl rfl ?_
    refine z_xgs zt18 11 rfl zo18 zg1_99 ?_
    refine z_xln zt18 12 rfl X f2 (by decide) (by decide) (fun (x8 : Int32) (h9 : x8.toInt = ((6 : Nat) : Int)) => ?_)
    refine z_xI zt18 13 rfl rfl (fun (x10 : Int32) (h11 : x10.toInt = p1.toInt - x8.toInt) => ?_) (z_pSub rfl rfl (by omega) (by omega))
    have h12 := z_b32 x5
    refine z_xI zt18 14 rfl rfl (fun (x13 : Int32) (h14 : x13 = x5 >>> (x10 &&& 31)) => ?_) (rfl)
    refine z_xP zt18 15 26 [some (.ref 5), some (.int p1)] [.int 1, .int x13] rfl rfl ?_
    refine z_xI zt18 16 rfl rfl (fun (x15 : Int32) (h16 : x15 = x13 &&& 1 ∧ 0 ≤ x15.toInt ∧ x15.toInt ≤ 1) => ?_) (⟨rfl, z_pAnd rfl (by omega)⟩)
    refine z_xZ zt18 17 rfl rfl (fun (h17 : x15.toInt = 0) => ?_) (fun (h17 : x15.toInt ≠ 0) => ?_)
    · skip
      refine z_xP zt18 20 37 [some (.ref 5), some (.int p1)] [.long 0] rfl rfl ?_
      have q0 : ((0 : Int64)).toInt = 0 := rfl
      exact z_xrl zt18 21 rfl zzr18 (kk 0 M0 X (z_yesBN hT h4 h14 h16.1 ⟨by omega, by omega, by omega⟩ (by omega)) rfl)
    refine z_xl2 zt18 18 rfl zo18 zkl1_84 ?_
    refine z_xP zt18 19 37 [some (.ref 5), some (.int p1)] [.long (-1)] rfl rfl ?_
    have qm1 : (((-1) : Int64)).toInt = (-1) := rfl
    exact z_xrl zt18 21 rfl zzr18 (kk (-1) M0 X (z_yesBY hT h4 h14 h16.1 ⟨by omega, by omega, by omega⟩ (by omega)) rfl)
  refine z_xgs zt18 4 rfl zo18 zg1_99 ?_
  refine z_xP zt18 5 12 [some (.ref 5), some (.int p1)] [.int p1, .ref 2] rfl rfl ?_
  refine z_xllv zt18 6 rfl X f2 (by decide) (by omega) (by omega) (fun (y18 : Int64) h19 => ?_)
  exact z_xrl zt18 7 rfl zzr18 (kk y18 M0 X (z_yesA hT h19 ⟨by omega, by omega⟩) rfl)
def zTQ15 (T : List zK) (N : Nat) : Prop := ∀ {d : Nat} {K : Option Value → zH → Prop} {p1 : Int32} {bb : Nat → Int} {nn : Nat} {nu : Int → Int} {BB : Nat}  {M0 : zH} (hW : z_W M0 T) (u1 : 0 ≤ p1.toInt ∧ p1.toInt ≤ 6) (hT : z_TP M0 bb nn nu BB) (hm : 4 * (6 - p1.toInt) + 2 < (N : Int)) (hd : 4 * (6 - p1.toInt) + 2 ≤ (d : Int)) (kk : ∀ (x : Int64) (M1 : zH), z_X T zw15 M0 M1 → z_PC nn M0 M1 (z_ti bb nn (z_one bb nn nu (6 - p1.toInt.toNat)) (z_atN M0)) (fun f => z_bv x f BB) → z_fr9 (10 * (p1.toInt.toNat + 1)) M0 M1 → K (some (.long x)) M1), z_ev (d + 5) 15 0 [some (.ref 5), some (.int p1), none, none, none, none, none] [] M0 K
def zTQ16 (T : List zK) (N : Nat) : Prop := ∀ {d : Nat} {K : Option Value → zH → Prop} {p1 : Int32} {bb : Nat → Int} {nn : Nat} {nu : Int → Int} {BB : Nat}  {M0 : zH} (hW : z_W M0 T) (u1 : 0 ≤ p1.toInt ∧ p1.toInt ≤ 6) (hT : z_TP M0 bb nn nu BB) (hm : 4 * (6 - p1.toInt) + 1 < (N : Int)) (hd : 4 * (6 - p1.toInt) + 1 ≤ (d : Int)) (kk : ∀ (x : Int64) (M1 : zH), z_X T zw16 M0 M1 → z_PC nn M0 M1 (z_ei bb nn (z_one bb nn nu (6 - p1.toInt.toNat)) (z_atN M0)) (fun f => z_bv x f BB) → z_fr9 (10 * (p1.toInt.toNat + 1)) M0 M1 → K (some (.long x)) M1), z_ev (d + 5) 16 0 [some (.ref 5), some (.int p1), none, none, none, none, none] [] M0 K
def zTQ17 (T : List zK) (N : Nat) : Prop := ∀ {d : Nat} {K : Option Value → zH → Prop} {p1 : Int32} {bb : Nat → Int} {nn : Nat} {nu : Int → Int} {BB : Nat}  {M0 : zH} (hW : z_W M0 T) (u1 : 0 ≤ p1.toInt ∧ p1.toInt ≤ 6) (hT : z_TP M0 bb nn nu BB) (hm : 4 * (6 - p1.toInt) < (N : Int)) (hd : 4 * (6 - p1.toInt) ≤ (d : Int)) (kk : ∀ (x : Int64) (M1 : zH), z_X T zw17 M0 M1 → z_PC nn M0 M1 (z_one bb nn nu (6 - p1.toInt.toNat) (z_atN M0)) (fun f => z_bv x f BB) → z_fr9 (10 * (p1.toInt.toNat + 1)) M0 M1 → K (some (.long x)) M1), z_ev (d + 5) 17 0 [some (.ref 5), some (.int p1), none, none, none] [] M0 K
def zTQ19 (T : List zK) (N : Nat) : Prop := ∀ {d : Nat} {K : Option Value → zH → Prop} {p1 : Int32} {p2 : Int32} {bb : Nat → Int} {nn : Nat} {nu : Int → Int} {BB : Nat}  {M0 : zH} (hW : z_W M0 T) (u1 : 1 ≤ p1.toInt ∧ p1.toInt ≤ 9) (u2 : 1 ≤ p2.toInt ∧ p2.toInt ≤ 6) (hT : z_TP M0 bb nn nu BB) (hm : 4 * (6 - p2.toInt) + 3 < (N : Int)) (hd : 4 * (6 - p2.toInt) + 3 ≤ (d : Int)) (kk : ∀ (x : Int64) (M1 : zH), z_X T zw19 M0 M1 → z_PC nn M0 M1 (z_lea bb nn (z_one bb nn nu (6 - p2.toInt.toNat)) (z_atN M0) p1.toInt) (fun f => z_bv x f BB) → z_fr9 (10 * p2.toInt.toNat) M0 M1 → K (some (.long x)) M1), z_ev (d + 5) 19 0 [some (.ref 5), some (.int p1), some (.int p2), none, none, none, none, none] [] M0 K
theorem zTB15 {T : List zK} {d : Nat} {K : Option Value → zH → Prop} {p1 : Int32} {bb : Nat → Int} {nn : Nat} {nu : Int → Int} {BB : Nat} {N : Nat} {M0 : zH} (u1 : 0 ≤ p1.toInt ∧ p1.toInt ≤ 6) (hT : z_TP M0 bb nn nu BB) (ih15 : zTQ15 T N) (ih16 : zTQ16 T N) (ih17 : zTQ17 T N) (ih19 : zTQ19 T N) (hm : 4 * (6 - p1.toInt) + 2 < (N : Int) + 1) (hd : 4 * (6 - p1.toInt) + 2 ≤ (d : Int)) (kk : ∀ (x : Int64) (M1 : zH), z_X T zw15 M0 M1 → z_PC nn M0 M1 (z_ti bb nn (z_one bb nn nu (6 - p1.toInt.toNat)) (z_atN M0)) (fun f => z_bv x f BB) → z_fr9 (10 * (p1.toInt.toNat + 1)) M0 M1 → K (some (.long x)) M1) : ∀ n : Nat, (∀ (M : zH) (b2 : Int64) (b4 : Int32) (o5 : Option Value), z_X T zw15 M0 M → 0 ≤ b4.toInt ∧ b4.toInt ≤ 160 → z_TI bb nn (z_one bb nn nu (6 - p1.toInt.toNat)) BB M0 M b2 b4.toInt → z_fr9 (10 * (p1.toInt.toNat + 1)) M0 M → ((0) * 2 + 0) * 161 + (160 - b4.toInt) < (n : Int) → z_ev (d + 5) 15 7 [some (.ref 5), some (.int p1), some (.long b2), none, some (.int b4), o5, none] [] M K) := by
  intro n
  induction n with
  | zero => exact by intros; exfalso; omega
  | succ n ih =>
    intro M b2 b4 o5 X hh0 hI hfr hE
    refine z_xP zt15 2 12 [some (.ref 5), some (.int p1), some (.long b2), none, some (.int b4), o5, none] [.int 160, .int b4] rfl rfl ?_
    refine z_xJ zt15 3 rfl rfl (fun (h1 : 160 ≤ b4.toInt) => ?_) (fun (h1 : b4.toInt < 160) => ?_)
    · skip
      refine z_xP zt15 26 73 [some (.ref 5), some (.int p1), some (.long b2), none, some (.int b4), o5, none] [.long b2] rfl rfl ?_
      exact z_xrl zt15 27 rfl zzr15 (kk b2 M X (z_TIx hI (by omega) hT.2.2.1.1) hfr)
    refine z_xP zt15 4 17 [some (.ref 5), some (.int p1), some (.long b2), none, some (.int b4), o5, none] [.int p1, .ref 5] rfl rfl ?_
    have f5 : T[5]? = some (.inl (1, 0, 0, 0, 0)) := X.1.k rfl (by decide)
    obtain ⟨d2, hdd2⟩ : ∃ e, d = e + 1 := ⟨d - 1, by omega⟩
    subst hdd2
    refine z_xcV (vs := [.ref 5, .int p1]) (r := []) (L2 := [some (.ref 5), some (.int p1), none, none, none, none, none]) zt15 5 rfl zo15 zzcV1_86 (Or.inl rfl) rfl X f5 rfl rfl rfl (Nat.le_of_ble_eq_true rfl) zzm16 (Nat.le_of_ble_eq_true rfl) rfl ?_
    refine ih16 X.1 (by omega) (hT.go X.1 X rfl) (by omega) (by omega) (fun y7 M3 X4 h5 h6 => ?_)
    have X8 := X.go X4 (z_sb (by decide))
    show z_ev (d2 + 1 + 5) 15 20 [some (.ref 5), some (.int p1), some (.long b2), none, some (.int b4), o5, none] [.long y7] M3 _
    refine z_xP zt15 6 25 [some (.ref 5), some (.int p1), some (.long b2), none, some (.int b4), some (.long y7), none] [.int 62, .ref 5] rfl rfl ?_
    refine z_xcV (vs := [.ref 5, .int 62]) (r := []) (L2 := [some (.ref 5), some (.int 62)]) zt15 7 rfl zo15 zzcV1_69 (Or.inl rfl) rfl X8 f5 rfl rfl rfl (Nat.le_of_ble_eq_true rfl) zzm12 (Nat.le_of_ble_eq_true rfl) rfl ?_
    have q62 : ((62 : Int32)).toInt = 62 := rfl
    have q62 : ((62 : Int32)).toInt = 62 := rfl
    refine zTC12 X8.1 (hT.go X8.1 X8 rfl) (fun x13 M10 X11 h14 h15 h12 => ?_)
    have X16 := X8.go X11 (z_sb (by decide))
    show z_ev (d2 + 1 + 5) 15 28 [some (.ref 5), some (.int p1), some (.long b2), none, some (.int b4), some (.long y7), none] [.int x13] M10 _
    refine z_xZ zt15 8 rfl rfl (fun (h18 : x13.toInt = 0) => ?_) (fun (h18 : x13.toInt ≠ 0) => ?_)
    · skip
      refine z_xP zt15 16 48 [some (.ref 5), some (.int p1), some (.long b2), none, some (.int b4), some (.long y7), none] [.long y7, .long b2] rfl rfl ?_
      refine z_xL zt15 17 rfl rfl (fun (y19 : Int64) (h20 : y19 = b2 ^^^ y7) => ?_) (rfl)
      refine z_xl2 zt15 18 rfl zo15 zkl1_84 ?_
      refine z_xL zt15 19 rfl rfl (fun (y21 : Int64) (h22 : y21 = y19 ^^^ (-1)) => ?_) (rfl)
      refine z_xP zt15 20 57 [some (.ref 5), some (.int p1), some (.long y21), none, some (.int b4), some (.long y7), none] [.int 61, .ref 5] rfl rfl ?_
      refine z_xcV (vs := [.ref 5, .int 61]) (r := []) (L2 := [some (.ref 5), some (.int 61)]) zt15 21 rfl zo15 zzcV1_69 (Or.inl rfl) rfl X16 f5 rfl rfl rfl (Nat.le_of_ble_eq_true rfl) zzm12 (Nat.le_of_ble_eq_true rfl) rfl ?_
      have q61 : ((61 : Int32)).toInt = 61 := rfl
      have q61 : ((61 : Int32)).toInt = 61 := rfl
      refine zTC12 X16.1 (hT.go X16.1 X16 rfl) (fun x26 M23 X24 h27 h28 h25 => ?_)
      have X29 := X16.go X24 (z_sb (by decide))
      show z_ev (d2 + 1 + 5) 15 60 [some (.ref 5), some (.int p1), some (.long y21), none, some (.int b4), some (.long y7), none] [.int x26] M23 _
      refine z_xZ zt15 22 rfl rfl (fun (h31 : x26.toInt ≠ 0) => ?_) (fun (h31 : x26.toInt = 0) => ?_)
      · skip
        refine z_xN zt15 24 rfl rfl (fun (x32 : Int32) (h33 : x32.toInt = b4.toInt + 1) => ?_) (z_pAdd rfl rfl (by omega) (by omega))
        show z_ev (d2 + 1 + 5) 15 69 [some (.ref 5), some (.int p1), some (.long y21), none, some (.int x32), some (.long y7), none] [] M23 _
        refine z_xP zt15 25 7 [some (.ref 5), some (.int p1), some (.long y21), none, some (.int x32), some (.long y7), none] [] rfl rfl ?_
        exact ih M23 y21 x32 (some (.long y7)) X29 ⟨by omega, by omega⟩ (z_TIs (z_one_pg _) hI (z_imA h5 h12 (by omega)) h25 (by omega) h20 h22 (by omega)) (((hfr.tr h6 (by omega)).ke X29.1 X11.2 (by decide)).ke X29.1 X24.2 (by decide)) (by omega)
      refine z_xP zt15 23 72 [some (.ref 5), some (.int p1), some (.long y21), none, some (.int b4), some (.long y7), none] [] rfl rfl ?_
      refine z_xP zt15 26 73 [some (.ref 5), some (.int p1), some (.long y21), none, some (.int b4), some (.long y7), none] [.long y21] rfl rfl ?_
      exact z_xrl zt15 27 rfl zzr15 (kk y21 M23 X29 (z_TIe (z_one_pg _) hI (z_imA h5 h12 (by omega)) h25 (by omega) h20 h22) (((hfr.tr h6 (by omega)).ke X29.1 X11.2 (by decide)).ke X29.1 X24.2 (by decide)))
    refine z_xP zt15 9 33 [some (.ref 5), some (.int p1), some (.long b2), none, some (.int b4), some (.long y7), none] [.long y7] rfl rfl ?_
    refine z_xl2 zt15 10 rfl zo15 zkl1_84 ?_
    refine z_xL zt15 11 rfl rfl (fun (y34 : Int64) (h35 : y34 = y7 ^^^ (-1)) => ?_) (rfl)
    refine z_xP zt15 12 39 [some (.ref 5), some (.int p1), some (.long b2), none, some (.int b4), some (.long y7), none] [.int p1, .ref 5, .long y34] rfl rfl ?_
    refine z_xcV (vs := [.ref 5, .int p1]) (r := [.long y34]) (L2 := [some (.ref 5), some (.int p1), none, none, none, none, none]) zt15 13 rfl zo15 zzcV1_86 (Or.inl rfl) rfl X16 f5 rfl rfl rfl (Nat.le_of_ble_eq_true rfl) zzm16 (Nat.le_of_ble_eq_true rfl) rfl ?_
    refine ih16 X16.1 (by omega) (hT.go X16.1 X16 rfl) (by omega) (by omega) (fun y40 M36 X37 h38 h39 => ?_)
    have X41 := X16.go X37 (z_sb (by decide))
    show z_ev (d2 + 1 + 5) 15 42 [some (.ref 5), some (.int p1), some (.long b2), none, some (.int b4), some (.long y7), none] [.long y40, .long y34] M36 _
    refine z_xL zt15 14 rfl rfl (fun (y43 : Int64) (h44 : y43 = y34 ||| y40) => ?_) (rfl)
    refine z_xP zt15 15 45 [some (.ref 5), some (.int p1), some (.long b2), none, some (.int b4), some (.long y43), none] [] rfl rfl ?_
    refine z_xP zt15 16 48 [some (.ref 5), some (.int p1), some (.long b2), none, some (.int b4), some (.long y43), none] [.long y43, .long b2] rfl rfl ?_
    refine z_xL zt15 17 rfl rfl (fun (y45 : Int64) (h46 : y45 = b2 ^^^ y43) => ?_) (rfl)
    refine z_xl2 zt15 18 rfl zo15 zkl1_84 ?_
    refine z_xL zt15 19 rfl rfl (fun (y47 : Int64) (h48 : y47 = y45 ^^^ (-1)) => ?_) (rfl)
    refine z_xP zt15 20 57 [some (.ref 5), some (.int p1), some (.long y47), none, some (.int b4), some (.long y43), none] [.int 61, .ref 5] rfl rfl ?_
    refine z_xcV (vs := [.ref 5, .int 61]) (r := []) (L2 := [some (.ref 5), some (.int 61)]) zt15 21 rfl zo15 zzcV1_69 (Or.inl rfl) rfl X41 f5 rfl rfl rfl (Nat.le_of_ble_eq_true rfl) zzm12 (Nat.le_of_ble_eq_true rfl) rfl ?_
    have q61 : ((61 : Int32)).toInt = 61 := rfl
    have q61 : ((61 : Int32)).toInt = 61 := rfl
    refine zTC12 X41.1 (hT.go X41.1 X41 rfl) (fun x52 M49 X50 h53 h54 h51 => ?_)
    have X55 := X41.go X50 (z_sb (by decide))
    show z_ev (d2 + 1 + 5) 15 60 [some (.ref 5), some (.int p1), some (.long y47), none, some (.int b4), some (.long y43), none] [.int x52] M49 _
    refine z_xZ zt15 22 rfl rfl (fun (h57 : x52.toInt ≠ 0) => ?_) (fun (h57 : x52.toInt = 0) => ?_)
    · skip
      refine z_xN zt15 24 rfl rfl (fun (x58 : Int32) (h59 : x58.toInt = b4.toInt + 1) => ?_) (z_pAdd rfl rfl (by omega) (by omega))
      show z_ev (d2 + 1 + 5) 15 69 [some (.ref 5), some (.int p1), some (.long y47), none, some (.int x58), some (.long y43), none] [] M49 _
      refine z_xP zt15 25 7 [some (.ref 5), some (.int p1), some (.long y47), none, some (.int x58), some (.long y43), none] [] rfl rfl ?_
      exact ih M49 y47 x58 (some (.long y43)) X55 ⟨by omega, by omega⟩ (z_TIs (z_one_pg _) hI (z_imB h5 h12 (by omega) h38 h35 h44) h51 (by omega) h46 h48 (by omega)) ((((hfr.tr h6 (by omega)).ke X55.1 X11.2 (by decide)).tr h39 (by omega)).ke X55.1 X50.2 (by decide)) (by omega)
    refine z_xP zt15 23 72 [some (.ref 5), some (.int p1), some (.long y47), none, some (.int b4), some (.long y43), none] [] rfl rfl ?_
    refine z_xP zt15 26 73 [some (.ref 5), some (.int p1), some (.long y47), none, some (.int b4), some (.long y43), none] [.long y47] rfl rfl ?_
    exact z_xrl zt15 27 rfl zzr15 (kk y47 M49 X55 (z_TIe (z_one_pg _) hI (z_imB h5 h12 (by omega) h38 h35 h44) h51 (by omega) h46 h48) ((((hfr.tr h6 (by omega)).ke X55.1 X11.2 (by decide)).tr h39 (by omega)).ke X55.1 X50.2 (by decide)))
theorem zTC15r {T : List zK} {d : Nat} {K : Option Value → zH → Prop} {p1 : Int32} {bb : Nat → Int} {nn : Nat} {nu : Int → Int} {BB : Nat} {N : Nat} {M0 : zH} (hW : z_W M0 T) (u1 : 0 ≤ p1.toInt ∧ p1.toInt ≤ 6) (hT : z_TP M0 bb nn nu BB) (ih15 : zTQ15 T N) (ih16 : zTQ16 T N) (ih17 : zTQ17 T N) (ih19 : zTQ19 T N) (hm : 4 * (6 - p1.toInt) + 2 < (N : Int) + 1) (hd : 4 * (6 - p1.toInt) + 2 ≤ (d : Int)) (kk : ∀ (x : Int64) (M1 : zH), z_X T zw15 M0 M1 → z_PC nn M0 M1 (z_ti bb nn (z_one bb nn nu (6 - p1.toInt.toNat)) (z_atN M0)) (fun f => z_bv x f BB) → z_fr9 (10 * (p1.toInt.toNat + 1)) M0 M1 → K (some (.long x)) M1) : z_ev (d + 5) 15 0 [some (.ref 5), some (.int p1), none, none, none, none, none] [] M0 K := by
  have X : z_X T zw15 M0 M0 := .refl hW
  refine z_xl2 zt15 0 rfl zo15 zkl1_84 ?_
  refine z_xP zt15 1 7 [some (.ref 5), some (.int p1), some (.long (-1)), none, some (.int 0), none, none] [] rfl rfl ?_
  have qm1 : (((-1) : Int64)).toInt = (-1) := rfl
  have q0 : ((0 : Int32)).toInt = 0 := rfl
  exact (zTB15 u1 hT ih15 ih16 ih17 ih19 hm hd kk 322) M0 ((-1)) (0) none X (by decide) z_TI0 (z_fr9.refl (k := (10 * (p1.toInt.toNat + 1))) (M := M0)) (by omega)
theorem zTB16 {T : List zK} {d : Nat} {K : Option Value → zH → Prop} {p1 : Int32} {bb : Nat → Int} {nn : Nat} {nu : Int → Int} {BB : Nat} {N : Nat} {M0 : zH} (u1 : 0 ≤ p1.toInt ∧ p1.toInt ≤ 6) (hT : z_TP M0 bb nn nu BB) (ih15 : zTQ15 T N) (ih16 : zTQ16 T N) (ih17 : zTQ17 T N) (ih19 : zTQ19 T N) (hm : 4 * (6 - p1.toInt) + 1 < (N : Int) + 1) (hd : 4 * (6 - p1.toInt) + 1 ≤ (d : Int)) (kk : ∀ (x : Int64) (M1 : zH), z_X T zw16 M0 M1 → z_PC nn M0 M1 (z_ei bb nn (z_one bb nn nu (6 - p1.toInt.toNat)) (z_atN M0)) (fun f => z_bv x f BB) → z_fr9 (10 * (p1.toInt.toNat + 1)) M0 M1 → K (some (.long x)) M1) : ∀ n : Nat, (∀ (M : zH) (b2 : Int64) (b4 : Int64) (b6 : Int32), z_X T zw16 M0 M → 0 ≤ b6.toInt ∧ b6.toInt ≤ 160 → z_EI bb nn (z_one bb nn nu (6 - p1.toInt.toNat)) BB M0 M b2 b4 b6.toInt → z_fr9 (10 * (p1.toInt.toNat + 1)) M0 M → ((0) * 2 + 0) * 161 + (160 - b6.toInt) < (n : Int) → z_ev (d + 5) 16 12 [some (.ref 5), some (.int p1), some (.long b2), none, some (.long b4), none, some (.int b6)] [] M K) := by
  intro n
  induction n with
  | zero => exact by intros; exfalso; omega
  | succ n ih =>
    intro M b2 b4 b6 X hh0 hI hfr hE
    refine z_xP zt16 3 17 [some (.ref 5), some (.int p1), some (.long b2), none, some (.long b4), none, some (.int b6)] [.int 160, .int b6] rfl rfl ?_
    refine z_xJ zt16 4 rfl rfl (fun (h1 : 160 ≤ b6.toInt) => ?_) (fun (h1 : b6.toInt < 160) => ?_)
    · skip
      refine z_xP zt16 22 72 [some (.ref 5), some (.int p1), some (.long b2), none, some (.long b4), none, some (.int b6)] [.long b4, .long b2] rfl rfl ?_
      refine z_xL zt16 23 rfl rfl (fun (y2 : Int64) (h3 : y2 = b2 ||| b4) => ?_) (rfl)
      exact z_xrl zt16 24 rfl zzr16 (kk y2 M X (z_EIx hI (by omega) hT.2.2.1.1 h3) hfr)
    refine z_xP zt16 5 23 [some (.ref 5), some (.int p1), some (.long b2), none, some (.long b4), none, some (.int b6)] [.int 38, .ref 5] rfl rfl ?_
    have f5 : T[5]? = some (.inl (1, 0, 0, 0, 0)) := X.1.k rfl (by decide)
    refine z_xcV (vs := [.ref 5, .int 38]) (r := []) (L2 := [some (.ref 5), some (.int 38)]) zt16 6 rfl zo16 zzcV1_69 (Or.inl rfl) rfl X f5 rfl rfl rfl (Nat.le_of_ble_eq_true rfl) zzm12 (Nat.le_of_ble_eq_true rfl) rfl ?_
    have q38 : ((38 : Int32)).toInt = 38 := rfl
    have q38 : ((38 : Int32)).toInt = 38 := rfl
    refine zTC12 X.1 (hT.go X.1 X rfl) (fun x7 M4 X5 h8 h9 h6 => ?_)
    have X10 := X.go X5 (z_sb (by decide))
    show z_ev (d + 5) 16 26 [some (.ref 5), some (.int p1), some (.long b2), none, some (.long b4), none, some (.int b6)] [.int x7] M4 _
    refine z_xZ zt16 7 rfl rfl (fun (h12 : x7.toInt = 0) => ?_) (fun (h12 : x7.toInt ≠ 0) => ?_)
    · skip
      refine z_xP zt16 12 45 [some (.ref 5), some (.int p1), some (.long b2), none, some (.long b4), none, some (.int b6)] [.int 124, .ref 5] rfl rfl ?_
      refine z_xcV (vs := [.ref 5, .int 124]) (r := []) (L2 := [some (.ref 5), some (.int 124)]) zt16 13 rfl zo16 zzcV1_69 (Or.inl rfl) rfl X10 f5 rfl rfl rfl (Nat.le_of_ble_eq_true rfl) zzm12 (Nat.le_of_ble_eq_true rfl) rfl ?_
      have q124 : ((124 : Int32)).toInt = 124 := rfl
      have q124 : ((124 : Int32)).toInt = 124 := rfl
      refine zTC12 X10.1 (hT.go X10.1 X10 rfl) (fun x16 M13 X14 h17 h18 h15 => ?_)
      have X19 := X10.go X14 (z_sb (by decide))
      show z_ev (d + 5) 16 48 [some (.ref 5), some (.int p1), some (.long b2), none, some (.long b4), none, some (.int b6)] [.int x16] M13 _
      refine z_xZ zt16 14 rfl rfl (fun (h21 : x16.toInt = 0) => ?_) (fun (h21 : x16.toInt ≠ 0) => ?_)
      · skip
        refine z_xP zt16 22 72 [some (.ref 5), some (.int p1), some (.long b2), none, some (.long b4), none, some (.int b6)] [.long b4, .long b2] rfl rfl ?_
        refine z_xL zt16 23 rfl rfl (fun (y22 : Int64) (h23 : y22 = b2 ||| b4) => ?_) (rfl)
        exact z_xrl zt16 24 rfl zzr16 (kk y22 M13 X19 (z_EIe hI h6 (by omega) h15 (by omega) h23) ((hfr.ke X19.1 X5.2 (by decide)).ke X19.1 X14.2 (by decide)))
      refine z_xP zt16 15 54 [some (.ref 5), some (.int p1), some (.long b2), none, some (.long b4), none, some (.int b6)] [.long b4, .long b2] rfl rfl ?_
      refine z_xL zt16 16 rfl rfl (fun (y24 : Int64) (h25 : y24 = b2 ||| b4) => ?_) (rfl)
      refine z_xP zt16 17 58 [some (.ref 5), some (.int p1), some (.long y24), none, some (.long b4), none, some (.int b6)] [.int p1, .ref 5] rfl rfl ?_
      obtain ⟨d26, hdd26⟩ : ∃ e, d = e + 1 := ⟨d - 1, by omega⟩
      subst hdd26
      refine z_xcV (vs := [.ref 5, .int p1]) (r := []) (L2 := [some (.ref 5), some (.int p1), none, none, none]) zt16 18 rfl zo16 zzcV1_89 (Or.inl rfl) rfl X19 f5 rfl rfl rfl (Nat.le_of_ble_eq_true rfl) zzm17 (Nat.le_of_ble_eq_true rfl) rfl ?_
      refine ih17 X19.1 (by omega) (hT.go X19.1 X19 rfl) (by omega) (by omega) (fun y31 M27 X28 h29 h30 => ?_)
      have X32 := X19.go X28 (z_sb (by decide))
      show z_ev (d26 + 1 + 5) 16 61 [some (.ref 5), some (.int p1), some (.long y24), none, some (.long b4), none, some (.int b6)] [.long y31] M27 _
      refine z_xP zt16 19 63 [some (.ref 5), some (.int p1), some (.long y24), none, some (.long y31), none, some (.int b6)] [] rfl rfl ?_
      refine z_xN zt16 20 rfl rfl (fun (x34 : Int32) (h35 : x34.toInt = b6.toInt + 1) => ?_) (z_pAdd rfl rfl (by omega) (by omega))
      show z_ev (d26 + 1 + 5) 16 66 [some (.ref 5), some (.int p1), some (.long y24), none, some (.long y31), none, some (.int x34)] [] M27 _
      refine z_xP zt16 21 12 [some (.ref 5), some (.int p1), some (.long y24), none, some (.long y31), none, some (.int x34)] [] rfl rfl ?_
      exact ih M27 y24 y31 x34 X32 ⟨by omega, by omega⟩ (z_EIor (z_one_pg _) hI h6 (by omega) h15 (by omega) h29 h25 (by omega)) (((hfr.ke X32.1 X5.2 (by decide)).ke X32.1 X14.2 (by decide)).tr h30 (by omega)) (by omega)
    refine z_xP zt16 8 33 [some (.ref 5), some (.int p1), some (.long b2), none, some (.long b4), none, some (.int b6)] [.int p1, .ref 5, .long b4] rfl rfl ?_
    obtain ⟨d36, hdd36⟩ : ∃ e, d = e + 1 := ⟨d - 1, by omega⟩
    subst hdd36
    refine z_xcV (vs := [.ref 5, .int p1]) (r := [.long b4]) (L2 := [some (.ref 5), some (.int p1), none, none, none]) zt16 9 rfl zo16 zzcV1_89 (Or.inl rfl) rfl X10 f5 rfl rfl rfl (Nat.le_of_ble_eq_true rfl) zzm17 (Nat.le_of_ble_eq_true rfl) rfl ?_
    refine ih17 X10.1 (by omega) (hT.go X10.1 X10 rfl) (by omega) (by omega) (fun y41 M37 X38 h39 h40 => ?_)
    have X42 := X10.go X38 (z_sb (by decide))
    show z_ev (d36 + 1 + 5) 16 36 [some (.ref 5), some (.int p1), some (.long b2), none, some (.long b4), none, some (.int b6)] [.long y41, .long b4] M37 _
    refine z_xL zt16 10 rfl rfl (fun (y44 : Int64) (h45 : y44 = b4 &&& y41) => ?_) (rfl)
    refine z_xP zt16 11 63 [some (.ref 5), some (.int p1), some (.long b2), none, some (.long y44), none, some (.int b6)] [] rfl rfl ?_
    refine z_xN zt16 20 rfl rfl (fun (x46 : Int32) (h47 : x46.toInt = b6.toInt + 1) => ?_) (z_pAdd rfl rfl (by omega) (by omega))
    show z_ev (d36 + 1 + 5) 16 66 [some (.ref 5), some (.int p1), some (.long b2), none, some (.long y44), none, some (.int x46)] [] M37 _
    refine z_xP zt16 21 12 [some (.ref 5), some (.int p1), some (.long b2), none, some (.long y44), none, some (.int x46)] [] rfl rfl ?_
    exact ih M37 b2 y44 x46 X42 ⟨by omega, by omega⟩ (z_EIand (z_one_pg _) hI h6 (by omega) h39 h45 (by omega)) ((hfr.ke X42.1 X5.2 (by decide)).tr h40 (by omega)) (by omega)
theorem zTC16r {T : List zK} {d : Nat} {K : Option Value → zH → Prop} {p1 : Int32} {bb : Nat → Int} {nn : Nat} {nu : Int → Int} {BB : Nat} {N : Nat} {M0 : zH} (hW : z_W M0 T) (u1 : 0 ≤ p1.toInt ∧ p1.toInt ≤ 6) (hT : z_TP M0 bb nn nu BB) (ih15 : zTQ15 T N) (ih16 : zTQ16 T N) (ih17 : zTQ17 T N) (ih19 : zTQ19 T N) (hm : 4 * (6 - p1.toInt) + 1 < (N : Int) + 1) (hd : 4 * (6 - p1.toInt) + 1 ≤ (d : Int)) (kk : ∀ (x : Int64) (M1 : zH), z_X T zw16 M0 M1 → z_PC nn M0 M1 (z_ei bb nn (z_one bb nn nu (6 - p1.toInt.toNat)) (z_atN M0)) (fun f => z_bv x f BB) → z_fr9 (10 * (p1.toInt.toNat + 1)) M0 M1 → K (some (.long x)) M1) : z_ev (d + 5) 16 0 [some (.ref 5), some (.int p1), none, none, none, none, none] [] M0 K := by
  have X : z_X T zw16 M0 M0 := .refl hW
  refine z_xP zt16 0 4 [some (.ref 5), some (.int p1), some (.long 0), none, none, none, none] [.int p1, .ref 5] rfl rfl ?_
  have f5 : T[5]? = some (.inl (1, 0, 0, 0, 0)) := X.1.k rfl (by decide)
  obtain ⟨d1, hdd1⟩ : ∃ e, d = e + 1 := ⟨d - 1, by omega⟩
  subst hdd1
  refine z_xcV (vs := [.ref 5, .int p1]) (r := []) (L2 := [some (.ref 5), some (.int p1), none, none, none]) zt16 1 rfl zo16 zzcV1_89 (Or.inl rfl) rfl X f5 rfl rfl rfl (Nat.le_of_ble_eq_true rfl) zzm17 (Nat.le_of_ble_eq_true rfl) rfl ?_
  refine ih17 X.1 (by omega) (hT.go X.1 X rfl) (by omega) (by omega) (fun y6 M2 X3 h4 h5 => ?_)
  have X7 := X.go X3 (z_sb (by decide))
  show z_ev (d1 + 1 + 5) 16 7 [some (.ref 5), some (.int p1), some (.long 0), none, none, none, none] [.long y6] M2 _
  refine z_xP zt16 2 12 [some (.ref 5), some (.int p1), some (.long 0), none, some (.long y6), none, some (.int 0)] [] rfl rfl ?_
  have q0 : ((0 : Int32)).toInt = 0 := rfl
  exact (zTB16 u1 hT ih15 ih16 ih17 ih19 hm hd kk 322) M2 (0) y6 (0) X7 (by decide) (z_EI0 (z_one_pg _) h4) ((z_fr9.refl (k := (10 * (p1.toInt.toNat + 1))) (M := M0)).tr h5 (by omega)) (by omega)
theorem zTC17r {T : List zK} {d : Nat} {K : Option Value → zH → Prop} {p1 : Int32} {bb : Nat → Int} {nn : Nat} {nu : Int → Int} {BB : Nat} {N : Nat} {M0 : zH} (hW : z_W M0 T) (u1 : 0 ≤ p1.toInt ∧ p1.toInt ≤ 6) (hT : z_TP M0 bb nn nu BB) (ih15 : zTQ15 T N) (ih16 : zTQ16 T N) (ih17 : zTQ17 T N) (ih19 : zTQ19 T N) (hm : 4 * (6 - p1.toInt) < (N : Int) + 1) (hd : 4 * (6 - p1.toInt) ≤ (d : Int)) (kk : ∀ (x : Int64) (M1 : zH), z_X T zw17 M0 M1 → z_PC nn M0 M1 (z_one bb nn nu (6 - p1.toInt.toNat) (z_atN M0)) (fun f => z_bv x f BB) → z_fr9 (10 * (p1.toInt.toNat + 1)) M0 M1 → K (some (.long x)) M1) : z_ev (d + 5) 17 0 [some (.ref 5), some (.int p1), none, none, none] [] M0 K := by
  have X : z_X T zw17 M0 M0 := .refl hW
  refine z_xP zt17 0 1 [some (.ref 5), some (.int p1), none, none, none] [.ref 5] rfl rfl ?_
  have f5 : T[5]? = some (.inl (1, 0, 0, 0, 0)) := X.1.k rfl (by decide)
  refine z_xcV (vs := [.ref 5]) (r := []) (L2 := [some (.ref 5), none]) zt17 1 rfl zo17 zzcV1_81 (Or.inl rfl) rfl X f5 rfl rfl rfl (Nat.le_of_ble_eq_true rfl) zzm14 (Nat.le_of_ble_eq_true rfl) rfl ?_
  refine zTC14 X.1 (hT.go X.1 X rfl) (fun x5 M1 X2 h6 h7 h3 h4 => ?_)
  have X8 := X.go X2 (z_sb (by decide))
  show z_ev (d + 5) 17 4 [some (.ref 5), some (.int p1), none, none, none] [.int x5] M1 _
  have h10 := h4.symm
  subst h10
  refine z_xP zt17 2 6 [some (.ref 5), some (.int p1), some (.int x5), none, none] [.int x5] rfl rfl ?_
  refine z_xZ zt17 3 rfl rfl (fun (h11 : x5.toInt < 0) => ?_) (fun (h11 : 0 ≤ x5.toInt) => ?_)
  · skip
    refine z_xP zt17 12 28 [some (.ref 5), some (.int p1), some (.int x5), none, none] [.int 6, .int p1] rfl rfl ?_
    refine z_xJ zt17 13 rfl rfl (fun (h12 : 6 ≤ p1.toInt) => ?_) (fun (h12 : p1.toInt < 6) => ?_)
    · skip
      refine z_xP zt17 63 143 [some (.ref 5), some (.int p1), some (.int x5), none, none] [.ref 5] rfl rfl ?_
      refine z_xcV (vs := [.ref 5]) (r := []) (L2 := [some (.ref 5)]) zt17 64 rfl zo17 zzcV1_66 (Or.inl rfl) rfl X8 f5 rfl rfl rfl (Nat.le_of_ble_eq_true rfl) zzm10 (Nat.le_of_ble_eq_true rfl) rfl ?_
      refine zTC10 X8.1 (hT.go X8.1 X8 rfl) (fun M13 X14 h15 => ?_)
      have X16 := X8.go X14 (z_sb (by decide))
      show z_ev (d + 5) 17 146 [some (.ref 5), some (.int p1), some (.int x5), none, none] [] M13 _
      refine z_xP zt17 65 147 [some (.ref 5), some (.int p1), some (.int x5), none, none] [.long 0] rfl rfl ?_
      have q0 : ((0 : Int64)).toInt = 0 := rfl
      exact z_xrl zt17 66 rfl zzr17 (kk 0 M13 X16 (z_simF6 h3 (by omega) (by omega) h15) (((z_fr9.refl (k := (10 * (p1.toInt.toNat + 1))) (M := M0)).ke X16.1 X2.2 (by decide)).ke X16.1 X14.2 (by decide)))
    refine z_xP zt17 14 34 [some (.ref 5), some (.int p1), some (.int x5), none, none] [.int 33, .ref 5] rfl rfl ?_
    refine z_xcV (vs := [.ref 5, .int 33]) (r := []) (L2 := [some (.ref 5), some (.int 33)]) zt17 15 rfl zo17 zzcV1_69 (Or.inl rfl) rfl X8 f5 rfl rfl rfl (Nat.le_of_ble_eq_true rfl) zzm12 (Nat.le_of_ble_eq_true rfl) rfl ?_
    have q33 : ((33 : Int32)).toInt = 33 := rfl
    have q33 : ((33 : Int32)).toInt = 33 := rfl
    refine zTC12 X8.1 (hT.go X8.1 X8 rfl) (fun x21 M18 X19 h22 h23 h20 => ?_)
    have X24 := X8.go X19 (z_sb (by decide))
    show z_ev (d + 5) 17 37 [some (.ref 5), some (.int p1), some (.int x5), none, none] [.int x21] M18 _
    refine z_xZ zt17 16 rfl rfl (fun (h26 : x21.toInt = 0) => ?_) (fun (h26 : x21.toInt ≠ 0) => ?_)
    · skip
      refine z_xP zt17 23 55 [some (.ref 5), some (.int p1), some (.int x5), none, none] [.int 40, .ref 5] rfl rfl ?_
      refine z_xcV (vs := [.ref 5, .int 40]) (r := []) (L2 := [some (.ref 5), some (.int 40)]) zt17 24 rfl zo17 zzcV1_69 (Or.inl rfl) rfl X24 f5 rfl rfl rfl (Nat.le_of_ble_eq_true rfl) zzm12 (Nat.le_of_ble_eq_true rfl) rfl ?_
      have q40 : ((40 : Int32)).toInt = 40 := rfl
      have q40 : ((40 : Int32)).toInt = 40 := rfl
      refine zTC12 X24.1 (hT.go X24.1 X24 rfl) (fun x30 M27 X28 h31 h32 h29 => ?_)
      have X33 := X24.go X28 (z_sb (by decide))
      show z_ev (d + 5) 17 58 [some (.ref 5), some (.int p1), some (.int x5), none, none] [.int x30] M27 _
      refine z_xZ zt17 25 rfl rfl (fun (h35 : x30.toInt = 0) => ?_) (fun (h35 : x30.toInt ≠ 0) => ?_)
      · skip
        refine z_xP zt17 33 78 [some (.ref 5), some (.int p1), some (.int x5), none, none] [.ref 5] rfl rfl ?_
        refine z_xgI zt17 34 rfl zo17 zzf1_32 X33 f5 (by decide) (by decide) rfl (fun (x37 : Int32) h36 (h38 : (-2147483648) ≤ x37.toInt) (h39 : x37.toInt ≤ 2147483647) => ?_)
        refine z_xZ zt17 35 rfl rfl (fun (h40 : 0 ≤ x37.toInt) => ?_) (fun (h40 : x37.toInt < 0) => ?_)
        · skip
          refine z_xP zt17 49 111 [some (.ref 5), some (.int p1), some (.int x5), none, none] [.int 0] rfl rfl ?_
          refine z_xP zt17 50 114 [some (.ref 5), some (.int p1), some (.int x5), some (.int 0), none] [.int 1, .int 0] rfl rfl ?_
          refine z_xJ zt17 51 rfl rfl (fun (h41 : (0 : Int) < 1) => ?_) (fun (h41 : 1 ≤ (0 : Int)) => absurd h41 (by omega))
          refine z_xP zt17 63 143 [some (.ref 5), some (.int p1), some (.int x5), some (.int 0), none] [.ref 5] rfl rfl ?_
          refine z_xcV (vs := [.ref 5]) (r := []) (L2 := [some (.ref 5)]) zt17 64 rfl zo17 zzcV1_66 (Or.inl rfl) rfl X33 f5 rfl rfl rfl (Nat.le_of_ble_eq_true rfl) zzm10 (Nat.le_of_ble_eq_true rfl) rfl ?_
          refine zTC10 X33.1 (hT.go X33.1 X33 rfl) (fun M42 X43 h44 => ?_)
          have X45 := X33.go X43 (z_sb (by decide))
          show z_ev (d + 5) 17 146 [some (.ref 5), some (.int p1), some (.int x5), some (.int 0), none] [] M42 _
          refine z_xP zt17 65 147 [some (.ref 5), some (.int p1), some (.int x5), some (.int 0), none] [.long 0] rfl rfl ?_
          have q0 : ((0 : Int64)).toInt = 0 := rfl
          exact z_xrl zt17 66 rfl zzr17 (kk 0 M42 X45 (z_simF h3 (by omega) h20 (by omega) h29 (by omega) (z_nodA h36 (by omega)) h44) (((((z_fr9.refl (k := (10 * (p1.toInt.toNat + 1))) (M := M0)).ke X45.1 X2.2 (by decide)).ke X45.1 X19.2 (by decide)).ke X45.1 X28.2 (by decide)).ke X45.1 X43.2 (by decide)))
        refine z_xP zt17 36 85 [some (.ref 5), some (.int p1), some (.int x5), none, none] [.ref 5] rfl rfl ?_
        refine z_xgI zt17 37 rfl zo17 zzf1_29 X33 f5 (by decide) (by decide) rfl (fun (x48 : Int32) h47 (h49 : 0 ≤ x48.toInt) (h50 : x48.toInt ≤ 160) => ?_)
        refine z_xP zt17 38 89 [some (.ref 5), some (.int p1), some (.int x5), none, none] [.ref 5, .int x48] rfl rfl ?_
        refine z_xgI zt17 39 rfl zo17 zzf1_25 X33 f5 (by decide) (by decide) rfl (fun (x52 : Int32) h51 (h53 : 0 ≤ x52.toInt) (h54 : x52.toInt ≤ 160) => ?_)
        refine z_xJ zt17 40 rfl rfl (fun (h55 : x52.toInt ≤ x48.toInt) => ?_) (fun (h55 : x48.toInt < x52.toInt) => ?_)
        · skip
          refine z_xP zt17 49 111 [some (.ref 5), some (.int p1), some (.int x5), none, none] [.int 0] rfl rfl ?_
          refine z_xP zt17 50 114 [some (.ref 5), some (.int p1), some (.int x5), some (.int 0), none] [.int 1, .int 0] rfl rfl ?_
          refine z_xJ zt17 51 rfl rfl (fun (h56 : (0 : Int) < 1) => ?_) (fun (h56 : 1 ≤ (0 : Int)) => absurd h56 (by omega))
          refine z_xP zt17 63 143 [some (.ref 5), some (.int p1), some (.int x5), some (.int 0), none] [.ref 5] rfl rfl ?_
          refine z_xcV (vs := [.ref 5]) (r := []) (L2 := [some (.ref 5)]) zt17 64 rfl zo17 zzcV1_66 (Or.inl rfl) rfl X33 f5 rfl rfl rfl (Nat.le_of_ble_eq_true rfl) zzm10 (Nat.le_of_ble_eq_true rfl) rfl ?_
          refine zTC10 X33.1 (hT.go X33.1 X33 rfl) (fun M57 X58 h59 => ?_)
          have X60 := X33.go X58 (z_sb (by decide))
          show z_ev (d + 5) 17 146 [some (.ref 5), some (.int p1), some (.int x5), some (.int 0), none] [] M57 _
          refine z_xP zt17 65 147 [some (.ref 5), some (.int p1), some (.int x5), some (.int 0), none] [.long 0] rfl rfl ?_
          have q0 : ((0 : Int64)).toInt = 0 := rfl
          exact z_xrl zt17 66 rfl zzr17 (kk 0 M57 X60 (z_simF h3 (by omega) h20 (by omega) h29 (by omega) (z_nodB (hT.go X33.1 X33 rfl) h47 h51 (by omega)) h59) (((((z_fr9.refl (k := (10 * (p1.toInt.toNat + 1))) (M := M0)).ke X60.1 X2.2 (by decide)).ke X60.1 X19.2 (by decide)).ke X60.1 X28.2 (by decide)).ke X60.1 X58.2 (by decide)))
        refine z_xP zt17 41 96 [some (.ref 5), some (.int p1), some (.int x5), none, none] [.ref 5] rfl rfl ?_
        refine z_xgX (b := 6) zt17 42 rfl zo17 zzf1_9 X33 f5 (by decide) (by decide) rfl ?_
        refine z_xP zt17 43 100 [some (.ref 5), some (.int p1), some (.int x5), none, none] [.ref 5, .ref 6] rfl rfl ?_
        refine z_xgv zt17 44 rfl zo17 zzf1_29 X33 f5 (by decide) h47 ?_
        have f6 : T[6]? = some (.inr (6, 0, 160, (-2147483648), 2147483647)) := X33.1.k rfl (by decide)
        refine z_xil zt17 45 rfl X33 f6 (by decide) (by omega) (by omega) (fun (x62 : Int32) h63 (h64 : (-2147483648) ≤ x62.toInt) (h65 : x62.toInt ≤ 2147483647) => ?_)
        have h66 := (hT.go X33.1 X33 rfl).rng h51 h63 ⟨by omega, by omega⟩
        refine z_xP zt17 46 106 [some (.ref 5), some (.int p1), some (.int x5), none, none] [.int 48, .int x62] rfl rfl ?_
        refine z_xI zt17 47 rfl rfl (fun (x67 : Int32) (h68 : x67.toInt = x62.toInt - 48) => ?_) (z_pSub rfl rfl (by omega) (by omega))
        refine z_xP zt17 48 111 [some (.ref 5), some (.int p1), some (.int x5), none, none] [.int x67] rfl rfl ?_
        refine z_xP zt17 50 114 [some (.ref 5), some (.int p1), some (.int x5), some (.int x67), none] [.int 1, .int x67] rfl rfl ?_
        refine z_xJ zt17 51 rfl rfl (fun (h69 : x67.toInt < 1) => ?_) (fun (h69 : 1 ≤ x67.toInt) => ?_)
        · skip
          refine z_xP zt17 63 143 [some (.ref 5), some (.int p1), some (.int x5), some (.int x67), none] [.ref 5] rfl rfl ?_
          refine z_xcV (vs := [.ref 5]) (r := []) (L2 := [some (.ref 5)]) zt17 64 rfl zo17 zzcV1_66 (Or.inl rfl) rfl X33 f5 rfl rfl rfl (Nat.le_of_ble_eq_true rfl) zzm10 (Nat.le_of_ble_eq_true rfl) rfl ?_
          refine zTC10 X33.1 (hT.go X33.1 X33 rfl) (fun M70 X71 h72 => ?_)
          have X73 := X33.go X71 (z_sb (by decide))
          show z_ev (d + 5) 17 146 [some (.ref 5), some (.int p1), some (.int x5), some (.int x67), none] [] M70 _
          refine z_xP zt17 65 147 [some (.ref 5), some (.int p1), some (.int x5), some (.int x67), none] [.long 0] rfl rfl ?_
          have q0 : ((0 : Int64)).toInt = 0 := rfl
          exact z_xrl zt17 66 rfl zzr17 (kk 0 M70 X73 (z_simF h3 (by omega) h20 (by omega) h29 (by omega) (z_nodC (hT.go X33.1 X33 rfl) h47 h63 (by omega)) h72) (((((z_fr9.refl (k := (10 * (p1.toInt.toNat + 1))) (M := M0)).ke X73.1 X2.2 (by decide)).ke X73.1 X19.2 (by decide)).ke X73.1 X28.2 (by decide)).ke X73.1 X71.2 (by decide)))
        refine z_xP zt17 52 120 [some (.ref 5), some (.int p1), some (.int x5), some (.int x67), none] [.int 9, .int x67] rfl rfl ?_
        refine z_xJ zt17 53 rfl rfl (fun (h75 : 9 < x67.toInt) => ?_) (fun (h75 : x67.toInt ≤ 9) => ?_)
        · skip
          refine z_xP zt17 63 143 [some (.ref 5), some (.int p1), some (.int x5), some (.int x67), none] [.ref 5] rfl rfl ?_
          refine z_xcV (vs := [.ref 5]) (r := []) (L2 := [some (.ref 5)]) zt17 64 rfl zo17 zzcV1_66 (Or.inl rfl) rfl X33 f5 rfl rfl rfl (Nat.le_of_ble_eq_true rfl) zzm10 (Nat.le_of_ble_eq_true rfl) rfl ?_
          refine zTC10 X33.1 (hT.go X33.1 X33 rfl) (fun M76 X77 h78 => ?_)
          have X79 := X33.go X77 (z_sb (by decide))
          show z_ev (d + 5) 17 146 [some (.ref 5), some (.int p1), some (.int x5), some (.int x67), none] [] M76 _
          refine z_xP zt17 65 147 [some (.ref 5), some (.int p1), some (.int x5), some (.int x67), none] [.long 0] rfl rfl ?_
          have q0 : ((0 : Int64)).toInt = 0 := rfl
          exact z_xrl zt17 66 rfl zzr17 (kk 0 M76 X79 (z_simF h3 (by omega) h20 (by omega) h29 (by omega) (z_nodC (hT.go X33.1 X33 rfl) h47 h63 (by omega)) h78) (((((z_fr9.refl (k := (10 * (p1.toInt.toNat + 1))) (M := M0)).ke X79.1 X2.2 (by decide)).ke X79.1 X19.2 (by decide)).ke X79.1 X28.2 (by decide)).ke X79.1 X77.2 (by decide)))
        refine z_xP zt17 54 125 [some (.ref 5), some (.int p1), some (.int x5), some (.int x67), none] [.ref 5, .ref 5] rfl rfl ?_
        refine z_xgv zt17 55 rfl zo17 zzf1_29 X33 f5 (by decide) h47 ?_
        refine z_xP zt17 56 129 [some (.ref 5), some (.int p1), some (.int x5), some (.int x67), none] [.int 1, .int x48, .ref 5] rfl rfl ?_
        refine z_xI zt17 57 rfl rfl (fun (x81 : Int32) (h82 : x81.toInt = x48.toInt + 1) => ?_) (z_pAdd rfl rfl (by omega) (by omega))
        refine z_xpf zt17 58 rfl zo17 zzf1_29 X33 f5 (by decide) (by decide) ⟨by omega, by omega⟩ rfl (by decide) zw1_2 (fun M83 X84 e85 h86 => ?_)
        refine z_xP zt17 59 137 [some (.ref 5), some (.int p1), some (.int x5), some (.int x67), none] [.int 1, .int p1, .int x67, .ref 5] rfl rfl ?_
        refine z_xI zt17 60 rfl rfl (fun (x87 : Int32) (h88 : x87.toInt = p1.toInt + 1) => ?_) (z_pAdd rfl rfl (by omega) (by omega))
        obtain ⟨d89, hdd89⟩ : ∃ e, d = e + 1 := ⟨d - 1, by omega⟩
        subst hdd89
        refine z_xcV (vs := [.ref 5, .int x67, .int x87]) (r := []) (L2 := [some (.ref 5), some (.int x67), some (.int x87), none, none, none, none, none]) zt17 61 rfl zo17 zzcV1_95 (Or.inl rfl) rfl X84 f5 rfl rfl rfl (Nat.le_of_ble_eq_true rfl) zzm19 (Nat.le_of_ble_eq_true rfl) rfl ?_
        refine ih19 X84.1 (by omega) (by omega) (hT.go X84.1 X84 rfl) (by omega) (by omega) (fun y94 M90 X91 h92 h93 => ?_)
        have X95 := X84.go X91 (z_sb (by decide))
        show z_ev (d89 + 1 + 5) 17 141 [some (.ref 5), some (.int p1), some (.int x5), some (.int x67), none] [.long y94] M90 _
        exact z_xrl zt17 62 rfl zzr17 (kk y94 M90 X95 (z_simL hT h3 (by omega) ⟨by omega, by omega, by omega⟩ h20 (by omega) h29 (by omega) h36 (by omega) h47 h51 ⟨by omega, by omega⟩ h63 ⟨by omega, by omega, by omega⟩ h86 (by omega) (e85.1 5 1 0 0 0 0 3 f5 (by decide)) h92) ((((((z_fr9.refl (k := (10 * (p1.toInt.toNat + 1))) (M := M0)).ke X95.1 X2.2 (by decide)).ke X95.1 X19.2 (by decide)).ke X95.1 X28.2 (by decide)).ke X95.1 e85 (by decide)).tr h93 (by omega)))
      refine z_xP zt17 26 64 [some (.ref 5), some (.int p1), some (.int x5), none, none] [.int 1, .int p1, .ref 5] rfl rfl ?_
      refine z_xI zt17 27 rfl rfl (fun (x97 : Int32) (h98 : x97.toInt = p1.toInt + 1) => ?_) (z_pAdd rfl rfl (by omega) (by omega))
      obtain ⟨d99, hdd99⟩ : ∃ e, d = e + 1 := ⟨d - 1, by omega⟩
      subst hdd99
      refine z_xcV (vs := [.ref 5, .int x97]) (r := []) (L2 := [some (.ref 5), some (.int x97), none, none, none, none, none]) zt17 28 rfl zo17 zzcV1_77 (Or.inl rfl) rfl X33 f5 rfl rfl rfl (Nat.le_of_ble_eq_true rfl) zzm15 (Nat.le_of_ble_eq_true rfl) rfl ?_
      refine ih15 X33.1 (by omega) (hT.go X33.1 X33 rfl) (by omega) (by omega) (fun y104 M100 X101 h102 h103 => ?_)
      have X105 := X33.go X101 (z_sb (by decide))
      show z_ev (d99 + 1 + 5) 17 68 [some (.ref 5), some (.int p1), some (.int x5), none, none] [.long y104] M100 _
      refine z_xP zt17 29 72 [some (.ref 5), some (.int p1), some (.int x5), some (.long y104), none] [.int 41, .ref 5] rfl rfl ?_
      refine z_xcV (vs := [.ref 5, .int 41]) (r := []) (L2 := [some (.ref 5), some (.int 41)]) zt17 30 rfl zo17 zzcV1_56 (Or.inl rfl) rfl X105 f5 rfl rfl rfl (Nat.le_of_ble_eq_true rfl) zzm8 (Nat.le_of_ble_eq_true rfl) rfl ?_
      have q41 : ((41 : Int32)).toInt = 41 := rfl
      have q41 : ((41 : Int32)).toInt = 41 := rfl
      refine zTC8 X105.1 (hT.go X105.1 X105 rfl) (fun M107 X108 h109 => ?_)
      have X110 := X105.go X108 (z_sb (by decide))
      show z_ev (d99 + 1 + 5) 17 75 [some (.ref 5), some (.int p1), some (.int x5), some (.long y104), none] [] M107 _
      refine z_xP zt17 31 76 [some (.ref 5), some (.int p1), some (.int x5), some (.long y104), none] [.long y104] rfl rfl ?_
      exact z_xrl zt17 32 rfl zzr17 (kk y104 M107 X110 (z_simP h3 (by omega) ⟨by omega, by omega, by omega⟩ h20 (by omega) h29 (by omega) h102 h109) ((((((z_fr9.refl (k := (10 * (p1.toInt.toNat + 1))) (M := M0)).ke X110.1 X2.2 (by decide)).ke X110.1 X19.2 (by decide)).ke X110.1 X28.2 (by decide)).tr h103 (by omega)).ke X110.1 X108.2 (by decide)))
    refine z_xP zt17 17 43 [some (.ref 5), some (.int p1), some (.int x5), none, none] [.int 1, .int p1, .ref 5] rfl rfl ?_
    refine z_xI zt17 18 rfl rfl (fun (x112 : Int32) (h113 : x112.toInt = p1.toInt + 1) => ?_) (z_pAdd rfl rfl (by omega) (by omega))
    obtain ⟨d114, hdd114⟩ : ∃ e, d = e + 1 := ⟨d - 1, by omega⟩
    subst hdd114
    refine z_xcV (vs := [.ref 5, .int x112]) (r := []) (L2 := [some (.ref 5), some (.int x112), none, none, none]) zt17 19 rfl zo17 zzcV1_89 (Or.inl rfl) rfl X24 f5 rfl rfl rfl (Nat.le_of_ble_eq_true rfl) zzm17 (Nat.le_of_ble_eq_true rfl) rfl ?_
    refine ih17 X24.1 (by omega) (hT.go X24.1 X24 rfl) (by omega) (by omega) (fun y119 M115 X116 h117 h118 => ?_)
    have X120 := X24.go X116 (z_sb (by decide))
    show z_ev (d114 + 1 + 5) 17 47 [some (.ref 5), some (.int p1), some (.int x5), none, none] [.long y119] M115 _
    refine z_xl2 zt17 20 rfl zo17 zkl1_84 ?_
    refine z_xL zt17 21 rfl rfl (fun (y122 : Int64) (h123 : y122 = y119 ^^^ (-1)) => ?_) (rfl)
    exact z_xrl zt17 22 rfl zzr17 (kk y122 M115 X120 (z_simN h3 (by omega) ⟨by omega, by omega, by omega⟩ h20 (by omega) h117 h123) ((((z_fr9.refl (k := (10 * (p1.toInt.toNat + 1))) (M := M0)).ke X120.1 X2.2 (by decide)).ke X120.1 X19.2 (by decide)).tr h118 (by omega)))
  refine z_xP zt17 4 11 [some (.ref 5), some (.int p1), some (.int x5), none, none] [.ref 5, .ref 5] rfl rfl ?_
  refine z_xgI zt17 5 rfl zo17 zzf1_29 X8 f5 (by decide) (by decide) rfl (fun (x125 : Int32) h124 (h126 : 0 ≤ x125.toInt) (h127 : x125.toInt ≤ 160) => ?_)
  refine z_xP zt17 6 15 [some (.ref 5), some (.int p1), some (.int x5), none, none] [.int 1, .int x125, .ref 5] rfl rfl ?_
  refine z_xI zt17 7 rfl rfl (fun (x128 : Int32) (h129 : x128.toInt = x125.toInt + 1 ∧ x128.toInt ≤ 160) => ?_) (⟨z_pAdd rfl rfl (by omega) (by omega), z_QHl hT h3 (by omega) h124 (z_pAdd rfl rfl (by omega) (by omega)) (by omega)⟩)
  refine z_xpf zt17 8 rfl zo17 zzf1_29 X8 f5 (by decide) (by decide) ⟨by omega, by omega⟩ rfl (by decide) zw1_2 (fun M130 X131 e132 h133 => ?_)
  refine z_xP zt17 9 21 [some (.ref 5), some (.int p1), some (.int x5), none, none] [.int x5, .ref 5] rfl rfl ?_
  refine z_xcV (vs := [.ref 5, .int x5]) (r := []) (L2 := [some (.ref 5), some (.int x5)]) zt17 10 rfl zo17 zzcV1_92 (Or.inl rfl) rfl X131 f5 rfl rfl rfl (Nat.le_of_ble_eq_true rfl) zzm18 (Nat.le_of_ble_eq_true rfl) rfl ?_
  refine zTC18 X131.1 (by omega) (hT.go X131.1 X131 rfl) (fun y138 M134 X135 h136 h137 => ?_)
  have X139 := X131.go X135 (z_sb (by decide))
  show z_ev (d + 5) 17 24 [some (.ref 5), some (.int p1), some (.int x5), none, none] [.long y138] M134 _
  have h141 := h137.symm
  subst h141
  exact z_xrl zt17 11 rfl zzr17 (kk y138 M130 X139 (z_simQ _ h3 (by omega) h124 h133 ⟨by omega, by omega⟩ ((X135.2.1 5 1 0 0 0 0 3 f5 (by decide)).trans ((e132.1 5 1 0 0 0 0 3 f5 (by decide)).trans (X2.2.1 5 1 0 0 0 0 3 f5 (by decide)))) h136) ((((z_fr9.refl (k := (10 * (p1.toInt.toNat + 1))) (M := M0)).ke X139.1 X2.2 (by decide)).ke X139.1 e132 (by decide)).ke X139.1 X135.2 (by decide)))
theorem zTB19 {T : List zK} {d : Nat} {K : Option Value → zH → Prop} {p1 : Int32} {p2 : Int32} {bb : Nat → Int} {nn : Nat} {nu : Int → Int} {BB : Nat} {N : Nat} {M0 : zH} (u1 : 1 ≤ p1.toInt ∧ p1.toInt ≤ 9) (u2 : 1 ≤ p2.toInt ∧ p2.toInt ≤ 6) (hT : z_TP M0 bb nn nu BB) (ih15 : zTQ15 T N) (ih16 : zTQ16 T N) (ih17 : zTQ17 T N) (ih19 : zTQ19 T N) (hm : 4 * (6 - p2.toInt) + 3 < (N : Int) + 1) (hd : 4 * (6 - p2.toInt) + 3 ≤ (d : Int)) (kk : ∀ (x : Int64) (M1 : zH), z_X T zw19 M0 M1 → z_PC nn M0 M1 (z_lea bb nn (z_one bb nn nu (6 - p2.toInt.toNat)) (z_atN M0) p1.toInt) (fun f => z_bv x f BB) → z_fr9 (10 * p2.toInt.toNat) M0 M1 → K (some (.long x)) M1) : ∀ n : Nat, (∀ (M : zH) (b3 : Int32) (b4 : Int32) (o5 : Option Value) (o7 : Option Value), z_X T zw19 M0 M → 10 ≤ b3.toInt ∧ b3.toInt ≤ 60 → 0 ≤ b4.toInt ∧ b4.toInt ≤ 160 → b3.toInt = 10 * p2.toInt → z_LI bb nn (z_one bb nn nu (6 - p2.toInt.toNat)) BB M0 M p1 p2 b4.toInt → z_fr9 (10 * p2.toInt.toNat) M0 M → ((((0) * 3 + 1) * 161 + (160 - b4.toInt)) * 3 + 2) * 10 + (0) < (n : Int) → z_ev (d + 5) 19 36 [some (.ref 5), some (.int p1), some (.int p2), some (.int b3), some (.int b4), o5, none, o7] [] M K) ∧ (∀ (M : zH) (b3 : Int32) (b4 : Int32) (b5 : Int64) (b7 : Int32), z_X T zw19 M0 M → 10 ≤ b3.toInt ∧ b3.toInt ≤ 60 → 0 ≤ b4.toInt ∧ b4.toInt ≤ 159 → 0 ≤ b7.toInt ∧ b7.toInt ≤ 9 → b3.toInt = 10 * p2.toInt → b7.toInt ≤ p1.toInt → 0 ≤ b7.toInt → z_LJ bb nn (z_one bb nn nu (6 - p2.toInt.toNat)) BB M0 M p1 p2 b4.toInt b5 b7.toInt → z_fr9 (10 * p2.toInt.toNat) M0 M → ((((0) * 3 + 1) * 161 + (160 - b4.toInt)) * 3 + 0) * 10 + (b7.toInt - 0) < (n : Int) → z_ev (d + 5) 19 54 [some (.ref 5), some (.int p1), some (.int p2), some (.int b3), some (.int b4), some (.long b5), none, some (.int b7)] [] M K) := by
  intro n
  induction n with
  | zero => exact ⟨(by intros; exfalso; omega), (by intros; exfalso; omega)⟩
  | succ n ih =>
    refine ⟨?_, ?_⟩
    · skip
      intro M b3 b4 o5 o7 X hh0 hh1 hh2 hI hfr hE
      refine z_xP zt19 16 41 [some (.ref 5), some (.int p1), some (.int p2), some (.int b3), some (.int b4), o5, none, o7] [.int 160, .int b4] rfl rfl ?_
      refine z_xJ zt19 17 rfl rfl (fun (h1 : 160 ≤ b4.toInt) => ?_) (fun (h1 : b4.toInt < 160) => ?_)
      · skip
        refine z_xP zt19 48 112 [some (.ref 5), some (.int p1), some (.int p2), some (.int b3), some (.int b4), o5, none, o7] [.int 125, .ref 5] rfl rfl ?_
        have f5 : T[5]? = some (.inl (1, 0, 0, 0, 0)) := X.1.k rfl (by decide)
        refine z_xcV (vs := [.ref 5, .int 125]) (r := []) (L2 := [some (.ref 5), some (.int 125)]) zt19 49 rfl zo19 zzcV1_56 (Or.inl rfl) rfl X f5 rfl rfl rfl (Nat.le_of_ble_eq_true rfl) zzm8 (Nat.le_of_ble_eq_true rfl) rfl ?_
        have q125 : ((125 : Int32)).toInt = 125 := rfl
        have q125 : ((125 : Int32)).toInt = 125 := rfl
        refine zTC8 X.1 (hT.go X.1 X rfl) (fun M2 X3 h4 => ?_)
        have X5 := X.go X3 (z_sb (by decide))
        show z_ev (d + 5) 19 115 [some (.ref 5), some (.int p1), some (.int p2), some (.int b3), some (.int b4), o5, none, o7] [] M2 _
        refine z_xP zt19 50 116 [some (.ref 5), some (.int p1), some (.int p2), some (.int b3), some (.int b4), o5, none, o7] [.ref 5] rfl rfl ?_
        refine z_xgX (b := 9) zt19 51 rfl zo19 zzf1_21 X5 f5 (by decide) (by decide) rfl ?_
        refine z_xP zt19 52 121 [some (.ref 5), some (.int p1), some (.int p2), some (.int b3), some (.int b4), o5, none, o7] [.int p1, .int b3, .ref 9] rfl rfl ?_
        refine z_xI zt19 53 rfl rfl (fun (x7 : Int32) (h8 : x7.toInt = b3.toInt + p1.toInt) => ?_) (z_pAdd rfl rfl (by omega) (by omega))
        have f9 : T[9]? = some (.inr (9, 1, 70, 0, 0)) := X5.1.k rfl (by decide)
        refine z_xllv zt19 54 rfl X5 f9 (by decide) (by omega) (by omega) (fun (y9 : Int64) h10 => ?_)
        exact z_xrl zt19 55 rfl zzr19 (kk y9 M2 X5 (z_LIx hI (by omega) hT.2.2.1.1 h4) (hfr.ke X5.1 X3.2 (by decide)))
      refine z_xP zt19 18 46 [some (.ref 5), some (.int p1), some (.int p2), some (.int b3), some (.int b4), o5, none, o7] [.int p2, .ref 5] rfl rfl ?_
      have f5 : T[5]? = some (.inl (1, 0, 0, 0, 0)) := X.1.k rfl (by decide)
      obtain ⟨d11, hdd11⟩ : ∃ e, d = e + 1 := ⟨d - 1, by omega⟩
      subst hdd11
      refine z_xcV (vs := [.ref 5, .int p2]) (r := []) (L2 := [some (.ref 5), some (.int p2), none, none, none, none, none]) zt19 19 rfl zo19 zzcV1_77 (Or.inl rfl) rfl X f5 rfl rfl rfl (Nat.le_of_ble_eq_true rfl) zzm15 (Nat.le_of_ble_eq_true rfl) rfl ?_
      refine ih15 X.1 (by omega) (hT.go X.1 X rfl) (by omega) (by omega) (fun y16 M12 X13 h14 h15 => ?_)
      have X17 := X.go X13 (z_sb (by decide))
      show z_ev (d11 + 1 + 5) 19 49 [some (.ref 5), some (.int p1), some (.int p2), some (.int b3), some (.int b4), o5, none, o7] [.long y16] M12 _
      refine z_xP zt19 20 54 [some (.ref 5), some (.int p1), some (.int p2), some (.int b3), some (.int b4), some (.long y16), none, some (.int p1)] [] rfl rfl ?_
      exact ih.2 M12 b3 b4 y16 p1 X17 ⟨by omega, by omega⟩ ⟨by omega, by omega⟩ ⟨by omega, by omega⟩ (by omega) (by omega) (by omega) (z_LJ0 (z_one_pg _) hI h14 h15 ⟨by omega, by omega, by omega⟩) (hfr.tr h15 (by omega)) (by omega)
    · skip
      intro M b3 b4 b5 b7 X hh0 hh1 hh2 hh3 hh4 hh5 hJ hfr hE
      refine z_xP zt19 21 56 [some (.ref 5), some (.int p1), some (.int p2), some (.int b3), some (.int b4), some (.long b5), none, some (.int b7)] [.int b7] rfl rfl ?_
      refine z_xZ zt19 22 rfl rfl (fun (h1 : b7.toInt ≤ 0) => ?_) (fun (h1 : 0 < b7.toInt) => ?_)
      · skip
        refine z_xP zt19 42 94 [some (.ref 5), some (.int p1), some (.int p2), some (.int b3), some (.int b4), some (.long b5), none, some (.int b7)] [.int 44, .ref 5] rfl rfl ?_
        have f5 : T[5]? = some (.inl (1, 0, 0, 0, 0)) := X.1.k rfl (by decide)
        refine z_xcV (vs := [.ref 5, .int 44]) (r := []) (L2 := [some (.ref 5), some (.int 44)]) zt19 43 rfl zo19 zzcV1_69 (Or.inl rfl) rfl X f5 rfl rfl rfl (Nat.le_of_ble_eq_true rfl) zzm12 (Nat.le_of_ble_eq_true rfl) rfl ?_
        have q44 : ((44 : Int32)).toInt = 44 := rfl
        have q44 : ((44 : Int32)).toInt = 44 := rfl
        refine zTC12 X.1 (hT.go X.1 X rfl) (fun x5 M2 X3 h6 h7 h4 => ?_)
        have X8 := X.go X3 (z_sb (by decide))
        show z_ev (d + 5) 19 97 [some (.ref 5), some (.int p1), some (.int p2), some (.int b3), some (.int b4), some (.long b5), none, some (.int b7)] [.int x5] M2 _
        refine z_xZ zt19 44 rfl rfl (fun (h10 : x5.toInt ≠ 0) => ?_) (fun (h10 : x5.toInt = 0) => ?_)
        · skip
          refine z_xN zt19 46 rfl rfl (fun (x11 : Int32) (h12 : x11.toInt = b4.toInt + 1) => ?_) (z_pAdd rfl rfl (by omega) (by omega))
          show z_ev (d + 5) 19 106 [some (.ref 5), some (.int p1), some (.int p2), some (.int b3), some (.int x11), some (.long b5), none, some (.int b7)] [] M2 _
          refine z_xP zt19 47 36 [some (.ref 5), some (.int p1), some (.int p2), some (.int b3), some (.int x11), some (.long b5), none, some (.int b7)] [] rfl rfl ?_
          have f9 : T[9]? = some (.inr (9, 1, 70, 0, 0)) := X8.1.k rfl (by decide)
          exact ih.1 M2 b3 x11 (some (.long b5)) (some (.int b7)) X8 ⟨by omega, by omega⟩ ⟨by omega, by omega⟩ (by omega) (z_LIs hJ ⟨by omega, by omega⟩ h4 (by omega) (X3.2.lg f9 (by decide)) ⟨by omega, by omega⟩ (by omega)) (hfr.ke X8.1 X3.2 (by decide)) (by omega)
        refine z_xP zt19 45 109 [some (.ref 5), some (.int p1), some (.int p2), some (.int b3), some (.int b4), some (.long b5), none, some (.int b7)] [] rfl rfl ?_
        refine z_xP zt19 48 112 [some (.ref 5), some (.int p1), some (.int p2), some (.int b3), some (.int b4), some (.long b5), none, some (.int b7)] [.int 125, .ref 5] rfl rfl ?_
        refine z_xcV (vs := [.ref 5, .int 125]) (r := []) (L2 := [some (.ref 5), some (.int 125)]) zt19 49 rfl zo19 zzcV1_56 (Or.inl rfl) rfl X8 f5 rfl rfl rfl (Nat.le_of_ble_eq_true rfl) zzm8 (Nat.le_of_ble_eq_true rfl) rfl ?_
        have q125 : ((125 : Int32)).toInt = 125 := rfl
        have q125 : ((125 : Int32)).toInt = 125 := rfl
        refine zTC8 X8.1 (hT.go X8.1 X8 rfl) (fun M13 X14 h15 => ?_)
        have X16 := X8.go X14 (z_sb (by decide))
        show z_ev (d + 5) 19 115 [some (.ref 5), some (.int p1), some (.int p2), some (.int b3), some (.int b4), some (.long b5), none, some (.int b7)] [] M13 _
        refine z_xP zt19 50 116 [some (.ref 5), some (.int p1), some (.int p2), some (.int b3), some (.int b4), some (.long b5), none, some (.int b7)] [.ref 5] rfl rfl ?_
        refine z_xgX (b := 9) zt19 51 rfl zo19 zzf1_21 X16 f5 (by decide) (by decide) rfl ?_
        refine z_xP zt19 52 121 [some (.ref 5), some (.int p1), some (.int p2), some (.int b3), some (.int b4), some (.long b5), none, some (.int b7)] [.int p1, .int b3, .ref 9] rfl rfl ?_
        refine z_xI zt19 53 rfl rfl (fun (x18 : Int32) (h19 : x18.toInt = b3.toInt + p1.toInt) => ?_) (z_pAdd rfl rfl (by omega) (by omega))
        have f9 : T[9]? = some (.inr (9, 1, 70, 0, 0)) := X16.1.k rfl (by decide)
        refine z_xllv zt19 54 rfl X16 f9 (by decide) (by omega) (by omega) (fun (y20 : Int64) h21 => ?_)
        exact z_xrl zt19 55 rfl zzr19 (kk y20 M13 X16 (z_LIe hJ ⟨by omega, by omega⟩ h4 (by omega) h15 (X14.2.lg f9 (by decide)) ⟨by omega, by omega⟩ h21 (by unfold Int32.toNatClampNeg <;> omega)) ((hfr.ke X16.1 X3.2 (by decide)).ke X16.1 X14.2 (by decide)))
      refine z_xP zt19 23 60 [some (.ref 5), some (.int p1), some (.int p2), some (.int b3), some (.int b4), some (.long b5), none, some (.int b7)] [.ref 5] rfl rfl ?_
      have f5 : T[5]? = some (.inl (1, 0, 0, 0, 0)) := X.1.k rfl (by decide)
      refine z_xgX (b := 9) zt19 24 rfl zo19 zzf1_21 X f5 (by decide) (by decide) rfl ?_
      refine z_xP zt19 25 66 [some (.ref 5), some (.int p1), some (.int p2), some (.int b3), some (.int b4), some (.long b5), none, some (.int b7)] [.int b7, .int b3, .ref 9] rfl rfl ?_
      refine z_xI zt19 26 rfl rfl (fun (x22 : Int32) (h23 : x22.toInt = b3.toInt + b7.toInt) => ?_) (z_pAdd rfl rfl (by omega) (by omega))
      refine z_xP zt19 27 68 [some (.ref 5), some (.int p1), some (.int p2), some (.int b3), some (.int b4), some (.long b5), none, some (.int b7)] [.int x22, .ref 9, .int x22, .ref 9] rfl rfl ?_
      have f9 : T[9]? = some (.inr (9, 1, 70, 0, 0)) := X.1.k rfl (by decide)
      refine z_xllv zt19 28 rfl X f9 (by decide) (by omega) (by omega) (fun (y24 : Int64) h25 => ?_)
      refine z_xP zt19 29 70 [some (.ref 5), some (.int p1), some (.int p2), some (.int b3), some (.int b4), some (.long b5), none, some (.int b7)] [.ref 5, .long y24, .int x22, .ref 9] rfl rfl ?_
      refine z_xgX (b := 9) zt19 30 rfl zo19 zzf1_21 X f5 (by decide) (by decide) rfl ?_
      refine z_xP zt19 31 76 [some (.ref 5), some (.int p1), some (.int p2), some (.int b3), some (.int b4), some (.long b5), none, some (.int b7)] [.int b7, .int b3, .ref 9, .long y24, .int x22, .ref 9] rfl rfl ?_
      refine z_xI zt19 32 rfl rfl (fun (x26 : Int32) (h27 : x26.toInt = b3.toInt + b7.toInt) => ?_) (z_pAdd rfl rfl (by omega) (by omega))
      refine z_xP zt19 33 78 [some (.ref 5), some (.int p1), some (.int p2), some (.int b3), some (.int b4), some (.long b5), none, some (.int b7)] [.int 1, .int x26, .ref 9, .long y24, .int x22, .ref 9] rfl rfl ?_
      refine z_xI zt19 34 rfl rfl (fun (x28 : Int32) (h29 : x28.toInt = x26.toInt - 1) => ?_) (z_pSub rfl rfl (by omega) (by omega))
      refine z_xllv zt19 35 rfl X f9 (by decide) (by omega) (by omega) (fun (y30 : Int64) h31 => ?_)
      refine z_xP zt19 36 82 [some (.ref 5), some (.int p1), some (.int p2), some (.int b3), some (.int b4), some (.long b5), none, some (.int b7)] [.long b5, .long y30, .long y24, .int x22, .ref 9] rfl rfl ?_
      refine z_xL zt19 37 rfl rfl (fun (y32 : Int64) (h33 : y32 = y30 &&& b5) => ?_) (rfl)
      refine z_xL zt19 38 rfl rfl (fun (y34 : Int64) (h35 : y34 = y24 ||| y32) => ?_) (rfl)
      refine z_xlsv zt19 39 rfl X f9 (by decide) (by decide) (by omega) (by omega) (by decide) (fun M36 X37 e38 h39 => ?_)
      refine z_xN zt19 40 rfl rfl (fun (x40 : Int32) (h41 : x40.toInt = b7.toInt + (-1)) => ?_) (z_pAdd rfl rfl (by omega) (by omega))
      show z_ev (d + 5) 19 88 [some (.ref 5), some (.int p1), some (.int p2), some (.int b3), some (.int b4), some (.long b5), none, some (.int x40)] [] M36 _
      refine z_xP zt19 41 54 [some (.ref 5), some (.int p1), some (.int p2), some (.int b3), some (.int b4), some (.long b5), none, some (.int x40)] [] rfl rfl ?_
      exact ih.2 M36 b3 b4 b5 x40 X37 ⟨by omega, by omega⟩ ⟨by omega, by omega⟩ ⟨by omega, by omega⟩ (by omega) (by omega) (by omega) (z_LJs hJ (e38.1 5 1 0 0 0 0 2 f5 (by decide)) (e38.1 5 1 0 0 0 0 3 f5 (by decide)) h25 h31 h33 h35 h39 ⟨by unfold Int32.toNatClampNeg <;> omega, by unfold Int32.toNatClampNeg <;> omega⟩ ⟨by omega, by omega, by omega⟩) (hfr.st h39 (by unfold Int32.toNatClampNeg <;> omega)) (by omega)
theorem zTC19r {T : List zK} {d : Nat} {K : Option Value → zH → Prop} {p1 : Int32} {p2 : Int32} {bb : Nat → Int} {nn : Nat} {nu : Int → Int} {BB : Nat} {N : Nat} {M0 : zH} (hW : z_W M0 T) (u1 : 1 ≤ p1.toInt ∧ p1.toInt ≤ 9) (u2 : 1 ≤ p2.toInt ∧ p2.toInt ≤ 6) (hT : z_TP M0 bb nn nu BB) (ih15 : zTQ15 T N) (ih16 : zTQ16 T N) (ih17 : zTQ17 T N) (ih19 : zTQ19 T N) (hm : 4 * (6 - p2.toInt) + 3 < (N : Int) + 1) (hd : 4 * (6 - p2.toInt) + 3 ≤ (d : Int)) (kk : ∀ (x : Int64) (M1 : zH), z_X T zw19 M0 M1 → z_PC nn M0 M1 (z_lea bb nn (z_one bb nn nu (6 - p2.toInt.toNat)) (z_atN M0) p1.toInt) (fun f => z_bv x f BB) → z_fr9 (10 * p2.toInt.toNat) M0 M1 → K (some (.long x)) M1) : z_ev (d + 5) 19 0 [some (.ref 5), some (.int p1), some (.int p2), none, none, none, none, none] [] M0 K := by
  have X : z_X T zw19 M0 M0 := .refl hW
  refine z_xP zt19 0 3 [some (.ref 5), some (.int p1), some (.int p2), none, none, none, none, none] [.int 10, .int p2] rfl rfl ?_
  refine z_xI zt19 1 rfl rfl (fun (x1 : Int32) (h2 : x1.toInt = p2.toInt * 10) => ?_) (z_pMul rfl rfl (by omega) (by omega))
  refine z_xP zt19 2 6 [some (.ref 5), some (.int p1), some (.int p2), some (.int x1), none, none, none, none] [.ref 5] rfl rfl ?_
  have f5 : T[5]? = some (.inl (1, 0, 0, 0, 0)) := X.1.k rfl (by decide)
  refine z_xgX (b := 9) zt19 3 rfl zo19 zzf1_21 X f5 (by decide) (by decide) rfl ?_
  refine z_xP zt19 4 13 [some (.ref 5), some (.int p1), some (.int p2), some (.int x1), none, none, none, none] [.int 10, .int x1, .int x1, .ref 9] rfl rfl ?_
  refine z_xI zt19 5 rfl rfl (fun (x3 : Int32) (h4 : x3.toInt = x1.toInt + 10) => ?_) (z_pAdd rfl rfl (by omega) (by omega))
  refine z_xP zt19 6 15 [some (.ref 5), some (.int p1), some (.int p2), some (.int x1), none, none, none, none] [.long 0, .int x3, .int x1, .ref 9] rfl rfl ?_
  refine z_xcS (vs := [.ref 9, .int x1, .int x3, .long 0]) (r := []) (L2 := [some (.ref 9), some (.int x1), some (.int x3), some (.long 0), none, none]) zt19 7 rfl zo19 zzcS1_102 (Or.inl rfl) (Nat.le_of_ble_eq_true rfl) rfl rfl (Nat.le_of_ble_eq_true rfl) zzm20 (Nat.le_of_ble_eq_true rfl) rfl ?_
  have q0 : ((0 : Int64)).toInt = 0 := rfl
  have f9 : T[9]? = some (.inr (9, 1, 70, 0, 0)) := X.1.k rfl (by decide)
  have q0 : ((0 : Int64)).toInt = 0 := rfl
  refine zRC20 X.1 ⟨(by decide), (by decide)⟩ f9 (by omega) (by omega) (by decide) ⟨by omega, by omega⟩ (fun M5 X6 h7 => ?_)
  have X8 := X.go X6 (z_sb (by decide))
  show z_ev (d + 5) 19 18 [some (.ref 5), some (.int p1), some (.int p2), some (.int x1), none, none, none, none] [] M5 _
  refine z_xP zt19 8 19 [some (.ref 5), some (.int p1), some (.int p2), some (.int x1), none, none, none, none] [.ref 5] rfl rfl ?_
  refine z_xgX (b := 9) zt19 9 rfl zo19 zzf1_21 X8 f5 (by decide) (by decide) rfl ?_
  refine z_xP zt19 10 23 [some (.ref 5), some (.int p1), some (.int p2), some (.int x1), none, none, none, none] [.int x1, .ref 9] rfl rfl ?_
  refine z_xl2 zt19 11 rfl zo19 zkl1_84 ?_
  refine z_xlsv zt19 12 rfl X8 f9 (by decide) (by decide) (by omega) (by omega) (by decide) (fun M10 X11 e12 h13 => ?_)
  refine z_xP zt19 13 30 [some (.ref 5), some (.int p1), some (.int p2), some (.int x1), none, none, none, none] [.int 123, .ref 5] rfl rfl ?_
  refine z_xcV (vs := [.ref 5, .int 123]) (r := []) (L2 := [some (.ref 5), some (.int 123)]) zt19 14 rfl zo19 zzcV1_56 (Or.inl rfl) rfl X11 f5 rfl rfl rfl (Nat.le_of_ble_eq_true rfl) zzm8 (Nat.le_of_ble_eq_true rfl) rfl ?_
  have q123 : ((123 : Int32)).toInt = 123 := rfl
  have q123 : ((123 : Int32)).toInt = 123 := rfl
  refine zTC8 X11.1 (hT.go X11.1 X11 rfl) (fun M14 X15 h16 => ?_)
  have X17 := X11.go X15 (z_sb (by decide))
  show z_ev (d + 5) 19 33 [some (.ref 5), some (.int p1), some (.int p2), some (.int x1), none, none, none, none] [] M14 _
  refine z_xP zt19 15 36 [some (.ref 5), some (.int p1), some (.int p2), some (.int x1), some (.int 0), none, none, none] [] rfl rfl ?_
  have q0 : ((0 : Int32)).toInt = 0 := rfl
  exact (zTB19 u1 u2 hT ih15 ih16 ih17 ih19 hm hd kk 14490).1 M14 x1 (0) none none X17 ⟨by omega, by omega⟩ (by decide) (by omega) (z_LI0 ((e12.1 5 1 0 0 0 0 2 f5 (by decide)).trans (X6.2.1 5 1 0 0 0 0 2 f5 (by decide))) ((e12.1 5 1 0 0 0 0 3 f5 (by decide)).trans (X6.2.1 5 1 0 0 0 0 3 f5 (by decide))) h16 (X15.2.lg f9 (by decide)) h7 h13 ⟨by omega, by omega, by unfold Int32.toNatClampNeg <;> omega⟩ (by omega)) ((((z_fr9.refl (k := (10 * p2.toInt.toNat)) (M := M0)).fil h7 (by omega)).st h13 (by unfold Int32.toNatClampNeg <;> omega)).ke X17.1 X15.2 (by decide)) (by omega)
theorem zTR15 {T : List zK} : ∀ N : Nat, zTQ15 T N ∧ zTQ16 T N ∧ zTQ17 T N ∧ zTQ19 T N := by
  intro N
  induction N with
  | zero => exact ⟨(by unfold zTQ15; intros; exfalso; omega), (by unfold zTQ16; intros; exfalso; omega), (by unfold zTQ17; intros; exfalso; omega), (by unfold zTQ19; intros; exfalso; omega)⟩
  | succ N ih =>
    refine ⟨?_, ?_, ?_, ?_⟩
    · skip
      intro d K p1 bb nn nu BB M0 hW u1 hT hm hd kk
      exact zTC15r hW u1 hT ih.1 ih.2.1 ih.2.2.1 ih.2.2.2 (by omega) hd kk
    · skip
      intro d K p1 bb nn nu BB M0 hW u1 hT hm hd kk
      exact zTC16r hW u1 hT ih.1 ih.2.1 ih.2.2.1 ih.2.2.2 (by omega) hd kk
    · skip
      intro d K p1 bb nn nu BB M0 hW u1 hT hm hd kk
      exact zTC17r hW u1 hT ih.1 ih.2.1 ih.2.2.1 ih.2.2.2 (by omega) hd kk
    · skip
      intro d K p1 p2 bb nn nu BB M0 hW u1 u2 hT hm hd kk
      exact zTC19r hW u1 u2 hT ih.1 ih.2.1 ih.2.2.1 ih.2.2.2 (by omega) hd kk
theorem zTC15 {T : List zK} {d : Nat} {K : Option Value → zH → Prop} {p1 : Int32} {bb : Nat → Int} {nn : Nat} {nu : Int → Int} {BB : Nat} {M0 : zH} (hW : z_W M0 T) (u1 : 0 ≤ p1.toInt ∧ p1.toInt ≤ 6) (hT : z_TP M0 bb nn nu BB) (kk : ∀ (x : Int64) (M1 : zH), z_X T zw15 M0 M1 → z_PC nn M0 M1 (z_ti bb nn (z_one bb nn nu (6 - p1.toInt.toNat)) (z_atN M0)) (fun f => z_bv x f BB) → z_fr9 (10 * (p1.toInt.toNat + 1)) M0 M1 → K (some (.long x)) M1) : z_ev (d + 31) 15 0 [some (.ref 5), some (.int p1), none, none, none, none, none] [] M0 K := by
  exact (zTR15 27).1 (d := d + 26) (K := K) hW u1 hT (by omega) (by omega) kk
