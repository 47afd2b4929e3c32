/-! contracts of the methods (printed by wip/gen/vparts.py) -/
def zw208 : List Nat := []
theorem zC208 {T : List zK} {d : Nat} {K : Option Value → zH → Prop} {p1 : Int32} {p2 : Int32} {M0 : zH} (hW : z_W M0 T)  (kk : ∀ (x : Int32) (M1 : zH), z_X T zw208 M0 M1 → K (some (.int x)) M1) : z_ev (d + 1) 208 0 [some (.ref 19), some (.int p1), some (.int p2)] [] M0 K := by
  have X : z_X T zw208 M0 M0 := .refl hW
  refine z_xP zt208 0 2 [some (.ref 19), some (.int p1), some (.int p2)] [.int p1, .ref 19] rfl rfl ?_
  have f19 : T[19]? = some (.inl (12, 0, 0, 0, 0)) := X.1.k rfl (by decide)
  refine z_xcV (vs := [.ref 19, .int p1]) (r := []) (L2 := [some (.ref 19), some (.int p1)]) zt208 1 rfl zo208 zzcV12_209 (Or.inl rfl) rfl X f19 rfl rfl rfl (Nat.le_of_ble_eq_true rfl) zzm209 (Nat.le_of_ble_eq_true rfl) rfl ?_
  refine z_xP zt209 0 1 [some (.ref 19), some (.int p1)] [.int p1] rfl rfl ?_
  refine z_xZ zt209 1 rfl rfl (fun (h1 : p1.toInt < 0) => ?_) (fun (h1 : 0 ≤ p1.toInt) => ?_)
  · skip
    refine z_xP zt209 6 17 [some (.ref 19), some (.int p1)] [.int 0] rfl rfl ?_
    refine z_xrz zt209 7 rfl zzr209 (by decide) (by decide) ?_
    show z_ev (d + 1) 208 5 [some (.ref 19), some (.int p1), some (.int p2)] [.int 0] M0 _
    refine z_xZ zt208 2 rfl rfl (fun (h2 : (0 : Int) ≠ 0) => absurd h2 (by omega)) (fun (h2 : (0 : Int) = 0) => ?_)
    refine z_xP zt208 3 9 [some (.ref 19), some (.int p1), some (.int p2)] [.int (-1)] rfl rfl ?_
    have qm1 : (((-1) : Int32)).toInt = (-1) := rfl
    exact z_xri zt208 4 rfl zzr208 (kk (-1) M0 X)
  refine z_xP zt209 2 6 [some (.ref 19), some (.int p1)] [.ref 19, .int p1] rfl rfl ?_
  refine z_xgI zt209 3 rfl zo209 zzf12_110 X f19 (by decide) (by decide) rfl (fun (x4 : Int32) h3 (h5 : 0 ≤ x4.toInt) (h6 : x4.toInt ≤ 8) => ?_)
  have h7 := z_b32 p1
  refine z_xJ zt209 4 rfl rfl (fun (h8 : x4.toInt ≤ p1.toInt) => ?_) (fun (h8 : p1.toInt < x4.toInt) => ?_)
  · skip
    refine z_xP zt209 6 17 [some (.ref 19), some (.int p1)] [.int 0] rfl rfl ?_
    refine z_xrz zt209 7 rfl zzr209 (by decide) (by decide) ?_
    show z_ev (d + 1) 208 5 [some (.ref 19), some (.int p1), some (.int p2)] [.int 0] M0 _
    refine z_xZ zt208 2 rfl rfl (fun (h9 : (0 : Int) ≠ 0) => absurd h9 (by omega)) (fun (h9 : (0 : Int) = 0) => ?_)
    refine z_xP zt208 3 9 [some (.ref 19), some (.int p1), some (.int p2)] [.int (-1)] rfl rfl ?_
    have qm1 : (((-1) : Int32)).toInt = (-1) := rfl
    exact z_xri zt208 4 rfl zzr208 (kk (-1) M0 X)
  refine z_xP zt209 5 17 [some (.ref 19), some (.int p1)] [.int 1] rfl rfl ?_
  refine z_xrz zt209 7 rfl zzr209 (by decide) (by decide) ?_
  show z_ev (d + 1) 208 5 [some (.ref 19), some (.int p1), some (.int p2)] [.int 1] M0 _
  refine z_xZ zt208 2 rfl rfl (fun (h10 : (1 : Int) ≠ 0) => ?_) (fun (h10 : (1 : Int) = 0) => absurd h10 (by omega))
  refine z_xP zt208 5 11 [some (.ref 19), some (.int p1), some (.int p2)] [.int p2] rfl rfl ?_
  by_cases h11 : p2.toInt = 0
  · refine z_xSC zt208 6 (z_sub (k := 0) h11 rfl) 48 rfl rfl ?_
    refine z_xP zt208 7 49 [some (.ref 19), some (.int p1), some (.int p2)] [.ref 19] rfl rfl ?_
    refine z_xgX (b := 24) zt208 8 rfl zo208 zzf12_22 X f19 (by decide) (by decide) rfl ?_
    refine z_xP zt208 9 53 [some (.ref 19), some (.int p1), some (.int p2)] [.int p1, .ref 24] rfl rfl ?_
    have f24 : T[24]? = some (.inr (24, 0, 8, 0, 10)) := X.1.k rfl (by decide)
    refine z_xil zt208 10 rfl X f24 (by decide) (by omega) (by omega) (fun (x12 : Int32) h13 (h14 : 0 ≤ x12.toInt) (h15 : x12.toInt ≤ 10) => ?_)
    exact z_xri zt208 11 rfl zzr208 (kk x12 M0 X)
  by_cases h16 : p2.toInt = 1
  · refine z_xSC zt208 6 (z_sub (k := 1) h16 rfl) 55 rfl rfl ?_
    refine z_xP zt208 12 56 [some (.ref 19), some (.int p1), some (.int p2)] [.ref 19] rfl rfl ?_
    refine z_xgX (b := 25) zt208 13 rfl zo208 zzf12_25 X f19 (by decide) (by decide) rfl ?_
    refine z_xP zt208 14 60 [some (.ref 19), some (.int p1), some (.int p2)] [.int p1, .ref 25] rfl rfl ?_
    have f25 : T[25]? = some (.inr (25, 0, 8, 0, 8)) := X.1.k rfl (by decide)
    refine z_xil zt208 15 rfl X f25 (by decide) (by omega) (by omega) (fun (x17 : Int32) h18 (h19 : 0 ≤ x17.toInt) (h20 : x17.toInt ≤ 8) => ?_)
    exact z_xri zt208 16 rfl zzr208 (kk x17 M0 X)
  by_cases h21 : p2.toInt = 2
  · refine z_xSC zt208 6 (z_sub (k := 2) h21 rfl) 62 rfl rfl ?_
    refine z_xP zt208 17 63 [some (.ref 19), some (.int p1), some (.int p2)] [.ref 19] rfl rfl ?_
    refine z_xgX (b := 27) zt208 18 rfl zo208 zzf12_31 X f19 (by decide) (by decide) rfl ?_
    refine z_xP zt208 19 67 [some (.ref 19), some (.int p1), some (.int p2)] [.int p1, .ref 27] rfl rfl ?_
    have f27 : T[27]? = some (.inr (27, 0, 8, (-2147483648), 2147483647)) := X.1.k rfl (by decide)
    refine z_xil zt208 20 rfl X f27 (by decide) (by omega) (by omega) (fun (x22 : Int32) h23 (h24 : (-2147483648) ≤ x22.toInt) (h25 : x22.toInt ≤ 2147483647) => ?_)
    exact z_xri zt208 21 rfl zzr208 (kk x22 M0 X)
  by_cases h26 : p2.toInt = 3
  · refine z_xSC zt208 6 (z_sub (k := 3) h26 rfl) 69 rfl rfl ?_
    refine z_xP zt208 22 70 [some (.ref 19), some (.int p1), some (.int p2)] [.ref 19] rfl rfl ?_
    refine z_xgX (b := 28) zt208 23 rfl zo208 zzf12_34 X f19 (by decide) (by decide) rfl ?_
    refine z_xP zt208 24 74 [some (.ref 19), some (.int p1), some (.int p2)] [.int p1, .ref 28] rfl rfl ?_
    have f28 : T[28]? = some (.inr (28, 0, 8, (-2147483648), 2147483647)) := X.1.k rfl (by decide)
    refine z_xil zt208 25 rfl X f28 (by decide) (by omega) (by omega) (fun (x27 : Int32) h28 (h29 : (-2147483648) ≤ x27.toInt) (h30 : x27.toInt ≤ 2147483647) => ?_)
    exact z_xri zt208 26 rfl zzr208 (kk x27 M0 X)
  by_cases h31 : p2.toInt = 4
  · refine z_xSC zt208 6 (z_sub (k := 4) h31 rfl) 76 rfl rfl ?_
    refine z_xP zt208 27 77 [some (.ref 19), some (.int p1), some (.int p2)] [.ref 19] rfl rfl ?_
    refine z_xgX (b := 31) zt208 28 rfl zo208 zzf12_43 X f19 (by decide) (by decide) rfl ?_
    refine z_xP zt208 29 81 [some (.ref 19), some (.int p1), some (.int p2)] [.int p1, .ref 31] rfl rfl ?_
    have f31 : T[31]? = some (.inr (31, 0, 8, 0, 1024)) := X.1.k rfl (by decide)
    refine z_xil zt208 30 rfl X f31 (by decide) (by omega) (by omega) (fun (x32 : Int32) h33 (h34 : 0 ≤ x32.toInt) (h35 : x32.toInt ≤ 1024) => ?_)
    exact z_xri zt208 31 rfl zzr208 (kk x32 M0 X)
  by_cases h36 : p2.toInt = 5
  · refine z_xSC zt208 6 (z_sub (k := 5) h36 rfl) 83 rfl rfl ?_
    refine z_xP zt208 32 84 [some (.ref 19), some (.int p1), some (.int p2)] [.ref 19] rfl rfl ?_
    refine z_xgX (b := 35) zt208 33 rfl zo208 zzf12_55 X f19 (by decide) (by decide) rfl ?_
    refine z_xP zt208 34 88 [some (.ref 19), some (.int p1), some (.int p2)] [.int p1, .ref 35] rfl rfl ?_
    have f35 : T[35]? = some (.inr (35, 0, 8, 0, 9)) := X.1.k rfl (by decide)
    refine z_xil zt208 35 rfl X f35 (by decide) (by omega) (by omega) (fun (x37 : Int32) h38 (h39 : 0 ≤ x37.toInt) (h40 : x37.toInt ≤ 9) => ?_)
    exact z_xri zt208 36 rfl zzr208 (kk x37 M0 X)
  refine z_xSD zt208 6 rfl rfl (by omega) ?_
  refine z_xP zt208 37 91 [some (.ref 19), some (.int p1), some (.int p2)] [.int (-1)] rfl rfl ?_
  have qm1 : (((-1) : Int32)).toInt = (-1) := rfl
  exact z_xri zt208 38 rfl zzr208 (kk (-1) M0 X)
def zw210 : List Nat := []
theorem zC210 {T : List zK} {d : Nat} {K : Option Value → zH → Prop} {p1 : Int32} {p2 : Int32} {M0 : zH} (hW : z_W M0 T)  (kk : ∀ (x : Int32) (M1 : zH), z_X T zw210 M0 M1 → (-1) ≤ x.toInt → x.toInt ≤ 1023 → K (some (.int x)) M1) : z_ev (d + 1) 210 0 [some (.ref 19), some (.int p1), some (.int p2)] [] M0 K := by
  have X : z_X T zw210 M0 M0 := .refl hW
  refine z_xP zt210 0 2 [some (.ref 19), some (.int p1), some (.int p2)] [.int p1, .ref 19] rfl rfl ?_
  have f19 : T[19]? = some (.inl (12, 0, 0, 0, 0)) := X.1.k rfl (by decide)
  refine z_xcV (vs := [.ref 19, .int p1]) (r := []) (L2 := [some (.ref 19), some (.int p1)]) zt210 1 rfl zo210 zzcV12_209 (Or.inl rfl) rfl X f19 rfl rfl rfl (Nat.le_of_ble_eq_true rfl) zzm209 (Nat.le_of_ble_eq_true rfl) rfl ?_
  refine z_xP zt209 0 1 [some (.ref 19), some (.int p1)] [.int p1] rfl rfl ?_
  refine z_xZ zt209 1 rfl rfl (fun (h1 : p1.toInt < 0) => ?_) (fun (h1 : 0 ≤ p1.toInt) => ?_)
  · skip
    refine z_xP zt209 6 17 [some (.ref 19), some (.int p1)] [.int 0] rfl rfl ?_
    refine z_xrz zt209 7 rfl zzr209 (by decide) (by decide) ?_
    show z_ev (d + 1) 210 5 [some (.ref 19), some (.int p1), some (.int p2)] [.int 0] M0 _
    refine z_xZ zt210 2 rfl rfl (fun (h2 : (0 : Int) = 0) => ?_) (fun (h2 : (0 : Int) ≠ 0) => absurd h2 (by omega))
    refine z_xP zt210 18 38 [some (.ref 19), some (.int p1), some (.int p2)] [.int (-1)] rfl rfl ?_
    have qm1 : (((-1) : Int32)).toInt = (-1) := rfl
    exact z_xri zt210 19 rfl zzr210 (kk (-1) M0 X (by omega) (by omega))
  refine z_xP zt209 2 6 [some (.ref 19), some (.int p1)] [.ref 19, .int p1] rfl rfl ?_
  refine z_xgI zt209 3 rfl zo209 zzf12_110 X f19 (by decide) (by decide) rfl (fun (x4 : Int32) h3 (h5 : 0 ≤ x4.toInt) (h6 : x4.toInt ≤ 8) => ?_)
  have h7 := z_b32 p1
  refine z_xJ zt209 4 rfl rfl (fun (h8 : x4.toInt ≤ p1.toInt) => ?_) (fun (h8 : p1.toInt < x4.toInt) => ?_)
  · skip
    refine z_xP zt209 6 17 [some (.ref 19), some (.int p1)] [.int 0] rfl rfl ?_
    refine z_xrz zt209 7 rfl zzr209 (by decide) (by decide) ?_
    show z_ev (d + 1) 210 5 [some (.ref 19), some (.int p1), some (.int p2)] [.int 0] M0 _
    refine z_xZ zt210 2 rfl rfl (fun (h9 : (0 : Int) = 0) => ?_) (fun (h9 : (0 : Int) ≠ 0) => absurd h9 (by omega))
    refine z_xP zt210 18 38 [some (.ref 19), some (.int p1), some (.int p2)] [.int (-1)] rfl rfl ?_
    have qm1 : (((-1) : Int32)).toInt = (-1) := rfl
    exact z_xri zt210 19 rfl zzr210 (kk (-1) M0 X (by omega) (by omega))
  refine z_xP zt209 5 17 [some (.ref 19), some (.int p1)] [.int 1] rfl rfl ?_
  refine z_xrz zt209 7 rfl zzr209 (by decide) (by decide) ?_
  show z_ev (d + 1) 210 5 [some (.ref 19), some (.int p1), some (.int p2)] [.int 1] M0 _
  refine z_xZ zt210 2 rfl rfl (fun (h10 : (1 : Int) = 0) => absurd h10 (by omega)) (fun (h10 : (1 : Int) ≠ 0) => ?_)
  refine z_xP zt210 3 9 [some (.ref 19), some (.int p1), some (.int p2)] [.int p2] rfl rfl ?_
  refine z_xZ zt210 4 rfl rfl (fun (h11 : p2.toInt < 0) => ?_) (fun (h11 : 0 ≤ p2.toInt) => ?_)
  · skip
    refine z_xP zt210 18 38 [some (.ref 19), some (.int p1), some (.int p2)] [.int (-1)] rfl rfl ?_
    have qm1 : (((-1) : Int32)).toInt = (-1) := rfl
    exact z_xri zt210 19 rfl zzr210 (kk (-1) M0 X (by omega) (by omega))
  refine z_xP zt210 5 14 [some (.ref 19), some (.int p1), some (.int p2)] [.ref 19, .int p2] rfl rfl ?_
  refine z_xgX (b := 31) zt210 6 rfl zo210 zzf12_43 X f19 (by decide) (by decide) rfl ?_
  refine z_xP zt210 7 18 [some (.ref 19), some (.int p1), some (.int p2)] [.int p1, .ref 31, .int p2] rfl rfl ?_
  have f31 : T[31]? = some (.inr (31, 0, 8, 0, 1024)) := X.1.k rfl (by decide)
  refine z_xil zt210 8 rfl X f31 (by decide) (by omega) (by omega) (fun (x12 : Int32) h13 (h14 : 0 ≤ x12.toInt) (h15 : x12.toInt ≤ 1024) => ?_)
  have h16 := z_b32 p2
  refine z_xJ zt210 9 rfl rfl (fun (h17 : x12.toInt ≤ p2.toInt) => ?_) (fun (h17 : p2.toInt < x12.toInt) => ?_)
  · skip
    refine z_xP zt210 18 38 [some (.ref 19), some (.int p1), some (.int p2)] [.int (-1)] rfl rfl ?_
    have qm1 : (((-1) : Int32)).toInt = (-1) := rfl
    exact z_xri zt210 19 rfl zzr210 (kk (-1) M0 X (by omega) (by omega))
  refine z_xP zt210 10 23 [some (.ref 19), some (.int p1), some (.int p2)] [.ref 19] rfl rfl ?_
  refine z_xgX (b := 30) zt210 11 rfl zo210 zzf12_40 X f19 (by decide) (by decide) rfl ?_
  refine z_xP zt210 12 30 [some (.ref 19), some (.int p1), some (.int p2)] [.int p1, .int 1024, .ref 30] rfl rfl ?_
  refine z_xI zt210 13 rfl rfl (fun (x18 : Int32) (h19 : x18.toInt = 1024 * p1.toInt) => ?_) (z_pMul rfl rfl (by omega) (by omega))
  refine z_xP zt210 14 32 [some (.ref 19), some (.int p1), some (.int p2)] [.int p2, .int x18, .ref 30] rfl rfl ?_
  refine z_xI zt210 15 rfl rfl (fun (x20 : Int32) (h21 : x20.toInt = x18.toInt + p2.toInt) => ?_) (z_pAdd rfl rfl (by omega) (by omega))
  have f30 : T[30]? = some (.inr (30, 0, 8192, 0, 1023)) := X.1.k rfl (by decide)
  refine z_xil zt210 16 rfl X f30 (by decide) (by omega) (by omega) (fun (x22 : Int32) h23 (h24 : 0 ≤ x22.toInt) (h25 : x22.toInt ≤ 1023) => ?_)
  refine z_xP zt210 17 38 [some (.ref 19), some (.int p1), some (.int p2)] [.int x22] rfl rfl ?_
  exact z_xri zt210 19 rfl zzr210 (kk x22 M0 X (by omega) (by omega))
def zw211 : List Nat := []
theorem zC211 {T : List zK} {d : Nat} {K : Option Value → zH → Prop} {p1 : Int32} {p2 : Int32} {M0 : zH} (hW : z_W M0 T)  (kk : ∀ (x : Int32) (M1 : zH), z_X T zw211 M0 M1 → K (some (.int x)) M1) : z_ev (d + 1) 211 0 [some (.ref 19), some (.int p1), some (.int p2)] [] M0 K := by
  have X : z_X T zw211 M0 M0 := .refl hW
  refine z_xP zt211 0 2 [some (.ref 19), some (.int p1), some (.int p2)] [.int p1, .ref 19] rfl rfl ?_
  have f19 : T[19]? = some (.inl (12, 0, 0, 0, 0)) := X.1.k rfl (by decide)
  refine z_xcV (vs := [.ref 19, .int p1]) (r := []) (L2 := [some (.ref 19), some (.int p1)]) zt211 1 rfl zo211 zzcV12_209 (Or.inl rfl) rfl X f19 rfl rfl rfl (Nat.le_of_ble_eq_true rfl) zzm209 (Nat.le_of_ble_eq_true rfl) rfl ?_
  refine z_xP zt209 0 1 [some (.ref 19), some (.int p1)] [.int p1] rfl rfl ?_
  refine z_xZ zt209 1 rfl rfl (fun (h1 : p1.toInt < 0) => ?_) (fun (h1 : 0 ≤ p1.toInt) => ?_)
  · skip
    refine z_xP zt209 6 17 [some (.ref 19), some (.int p1)] [.int 0] rfl rfl ?_
    refine z_xrz zt209 7 rfl zzr209 (by decide) (by decide) ?_
    show z_ev (d + 1) 211 5 [some (.ref 19), some (.int p1), some (.int p2)] [.int 0] M0 _
    refine z_xZ zt211 2 rfl rfl (fun (h2 : (0 : Int) = 0) => ?_) (fun (h2 : (0 : Int) ≠ 0) => absurd h2 (by omega))
    refine z_xP zt211 14 33 [some (.ref 19), some (.int p1), some (.int p2)] [.int (-1)] rfl rfl ?_
    have qm1 : (((-1) : Int32)).toInt = (-1) := rfl
    exact z_xri zt211 15 rfl zzr211 (kk (-1) M0 X)
  refine z_xP zt209 2 6 [some (.ref 19), some (.int p1)] [.ref 19, .int p1] rfl rfl ?_
  refine z_xgI zt209 3 rfl zo209 zzf12_110 X f19 (by decide) (by decide) rfl (fun (x4 : Int32) h3 (h5 : 0 ≤ x4.toInt) (h6 : x4.toInt ≤ 8) => ?_)
  have h7 := z_b32 p1
  refine z_xJ zt209 4 rfl rfl (fun (h8 : x4.toInt ≤ p1.toInt) => ?_) (fun (h8 : p1.toInt < x4.toInt) => ?_)
  · skip
    refine z_xP zt209 6 17 [some (.ref 19), some (.int p1)] [.int 0] rfl rfl ?_
    refine z_xrz zt209 7 rfl zzr209 (by decide) (by decide) ?_
    show z_ev (d + 1) 211 5 [some (.ref 19), some (.int p1), some (.int p2)] [.int 0] M0 _
    refine z_xZ zt211 2 rfl rfl (fun (h9 : (0 : Int) = 0) => ?_) (fun (h9 : (0 : Int) ≠ 0) => absurd h9 (by omega))
    refine z_xP zt211 14 33 [some (.ref 19), some (.int p1), some (.int p2)] [.int (-1)] rfl rfl ?_
    have qm1 : (((-1) : Int32)).toInt = (-1) := rfl
    exact z_xri zt211 15 rfl zzr211 (kk (-1) M0 X)
  refine z_xP zt209 5 17 [some (.ref 19), some (.int p1)] [.int 1] rfl rfl ?_
  refine z_xrz zt209 7 rfl zzr209 (by decide) (by decide) ?_
  show z_ev (d + 1) 211 5 [some (.ref 19), some (.int p1), some (.int p2)] [.int 1] M0 _
  refine z_xZ zt211 2 rfl rfl (fun (h10 : (1 : Int) = 0) => absurd h10 (by omega)) (fun (h10 : (1 : Int) ≠ 0) => ?_)
  refine z_xP zt211 3 11 [some (.ref 19), some (.int p1), some (.int p2)] [.int p2, .int p1, .ref 19] rfl rfl ?_
  refine z_xcV (vs := [.ref 19, .int p1, .int p2]) (r := []) (L2 := [some (.ref 19), some (.int p1), some (.int p2)]) zt211 4 rfl zo211 zzcV12_212 (Or.inl rfl) rfl X f19 rfl rfl rfl (Nat.le_of_ble_eq_true rfl) zzm212 (Nat.le_of_ble_eq_true rfl) rfl ?_
  refine z_xP zt212 0 1 [some (.ref 19), some (.int p1), some (.int p2)] [.int p2] rfl rfl ?_
  refine z_xZ zt212 1 rfl rfl (fun (h11 : p2.toInt < 0) => ?_) (fun (h11 : 0 ≤ p2.toInt) => ?_)
  · skip
    refine z_xP zt212 9 21 [some (.ref 19), some (.int p1), some (.int p2)] [.int 0] rfl rfl ?_
    refine z_xrz zt212 10 rfl zzr212 (by decide) (by decide) ?_
    show z_ev (d + 1) 211 14 [some (.ref 19), some (.int p1), some (.int p2)] [.int 0] M0 _
    refine z_xZ zt211 5 rfl rfl (fun (h12 : (0 : Int) = 0) => ?_) (fun (h12 : (0 : Int) ≠ 0) => absurd h12 (by omega))
    refine z_xP zt211 14 33 [some (.ref 19), some (.int p1), some (.int p2)] [.int (-1)] rfl rfl ?_
    have qm1 : (((-1) : Int32)).toInt = (-1) := rfl
    exact z_xri zt211 15 rfl zzr211 (kk (-1) M0 X)
  refine z_xP zt212 2 7 [some (.ref 19), some (.int p1), some (.int p2)] [.ref 19, .int 1, .int p2] rfl rfl ?_
  refine z_xgX (b := 24) zt212 3 rfl zo212 zzf12_22 X f19 (by decide) (by decide) rfl ?_
  refine z_xP zt212 4 11 [some (.ref 19), some (.int p1), some (.int p2)] [.int p1, .ref 24, .int 1, .int p2] rfl rfl ?_
  have f24 : T[24]? = some (.inr (24, 0, 8, 0, 10)) := X.1.k rfl (by decide)
  refine z_xil zt212 5 rfl X f24 (by decide) (by omega) (by omega) (fun (x13 : Int32) h14 (h15 : 0 ≤ x13.toInt) (h16 : x13.toInt ≤ 10) => ?_)
  refine z_xI zt212 6 rfl rfl (fun (x17 : Int32) (h18 : 1 ≤ x17.toInt ∧ x17.toInt ≤ 1024) => ?_) (z_pShlB (a := 1) (b := 10) (c := 1024) (r := 1024) rfl rfl (by omega) (by omega) (by omega) (by omega) (by decide) (by decide) (by decide) (by decide))
  have h19 := z_b32 p2
  refine z_xJ zt212 7 rfl rfl (fun (h20 : x17.toInt ≤ p2.toInt) => ?_) (fun (h20 : p2.toInt < x17.toInt) => ?_)
  · skip
    refine z_xP zt212 9 21 [some (.ref 19), some (.int p1), some (.int p2)] [.int 0] rfl rfl ?_
    refine z_xrz zt212 10 rfl zzr212 (by decide) (by decide) ?_
    show z_ev (d + 1) 211 14 [some (.ref 19), some (.int p1), some (.int p2)] [.int 0] M0 _
    refine z_xZ zt211 5 rfl rfl (fun (h21 : (0 : Int) = 0) => ?_) (fun (h21 : (0 : Int) ≠ 0) => absurd h21 (by omega))
    refine z_xP zt211 14 33 [some (.ref 19), some (.int p1), some (.int p2)] [.int (-1)] rfl rfl ?_
    have qm1 : (((-1) : Int32)).toInt = (-1) := rfl
    exact z_xri zt211 15 rfl zzr211 (kk (-1) M0 X)
  refine z_xP zt212 8 21 [some (.ref 19), some (.int p1), some (.int p2)] [.int 1] rfl rfl ?_
  refine z_xrz zt212 10 rfl zzr212 (by decide) (by decide) ?_
  show z_ev (d + 1) 211 14 [some (.ref 19), some (.int p1), some (.int p2)] [.int 1] M0 _
  refine z_xZ zt211 5 rfl rfl (fun (h22 : (1 : Int) = 0) => absurd h22 (by omega)) (fun (h22 : (1 : Int) ≠ 0) => ?_)
  refine z_xP zt211 6 18 [some (.ref 19), some (.int p1), some (.int p2)] [.ref 19] rfl rfl ?_
  refine z_xgX (b := 29) zt211 7 rfl zo211 zzf12_37 X f19 (by decide) (by decide) rfl ?_
  refine z_xP zt211 8 25 [some (.ref 19), some (.int p1), some (.int p2)] [.int p1, .int 1024, .ref 29] rfl rfl ?_
  refine z_xI zt211 9 rfl rfl (fun (x23 : Int32) (h24 : x23.toInt = 1024 * p1.toInt) => ?_) (z_pMul rfl rfl (by omega) (by omega))
  refine z_xP zt211 10 27 [some (.ref 19), some (.int p1), some (.int p2)] [.int p2, .int x23, .ref 29] rfl rfl ?_
  refine z_xI zt211 11 rfl rfl (fun (x25 : Int32) (h26 : x25.toInt = x23.toInt + p2.toInt) => ?_) (z_pAdd rfl rfl (by omega) (by omega))
  have f29 : T[29]? = some (.inr (29, 0, 8192, (-2147483648), 2147483647)) := X.1.k rfl (by decide)
  refine z_xil zt211 12 rfl X f29 (by decide) (by omega) (by omega) (fun (x27 : Int32) h28 (h29 : (-2147483648) ≤ x27.toInt) (h30 : x27.toInt ≤ 2147483647) => ?_)
  refine z_xP zt211 13 33 [some (.ref 19), some (.int p1), some (.int p2)] [.int x27] rfl rfl ?_
  exact z_xri zt211 15 rfl zzr211 (kk x27 M0 X)
def zw215 : List Nat := []
theorem zB215 {T : List zK} {d : Nat} {K : Option Value → zH → Prop} {p1 : Int32} {p2 : Int32} {p3 : Int32} {M0 : zH} (u1 : 0 ≤ p1.toInt ∧ p1.toInt ≤ 7) (kk : ∀ (x : Int32) (M1 : zH), z_X T zw215 M0 M1 → 0 ≤ x.toInt → x.toInt ≤ 1 → K (some (.int x)) M1) : ∀ n : Nat, (∀ (M : zH) (b4 : Int32) (b5 : Int32), z_X T zw215 M0 M → 0 ≤ b4.toInt ∧ b4.toInt ≤ 1 → 0 ≤ b5.toInt ∧ b5.toInt ≤ 1024 → ((0) * 2 + 0) * 1025 + (1024 - b5.toInt) < (n : Int) → z_ev (d + 1) 215 6 [some (.ref 19), some (.int p1), some (.int p2), some (.int p3), some (.int b4), some (.int b5)] [] M K) := by
  intro n
  induction n with
  | zero => exact by intros; exfalso; omega
  | succ n ih =>
    intro M b4 b5 X hh0 hh1 hE
    refine z_xP zt215 1 9 [some (.ref 19), some (.int p1), some (.int p2), some (.int p3), some (.int b4), some (.int b5)] [.ref 19, .int b5] rfl rfl ?_
    have f19 : T[19]? = some (.inl (12, 0, 0, 0, 0)) := X.1.k rfl (by decide)
    refine z_xgX (b := 31) zt215 2 rfl zo215 zzf12_43 X f19 (by decide) (by decide) rfl ?_
    refine z_xP zt215 3 13 [some (.ref 19), some (.int p1), some (.int p2), some (.int p3), some (.int b4), some (.int b5)] [.int p1, .ref 31, .int b5] rfl rfl ?_
    have f31 : T[31]? = some (.inr (31, 0, 8, 0, 1024)) := X.1.k rfl (by decide)
    refine z_xil zt215 4 rfl X f31 (by decide) (by omega) (by omega) (fun (x1 : Int32) h2 (h3 : 0 ≤ x1.toInt) (h4 : x1.toInt ≤ 1024) => ?_)
    refine z_xJ zt215 5 rfl rfl (fun (h5 : x1.toInt ≤ b5.toInt) => ?_) (fun (h5 : b5.toInt < x1.toInt) => ?_)
    · skip
      refine z_xP zt215 23 58 [some (.ref 19), some (.int p1), some (.int p2), some (.int p3), some (.int b4), some (.int b5)] [.int b4] rfl rfl ?_
      exact z_xrz zt215 24 rfl zzr215 (by omega) (by omega) (kk b4 M X (by omega) (by omega))
    refine z_xP zt215 6 19 [some (.ref 19), some (.int p1), some (.int p2), some (.int p3), some (.int b4), some (.int b5)] [.int b4] rfl rfl ?_
    refine z_xZ zt215 7 rfl rfl (fun (h6 : b4.toInt ≠ 0) => ?_) (fun (h6 : b4.toInt = 0) => ?_)
    · skip
      refine z_xP zt215 18 48 [some (.ref 19), some (.int p1), some (.int p2), some (.int p3), some (.int b4), some (.int b5)] [.int 1] rfl rfl ?_
      refine z_xP zt215 20 50 [some (.ref 19), some (.int p1), some (.int p2), some (.int p3), some (.int 1), some (.int b5)] [] rfl rfl ?_
      refine z_xN zt215 21 rfl rfl (fun (x7 : Int32) (h8 : x7.toInt = b5.toInt + 1) => ?_) (z_pAdd rfl rfl (by omega) (by omega))
      show z_ev (d + 1) 215 53 [some (.ref 19), some (.int p1), some (.int p2), some (.int p3), some (.int 1), some (.int x7)] [] M _
      refine z_xP zt215 22 6 [some (.ref 19), some (.int p1), some (.int p2), some (.int p3), some (.int 1), some (.int x7)] [] rfl rfl ?_
      have q1 : ((1 : Int32)).toInt = 1 := rfl
      exact ih M (1) x7 X (by decide) ⟨by omega, by omega⟩ (by omega)
    refine z_xP zt215 8 23 [some (.ref 19), some (.int p1), some (.int p2), some (.int p3), some (.int b4), some (.int b5)] [.ref 19] rfl rfl ?_
    refine z_xgX (b := 30) zt215 9 rfl zo215 zzf12_40 X f19 (by decide) (by decide) rfl ?_
    refine z_xP zt215 10 30 [some (.ref 19), some (.int p1), some (.int p2), some (.int p3), some (.int b4), some (.int b5)] [.int p1, .int 1024, .ref 30] rfl rfl ?_
    refine z_xI zt215 11 rfl rfl (fun (x9 : Int32) (h10 : x9.toInt = 1024 * p1.toInt) => ?_) (z_pMul rfl rfl (by omega) (by omega))
    refine z_xP zt215 12 33 [some (.ref 19), some (.int p1), some (.int p2), some (.int p3), some (.int b4), some (.int b5)] [.int b5, .int x9, .ref 30] rfl rfl ?_
    refine z_xI zt215 13 rfl rfl (fun (x11 : Int32) (h12 : x11.toInt = x9.toInt + b5.toInt) => ?_) (z_pAdd rfl rfl (by omega) (by omega))
    have f30 : T[30]? = some (.inr (30, 0, 8192, 0, 1023)) := X.1.k rfl (by decide)
    refine z_xil zt215 14 rfl X f30 (by decide) (by omega) (by omega) (fun (x13 : Int32) h14 (h15 : 0 ≤ x13.toInt) (h16 : x13.toInt ≤ 1023) => ?_)
    refine z_xP zt215 15 37 [some (.ref 19), some (.int p1), some (.int p2), some (.int p3), some (.int b4), some (.int b5)] [.int p3, .int p2, .int x13] rfl rfl ?_
    refine z_xcS (vs := [.int x13, .int p2, .int p3]) (r := []) (L2 := [some (.int x13), some (.int p2), some (.int p3)]) zt215 16 rfl zo215 zzcS12_216 (Or.inl rfl) (Nat.le_of_ble_eq_true rfl) rfl rfl (Nat.le_of_ble_eq_true rfl) zzm216 (Nat.le_of_ble_eq_true rfl) rfl ?_
    refine z_xP zt216 0 2 [some (.int x13), some (.int p2), some (.int p3)] [.int p2, .int x13] rfl rfl ?_
    refine z_xI zt216 1 rfl rfl (fun (x17 : Int32) (h18 : 0 ≤ x17.toInt ∧ x17.toInt ≤ x13.toInt) => ?_) (z_pAndL rfl (by omega))
    refine z_xP zt216 2 4 [some (.int x13), some (.int p2), some (.int p3)] [.int p2, .int x17] rfl rfl ?_
    have h19 := z_b32 p2
    refine z_xJ zt216 3 rfl rfl (fun (h20 : x17.toInt ≠ p2.toInt) => ?_) (fun (h20 : x17.toInt = p2.toInt) => ?_)
    · skip
      refine z_xP zt216 8 18 [some (.int x13), some (.int p2), some (.int p3)] [.int 0] rfl rfl ?_
      refine z_xrz zt216 9 rfl zzr216 (by decide) (by decide) ?_
      show z_ev (d + 1) 215 40 [some (.ref 19), some (.int p1), some (.int p2), some (.int p3), some (.int b4), some (.int b5)] [.int 0] M _
      refine z_xZ zt215 17 rfl rfl (fun (h21 : (0 : Int) = 0) => ?_) (fun (h21 : (0 : Int) ≠ 0) => absurd h21 (by omega))
      refine z_xP zt215 19 48 [some (.ref 19), some (.int p1), some (.int p2), some (.int p3), some (.int b4), some (.int b5)] [.int 0] rfl rfl ?_
      refine z_xP zt215 20 50 [some (.ref 19), some (.int p1), some (.int p2), some (.int p3), some (.int 0), some (.int b5)] [] rfl rfl ?_
      refine z_xN zt215 21 rfl rfl (fun (x22 : Int32) (h23 : x22.toInt = b5.toInt + 1) => ?_) (z_pAdd rfl rfl (by omega) (by omega))
      show z_ev (d + 1) 215 53 [some (.ref 19), some (.int p1), some (.int p2), some (.int p3), some (.int 0), some (.int x22)] [] M _
      refine z_xP zt215 22 6 [some (.ref 19), some (.int p1), some (.int p2), some (.int p3), some (.int 0), some (.int x22)] [] rfl rfl ?_
      have q0 : ((0 : Int32)).toInt = 0 := rfl
      exact ih M (0) x22 X (by decide) ⟨by omega, by omega⟩ (by omega)
    refine z_xP zt216 4 9 [some (.int x13), some (.int p2), some (.int p3)] [.int p3, .int x13] rfl rfl ?_
    refine z_xI zt216 5 rfl rfl (fun (x24 : Int32) (h25 : 0 ≤ x24.toInt ∧ x24.toInt ≤ x13.toInt) => ?_) (z_pAndL rfl (by omega))
    refine z_xZ zt216 6 rfl rfl (fun (h26 : x24.toInt ≠ 0) => ?_) (fun (h26 : x24.toInt = 0) => ?_)
    · skip
      refine z_xP zt216 8 18 [some (.int x13), some (.int p2), some (.int p3)] [.int 0] rfl rfl ?_
      refine z_xrz zt216 9 rfl zzr216 (by decide) (by decide) ?_
      show z_ev (d + 1) 215 40 [some (.ref 19), some (.int p1), some (.int p2), some (.int p3), some (.int b4), some (.int b5)] [.int 0] M _
      refine z_xZ zt215 17 rfl rfl (fun (h27 : (0 : Int) = 0) => ?_) (fun (h27 : (0 : Int) ≠ 0) => absurd h27 (by omega))
      refine z_xP zt215 19 48 [some (.ref 19), some (.int p1), some (.int p2), some (.int p3), some (.int b4), some (.int b5)] [.int 0] rfl rfl ?_
      refine z_xP zt215 20 50 [some (.ref 19), some (.int p1), some (.int p2), some (.int p3), some (.int 0), some (.int b5)] [] rfl rfl ?_
      refine z_xN zt215 21 rfl rfl (fun (x28 : Int32) (h29 : x28.toInt = b5.toInt + 1) => ?_) (z_pAdd rfl rfl (by omega) (by omega))
      show z_ev (d + 1) 215 53 [some (.ref 19), some (.int p1), some (.int p2), some (.int p3), some (.int 0), some (.int x28)] [] M _
      refine z_xP zt215 22 6 [some (.ref 19), some (.int p1), some (.int p2), some (.int p3), some (.int 0), some (.int x28)] [] rfl rfl ?_
      have q0 : ((0 : Int32)).toInt = 0 := rfl
      exact ih M (0) x28 X (by decide) ⟨by omega, by omega⟩ (by omega)
    refine z_xP zt216 7 18 [some (.int x13), some (.int p2), some (.int p3)] [.int 1] rfl rfl ?_
    refine z_xrz zt216 9 rfl zzr216 (by decide) (by decide) ?_
    show z_ev (d + 1) 215 40 [some (.ref 19), some (.int p1), some (.int p2), some (.int p3), some (.int b4), some (.int b5)] [.int 1] M _
    refine z_xZ zt215 17 rfl rfl (fun (h30 : (1 : Int) = 0) => absurd h30 (by omega)) (fun (h30 : (1 : Int) ≠ 0) => ?_)
    refine z_xP zt215 18 48 [some (.ref 19), some (.int p1), some (.int p2), some (.int p3), some (.int b4), some (.int b5)] [.int 1] rfl rfl ?_
    refine z_xP zt215 20 50 [some (.ref 19), some (.int p1), some (.int p2), some (.int p3), some (.int 1), some (.int b5)] [] rfl rfl ?_
    refine z_xN zt215 21 rfl rfl (fun (x31 : Int32) (h32 : x31.toInt = b5.toInt + 1) => ?_) (z_pAdd rfl rfl (by omega) (by omega))
    show z_ev (d + 1) 215 53 [some (.ref 19), some (.int p1), some (.int p2), some (.int p3), some (.int 1), some (.int x31)] [] M _
    refine z_xP zt215 22 6 [some (.ref 19), some (.int p1), some (.int p2), some (.int p3), some (.int 1), some (.int x31)] [] rfl rfl ?_
    have q1 : ((1 : Int32)).toInt = 1 := rfl
    exact ih M (1) x31 X (by decide) ⟨by omega, by omega⟩ (by omega)
theorem zC215 {T : List zK} {d : Nat} {K : Option Value → zH → Prop} {p1 : Int32} {p2 : Int32} {p3 : Int32} {M0 : zH} (hW : z_W M0 T) (u1 : 0 ≤ p1.toInt ∧ p1.toInt ≤ 7) (kk : ∀ (x : Int32) (M1 : zH), z_X T zw215 M0 M1 → 0 ≤ x.toInt → x.toInt ≤ 1 → K (some (.int x)) M1) : z_ev (d + 1) 215 0 [some (.ref 19), some (.int p1), some (.int p2), some (.int p3), none, none] [] M0 K := by
  have X : z_X T zw215 M0 M0 := .refl hW
  refine z_xP zt215 0 6 [some (.ref 19), some (.int p1), some (.int p2), some (.int p3), some (.int 0), some (.int 0)] [] rfl rfl ?_
  have q0 : ((0 : Int32)).toInt = 0 := rfl
  exact (zB215 u1 kk 2050) M0 (0) (0) X (by decide) (by decide) (by omega)
def zw213 : List Nat := []
theorem zC213 {T : List zK} {d : Nat} {K : Option Value → zH → Prop} {p1 : Int32} {p2 : Int32} {p3 : Int32} {M0 : zH} (hW : z_W M0 T)  (kk : ∀ (x : Int32) (M1 : zH), z_X T zw213 M0 M1 → (-1) ≤ x.toInt → x.toInt ≤ 1 → K (some (.int x)) M1) : z_ev (d + 2) 213 0 [some (.ref 19), some (.int p1), some (.int p2), some (.int p3)] [] M0 K := by
  have X : z_X T zw213 M0 M0 := .refl hW
  refine z_xP zt213 0 4 [some (.ref 19), some (.int p1), some (.int p2), some (.int p3)] [.int p3, .int p2, .int p1, .ref 19] rfl rfl ?_
  have f19 : T[19]? = some (.inl (12, 0, 0, 0, 0)) := X.1.k rfl (by decide)
  refine z_xcV (vs := [.ref 19, .int p1, .int p2, .int p3]) (r := []) (L2 := [some (.ref 19), some (.int p1), some (.int p2), some (.int p3)]) zt213 1 rfl zo213 zzcV12_219 (Or.inl rfl) rfl X f19 rfl rfl rfl (Nat.le_of_ble_eq_true rfl) zzm214 (Nat.le_of_ble_eq_true rfl) rfl ?_
  refine z_xP zt214 0 2 [some (.ref 19), some (.int p1), some (.int p2), some (.int p3)] [.int p1, .ref 19] rfl rfl ?_
  refine z_xcV (vs := [.ref 19, .int p1]) (r := []) (L2 := [some (.ref 19), some (.int p1)]) zt214 1 rfl zo214 zzcV12_209 (Or.inl rfl) rfl X f19 rfl rfl rfl (Nat.le_of_ble_eq_true rfl) zzm209 (Nat.le_of_ble_eq_true rfl) rfl ?_
  refine z_xP zt209 0 1 [some (.ref 19), some (.int p1)] [.int p1] rfl rfl ?_
  refine z_xZ zt209 1 rfl rfl (fun (h1 : p1.toInt < 0) => ?_) (fun (h1 : 0 ≤ p1.toInt) => ?_)
  · skip
    refine z_xP zt209 6 17 [some (.ref 19), some (.int p1)] [.int 0] rfl rfl ?_
    refine z_xrz zt209 7 rfl zzr209 (by decide) (by decide) ?_
    show z_ev (d + 1) 214 5 [some (.ref 19), some (.int p1), some (.int p2), some (.int p3)] [.int 0] M0 _
    refine z_xZ zt214 2 rfl rfl (fun (h2 : (0 : Int) = 0) => ?_) (fun (h2 : (0 : Int) ≠ 0) => absurd h2 (by omega))
    refine z_xP zt214 13 37 [some (.ref 19), some (.int p1), some (.int p2), some (.int p3)] [.int 0] rfl rfl ?_
    refine z_xrz zt214 14 rfl zzr214 (by decide) (by decide) ?_
    show z_ev (d + 2) 213 7 [some (.ref 19), some (.int p1), some (.int p2), some (.int p3)] [.int 0] M0 _
    refine z_xZ zt213 2 rfl rfl (fun (h3 : (0 : Int) ≠ 0) => absurd h3 (by omega)) (fun (h3 : (0 : Int) = 0) => ?_)
    refine z_xP zt213 3 11 [some (.ref 19), some (.int p1), some (.int p2), some (.int p3)] [.int (-1)] rfl rfl ?_
    have qm1 : (((-1) : Int32)).toInt = (-1) := rfl
    exact z_xri zt213 4 rfl zzr213 (kk (-1) M0 X (by omega) (by omega))
  refine z_xP zt209 2 6 [some (.ref 19), some (.int p1)] [.ref 19, .int p1] rfl rfl ?_
  refine z_xgI zt209 3 rfl zo209 zzf12_110 X f19 (by decide) (by decide) rfl (fun (x5 : Int32) h4 (h6 : 0 ≤ x5.toInt) (h7 : x5.toInt ≤ 8) => ?_)
  have h8 := z_b32 p1
  refine z_xJ zt209 4 rfl rfl (fun (h9 : x5.toInt ≤ p1.toInt) => ?_) (fun (h9 : p1.toInt < x5.toInt) => ?_)
  · skip
    refine z_xP zt209 6 17 [some (.ref 19), some (.int p1)] [.int 0] rfl rfl ?_
    refine z_xrz zt209 7 rfl zzr209 (by decide) (by decide) ?_
    show z_ev (d + 1) 214 5 [some (.ref 19), some (.int p1), some (.int p2), some (.int p3)] [.int 0] M0 _
    refine z_xZ zt214 2 rfl rfl (fun (h10 : (0 : Int) = 0) => ?_) (fun (h10 : (0 : Int) ≠ 0) => absurd h10 (by omega))
    refine z_xP zt214 13 37 [some (.ref 19), some (.int p1), some (.int p2), some (.int p3)] [.int 0] rfl rfl ?_
    refine z_xrz zt214 14 rfl zzr214 (by decide) (by decide) ?_
    show z_ev (d + 2) 213 7 [some (.ref 19), some (.int p1), some (.int p2), some (.int p3)] [.int 0] M0 _
    refine z_xZ zt213 2 rfl rfl (fun (h11 : (0 : Int) ≠ 0) => absurd h11 (by omega)) (fun (h11 : (0 : Int) = 0) => ?_)
    refine z_xP zt213 3 11 [some (.ref 19), some (.int p1), some (.int p2), some (.int p3)] [.int (-1)] rfl rfl ?_
    have qm1 : (((-1) : Int32)).toInt = (-1) := rfl
    exact z_xri zt213 4 rfl zzr213 (kk (-1) M0 X (by omega) (by omega))
  refine z_xP zt209 5 17 [some (.ref 19), some (.int p1)] [.int 1] rfl rfl ?_
  refine z_xrz zt209 7 rfl zzr209 (by decide) (by decide) ?_
  show z_ev (d + 1) 214 5 [some (.ref 19), some (.int p1), some (.int p2), some (.int p3)] [.int 1] M0 _
  refine z_xZ zt214 2 rfl rfl (fun (h12 : (1 : Int) = 0) => absurd h12 (by omega)) (fun (h12 : (1 : Int) ≠ 0) => ?_)
  refine z_xP zt214 3 11 [some (.ref 19), some (.int p1), some (.int p2), some (.int p3)] [.int p2, .int p1, .ref 19] rfl rfl ?_
  refine z_xcV (vs := [.ref 19, .int p1, .int p2]) (r := []) (L2 := [some (.ref 19), some (.int p1), some (.int p2)]) zt214 4 rfl zo214 zzcV12_212 (Or.inl rfl) rfl X f19 rfl rfl rfl (Nat.le_of_ble_eq_true rfl) zzm212 (Nat.le_of_ble_eq_true rfl) rfl ?_
  refine z_xP zt212 0 1 [some (.ref 19), some (.int p1), some (.int p2)] [.int p2] rfl rfl ?_
  refine z_xZ zt212 1 rfl rfl (fun (h13 : p2.toInt < 0) => ?_) (fun (h13 : 0 ≤ p2.toInt) => ?_)
  · skip
    refine z_xP zt212 9 21 [some (.ref 19), some (.int p1), some (.int p2)] [.int 0] rfl rfl ?_
    refine z_xrz zt212 10 rfl zzr212 (by decide) (by decide) ?_
    show z_ev (d + 1) 214 14 [some (.ref 19), some (.int p1), some (.int p2), some (.int p3)] [.int 0] M0 _
    refine z_xZ zt214 5 rfl rfl (fun (h14 : (0 : Int) = 0) => ?_) (fun (h14 : (0 : Int) ≠ 0) => absurd h14 (by omega))
    refine z_xP zt214 13 37 [some (.ref 19), some (.int p1), some (.int p2), some (.int p3)] [.int 0] rfl rfl ?_
    refine z_xrz zt214 14 rfl zzr214 (by decide) (by decide) ?_
    show z_ev (d + 2) 213 7 [some (.ref 19), some (.int p1), some (.int p2), some (.int p3)] [.int 0] M0 _
    refine z_xZ zt213 2 rfl rfl (fun (h15 : (0 : Int) ≠ 0) => absurd h15 (by omega)) (fun (h15 : (0 : Int) = 0) => ?_)
    refine z_xP zt213 3 11 [some (.ref 19), some (.int p1), some (.int p2), some (.int p3)] [.int (-1)] rfl rfl ?_
    have qm1 : (((-1) : Int32)).toInt = (-1) := rfl
    exact z_xri zt213 4 rfl zzr213 (kk (-1) M0 X (by omega) (by omega))
  refine z_xP zt212 2 7 [some (.ref 19), some (.int p1), some (.int p2)] [.ref 19, .int 1, .int p2] rfl rfl ?_
  refine z_xgX (b := 24) zt212 3 rfl zo212 zzf12_22 X f19 (by decide) (by decide) rfl ?_
  refine z_xP zt212 4 11 [some (.ref 19), some (.int p1), some (.int p2)] [.int p1, .ref 24, .int 1, .int p2] rfl rfl ?_
  have f24 : T[24]? = some (.inr (24, 0, 8, 0, 10)) := X.1.k rfl (by decide)
  refine z_xil zt212 5 rfl X f24 (by decide) (by omega) (by omega) (fun (x16 : Int32) h17 (h18 : 0 ≤ x16.toInt) (h19 : x16.toInt ≤ 10) => ?_)
  refine z_xI zt212 6 rfl rfl (fun (x20 : Int32) (h21 : 1 ≤ x20.toInt ∧ x20.toInt ≤ 1024) => ?_) (z_pShlB (a := 1) (b := 10) (c := 1024) (r := 1024) rfl rfl (by omega) (by omega) (by omega) (by omega) (by decide) (by decide) (by decide) (by decide))
  have h22 := z_b32 p2
  refine z_xJ zt212 7 rfl rfl (fun (h23 : x20.toInt ≤ p2.toInt) => ?_) (fun (h23 : p2.toInt < x20.toInt) => ?_)
  · skip
    refine z_xP zt212 9 21 [some (.ref 19), some (.int p1), some (.int p2)] [.int 0] rfl rfl ?_
    refine z_xrz zt212 10 rfl zzr212 (by decide) (by decide) ?_
    show z_ev (d + 1) 214 14 [some (.ref 19), some (.int p1), some (.int p2), some (.int p3)] [.int 0] M0 _
    refine z_xZ zt214 5 rfl rfl (fun (h24 : (0 : Int) = 0) => ?_) (fun (h24 : (0 : Int) ≠ 0) => absurd h24 (by omega))
    refine z_xP zt214 13 37 [some (.ref 19), some (.int p1), some (.int p2), some (.int p3)] [.int 0] rfl rfl ?_
    refine z_xrz zt214 14 rfl zzr214 (by decide) (by decide) ?_
    show z_ev (d + 2) 213 7 [some (.ref 19), some (.int p1), some (.int p2), some (.int p3)] [.int 0] M0 _
    refine z_xZ zt213 2 rfl rfl (fun (h25 : (0 : Int) ≠ 0) => absurd h25 (by omega)) (fun (h25 : (0 : Int) = 0) => ?_)
    refine z_xP zt213 3 11 [some (.ref 19), some (.int p1), some (.int p2), some (.int p3)] [.int (-1)] rfl rfl ?_
    have qm1 : (((-1) : Int32)).toInt = (-1) := rfl
    exact z_xri zt213 4 rfl zzr213 (kk (-1) M0 X (by omega) (by omega))
  refine z_xP zt212 8 21 [some (.ref 19), some (.int p1), some (.int p2)] [.int 1] rfl rfl ?_
  refine z_xrz zt212 10 rfl zzr212 (by decide) (by decide) ?_
  show z_ev (d + 1) 214 14 [some (.ref 19), some (.int p1), some (.int p2), some (.int p3)] [.int 1] M0 _
  refine z_xZ zt214 5 rfl rfl (fun (h26 : (1 : Int) = 0) => absurd h26 (by omega)) (fun (h26 : (1 : Int) ≠ 0) => ?_)
  refine z_xP zt214 6 20 [some (.ref 19), some (.int p1), some (.int p2), some (.int p3)] [.int p3, .int p1, .ref 19] rfl rfl ?_
  refine z_xcV (vs := [.ref 19, .int p1, .int p3]) (r := []) (L2 := [some (.ref 19), some (.int p1), some (.int p3)]) zt214 7 rfl zo214 zzcV12_212 (Or.inl rfl) rfl X f19 rfl rfl rfl (Nat.le_of_ble_eq_true rfl) zzm212 (Nat.le_of_ble_eq_true rfl) rfl ?_
  refine z_xP zt212 0 1 [some (.ref 19), some (.int p1), some (.int p3)] [.int p3] rfl rfl ?_
  refine z_xZ zt212 1 rfl rfl (fun (h27 : p3.toInt < 0) => ?_) (fun (h27 : 0 ≤ p3.toInt) => ?_)
  · skip
    refine z_xP zt212 9 21 [some (.ref 19), some (.int p1), some (.int p3)] [.int 0] rfl rfl ?_
    refine z_xrz zt212 10 rfl zzr212 (by decide) (by decide) ?_
    show z_ev (d + 1) 214 23 [some (.ref 19), some (.int p1), some (.int p2), some (.int p3)] [.int 0] M0 _
    refine z_xZ zt214 8 rfl rfl (fun (h28 : (0 : Int) = 0) => ?_) (fun (h28 : (0 : Int) ≠ 0) => absurd h28 (by omega))
    refine z_xP zt214 13 37 [some (.ref 19), some (.int p1), some (.int p2), some (.int p3)] [.int 0] rfl rfl ?_
    refine z_xrz zt214 14 rfl zzr214 (by decide) (by decide) ?_
    show z_ev (d + 2) 213 7 [some (.ref 19), some (.int p1), some (.int p2), some (.int p3)] [.int 0] M0 _
    refine z_xZ zt213 2 rfl rfl (fun (h29 : (0 : Int) ≠ 0) => absurd h29 (by omega)) (fun (h29 : (0 : Int) = 0) => ?_)
    refine z_xP zt213 3 11 [some (.ref 19), some (.int p1), some (.int p2), some (.int p3)] [.int (-1)] rfl rfl ?_
    have qm1 : (((-1) : Int32)).toInt = (-1) := rfl
    exact z_xri zt213 4 rfl zzr213 (kk (-1) M0 X (by omega) (by omega))
  refine z_xP zt212 2 7 [some (.ref 19), some (.int p1), some (.int p3)] [.ref 19, .int 1, .int p3] rfl rfl ?_
  refine z_xgX (b := 24) zt212 3 rfl zo212 zzf12_22 X f19 (by decide) (by decide) rfl ?_
  refine z_xP zt212 4 11 [some (.ref 19), some (.int p1), some (.int p3)] [.int p1, .ref 24, .int 1, .int p3] rfl rfl ?_
  refine z_xil zt212 5 rfl X f24 (by decide) (by omega) (by omega) (fun (x30 : Int32) h31 (h32 : 0 ≤ x30.toInt) (h33 : x30.toInt ≤ 10) => ?_)
  have h34 := congrArg Int32.toInt (h31.symm.trans h17)
  refine z_xI zt212 6 rfl rfl (fun (x35 : Int32) (h36 : 1 ≤ x35.toInt ∧ x35.toInt ≤ 1024) => ?_) (z_pShlB (a := 1) (b := 10) (c := 1024) (r := 1024) rfl rfl (by omega) (by omega) (by omega) (by omega) (by decide) (by decide) (by decide) (by decide))
  have h37 := z_b32 p3
  refine z_xJ zt212 7 rfl rfl (fun (h38 : x35.toInt ≤ p3.toInt) => ?_) (fun (h38 : p3.toInt < x35.toInt) => ?_)
  · skip
    refine z_xP zt212 9 21 [some (.ref 19), some (.int p1), some (.int p3)] [.int 0] rfl rfl ?_
    refine z_xrz zt212 10 rfl zzr212 (by decide) (by decide) ?_
    show z_ev (d + 1) 214 23 [some (.ref 19), some (.int p1), some (.int p2), some (.int p3)] [.int 0] M0 _
    refine z_xZ zt214 8 rfl rfl (fun (h39 : (0 : Int) = 0) => ?_) (fun (h39 : (0 : Int) ≠ 0) => absurd h39 (by omega))
    refine z_xP zt214 13 37 [some (.ref 19), some (.int p1), some (.int p2), some (.int p3)] [.int 0] rfl rfl ?_
    refine z_xrz zt214 14 rfl zzr214 (by decide) (by decide) ?_
    show z_ev (d + 2) 213 7 [some (.ref 19), some (.int p1), some (.int p2), some (.int p3)] [.int 0] M0 _
    refine z_xZ zt213 2 rfl rfl (fun (h40 : (0 : Int) ≠ 0) => absurd h40 (by omega)) (fun (h40 : (0 : Int) = 0) => ?_)
    refine z_xP zt213 3 11 [some (.ref 19), some (.int p1), some (.int p2), some (.int p3)] [.int (-1)] rfl rfl ?_
    have qm1 : (((-1) : Int32)).toInt = (-1) := rfl
    exact z_xri zt213 4 rfl zzr213 (kk (-1) M0 X (by omega) (by omega))
  refine z_xP zt212 8 21 [some (.ref 19), some (.int p1), some (.int p3)] [.int 1] rfl rfl ?_
  refine z_xrz zt212 10 rfl zzr212 (by decide) (by decide) ?_
  show z_ev (d + 1) 214 23 [some (.ref 19), some (.int p1), some (.int p2), some (.int p3)] [.int 1] M0 _
  refine z_xZ zt214 8 rfl rfl (fun (h41 : (1 : Int) = 0) => absurd h41 (by omega)) (fun (h41 : (1 : Int) ≠ 0) => ?_)
  refine z_xP zt214 9 28 [some (.ref 19), some (.int p1), some (.int p2), some (.int p3)] [.int p3, .int p2] rfl rfl ?_
  refine z_xI zt214 10 rfl rfl (fun (x42 : Int32) (h43 : 0 ≤ x42.toInt ∧ x42.toInt ≤ p2.toInt ∧ x42.toInt ≤ p3.toInt) => ?_) (z_pAnd2 rfl rfl (by omega) (by omega))
  refine z_xZ zt214 11 rfl rfl (fun (h44 : x42.toInt ≠ 0) => ?_) (fun (h44 : x42.toInt = 0) => ?_)
  · skip
    refine z_xP zt214 13 37 [some (.ref 19), some (.int p1), some (.int p2), some (.int p3)] [.int 0] rfl rfl ?_
    refine z_xrz zt214 14 rfl zzr214 (by decide) (by decide) ?_
    show z_ev (d + 2) 213 7 [some (.ref 19), some (.int p1), some (.int p2), some (.int p3)] [.int 0] M0 _
    refine z_xZ zt213 2 rfl rfl (fun (h45 : (0 : Int) ≠ 0) => absurd h45 (by omega)) (fun (h45 : (0 : Int) = 0) => ?_)
    refine z_xP zt213 3 11 [some (.ref 19), some (.int p1), some (.int p2), some (.int p3)] [.int (-1)] rfl rfl ?_
    have qm1 : (((-1) : Int32)).toInt = (-1) := rfl
    exact z_xri zt213 4 rfl zzr213 (kk (-1) M0 X (by omega) (by omega))
  refine z_xP zt214 12 37 [some (.ref 19), some (.int p1), some (.int p2), some (.int p3)] [.int 1] rfl rfl ?_
  refine z_xrz zt214 14 rfl zzr214 (by decide) (by decide) ?_
  show z_ev (d + 2) 213 7 [some (.ref 19), some (.int p1), some (.int p2), some (.int p3)] [.int 1] M0 _
  refine z_xZ zt213 2 rfl rfl (fun (h46 : (1 : Int) ≠ 0) => ?_) (fun (h46 : (1 : Int) = 0) => absurd h46 (by omega))
  refine z_xP zt213 5 16 [some (.ref 19), some (.int p1), some (.int p2), some (.int p3)] [.int p3, .int p2, .int p1, .ref 19] rfl rfl ?_
  refine z_xcV (vs := [.ref 19, .int p1, .int p2, .int p3]) (r := []) (L2 := [some (.ref 19), some (.int p1), some (.int p2), some (.int p3), none, none]) zt213 6 rfl zo213 zzcV12_222 (Or.inl rfl) rfl X f19 rfl rfl rfl (Nat.le_of_ble_eq_true rfl) zzm215 (Nat.le_of_ble_eq_true rfl) rfl ?_
  refine zC215 X.1 (by omega) (fun x49 M47 X48 h50 h51 => ?_)
  have X52 := X.go X48 (z_sb (by decide))
  show z_ev (d + 2) 213 19 [some (.ref 19), some (.int p1), some (.int p2), some (.int p3)] [.int x49] M47 _
  refine z_xZ zt213 7 rfl rfl (fun (h54 : x49.toInt = 0) => ?_) (fun (h54 : x49.toInt ≠ 0) => ?_)
  · skip
    refine z_xP zt213 9 27 [some (.ref 19), some (.int p1), some (.int p2), some (.int p3)] [.int 0] rfl rfl ?_
    have q0 : ((0 : Int32)).toInt = 0 := rfl
    exact z_xri zt213 10 rfl zzr213 (kk 0 M47 X52 (by omega) (by omega))
  refine z_xP zt213 8 27 [some (.ref 19), some (.int p1), some (.int p2), some (.int p3)] [.int 1] rfl rfl ?_
  have q1 : ((1 : Int32)).toInt = 1 := rfl
  exact z_xri zt213 10 rfl zzr213 (kk 1 M47 X52 (by omega) (by omega))
def zw219 : List Nat := []
theorem zB219 {T : List zK} {d : Nat} {K : Option Value → zH → Prop} {p1 : Int32} {p2 : Int32} {p3 : Int32} {p4 : Int32} {M0 : zH} (u1 : 0 ≤ p1.toInt ∧ p1.toInt ≤ 7) (kk : ∀ (x : Int32) (M1 : zH), z_X T zw219 M0 M1 → (-3) ≤ x.toInt → x.toInt ≤ 1 → K (some (.int x)) M1) : ∀ n : Nat, (∀ (M : zH) (b5 : Int32) (b6 : Int32) (b7 : Int32) (o8 : Option Value), z_X T zw219 M0 M → 0 ≤ b5.toInt ∧ b5.toInt ≤ 1 → 0 ≤ b6.toInt ∧ b6.toInt ≤ 1 → 0 ≤ b7.toInt ∧ b7.toInt ≤ 1024 → ((0) * 2 + 0) * 1025 + (1024 - b7.toInt) < (n : Int) → z_ev (d + 1) 219 9 [some (.ref 19), some (.int p1), some (.int p2), some (.int p3), some (.int p4), some (.int b5), some (.int b6), some (.int b7), o8] [] M K) := by
  intro n
  induction n with
  | zero => exact by intros; exfalso; omega
  | succ n ih =>
    intro M b5 b6 b7 o8 X hh0 hh1 hh2 hE
    refine z_xP zt219 1 12 [some (.ref 19), some (.int p1), some (.int p2), some (.int p3), some (.int p4), some (.int b5), some (.int b6), some (.int b7), o8] [.ref 19, .int b7] rfl rfl ?_
    have f19 : T[19]? = some (.inl (12, 0, 0, 0, 0)) := X.1.k rfl (by decide)
    refine z_xgX (b := 31) zt219 2 rfl zo219 zzf12_43 X f19 (by decide) (by decide) rfl ?_
    refine z_xP zt219 3 16 [some (.ref 19), some (.int p1), some (.int p2), some (.int p3), some (.int p4), some (.int b5), some (.int b6), some (.int b7), o8] [.int p1, .ref 31, .int b7] rfl rfl ?_
    have f31 : T[31]? = some (.inr (31, 0, 8, 0, 1024)) := X.1.k rfl (by decide)
    refine z_xil zt219 4 rfl X f31 (by decide) (by omega) (by omega) (fun (x1 : Int32) h2 (h3 : 0 ≤ x1.toInt) (h4 : x1.toInt ≤ 1024) => ?_)
    refine z_xJ zt219 5 rfl rfl (fun (h5 : x1.toInt ≤ b7.toInt) => ?_) (fun (h5 : b7.toInt < x1.toInt) => ?_)
    · skip
      refine z_xP zt219 38 98 [some (.ref 19), some (.int p1), some (.int p2), some (.int p3), some (.int p4), some (.int b5), some (.int b6), some (.int b7), o8] [.int b5] rfl rfl ?_
      refine z_xZ zt219 39 rfl rfl (fun (h6 : b5.toInt = 0) => ?_) (fun (h6 : b5.toInt ≠ 0) => ?_)
      · skip
        refine z_xP zt219 43 113 [some (.ref 19), some (.int p1), some (.int p2), some (.int p3), some (.int p4), some (.int b5), some (.int b6), some (.int b7), o8] [.int b5] rfl rfl ?_
        refine z_xZ zt219 44 rfl rfl (fun (h7 : b5.toInt = 0) => ?_) (fun (h7 : b5.toInt ≠ 0) => absurd h7 (by omega))
        refine z_xP zt219 46 122 [some (.ref 19), some (.int p1), some (.int p2), some (.int p3), some (.int p4), some (.int b5), some (.int b6), some (.int b7), o8] [.int b6] rfl rfl ?_
        refine z_xZ zt219 47 rfl rfl (fun (h8 : b6.toInt = 0) => ?_) (fun (h8 : b6.toInt ≠ 0) => ?_)
        · skip
          refine z_xP zt219 49 131 [some (.ref 19), some (.int p1), some (.int p2), some (.int p3), some (.int p4), some (.int b5), some (.int b6), some (.int b7), o8] [.int (-3)] rfl rfl ?_
          have qm3 : (((-3) : Int32)).toInt = (-3) := rfl
          exact z_xri zt219 50 rfl zzr219 (kk (-3) M X (by omega) (by omega))
        refine z_xP zt219 48 131 [some (.ref 19), some (.int p1), some (.int p2), some (.int p3), some (.int p4), some (.int b5), some (.int b6), some (.int b7), o8] [.int 0] rfl rfl ?_
        have q0 : ((0 : Int32)).toInt = 0 := rfl
        exact z_xri zt219 50 rfl zzr219 (kk 0 M X (by omega) (by omega))
      refine z_xP zt219 40 103 [some (.ref 19), some (.int p1), some (.int p2), some (.int p3), some (.int p4), some (.int b5), some (.int b6), some (.int b7), o8] [.int b6] rfl rfl ?_
      refine z_xZ zt219 41 rfl rfl (fun (h9 : b6.toInt = 0) => ?_) (fun (h9 : b6.toInt ≠ 0) => ?_)
      · skip
        refine z_xP zt219 43 113 [some (.ref 19), some (.int p1), some (.int p2), some (.int p3), some (.int p4), some (.int b5), some (.int b6), some (.int b7), o8] [.int b5] rfl rfl ?_
        refine z_xZ zt219 44 rfl rfl (fun (h10 : b5.toInt = 0) => absurd h10 (by omega)) (fun (h10 : b5.toInt ≠ 0) => ?_)
        refine z_xP zt219 45 131 [some (.ref 19), some (.int p1), some (.int p2), some (.int p3), some (.int p4), some (.int b5), some (.int b6), some (.int b7), o8] [.int 1] rfl rfl ?_
        have q1 : ((1 : Int32)).toInt = 1 := rfl
        exact z_xri zt219 50 rfl zzr219 (kk 1 M X (by omega) (by omega))
      refine z_xP zt219 42 131 [some (.ref 19), some (.int p1), some (.int p2), some (.int p3), some (.int p4), some (.int b5), some (.int b6), some (.int b7), o8] [.int (-2)] rfl rfl ?_
      have qm2 : (((-2) : Int32)).toInt = (-2) := rfl
      exact z_xri zt219 50 rfl zzr219 (kk (-2) M X (by omega) (by omega))
    refine z_xP zt219 6 21 [some (.ref 19), some (.int p1), some (.int p2), some (.int p3), some (.int p4), some (.int b5), some (.int b6), some (.int b7), o8] [.ref 19] rfl rfl ?_
    refine z_xgX (b := 30) zt219 7 rfl zo219 zzf12_40 X f19 (by decide) (by decide) rfl ?_
    refine z_xP zt219 8 28 [some (.ref 19), some (.int p1), some (.int p2), some (.int p3), some (.int p4), some (.int b5), some (.int b6), some (.int b7), o8] [.int p1, .int 1024, .ref 30] rfl rfl ?_
    refine z_xI zt219 9 rfl rfl (fun (x11 : Int32) (h12 : x11.toInt = 1024 * p1.toInt) => ?_) (z_pMul rfl rfl (by omega) (by omega))
    refine z_xP zt219 10 31 [some (.ref 19), some (.int p1), some (.int p2), some (.int p3), some (.int p4), some (.int b5), some (.int b6), some (.int b7), o8] [.int b7, .int x11, .ref 30] rfl rfl ?_
    refine z_xI zt219 11 rfl rfl (fun (x13 : Int32) (h14 : x13.toInt = x11.toInt + b7.toInt) => ?_) (z_pAdd rfl rfl (by omega) (by omega))
    have f30 : T[30]? = some (.inr (30, 0, 8192, 0, 1023)) := X.1.k rfl (by decide)
    refine z_xil zt219 12 rfl X f30 (by decide) (by omega) (by omega) (fun (x15 : Int32) h16 (h17 : 0 ≤ x15.toInt) (h18 : x15.toInt ≤ 1023) => ?_)
    refine z_xP zt219 13 39 [some (.ref 19), some (.int p1), some (.int p2), some (.int p3), some (.int p4), some (.int b5), some (.int b6), some (.int b7), some (.int x15)] [.int p3, .int p2, .int x15] rfl rfl ?_
    refine z_xcS (vs := [.int x15, .int p2, .int p3]) (r := []) (L2 := [some (.int x15), some (.int p2), some (.int p3)]) zt219 14 rfl zo219 zzcS12_216 (Or.inl rfl) (Nat.le_of_ble_eq_true rfl) rfl rfl (Nat.le_of_ble_eq_true rfl) zzm216 (Nat.le_of_ble_eq_true rfl) rfl ?_
    refine z_xP zt216 0 2 [some (.int x15), some (.int p2), some (.int p3)] [.int p2, .int x15] rfl rfl ?_
    refine z_xI zt216 1 rfl rfl (fun (x19 : Int32) (h20 : 0 ≤ x19.toInt ∧ x19.toInt ≤ x15.toInt) => ?_) (z_pAndL rfl (by omega))
    refine z_xP zt216 2 4 [some (.int x15), some (.int p2), some (.int p3)] [.int p2, .int x19] rfl rfl ?_
    have h21 := z_b32 p2
    refine z_xJ zt216 3 rfl rfl (fun (h22 : x19.toInt ≠ p2.toInt) => ?_) (fun (h22 : x19.toInt = p2.toInt) => ?_)
    · skip
      refine z_xP zt216 8 18 [some (.int x15), some (.int p2), some (.int p3)] [.int 0] rfl rfl ?_
      refine z_xrz zt216 9 rfl zzr216 (by decide) (by decide) ?_
      show z_ev (d + 1) 219 42 [some (.ref 19), some (.int p1), some (.int p2), some (.int p3), some (.int p4), some (.int b5), some (.int b6), some (.int b7), some (.int x15)] [.int 0] M _
      refine z_xZ zt219 15 rfl rfl (fun (h23 : (0 : Int) = 0) => ?_) (fun (h23 : (0 : Int) ≠ 0) => absurd h23 (by omega))
      refine z_xN zt219 36 rfl rfl (fun (x24 : Int32) (h25 : x24.toInt = b7.toInt + 1) => ?_) (z_pAdd rfl rfl (by omega) (by omega))
      show z_ev (d + 1) 219 93 [some (.ref 19), some (.int p1), some (.int p2), some (.int p3), some (.int p4), some (.int b5), some (.int b6), some (.int x24), some (.int x15)] [] M _
      refine z_xP zt219 37 9 [some (.ref 19), some (.int p1), some (.int p2), some (.int p3), some (.int p4), some (.int b5), some (.int b6), some (.int x24), some (.int x15)] [] rfl rfl ?_
      exact ih M b5 b6 x24 (some (.int x15)) X ⟨by omega, by omega⟩ ⟨by omega, by omega⟩ ⟨by omega, by omega⟩ (by omega)
    refine z_xP zt216 4 9 [some (.int x15), some (.int p2), some (.int p3)] [.int p3, .int x15] rfl rfl ?_
    refine z_xI zt216 5 rfl rfl (fun (x26 : Int32) (h27 : 0 ≤ x26.toInt ∧ x26.toInt ≤ x15.toInt) => ?_) (z_pAndL rfl (by omega))
    refine z_xZ zt216 6 rfl rfl (fun (h28 : x26.toInt ≠ 0) => ?_) (fun (h28 : x26.toInt = 0) => ?_)
    · skip
      refine z_xP zt216 8 18 [some (.int x15), some (.int p2), some (.int p3)] [.int 0] rfl rfl ?_
      refine z_xrz zt216 9 rfl zzr216 (by decide) (by decide) ?_
      show z_ev (d + 1) 219 42 [some (.ref 19), some (.int p1), some (.int p2), some (.int p3), some (.int p4), some (.int b5), some (.int b6), some (.int b7), some (.int x15)] [.int 0] M _
      refine z_xZ zt219 15 rfl rfl (fun (h29 : (0 : Int) = 0) => ?_) (fun (h29 : (0 : Int) ≠ 0) => absurd h29 (by omega))
      refine z_xN zt219 36 rfl rfl (fun (x30 : Int32) (h31 : x30.toInt = b7.toInt + 1) => ?_) (z_pAdd rfl rfl (by omega) (by omega))
      show z_ev (d + 1) 219 93 [some (.ref 19), some (.int p1), some (.int p2), some (.int p3), some (.int p4), some (.int b5), some (.int b6), some (.int x30), some (.int x15)] [] M _
      refine z_xP zt219 37 9 [some (.ref 19), some (.int p1), some (.int p2), some (.int p3), some (.int p4), some (.int b5), some (.int b6), some (.int x30), some (.int x15)] [] rfl rfl ?_
      exact ih M b5 b6 x30 (some (.int x15)) X ⟨by omega, by omega⟩ ⟨by omega, by omega⟩ ⟨by omega, by omega⟩ (by omega)
    refine z_xP zt216 7 18 [some (.int x15), some (.int p2), some (.int p3)] [.int 1] rfl rfl ?_
    refine z_xrz zt216 9 rfl zzr216 (by decide) (by decide) ?_
    show z_ev (d + 1) 219 42 [some (.ref 19), some (.int p1), some (.int p2), some (.int p3), some (.int p4), some (.int b5), some (.int b6), some (.int b7), some (.int x15)] [.int 1] M _
    refine z_xZ zt219 15 rfl rfl (fun (h32 : (1 : Int) = 0) => absurd h32 (by omega)) (fun (h32 : (1 : Int) ≠ 0) => ?_)
    refine z_xP zt219 16 47 [some (.ref 19), some (.int p1), some (.int p2), some (.int p3), some (.int p4), some (.int b5), some (.int b6), some (.int b7), some (.int x15)] [.int b5] rfl rfl ?_
    refine z_xZ zt219 17 rfl rfl (fun (h33 : b5.toInt ≠ 0) => ?_) (fun (h33 : b5.toInt = 0) => ?_)
    · skip
      refine z_xP zt219 24 66 [some (.ref 19), some (.int p1), some (.int p2), some (.int p3), some (.int p4), some (.int b5), some (.int b6), some (.int b7), some (.int x15)] [.int 1] rfl rfl ?_
      refine z_xP zt219 26 70 [some (.ref 19), some (.int p1), some (.int p2), some (.int p3), some (.int p4), some (.int 1), some (.int b6), some (.int b7), some (.int x15)] [.int b6] rfl rfl ?_
      refine z_xZ zt219 27 rfl rfl (fun (h34 : b6.toInt ≠ 0) => ?_) (fun (h34 : b6.toInt = 0) => ?_)
      · skip
        refine z_xP zt219 33 88 [some (.ref 19), some (.int p1), some (.int p2), some (.int p3), some (.int p4), some (.int 1), some (.int b6), some (.int b7), some (.int x15)] [.int 1] rfl rfl ?_
        refine z_xP zt219 35 90 [some (.ref 19), some (.int p1), some (.int p2), some (.int p3), some (.int p4), some (.int 1), some (.int 1), some (.int b7), some (.int x15)] [] rfl rfl ?_
        refine z_xN zt219 36 rfl rfl (fun (x35 : Int32) (h36 : x35.toInt = b7.toInt + 1) => ?_) (z_pAdd rfl rfl (by omega) (by omega))
        show z_ev (d + 1) 219 93 [some (.ref 19), some (.int p1), some (.int p2), some (.int p3), some (.int p4), some (.int 1), some (.int 1), some (.int x35), some (.int x15)] [] M _
        refine z_xP zt219 37 9 [some (.ref 19), some (.int p1), some (.int p2), some (.int p3), some (.int p4), some (.int 1), some (.int 1), some (.int x35), some (.int x15)] [] rfl rfl ?_
        have q1 : ((1 : Int32)).toInt = 1 := rfl
        exact ih M (1) (1) x35 (some (.int x15)) X (by decide) (by decide) ⟨by omega, by omega⟩ (by omega)
      refine z_xP zt219 28 77 [some (.ref 19), some (.int p1), some (.int p2), some (.int p3), some (.int p4), some (.int 1), some (.int b6), some (.int b7), some (.int x15)] [.int p4, .int x15] rfl rfl ?_
      have h37 := z_b32 p4
      refine z_xI zt219 29 rfl rfl (fun (x38 : Int32) (h39 : 0 ≤ x38.toInt ∧ x38.toInt ≤ x15.toInt) => ?_) (z_pShrN rfl (by omega))
      refine z_xP zt219 30 79 [some (.ref 19), some (.int p1), some (.int p2), some (.int p3), some (.int p4), some (.int 1), some (.int b6), some (.int b7), some (.int x15)] [.int 1, .int x38] rfl rfl ?_
      refine z_xI zt219 31 rfl rfl (fun (x40 : Int32) (h41 : 0 ≤ x40.toInt ∧ x40.toInt ≤ x38.toInt ∧ x40.toInt ≤ 1) => ?_) (z_pAnd2 rfl rfl (by omega) (by omega))
      refine z_xZ zt219 32 rfl rfl (fun (h42 : x40.toInt ≠ 0) => ?_) (fun (h42 : x40.toInt = 0) => ?_)
      · skip
        refine z_xP zt219 34 88 [some (.ref 19), some (.int p1), some (.int p2), some (.int p3), some (.int p4), some (.int 1), some (.int b6), some (.int b7), some (.int x15)] [.int 0] rfl rfl ?_
        refine z_xP zt219 35 90 [some (.ref 19), some (.int p1), some (.int p2), some (.int p3), some (.int p4), some (.int 1), some (.int 0), some (.int b7), some (.int x15)] [] rfl rfl ?_
        refine z_xN zt219 36 rfl rfl (fun (x43 : Int32) (h44 : x43.toInt = b7.toInt + 1) => ?_) (z_pAdd rfl rfl (by omega) (by omega))
        show z_ev (d + 1) 219 93 [some (.ref 19), some (.int p1), some (.int p2), some (.int p3), some (.int p4), some (.int 1), some (.int 0), some (.int x43), some (.int x15)] [] M _
        refine z_xP zt219 37 9 [some (.ref 19), some (.int p1), some (.int p2), some (.int p3), some (.int p4), some (.int 1), some (.int 0), some (.int x43), some (.int x15)] [] rfl rfl ?_
        have q0 : ((0 : Int32)).toInt = 0 := rfl
        have q1 : ((1 : Int32)).toInt = 1 := rfl
        exact ih M (1) (0) x43 (some (.int x15)) X (by decide) (by decide) ⟨by omega, by omega⟩ (by omega)
      refine z_xP zt219 33 88 [some (.ref 19), some (.int p1), some (.int p2), some (.int p3), some (.int p4), some (.int 1), some (.int b6), some (.int b7), some (.int x15)] [.int 1] rfl rfl ?_
      refine z_xP zt219 35 90 [some (.ref 19), some (.int p1), some (.int p2), some (.int p3), some (.int p4), some (.int 1), some (.int 1), some (.int b7), some (.int x15)] [] rfl rfl ?_
      refine z_xN zt219 36 rfl rfl (fun (x45 : Int32) (h46 : x45.toInt = b7.toInt + 1) => ?_) (z_pAdd rfl rfl (by omega) (by omega))
      show z_ev (d + 1) 219 93 [some (.ref 19), some (.int p1), some (.int p2), some (.int p3), some (.int p4), some (.int 1), some (.int 1), some (.int x45), some (.int x15)] [] M _
      refine z_xP zt219 37 9 [some (.ref 19), some (.int p1), some (.int p2), some (.int p3), some (.int p4), some (.int 1), some (.int 1), some (.int x45), some (.int x15)] [] rfl rfl ?_
      have q1 : ((1 : Int32)).toInt = 1 := rfl
      exact ih M (1) (1) x45 (some (.int x15)) X (by decide) (by decide) ⟨by omega, by omega⟩ (by omega)
    refine z_xP zt219 18 54 [some (.ref 19), some (.int p1), some (.int p2), some (.int p3), some (.int p4), some (.int b5), some (.int b6), some (.int b7), some (.int x15)] [.int p4, .int x15] rfl rfl ?_
    have h47 := z_b32 p4
    refine z_xI zt219 19 rfl rfl (fun (x48 : Int32) (h49 : 0 ≤ x48.toInt ∧ x48.toInt ≤ x15.toInt) => ?_) (z_pShrN rfl (by omega))
    refine z_xP zt219 20 56 [some (.ref 19), some (.int p1), some (.int p2), some (.int p3), some (.int p4), some (.int b5), some (.int b6), some (.int b7), some (.int x15)] [.int 1, .int x48] rfl rfl ?_
    refine z_xI zt219 21 rfl rfl (fun (x50 : Int32) (h51 : 0 ≤ x50.toInt ∧ x50.toInt ≤ x48.toInt ∧ x50.toInt ≤ 1) => ?_) (z_pAnd2 rfl rfl (by omega) (by omega))
    refine z_xP zt219 22 58 [some (.ref 19), some (.int p1), some (.int p2), some (.int p3), some (.int p4), some (.int b5), some (.int b6), some (.int b7), some (.int x15)] [.int 1, .int x50] rfl rfl ?_
    refine z_xJ zt219 23 rfl rfl (fun (h52 : x50.toInt ≠ 1) => ?_) (fun (h52 : x50.toInt = 1) => ?_)
    · skip
      refine z_xP zt219 25 66 [some (.ref 19), some (.int p1), some (.int p2), some (.int p3), some (.int p4), some (.int b5), some (.int b6), some (.int b7), some (.int x15)] [.int 0] rfl rfl ?_
      refine z_xP zt219 26 70 [some (.ref 19), some (.int p1), some (.int p2), some (.int p3), some (.int p4), some (.int 0), some (.int b6), some (.int b7), some (.int x15)] [.int b6] rfl rfl ?_
      refine z_xZ zt219 27 rfl rfl (fun (h53 : b6.toInt ≠ 0) => ?_) (fun (h53 : b6.toInt = 0) => ?_)
      · skip
        refine z_xP zt219 33 88 [some (.ref 19), some (.int p1), some (.int p2), some (.int p3), some (.int p4), some (.int 0), some (.int b6), some (.int b7), some (.int x15)] [.int 1] rfl rfl ?_
        refine z_xP zt219 35 90 [some (.ref 19), some (.int p1), some (.int p2), some (.int p3), some (.int p4), some (.int 0), some (.int 1), some (.int b7), some (.int x15)] [] rfl rfl ?_
        refine z_xN zt219 36 rfl rfl (fun (x54 : Int32) (h55 : x54.toInt = b7.toInt + 1) => ?_) (z_pAdd rfl rfl (by omega) (by omega))
        show z_ev (d + 1) 219 93 [some (.ref 19), some (.int p1), some (.int p2), some (.int p3), some (.int p4), some (.int 0), some (.int 1), some (.int x54), some (.int x15)] [] M _
        refine z_xP zt219 37 9 [some (.ref 19), some (.int p1), some (.int p2), some (.int p3), some (.int p4), some (.int 0), some (.int 1), some (.int x54), some (.int x15)] [] rfl rfl ?_
        have q0 : ((0 : Int32)).toInt = 0 := rfl
        have q1 : ((1 : Int32)).toInt = 1 := rfl
        exact ih M (0) (1) x54 (some (.int x15)) X (by decide) (by decide) ⟨by omega, by omega⟩ (by omega)
      refine z_xP zt219 28 77 [some (.ref 19), some (.int p1), some (.int p2), some (.int p3), some (.int p4), some (.int 0), some (.int b6), some (.int b7), some (.int x15)] [.int p4, .int x15] rfl rfl ?_
      refine z_xI zt219 29 rfl rfl (fun (x56 : Int32) (h57 : 0 ≤ x56.toInt ∧ x56.toInt ≤ x15.toInt) => ?_) (z_pShrN rfl (by omega))
      refine z_xP zt219 30 79 [some (.ref 19), some (.int p1), some (.int p2), some (.int p3), some (.int p4), some (.int 0), some (.int b6), some (.int b7), some (.int x15)] [.int 1, .int x56] rfl rfl ?_
      refine z_xI zt219 31 rfl rfl (fun (x58 : Int32) (h59 : 0 ≤ x58.toInt ∧ x58.toInt ≤ x56.toInt ∧ x58.toInt ≤ 1) => ?_) (z_pAnd2 rfl rfl (by omega) (by omega))
      refine z_xZ zt219 32 rfl rfl (fun (h60 : x58.toInt ≠ 0) => ?_) (fun (h60 : x58.toInt = 0) => ?_)
      · skip
        refine z_xP zt219 34 88 [some (.ref 19), some (.int p1), some (.int p2), some (.int p3), some (.int p4), some (.int 0), some (.int b6), some (.int b7), some (.int x15)] [.int 0] rfl rfl ?_
        refine z_xP zt219 35 90 [some (.ref 19), some (.int p1), some (.int p2), some (.int p3), some (.int p4), some (.int 0), some (.int 0), some (.int b7), some (.int x15)] [] rfl rfl ?_
        refine z_xN zt219 36 rfl rfl (fun (x61 : Int32) (h62 : x61.toInt = b7.toInt + 1) => ?_) (z_pAdd rfl rfl (by omega) (by omega))
        show z_ev (d + 1) 219 93 [some (.ref 19), some (.int p1), some (.int p2), some (.int p3), some (.int p4), some (.int 0), some (.int 0), some (.int x61), some (.int x15)] [] M _
        refine z_xP zt219 37 9 [some (.ref 19), some (.int p1), some (.int p2), some (.int p3), some (.int p4), some (.int 0), some (.int 0), some (.int x61), some (.int x15)] [] rfl rfl ?_
        have q0 : ((0 : Int32)).toInt = 0 := rfl
        exact ih M (0) (0) x61 (some (.int x15)) X (by decide) (by decide) ⟨by omega, by omega⟩ (by omega)
      refine z_xP zt219 33 88 [some (.ref 19), some (.int p1), some (.int p2), some (.int p3), some (.int p4), some (.int 0), some (.int b6), some (.int b7), some (.int x15)] [.int 1] rfl rfl ?_
      refine z_xP zt219 35 90 [some (.ref 19), some (.int p1), some (.int p2), some (.int p3), some (.int p4), some (.int 0), some (.int 1), some (.int b7), some (.int x15)] [] rfl rfl ?_
      refine z_xN zt219 36 rfl rfl (fun (x63 : Int32) (h64 : x63.toInt = b7.toInt + 1) => ?_) (z_pAdd rfl rfl (by omega) (by omega))
      show z_ev (d + 1) 219 93 [some (.ref 19), some (.int p1), some (.int p2), some (.int p3), some (.int p4), some (.int 0), some (.int 1), some (.int x63), some (.int x15)] [] M _
      refine z_xP zt219 37 9 [some (.ref 19), some (.int p1), some (.int p2), some (.int p3), some (.int p4), some (.int 0), some (.int 1), some (.int x63), some (.int x15)] [] rfl rfl ?_
      have q0 : ((0 : Int32)).toInt = 0 := rfl
      have q1 : ((1 : Int32)).toInt = 1 := rfl
      exact ih M (0) (1) x63 (some (.int x15)) X (by decide) (by decide) ⟨by omega, by omega⟩ (by omega)
    refine z_xP zt219 24 66 [some (.ref 19), some (.int p1), some (.int p2), some (.int p3), some (.int p4), some (.int b5), some (.int b6), some (.int b7), some (.int x15)] [.int 1] rfl rfl ?_
    refine z_xP zt219 26 70 [some (.ref 19), some (.int p1), some (.int p2), some (.int p3), some (.int p4), some (.int 1), some (.int b6), some (.int b7), some (.int x15)] [.int b6] rfl rfl ?_
    refine z_xZ zt219 27 rfl rfl (fun (h65 : b6.toInt ≠ 0) => ?_) (fun (h65 : b6.toInt = 0) => ?_)
    · skip
      refine z_xP zt219 33 88 [some (.ref 19), some (.int p1), some (.int p2), some (.int p3), some (.int p4), some (.int 1), some (.int b6), some (.int b7), some (.int x15)] [.int 1] rfl rfl ?_
      refine z_xP zt219 35 90 [some (.ref 19), some (.int p1), some (.int p2), some (.int p3), some (.int p4), some (.int 1), some (.int 1), some (.int b7), some (.int x15)] [] rfl rfl ?_
      refine z_xN zt219 36 rfl rfl (fun (x66 : Int32) (h67 : x66.toInt = b7.toInt + 1) => ?_) (z_pAdd rfl rfl (by omega) (by omega))
      show z_ev (d + 1) 219 93 [some (.ref 19), some (.int p1), some (.int p2), some (.int p3), some (.int p4), some (.int 1), some (.int 1), some (.int x66), some (.int x15)] [] M _
      refine z_xP zt219 37 9 [some (.ref 19), some (.int p1), some (.int p2), some (.int p3), some (.int p4), some (.int 1), some (.int 1), some (.int x66), some (.int x15)] [] rfl rfl ?_
      have q1 : ((1 : Int32)).toInt = 1 := rfl
      exact ih M (1) (1) x66 (some (.int x15)) X (by decide) (by decide) ⟨by omega, by omega⟩ (by omega)
    refine z_xP zt219 28 77 [some (.ref 19), some (.int p1), some (.int p2), some (.int p3), some (.int p4), some (.int 1), some (.int b6), some (.int b7), some (.int x15)] [.int p4, .int x15] rfl rfl ?_
    refine z_xI zt219 29 rfl rfl (fun (x68 : Int32) (h69 : 0 ≤ x68.toInt ∧ x68.toInt ≤ x15.toInt) => ?_) (z_pShrN rfl (by omega))
    refine z_xP zt219 30 79 [some (.ref 19), some (.int p1), some (.int p2), some (.int p3), some (.int p4), some (.int 1), some (.int b6), some (.int b7), some (.int x15)] [.int 1, .int x68] rfl rfl ?_
    refine z_xI zt219 31 rfl rfl (fun (x70 : Int32) (h71 : 0 ≤ x70.toInt ∧ x70.toInt ≤ x68.toInt ∧ x70.toInt ≤ 1) => ?_) (z_pAnd2 rfl rfl (by omega) (by omega))
    refine z_xZ zt219 32 rfl rfl (fun (h72 : x70.toInt ≠ 0) => ?_) (fun (h72 : x70.toInt = 0) => ?_)
    · skip
      refine z_xP zt219 34 88 [some (.ref 19), some (.int p1), some (.int p2), some (.int p3), some (.int p4), some (.int 1), some (.int b6), some (.int b7), some (.int x15)] [.int 0] rfl rfl ?_
      refine z_xP zt219 35 90 [some (.ref 19), some (.int p1), some (.int p2), some (.int p3), some (.int p4), some (.int 1), some (.int 0), some (.int b7), some (.int x15)] [] rfl rfl ?_
      refine z_xN zt219 36 rfl rfl (fun (x73 : Int32) (h74 : x73.toInt = b7.toInt + 1) => ?_) (z_pAdd rfl rfl (by omega) (by omega))
      show z_ev (d + 1) 219 93 [some (.ref 19), some (.int p1), some (.int p2), some (.int p3), some (.int p4), some (.int 1), some (.int 0), some (.int x73), some (.int x15)] [] M _
      refine z_xP zt219 37 9 [some (.ref 19), some (.int p1), some (.int p2), some (.int p3), some (.int p4), some (.int 1), some (.int 0), some (.int x73), some (.int x15)] [] rfl rfl ?_
      have q0 : ((0 : Int32)).toInt = 0 := rfl
      have q1 : ((1 : Int32)).toInt = 1 := rfl
      exact ih M (1) (0) x73 (some (.int x15)) X (by decide) (by decide) ⟨by omega, by omega⟩ (by omega)
    refine z_xP zt219 33 88 [some (.ref 19), some (.int p1), some (.int p2), some (.int p3), some (.int p4), some (.int 1), some (.int b6), some (.int b7), some (.int x15)] [.int 1] rfl rfl ?_
    refine z_xP zt219 35 90 [some (.ref 19), some (.int p1), some (.int p2), some (.int p3), some (.int p4), some (.int 1), some (.int 1), some (.int b7), some (.int x15)] [] rfl rfl ?_
    refine z_xN zt219 36 rfl rfl (fun (x75 : Int32) (h76 : x75.toInt = b7.toInt + 1) => ?_) (z_pAdd rfl rfl (by omega) (by omega))
    show z_ev (d + 1) 219 93 [some (.ref 19), some (.int p1), some (.int p2), some (.int p3), some (.int p4), some (.int 1), some (.int 1), some (.int x75), some (.int x15)] [] M _
    refine z_xP zt219 37 9 [some (.ref 19), some (.int p1), some (.int p2), some (.int p3), some (.int p4), some (.int 1), some (.int 1), some (.int x75), some (.int x15)] [] rfl rfl ?_
    have q1 : ((1 : Int32)).toInt = 1 := rfl
    exact ih M (1) (1) x75 (some (.int x15)) X (by decide) (by decide) ⟨by omega, by omega⟩ (by omega)
theorem zC219 {T : List zK} {d : Nat} {K : Option Value → zH → Prop} {p1 : Int32} {p2 : Int32} {p3 : Int32} {p4 : Int32} {M0 : zH} (hW : z_W M0 T) (u1 : 0 ≤ p1.toInt ∧ p1.toInt ≤ 7) (kk : ∀ (x : Int32) (M1 : zH), z_X T zw219 M0 M1 → (-3) ≤ x.toInt → x.toInt ≤ 1 → K (some (.int x)) M1) : z_ev (d + 1) 219 0 [some (.ref 19), some (.int p1), some (.int p2), some (.int p3), some (.int p4), none, none, none, none] [] M0 K := by
  have X : z_X T zw219 M0 M0 := .refl hW
  refine z_xP zt219 0 9 [some (.ref 19), some (.int p1), some (.int p2), some (.int p3), some (.int p4), some (.int 0), some (.int 0), some (.int 0), none] [] rfl rfl ?_
  have q0 : ((0 : Int32)).toInt = 0 := rfl
  exact (zB219 u1 kk 2050) M0 (0) (0) (0) none X (by decide) (by decide) (by decide) (by omega)
def zw217 : List Nat := []
theorem zC217 {T : List zK} {d : Nat} {K : Option Value → zH → Prop} {p1 : Int32} {p2 : Int32} {p3 : Int32} {p4 : Int32} {M0 : zH} (hW : z_W M0 T)  (kk : ∀ (x : Int32) (M1 : zH), z_X T zw217 M0 M1 → (-3) ≤ x.toInt → x.toInt ≤ 1 → K (some (.int x)) M1) : z_ev (d + 2) 217 0 [some (.ref 19), some (.int p1), some (.int p2), some (.int p3), some (.int p4)] [] M0 K := by
  have X : z_X T zw217 M0 M0 := .refl hW
  refine z_xP zt217 0 4 [some (.ref 19), some (.int p1), some (.int p2), some (.int p3), some (.int p4)] [.int p3, .int p2, .int p1, .ref 19] rfl rfl ?_
  have f19 : T[19]? = some (.inl (12, 0, 0, 0, 0)) := X.1.k rfl (by decide)
  refine z_xcV (vs := [.ref 19, .int p1, .int p2, .int p3]) (r := []) (L2 := [some (.ref 19), some (.int p1), some (.int p2), some (.int p3)]) zt217 1 rfl zo217 zzcV12_219 (Or.inl rfl) rfl X f19 rfl rfl rfl (Nat.le_of_ble_eq_true rfl) zzm214 (Nat.le_of_ble_eq_true rfl) rfl ?_
  refine z_xP zt214 0 2 [some (.ref 19), some (.int p1), some (.int p2), some (.int p3)] [.int p1, .ref 19] rfl rfl ?_
  refine z_xcV (vs := [.ref 19, .int p1]) (r := []) (L2 := [some (.ref 19), some (.int p1)]) zt214 1 rfl zo214 zzcV12_209 (Or.inl rfl) rfl X f19 rfl rfl rfl (Nat.le_of_ble_eq_true rfl) zzm209 (Nat.le_of_ble_eq_true rfl) rfl ?_
  refine z_xP zt209 0 1 [some (.ref 19), some (.int p1)] [.int p1] rfl rfl ?_
  refine z_xZ zt209 1 rfl rfl (fun (h1 : p1.toInt < 0) => ?_) (fun (h1 : 0 ≤ p1.toInt) => ?_)
  · skip
    refine z_xP zt209 6 17 [some (.ref 19), some (.int p1)] [.int 0] rfl rfl ?_
    refine z_xrz zt209 7 rfl zzr209 (by decide) (by decide) ?_
    show z_ev (d + 1) 214 5 [some (.ref 19), some (.int p1), some (.int p2), some (.int p3)] [.int 0] M0 _
    refine z_xZ zt214 2 rfl rfl (fun (h2 : (0 : Int) = 0) => ?_) (fun (h2 : (0 : Int) ≠ 0) => absurd h2 (by omega))
    refine z_xP zt214 13 37 [some (.ref 19), some (.int p1), some (.int p2), some (.int p3)] [.int 0] rfl rfl ?_
    refine z_xrz zt214 14 rfl zzr214 (by decide) (by decide) ?_
    show z_ev (d + 2) 217 7 [some (.ref 19), some (.int p1), some (.int p2), some (.int p3), some (.int p4)] [.int 0] M0 _
    refine z_xZ zt217 2 rfl rfl (fun (h3 : (0 : Int) = 0) => ?_) (fun (h3 : (0 : Int) ≠ 0) => absurd h3 (by omega))
    refine z_xP zt217 9 33 [some (.ref 19), some (.int p1), some (.int p2), some (.int p3), some (.int p4)] [.int (-1)] rfl rfl ?_
    have qm1 : (((-1) : Int32)).toInt = (-1) := rfl
    exact z_xri zt217 10 rfl zzr217 (kk (-1) M0 X (by omega) (by omega))
  refine z_xP zt209 2 6 [some (.ref 19), some (.int p1)] [.ref 19, .int p1] rfl rfl ?_
  refine z_xgI zt209 3 rfl zo209 zzf12_110 X f19 (by decide) (by decide) rfl (fun (x5 : Int32) h4 (h6 : 0 ≤ x5.toInt) (h7 : x5.toInt ≤ 8) => ?_)
  have h8 := z_b32 p1
  refine z_xJ zt209 4 rfl rfl (fun (h9 : x5.toInt ≤ p1.toInt) => ?_) (fun (h9 : p1.toInt < x5.toInt) => ?_)
  · skip
    refine z_xP zt209 6 17 [some (.ref 19), some (.int p1)] [.int 0] rfl rfl ?_
    refine z_xrz zt209 7 rfl zzr209 (by decide) (by decide) ?_
    show z_ev (d + 1) 214 5 [some (.ref 19), some (.int p1), some (.int p2), some (.int p3)] [.int 0] M0 _
    refine z_xZ zt214 2 rfl rfl (fun (h10 : (0 : Int) = 0) => ?_) (fun (h10 : (0 : Int) ≠ 0) => absurd h10 (by omega))
    refine z_xP zt214 13 37 [some (.ref 19), some (.int p1), some (.int p2), some (.int p3)] [.int 0] rfl rfl ?_
    refine z_xrz zt214 14 rfl zzr214 (by decide) (by decide) ?_
    show z_ev (d + 2) 217 7 [some (.ref 19), some (.int p1), some (.int p2), some (.int p3), some (.int p4)] [.int 0] M0 _
    refine z_xZ zt217 2 rfl rfl (fun (h11 : (0 : Int) = 0) => ?_) (fun (h11 : (0 : Int) ≠ 0) => absurd h11 (by omega))
    refine z_xP zt217 9 33 [some (.ref 19), some (.int p1), some (.int p2), some (.int p3), some (.int p4)] [.int (-1)] rfl rfl ?_
    have qm1 : (((-1) : Int32)).toInt = (-1) := rfl
    exact z_xri zt217 10 rfl zzr217 (kk (-1) M0 X (by omega) (by omega))
  refine z_xP zt209 5 17 [some (.ref 19), some (.int p1)] [.int 1] rfl rfl ?_
  refine z_xrz zt209 7 rfl zzr209 (by decide) (by decide) ?_
  show z_ev (d + 1) 214 5 [some (.ref 19), some (.int p1), some (.int p2), some (.int p3)] [.int 1] M0 _
  refine z_xZ zt214 2 rfl rfl (fun (h12 : (1 : Int) = 0) => absurd h12 (by omega)) (fun (h12 : (1 : Int) ≠ 0) => ?_)
  refine z_xP zt214 3 11 [some (.ref 19), some (.int p1), some (.int p2), some (.int p3)] [.int p2, .int p1, .ref 19] rfl rfl ?_
  refine z_xcV (vs := [.ref 19, .int p1, .int p2]) (r := []) (L2 := [some (.ref 19), some (.int p1), some (.int p2)]) zt214 4 rfl zo214 zzcV12_212 (Or.inl rfl) rfl X f19 rfl rfl rfl (Nat.le_of_ble_eq_true rfl) zzm212 (Nat.le_of_ble_eq_true rfl) rfl ?_
  refine z_xP zt212 0 1 [some (.ref 19), some (.int p1), some (.int p2)] [.int p2] rfl rfl ?_
  refine z_xZ zt212 1 rfl rfl (fun (h13 : p2.toInt < 0) => ?_) (fun (h13 : 0 ≤ p2.toInt) => ?_)
  · skip
    refine z_xP zt212 9 21 [some (.ref 19), some (.int p1), some (.int p2)] [.int 0] rfl rfl ?_
    refine z_xrz zt212 10 rfl zzr212 (by decide) (by decide) ?_
    show z_ev (d + 1) 214 14 [some (.ref 19), some (.int p1), some (.int p2), some (.int p3)] [.int 0] M0 _
    refine z_xZ zt214 5 rfl rfl (fun (h14 : (0 : Int) = 0) => ?_) (fun (h14 : (0 : Int) ≠ 0) => absurd h14 (by omega))
    refine z_xP zt214 13 37 [some (.ref 19), some (.int p1), some (.int p2), some (.int p3)] [.int 0] rfl rfl ?_
    refine z_xrz zt214 14 rfl zzr214 (by decide) (by decide) ?_
    show z_ev (d + 2) 217 7 [some (.ref 19), some (.int p1), some (.int p2), some (.int p3), some (.int p4)] [.int 0] M0 _
    refine z_xZ zt217 2 rfl rfl (fun (h15 : (0 : Int) = 0) => ?_) (fun (h15 : (0 : Int) ≠ 0) => absurd h15 (by omega))
    refine z_xP zt217 9 33 [some (.ref 19), some (.int p1), some (.int p2), some (.int p3), some (.int p4)] [.int (-1)] rfl rfl ?_
    have qm1 : (((-1) : Int32)).toInt = (-1) := rfl
    exact z_xri zt217 10 rfl zzr217 (kk (-1) M0 X (by omega) (by omega))
  refine z_xP zt212 2 7 [some (.ref 19), some (.int p1), some (.int p2)] [.ref 19, .int 1, .int p2] rfl rfl ?_
  refine z_xgX (b := 24) zt212 3 rfl zo212 zzf12_22 X f19 (by decide) (by decide) rfl ?_
  refine z_xP zt212 4 11 [some (.ref 19), some (.int p1), some (.int p2)] [.int p1, .ref 24, .int 1, .int p2] rfl rfl ?_
  have f24 : T[24]? = some (.inr (24, 0, 8, 0, 10)) := X.1.k rfl (by decide)
  refine z_xil zt212 5 rfl X f24 (by decide) (by omega) (by omega) (fun (x16 : Int32) h17 (h18 : 0 ≤ x16.toInt) (h19 : x16.toInt ≤ 10) => ?_)
  refine z_xI zt212 6 rfl rfl (fun (x20 : Int32) (h21 : 1 ≤ x20.toInt ∧ x20.toInt ≤ 1024) => ?_) (z_pShlB (a := 1) (b := 10) (c := 1024) (r := 1024) rfl rfl (by omega) (by omega) (by omega) (by omega) (by decide) (by decide) (by decide) (by decide))
  have h22 := z_b32 p2
  refine z_xJ zt212 7 rfl rfl (fun (h23 : x20.toInt ≤ p2.toInt) => ?_) (fun (h23 : p2.toInt < x20.toInt) => ?_)
  · skip
    refine z_xP zt212 9 21 [some (.ref 19), some (.int p1), some (.int p2)] [.int 0] rfl rfl ?_
    refine z_xrz zt212 10 rfl zzr212 (by decide) (by decide) ?_
    show z_ev (d + 1) 214 14 [some (.ref 19), some (.int p1), some (.int p2), some (.int p3)] [.int 0] M0 _
    refine z_xZ zt214 5 rfl rfl (fun (h24 : (0 : Int) = 0) => ?_) (fun (h24 : (0 : Int) ≠ 0) => absurd h24 (by omega))
    refine z_xP zt214 13 37 [some (.ref 19), some (.int p1), some (.int p2), some (.int p3)] [.int 0] rfl rfl ?_
    refine z_xrz zt214 14 rfl zzr214 (by decide) (by decide) ?_
    show z_ev (d + 2) 217 7 [some (.ref 19), some (.int p1), some (.int p2), some (.int p3), some (.int p4)] [.int 0] M0 _
    refine z_xZ zt217 2 rfl rfl (fun (h25 : (0 : Int) = 0) => ?_) (fun (h25 : (0 : Int) ≠ 0) => absurd h25 (by omega))
    refine z_xP zt217 9 33 [some (.ref 19), some (.int p1), some (.int p2), some (.int p3), some (.int p4)] [.int (-1)] rfl rfl ?_
    have qm1 : (((-1) : Int32)).toInt = (-1) := rfl
    exact z_xri zt217 10 rfl zzr217 (kk (-1) M0 X (by omega) (by omega))
  refine z_xP zt212 8 21 [some (.ref 19), some (.int p1), some (.int p2)] [.int 1] rfl rfl ?_
  refine z_xrz zt212 10 rfl zzr212 (by decide) (by decide) ?_
  show z_ev (d + 1) 214 14 [some (.ref 19), some (.int p1), some (.int p2), some (.int p3)] [.int 1] M0 _
  refine z_xZ zt214 5 rfl rfl (fun (h26 : (1 : Int) = 0) => absurd h26 (by omega)) (fun (h26 : (1 : Int) ≠ 0) => ?_)
  refine z_xP zt214 6 20 [some (.ref 19), some (.int p1), some (.int p2), some (.int p3)] [.int p3, .int p1, .ref 19] rfl rfl ?_
  refine z_xcV (vs := [.ref 19, .int p1, .int p3]) (r := []) (L2 := [some (.ref 19), some (.int p1), some (.int p3)]) zt214 7 rfl zo214 zzcV12_212 (Or.inl rfl) rfl X f19 rfl rfl rfl (Nat.le_of_ble_eq_true rfl) zzm212 (Nat.le_of_ble_eq_true rfl) rfl ?_
  refine z_xP zt212 0 1 [some (.ref 19), some (.int p1), some (.int p3)] [.int p3] rfl rfl ?_
  refine z_xZ zt212 1 rfl rfl (fun (h27 : p3.toInt < 0) => ?_) (fun (h27 : 0 ≤ p3.toInt) => ?_)
  · skip
    refine z_xP zt212 9 21 [some (.ref 19), some (.int p1), some (.int p3)] [.int 0] rfl rfl ?_
    refine z_xrz zt212 10 rfl zzr212 (by decide) (by decide) ?_
    show z_ev (d + 1) 214 23 [some (.ref 19), some (.int p1), some (.int p2), some (.int p3)] [.int 0] M0 _
    refine z_xZ zt214 8 rfl rfl (fun (h28 : (0 : Int) = 0) => ?_) (fun (h28 : (0 : Int) ≠ 0) => absurd h28 (by omega))
    refine z_xP zt214 13 37 [some (.ref 19), some (.int p1), some (.int p2), some (.int p3)] [.int 0] rfl rfl ?_
    refine z_xrz zt214 14 rfl zzr214 (by decide) (by decide) ?_
    show z_ev (d + 2) 217 7 [some (.ref 19), some (.int p1), some (.int p2), some (.int p3), some (.int p4)] [.int 0] M0 _
    refine z_xZ zt217 2 rfl rfl (fun (h29 : (0 : Int) = 0) => ?_) (fun (h29 : (0 : Int) ≠ 0) => absurd h29 (by omega))
    refine z_xP zt217 9 33 [some (.ref 19), some (.int p1), some (.int p2), some (.int p3), some (.int p4)] [.int (-1)] rfl rfl ?_
    have qm1 : (((-1) : Int32)).toInt = (-1) := rfl
    exact z_xri zt217 10 rfl zzr217 (kk (-1) M0 X (by omega) (by omega))
  refine z_xP zt212 2 7 [some (.ref 19), some (.int p1), some (.int p3)] [.ref 19, .int 1, .int p3] rfl rfl ?_
  refine z_xgX (b := 24) zt212 3 rfl zo212 zzf12_22 X f19 (by decide) (by decide) rfl ?_
  refine z_xP zt212 4 11 [some (.ref 19), some (.int p1), some (.int p3)] [.int p1, .ref 24, .int 1, .int p3] rfl rfl ?_
  refine z_xil zt212 5 rfl X f24 (by decide) (by omega) (by omega) (fun (x30 : Int32) h31 (h32 : 0 ≤ x30.toInt) (h33 : x30.toInt ≤ 10) => ?_)
  have h34 := congrArg Int32.toInt (h31.symm.trans h17)
  refine z_xI zt212 6 rfl rfl (fun (x35 : Int32) (h36 : 1 ≤ x35.toInt ∧ x35.toInt ≤ 1024) => ?_) (z_pShlB (a := 1) (b := 10) (c := 1024) (r := 1024) rfl rfl (by omega) (by omega) (by omega) (by omega) (by decide) (by decide) (by decide) (by decide))
  have h37 := z_b32 p3
  refine z_xJ zt212 7 rfl rfl (fun (h38 : x35.toInt ≤ p3.toInt) => ?_) (fun (h38 : p3.toInt < x35.toInt) => ?_)
  · skip
    refine z_xP zt212 9 21 [some (.ref 19), some (.int p1), some (.int p3)] [.int 0] rfl rfl ?_
    refine z_xrz zt212 10 rfl zzr212 (by decide) (by decide) ?_
    show z_ev (d + 1) 214 23 [some (.ref 19), some (.int p1), some (.int p2), some (.int p3)] [.int 0] M0 _
    refine z_xZ zt214 8 rfl rfl (fun (h39 : (0 : Int) = 0) => ?_) (fun (h39 : (0 : Int) ≠ 0) => absurd h39 (by omega))
    refine z_xP zt214 13 37 [some (.ref 19), some (.int p1), some (.int p2), some (.int p3)] [.int 0] rfl rfl ?_
    refine z_xrz zt214 14 rfl zzr214 (by decide) (by decide) ?_
    show z_ev (d + 2) 217 7 [some (.ref 19), some (.int p1), some (.int p2), some (.int p3), some (.int p4)] [.int 0] M0 _
    refine z_xZ zt217 2 rfl rfl (fun (h40 : (0 : Int) = 0) => ?_) (fun (h40 : (0 : Int) ≠ 0) => absurd h40 (by omega))
    refine z_xP zt217 9 33 [some (.ref 19), some (.int p1), some (.int p2), some (.int p3), some (.int p4)] [.int (-1)] rfl rfl ?_
    have qm1 : (((-1) : Int32)).toInt = (-1) := rfl
    exact z_xri zt217 10 rfl zzr217 (kk (-1) M0 X (by omega) (by omega))
  refine z_xP zt212 8 21 [some (.ref 19), some (.int p1), some (.int p3)] [.int 1] rfl rfl ?_
  refine z_xrz zt212 10 rfl zzr212 (by decide) (by decide) ?_
  show z_ev (d + 1) 214 23 [some (.ref 19), some (.int p1), some (.int p2), some (.int p3)] [.int 1] M0 _
  refine z_xZ zt214 8 rfl rfl (fun (h41 : (1 : Int) = 0) => absurd h41 (by omega)) (fun (h41 : (1 : Int) ≠ 0) => ?_)
  refine z_xP zt214 9 28 [some (.ref 19), some (.int p1), some (.int p2), some (.int p3)] [.int p3, .int p2] rfl rfl ?_
  refine z_xI zt214 10 rfl rfl (fun (x42 : Int32) (h43 : 0 ≤ x42.toInt ∧ x42.toInt ≤ p2.toInt ∧ x42.toInt ≤ p3.toInt) => ?_) (z_pAnd2 rfl rfl (by omega) (by omega))
  refine z_xZ zt214 11 rfl rfl (fun (h44 : x42.toInt ≠ 0) => ?_) (fun (h44 : x42.toInt = 0) => ?_)
  · skip
    refine z_xP zt214 13 37 [some (.ref 19), some (.int p1), some (.int p2), some (.int p3)] [.int 0] rfl rfl ?_
    refine z_xrz zt214 14 rfl zzr214 (by decide) (by decide) ?_
    show z_ev (d + 2) 217 7 [some (.ref 19), some (.int p1), some (.int p2), some (.int p3), some (.int p4)] [.int 0] M0 _
    refine z_xZ zt217 2 rfl rfl (fun (h45 : (0 : Int) = 0) => ?_) (fun (h45 : (0 : Int) ≠ 0) => absurd h45 (by omega))
    refine z_xP zt217 9 33 [some (.ref 19), some (.int p1), some (.int p2), some (.int p3), some (.int p4)] [.int (-1)] rfl rfl ?_
    have qm1 : (((-1) : Int32)).toInt = (-1) := rfl
    exact z_xri zt217 10 rfl zzr217 (kk (-1) M0 X (by omega) (by omega))
  refine z_xP zt214 12 37 [some (.ref 19), some (.int p1), some (.int p2), some (.int p3)] [.int 1] rfl rfl ?_
  refine z_xrz zt214 14 rfl zzr214 (by decide) (by decide) ?_
  show z_ev (d + 2) 217 7 [some (.ref 19), some (.int p1), some (.int p2), some (.int p3), some (.int p4)] [.int 1] M0 _
  refine z_xZ zt217 2 rfl rfl (fun (h46 : (1 : Int) = 0) => absurd h46 (by omega)) (fun (h46 : (1 : Int) ≠ 0) => ?_)
  refine z_xP zt217 3 14 [some (.ref 19), some (.int p1), some (.int p2), some (.int p3), some (.int p4)] [.int p4, .int p1, .ref 19] rfl rfl ?_
  refine z_xcV (vs := [.ref 19, .int p1, .int p4]) (r := []) (L2 := [some (.ref 19), some (.int p1), some (.int p4)]) zt217 4 rfl zo217 zzcV12_225 (Or.inl rfl) rfl X f19 rfl rfl rfl (Nat.le_of_ble_eq_true rfl) zzm218 (Nat.le_of_ble_eq_true rfl) rfl ?_
  refine z_xP zt218 0 1 [some (.ref 19), some (.int p1), some (.int p4)] [.int p4] rfl rfl ?_
  refine z_xZ zt218 1 rfl rfl (fun (h47 : p4.toInt < 0) => ?_) (fun (h47 : 0 ≤ p4.toInt) => ?_)
  · skip
    refine z_xP zt218 8 19 [some (.ref 19), some (.int p1), some (.int p4)] [.int 0] rfl rfl ?_
    refine z_xrz zt218 9 rfl zzr218 (by decide) (by decide) ?_
    show z_ev (d + 2) 217 17 [some (.ref 19), some (.int p1), some (.int p2), some (.int p3), some (.int p4)] [.int 0] M0 _
    refine z_xZ zt217 5 rfl rfl (fun (h48 : (0 : Int) = 0) => ?_) (fun (h48 : (0 : Int) ≠ 0) => absurd h48 (by omega))
    refine z_xP zt217 9 33 [some (.ref 19), some (.int p1), some (.int p2), some (.int p3), some (.int p4)] [.int (-1)] rfl rfl ?_
    have qm1 : (((-1) : Int32)).toInt = (-1) := rfl
    exact z_xri zt217 10 rfl zzr217 (kk (-1) M0 X (by omega) (by omega))
  refine z_xP zt218 2 6 [some (.ref 19), some (.int p1), some (.int p4)] [.ref 19, .int p4] rfl rfl ?_
  refine z_xgX (b := 24) zt218 3 rfl zo218 zzf12_22 X f19 (by decide) (by decide) rfl ?_
  refine z_xP zt218 4 10 [some (.ref 19), some (.int p1), some (.int p4)] [.int p1, .ref 24, .int p4] rfl rfl ?_
  refine z_xil zt218 5 rfl X f24 (by decide) (by omega) (by omega) (fun (x49 : Int32) h50 (h51 : 0 ≤ x49.toInt) (h52 : x49.toInt ≤ 10) => ?_)
  have h53 := congrArg Int32.toInt (h50.symm.trans h17)
  have h54 := z_b32 p4
  refine z_xJ zt218 6 rfl rfl (fun (h55 : x49.toInt ≤ p4.toInt) => ?_) (fun (h55 : p4.toInt < x49.toInt) => ?_)
  · skip
    refine z_xP zt218 8 19 [some (.ref 19), some (.int p1), some (.int p4)] [.int 0] rfl rfl ?_
    refine z_xrz zt218 9 rfl zzr218 (by decide) (by decide) ?_
    show z_ev (d + 2) 217 17 [some (.ref 19), some (.int p1), some (.int p2), some (.int p3), some (.int p4)] [.int 0] M0 _
    refine z_xZ zt217 5 rfl rfl (fun (h56 : (0 : Int) = 0) => ?_) (fun (h56 : (0 : Int) ≠ 0) => absurd h56 (by omega))
    refine z_xP zt217 9 33 [some (.ref 19), some (.int p1), some (.int p2), some (.int p3), some (.int p4)] [.int (-1)] rfl rfl ?_
    have qm1 : (((-1) : Int32)).toInt = (-1) := rfl
    exact z_xri zt217 10 rfl zzr217 (kk (-1) M0 X (by omega) (by omega))
  refine z_xP zt218 7 19 [some (.ref 19), some (.int p1), some (.int p4)] [.int 1] rfl rfl ?_
  refine z_xrz zt218 9 rfl zzr218 (by decide) (by decide) ?_
  show z_ev (d + 2) 217 17 [some (.ref 19), some (.int p1), some (.int p2), some (.int p3), some (.int p4)] [.int 1] M0 _
  refine z_xZ zt217 5 rfl rfl (fun (h57 : (1 : Int) = 0) => absurd h57 (by omega)) (fun (h57 : (1 : Int) ≠ 0) => ?_)
  refine z_xP zt217 6 26 [some (.ref 19), some (.int p1), some (.int p2), some (.int p3), some (.int p4)] [.int p4, .int p3, .int p2, .int p1, .ref 19] rfl rfl ?_
  refine z_xcV (vs := [.ref 19, .int p1, .int p2, .int p3, .int p4]) (r := []) (L2 := [some (.ref 19), some (.int p1), some (.int p2), some (.int p3), some (.int p4), none, none, none, none]) zt217 7 rfl zo217 zzcV12_228 (Or.inl rfl) rfl X f19 rfl rfl rfl (Nat.le_of_ble_eq_true rfl) zzm219 (Nat.le_of_ble_eq_true rfl) rfl ?_
  refine zC219 X.1 (by omega) (fun x60 M58 X59 h61 h62 => ?_)
  have X63 := X.go X59 (z_sb (by decide))
  show z_ev (d + 2) 217 29 [some (.ref 19), some (.int p1), some (.int p2), some (.int p3), some (.int p4)] [.int x60] M58 _
  refine z_xP zt217 8 33 [some (.ref 19), some (.int p1), some (.int p2), some (.int p3), some (.int p4)] [.int x60] rfl rfl ?_
  exact z_xri zt217 10 rfl zzr217 (kk x60 M58 X63 (by omega) (by omega))
def zw220 : List Nat := []
theorem zB220 {T : List zK} {d : Nat} {K : Option Value → zH → Prop} {p1 : Int32} {p2 : Int32} {p3 : Int32} {M0 : zH}  (kk : ∀ (x : Int32) (M1 : zH), z_X T zw220 M0 M1 → (-2) ≤ x.toInt → x.toInt ≤ 1048575 → K (some (.int x)) M1) : ∀ n : Nat, (∀ (M : zH) (b4 : Int32) (b5 : Int32) (b6 : Int32) (b7 : Int32) (o8 : Option Value), z_X T zw220 M0 M → 0 ≤ p1.toInt ∧ p1.toInt ≤ 7 → 0 ≤ p2.toInt ∧ p2.toInt ≤ 1023 → 0 ≤ p3.toInt ∧ p3.toInt ≤ 1023 → 0 ≤ b4.toInt ∧ b4.toInt ≤ 1023 → (-1) ≤ b5.toInt ∧ b5.toInt ≤ 1048575 → 0 ≤ b7.toInt ∧ b7.toInt ≤ 1024 → ((0) * 2 + 0) * 1025 + (1024 - b7.toInt) < (n : Int) → z_ev (d + 2) 220 39 [some (.ref 19), some (.int p1), some (.int p2), some (.int p3), some (.int b4), some (.int b5), some (.int b6), some (.int b7), o8] [] M K) := by
  intro n
  induction n with
  | zero => exact by intros; exfalso; omega
  | succ n ih =>
    intro M b4 b5 b6 b7 o8 X hh0 hh1 hh2 hh3 hh4 hh5 hE
    refine z_xP zt220 13 43 [some (.ref 19), some (.int p1), some (.int p2), some (.int p3), some (.int b4), some (.int b5), some (.int b6), some (.int b7), o8] [.int b4, .int b7] rfl rfl ?_
    refine z_xJ zt220 14 rfl rfl (fun (h1 : b4.toInt < b7.toInt) => ?_) (fun (h1 : b7.toInt ≤ b4.toInt) => ?_)
    · skip
      refine z_xP zt220 48 138 [some (.ref 19), some (.int p1), some (.int p2), some (.int p3), some (.int b4), some (.int b5), some (.int b6), some (.int b7), o8] [.int b5] rfl rfl ?_
      exact z_xri zt220 49 rfl zzr220 (kk b5 M X (by omega) (by omega))
    refine z_xP zt220 15 51 [some (.ref 19), some (.int p1), some (.int p2), some (.int p3), some (.int b4), some (.int b5), some (.int b6), some (.int b7), o8] [.int (-1), .int b4, .int b7] rfl rfl ?_
    refine z_xI zt220 16 rfl rfl (P := fun _ => True) (fun (x2 : Int32) _ => ?_) trivial
    refine z_xI zt220 17 rfl rfl (fun (x4 : Int32) (h5 : 0 ≤ x4.toInt ∧ x4.toInt ≤ b7.toInt) => ?_) (z_pAndL rfl (by omega))
    refine z_xZ zt220 18 rfl rfl (fun (h6 : x4.toInt ≠ 0) => ?_) (fun (h6 : x4.toInt = 0) => ?_)
    · skip
      refine z_xN zt220 46 rfl rfl (fun (x7 : Int32) (h8 : x7.toInt = b7.toInt + 1) => ?_) (z_pAdd rfl rfl (by omega) (by omega))
      show z_ev (d + 2) 220 133 [some (.ref 19), some (.int p1), some (.int p2), some (.int p3), some (.int b4), some (.int b5), some (.int b6), some (.int x7), o8] [] M _
      refine z_xP zt220 47 39 [some (.ref 19), some (.int p1), some (.int p2), some (.int p3), some (.int b4), some (.int b5), some (.int b6), some (.int x7), o8] [] rfl rfl ?_
      exact ih M b4 b5 b6 x7 (o8) X ⟨by omega, by omega⟩ ⟨by omega, by omega⟩ ⟨by omega, by omega⟩ ⟨by omega, by omega⟩ ⟨by omega, by omega⟩ ⟨by omega, by omega⟩ (by omega)
    refine z_xP zt220 19 61 [some (.ref 19), some (.int p1), some (.int p2), some (.int p3), some (.int b4), some (.int b5), some (.int b6), some (.int b7), o8] [.int p2, .int b7, .int p1, .ref 19] rfl rfl ?_
    refine z_xI zt220 20 rfl rfl (fun (x9 : Int32) (h10 : 0 ≤ x9.toInt ∧ x9.toInt ≤ b7.toInt ∧ x9.toInt ≤ p2.toInt) => ?_) (z_pAnd2 rfl rfl (by omega) (by omega))
    refine z_xP zt220 21 65 [some (.ref 19), some (.int p1), some (.int p2), some (.int p3), some (.int b4), some (.int b5), some (.int b6), some (.int b7), o8] [.int p3, .int b7, .int x9, .int p1, .ref 19] rfl rfl ?_
    refine z_xI zt220 22 rfl rfl (fun (x11 : Int32) (h12 : 0 ≤ x11.toInt ∧ x11.toInt ≤ b7.toInt ∧ x11.toInt ≤ p3.toInt) => ?_) (z_pAnd2 rfl rfl (by omega) (by omega))
    have f19 : T[19]? = some (.inl (12, 0, 0, 0, 0)) := X.1.k rfl (by decide)
    refine z_xcV (vs := [.ref 19, .int p1, .int x9, .int x11]) (r := []) (L2 := [some (.ref 19), some (.int p1), some (.int x9), some (.int x11), none, none]) zt220 23 rfl zo220 zzcV12_222 (Or.inl rfl) rfl X f19 rfl rfl rfl (Nat.le_of_ble_eq_true rfl) zzm215 (Nat.le_of_ble_eq_true rfl) rfl ?_
    refine zC215 X.1 (by omega) (fun x15 M13 X14 h16 h17 => ?_)
    have X18 := X.go X14 (z_sb (by decide))
    show z_ev (d + 2) 220 69 [some (.ref 19), some (.int p1), some (.int p2), some (.int p3), some (.int b4), some (.int b5), some (.int b6), some (.int b7), o8] [.int x15] M13 _
    refine z_xZ zt220 24 rfl rfl (fun (h20 : x15.toInt ≠ 0) => ?_) (fun (h20 : x15.toInt = 0) => ?_)
    · skip
      refine z_xN zt220 46 rfl rfl (fun (x21 : Int32) (h22 : x21.toInt = b7.toInt + 1) => ?_) (z_pAdd rfl rfl (by omega) (by omega))
      show z_ev (d + 2) 220 133 [some (.ref 19), some (.int p1), some (.int p2), some (.int p3), some (.int b4), some (.int b5), some (.int b6), some (.int x21), o8] [] M13 _
      refine z_xP zt220 47 39 [some (.ref 19), some (.int p1), some (.int p2), some (.int p3), some (.int b4), some (.int b5), some (.int b6), some (.int x21), o8] [] rfl rfl ?_
      exact ih M13 b4 b5 b6 x21 (o8) X18 ⟨by omega, by omega⟩ ⟨by omega, by omega⟩ ⟨by omega, by omega⟩ ⟨by omega, by omega⟩ ⟨by omega, by omega⟩ ⟨by omega, by omega⟩ (by omega)
    refine z_xP zt220 25 78 [some (.ref 19), some (.int p1), some (.int p2), some (.int p3), some (.int b4), some (.int b5), some (.int b6), some (.int b7), o8] [.int p3, .int b7, .int 1024] rfl rfl ?_
    refine z_xI zt220 26 rfl rfl (fun (x23 : Int32) (h24 : 0 ≤ x23.toInt ∧ x23.toInt ≤ b7.toInt ∧ x23.toInt ≤ p3.toInt) => ?_) (z_pAnd2 rfl rfl (by omega) (by omega))
    refine z_xI zt220 27 rfl rfl (fun (x25 : Int32) (h26 : x25.toInt = 1024 * x23.toInt) => ?_) (z_pMul rfl rfl (by omega) (by omega))
    refine z_xP zt220 28 83 [some (.ref 19), some (.int p1), some (.int p2), some (.int p3), some (.int b4), some (.int b5), some (.int b6), some (.int b7), o8] [.int p2, .int b7, .int x25] rfl rfl ?_
    refine z_xI zt220 29 rfl rfl (fun (x27 : Int32) (h28 : 0 ≤ x27.toInt ∧ x27.toInt ≤ b7.toInt ∧ x27.toInt ≤ p2.toInt) => ?_) (z_pAnd2 rfl rfl (by omega) (by omega))
    refine z_xI zt220 30 rfl rfl (fun (x29 : Int32) (h30 : x29.toInt = x25.toInt + x27.toInt) => ?_) (z_pAdd rfl rfl (by omega) (by omega))
    refine z_xP zt220 31 89 [some (.ref 19), some (.int p1), some (.int p2), some (.int p3), some (.int b4), some (.int b5), some (.int b6), some (.int b7), some (.int x29)] [.int b5] rfl rfl ?_
    refine z_xZ zt220 32 rfl rfl (fun (h31 : b5.toInt < 0) => ?_) (fun (h31 : 0 ≤ b5.toInt) => ?_)
    · skip
      refine z_xP zt220 43 125 [some (.ref 19), some (.int p1), some (.int p2), some (.int p3), some (.int b4), some (.int x29), some (.int b6), some (.int b7), some (.int x29)] [.int b7] rfl rfl ?_
      refine z_xcS (vs := [.int b7]) (r := []) (L2 := [some (.int b7), none, none]) zt220 44 rfl zo220 zzcS12_193 (Or.inl rfl) (Nat.le_of_ble_eq_true rfl) rfl rfl (Nat.le_of_ble_eq_true rfl) zzm207 (Nat.le_of_ble_eq_true rfl) rfl ?_
      refine zC207 X18.1 (fun x34 M32 X33  => ?_)
      have X35 := X18.go X33 (z_sb (by decide))
      show z_ev (d + 2) 220 128 [some (.ref 19), some (.int p1), some (.int p2), some (.int p3), some (.int b4), some (.int x29), some (.int b6), some (.int b7), some (.int x29)] [.int x34] M32 _
      refine z_xP zt220 45 130 [some (.ref 19), some (.int p1), some (.int p2), some (.int p3), some (.int b4), some (.int x29), some (.int x34), some (.int b7), some (.int x29)] [] rfl rfl ?_
      refine z_xN zt220 46 rfl rfl (fun (x37 : Int32) (h38 : x37.toInt = b7.toInt + 1) => ?_) (z_pAdd rfl rfl (by omega) (by omega))
      show z_ev (d + 2) 220 133 [some (.ref 19), some (.int p1), some (.int p2), some (.int p3), some (.int b4), some (.int x29), some (.int x34), some (.int x37), some (.int x29)] [] M32 _
      refine z_xP zt220 47 39 [some (.ref 19), some (.int p1), some (.int p2), some (.int p3), some (.int b4), some (.int x29), some (.int x34), some (.int x37), some (.int x29)] [] rfl rfl ?_
      exact ih M32 b4 x29 x34 x37 (some (.int x29)) X35 ⟨by omega, by omega⟩ ⟨by omega, by omega⟩ ⟨by omega, by omega⟩ ⟨by omega, by omega⟩ ⟨by omega, by omega⟩ ⟨by omega, by omega⟩ (by omega)
    refine z_xP zt220 33 94 [some (.ref 19), some (.int p1), some (.int p2), some (.int p3), some (.int b4), some (.int b5), some (.int b6), some (.int b7), some (.int x29)] [.int b7] rfl rfl ?_
    refine z_xcS (vs := [.int b7]) (r := []) (L2 := [some (.int b7), none, none]) zt220 34 rfl zo220 zzcS12_193 (Or.inl rfl) (Nat.le_of_ble_eq_true rfl) rfl rfl (Nat.le_of_ble_eq_true rfl) zzm207 (Nat.le_of_ble_eq_true rfl) rfl ?_
    refine zC207 X18.1 (fun x41 M39 X40  => ?_)
    have X42 := X18.go X40 (z_sb (by decide))
    show z_ev (d + 2) 220 97 [some (.ref 19), some (.int p1), some (.int p2), some (.int p3), some (.int b4), some (.int b5), some (.int b6), some (.int b7), some (.int x29)] [.int x41] M39 _
    refine z_xP zt220 35 99 [some (.ref 19), some (.int p1), some (.int p2), some (.int p3), some (.int b4), some (.int b5), some (.int b6), some (.int b7), some (.int x29)] [.int b6, .int x41] rfl rfl ?_
    have h44 := z_b32 x41
    have h45 := z_b32 b6
    refine z_xJ zt220 36 rfl rfl (fun (h46 : x41.toInt < b6.toInt) => ?_) (fun (h46 : b6.toInt ≤ x41.toInt) => ?_)
    · skip
      refine z_xP zt220 43 125 [some (.ref 19), some (.int p1), some (.int p2), some (.int p3), some (.int b4), some (.int x29), some (.int b6), some (.int b7), some (.int x29)] [.int b7] rfl rfl ?_
      refine z_xcS (vs := [.int b7]) (r := []) (L2 := [some (.int b7), none, none]) zt220 44 rfl zo220 zzcS12_193 (Or.inl rfl) (Nat.le_of_ble_eq_true rfl) rfl rfl (Nat.le_of_ble_eq_true rfl) zzm207 (Nat.le_of_ble_eq_true rfl) rfl ?_
      refine zC207 X42.1 (fun x49 M47 X48  => ?_)
      have X50 := X42.go X48 (z_sb (by decide))
      show z_ev (d + 2) 220 128 [some (.ref 19), some (.int p1), some (.int p2), some (.int p3), some (.int b4), some (.int x29), some (.int b6), some (.int b7), some (.int x29)] [.int x49] M47 _
      refine z_xP zt220 45 130 [some (.ref 19), some (.int p1), some (.int p2), some (.int p3), some (.int b4), some (.int x29), some (.int x49), some (.int b7), some (.int x29)] [] rfl rfl ?_
      refine z_xN zt220 46 rfl rfl (fun (x52 : Int32) (h53 : x52.toInt = b7.toInt + 1) => ?_) (z_pAdd rfl rfl (by omega) (by omega))
      show z_ev (d + 2) 220 133 [some (.ref 19), some (.int p1), some (.int p2), some (.int p3), some (.int b4), some (.int x29), some (.int x49), some (.int x52), some (.int x29)] [] M47 _
      refine z_xP zt220 47 39 [some (.ref 19), some (.int p1), some (.int p2), some (.int p3), some (.int b4), some (.int x29), some (.int x49), some (.int x52), some (.int x29)] [] rfl rfl ?_
      exact ih M47 b4 x29 x49 x52 (some (.int x29)) X50 ⟨by omega, by omega⟩ ⟨by omega, by omega⟩ ⟨by omega, by omega⟩ ⟨by omega, by omega⟩ ⟨by omega, by omega⟩ ⟨by omega, by omega⟩ (by omega)
    refine z_xP zt220 37 104 [some (.ref 19), some (.int p1), some (.int p2), some (.int p3), some (.int b4), some (.int b5), some (.int b6), some (.int b7), some (.int x29)] [.int b7] rfl rfl ?_
    refine z_xcS (vs := [.int b7]) (r := []) (L2 := [some (.int b7), none, none]) zt220 38 rfl zo220 zzcS12_193 (Or.inl rfl) (Nat.le_of_ble_eq_true rfl) rfl rfl (Nat.le_of_ble_eq_true rfl) zzm207 (Nat.le_of_ble_eq_true rfl) rfl ?_
    refine zC207 X42.1 (fun x56 M54 X55  => ?_)
    have X57 := X42.go X55 (z_sb (by decide))
    show z_ev (d + 2) 220 107 [some (.ref 19), some (.int p1), some (.int p2), some (.int p3), some (.int b4), some (.int b5), some (.int b6), some (.int b7), some (.int x29)] [.int x56] M54 _
    refine z_xP zt220 39 109 [some (.ref 19), some (.int p1), some (.int p2), some (.int p3), some (.int b4), some (.int b5), some (.int b6), some (.int b7), some (.int x29)] [.int b6, .int x56] rfl rfl ?_
    have h59 := z_b32 x56
    refine z_xJ zt220 40 rfl rfl (fun (h60 : x56.toInt ≠ b6.toInt) => ?_) (fun (h60 : x56.toInt = b6.toInt) => ?_)
    · skip
      refine z_xN zt220 46 rfl rfl (fun (x61 : Int32) (h62 : x61.toInt = b7.toInt + 1) => ?_) (z_pAdd rfl rfl (by omega) (by omega))
      show z_ev (d + 2) 220 133 [some (.ref 19), some (.int p1), some (.int p2), some (.int p3), some (.int b4), some (.int b5), some (.int b6), some (.int x61), some (.int x29)] [] M54 _
      refine z_xP zt220 47 39 [some (.ref 19), some (.int p1), some (.int p2), some (.int p3), some (.int b4), some (.int b5), some (.int b6), some (.int x61), some (.int x29)] [] rfl rfl ?_
      exact ih M54 b4 b5 b6 x61 (some (.int x29)) X57 ⟨by omega, by omega⟩ ⟨by omega, by omega⟩ ⟨by omega, by omega⟩ ⟨by omega, by omega⟩ ⟨by omega, by omega⟩ ⟨by omega, by omega⟩ (by omega)
    refine z_xP zt220 41 116 [some (.ref 19), some (.int p1), some (.int p2), some (.int p3), some (.int b4), some (.int b5), some (.int b6), some (.int b7), some (.int x29)] [.int b5, .int x29] rfl rfl ?_
    refine z_xJ zt220 42 rfl rfl (fun (h63 : b5.toInt ≤ x29.toInt) => ?_) (fun (h63 : x29.toInt < b5.toInt) => ?_)
    · skip
      refine z_xN zt220 46 rfl rfl (fun (x64 : Int32) (h65 : x64.toInt = b7.toInt + 1) => ?_) (z_pAdd rfl rfl (by omega) (by omega))
      show z_ev (d + 2) 220 133 [some (.ref 19), some (.int p1), some (.int p2), some (.int p3), some (.int b4), some (.int b5), some (.int b6), some (.int x64), some (.int x29)] [] M54 _
      refine z_xP zt220 47 39 [some (.ref 19), some (.int p1), some (.int p2), some (.int p3), some (.int b4), some (.int b5), some (.int b6), some (.int x64), some (.int x29)] [] rfl rfl ?_
      exact ih M54 b4 b5 b6 x64 (some (.int x29)) X57 ⟨by omega, by omega⟩ ⟨by omega, by omega⟩ ⟨by omega, by omega⟩ ⟨by omega, by omega⟩ ⟨by omega, by omega⟩ ⟨by omega, by omega⟩ (by omega)
    refine z_xP zt220 43 125 [some (.ref 19), some (.int p1), some (.int p2), some (.int p3), some (.int b4), some (.int x29), some (.int b6), some (.int b7), some (.int x29)] [.int b7] rfl rfl ?_
    refine z_xcS (vs := [.int b7]) (r := []) (L2 := [some (.int b7), none, none]) zt220 44 rfl zo220 zzcS12_193 (Or.inl rfl) (Nat.le_of_ble_eq_true rfl) rfl rfl (Nat.le_of_ble_eq_true rfl) zzm207 (Nat.le_of_ble_eq_true rfl) rfl ?_
    refine zC207 X57.1 (fun x68 M66 X67  => ?_)
    have X69 := X57.go X67 (z_sb (by decide))
    show z_ev (d + 2) 220 128 [some (.ref 19), some (.int p1), some (.int p2), some (.int p3), some (.int b4), some (.int x29), some (.int b6), some (.int b7), some (.int x29)] [.int x68] M66 _
    refine z_xP zt220 45 130 [some (.ref 19), some (.int p1), some (.int p2), some (.int p3), some (.int b4), some (.int x29), some (.int x68), some (.int b7), some (.int x29)] [] rfl rfl ?_
    refine z_xN zt220 46 rfl rfl (fun (x71 : Int32) (h72 : x71.toInt = b7.toInt + 1) => ?_) (z_pAdd rfl rfl (by omega) (by omega))
    show z_ev (d + 2) 220 133 [some (.ref 19), some (.int p1), some (.int p2), some (.int p3), some (.int b4), some (.int x29), some (.int x68), some (.int x71), some (.int x29)] [] M66 _
    refine z_xP zt220 47 39 [some (.ref 19), some (.int p1), some (.int p2), some (.int p3), some (.int b4), some (.int x29), some (.int x68), some (.int x71), some (.int x29)] [] rfl rfl ?_
    exact ih M66 b4 x29 x68 x71 (some (.int x29)) X69 ⟨by omega, by omega⟩ ⟨by omega, by omega⟩ ⟨by omega, by omega⟩ ⟨by omega, by omega⟩ ⟨by omega, by omega⟩ ⟨by omega, by omega⟩ (by omega)
theorem zC220 {T : List zK} {d : Nat} {K : Option Value → zH → Prop} {p1 : Int32} {p2 : Int32} {p3 : Int32} {M0 : zH} (hW : z_W M0 T)  (kk : ∀ (x : Int32) (M1 : zH), z_X T zw220 M0 M1 → (-2) ≤ x.toInt → x.toInt ≤ 1048575 → K (some (.int x)) M1) : z_ev (d + 2) 220 0 [some (.ref 19), some (.int p1), some (.int p2), some (.int p3), none, none, none, none, none] [] M0 K := by
  have X : z_X T zw220 M0 M0 := .refl hW
  refine z_xP zt220 0 4 [some (.ref 19), some (.int p1), some (.int p2), some (.int p3), none, none, none, none, none] [.int p3, .int p2, .int p1, .ref 19] rfl rfl ?_
  have f19 : T[19]? = some (.inl (12, 0, 0, 0, 0)) := X.1.k rfl (by decide)
  refine z_xcV (vs := [.ref 19, .int p1, .int p2, .int p3]) (r := []) (L2 := [some (.ref 19), some (.int p1), some (.int p2), some (.int p3)]) zt220 1 rfl zo220 zzcV12_219 (Or.inl rfl) rfl X f19 rfl rfl rfl (Nat.le_of_ble_eq_true rfl) zzm214 (Nat.le_of_ble_eq_true rfl) rfl ?_
  refine z_xP zt214 0 2 [some (.ref 19), some (.int p1), some (.int p2), some (.int p3)] [.int p1, .ref 19] rfl rfl ?_
  refine z_xcV (vs := [.ref 19, .int p1]) (r := []) (L2 := [some (.ref 19), some (.int p1)]) zt214 1 rfl zo214 zzcV12_209 (Or.inl rfl) rfl X f19 rfl rfl rfl (Nat.le_of_ble_eq_true rfl) zzm209 (Nat.le_of_ble_eq_true rfl) rfl ?_
  refine z_xP zt209 0 1 [some (.ref 19), some (.int p1)] [.int p1] rfl rfl ?_
  refine z_xZ zt209 1 rfl rfl (fun (h1 : p1.toInt < 0) => ?_) (fun (h1 : 0 ≤ p1.toInt) => ?_)
  · skip
    refine z_xP zt209 6 17 [some (.ref 19), some (.int p1)] [.int 0] rfl rfl ?_
    refine z_xrz zt209 7 rfl zzr209 (by decide) (by decide) ?_
    show z_ev (d + 1) 214 5 [some (.ref 19), some (.int p1), some (.int p2), some (.int p3)] [.int 0] M0 _
    refine z_xZ zt214 2 rfl rfl (fun (h2 : (0 : Int) = 0) => ?_) (fun (h2 : (0 : Int) ≠ 0) => absurd h2 (by omega))
    refine z_xP zt214 13 37 [some (.ref 19), some (.int p1), some (.int p2), some (.int p3)] [.int 0] rfl rfl ?_
    refine z_xrz zt214 14 rfl zzr214 (by decide) (by decide) ?_
    show z_ev (d + 2) 220 7 [some (.ref 19), some (.int p1), some (.int p2), some (.int p3), none, none, none, none, none] [.int 0] M0 _
    refine z_xZ zt220 2 rfl rfl (fun (h3 : (0 : Int) ≠ 0) => absurd h3 (by omega)) (fun (h3 : (0 : Int) = 0) => ?_)
    refine z_xP zt220 3 11 [some (.ref 19), some (.int p1), some (.int p2), some (.int p3), none, none, none, none, none] [.int (-1)] rfl rfl ?_
    have qm1 : (((-1) : Int32)).toInt = (-1) := rfl
    exact z_xri zt220 4 rfl zzr220 (kk (-1) M0 X (by omega) (by omega))
  refine z_xP zt209 2 6 [some (.ref 19), some (.int p1)] [.ref 19, .int p1] rfl rfl ?_
  refine z_xgI zt209 3 rfl zo209 zzf12_110 X f19 (by decide) (by decide) rfl (fun (x5 : Int32) h4 (h6 : 0 ≤ x5.toInt) (h7 : x5.toInt ≤ 8) => ?_)
  have h8 := z_b32 p1
  refine z_xJ zt209 4 rfl rfl (fun (h9 : x5.toInt ≤ p1.toInt) => ?_) (fun (h9 : p1.toInt < x5.toInt) => ?_)
  · skip
    refine z_xP zt209 6 17 [some (.ref 19), some (.int p1)] [.int 0] rfl rfl ?_
    refine z_xrz zt209 7 rfl zzr209 (by decide) (by decide) ?_
    show z_ev (d + 1) 214 5 [some (.ref 19), some (.int p1), some (.int p2), some (.int p3)] [.int 0] M0 _
    refine z_xZ zt214 2 rfl rfl (fun (h10 : (0 : Int) = 0) => ?_) (fun (h10 : (0 : Int) ≠ 0) => absurd h10 (by omega))
    refine z_xP zt214 13 37 [some (.ref 19), some (.int p1), some (.int p2), some (.int p3)] [.int 0] rfl rfl ?_
    refine z_xrz zt214 14 rfl zzr214 (by decide) (by decide) ?_
    show z_ev (d + 2) 220 7 [some (.ref 19), some (.int p1), some (.int p2), some (.int p3), none, none, none, none, none] [.int 0] M0 _
    refine z_xZ zt220 2 rfl rfl (fun (h11 : (0 : Int) ≠ 0) => absurd h11 (by omega)) (fun (h11 : (0 : Int) = 0) => ?_)
    refine z_xP zt220 3 11 [some (.ref 19), some (.int p1), some (.int p2), some (.int p3), none, none, none, none, none] [.int (-1)] rfl rfl ?_
    have qm1 : (((-1) : Int32)).toInt = (-1) := rfl
    exact z_xri zt220 4 rfl zzr220 (kk (-1) M0 X (by omega) (by omega))
  refine z_xP zt209 5 17 [some (.ref 19), some (.int p1)] [.int 1] rfl rfl ?_
  refine z_xrz zt209 7 rfl zzr209 (by decide) (by decide) ?_
  show z_ev (d + 1) 214 5 [some (.ref 19), some (.int p1), some (.int p2), some (.int p3)] [.int 1] M0 _
  refine z_xZ zt214 2 rfl rfl (fun (h12 : (1 : Int) = 0) => absurd h12 (by omega)) (fun (h12 : (1 : Int) ≠ 0) => ?_)
  refine z_xP zt214 3 11 [some (.ref 19), some (.int p1), some (.int p2), some (.int p3)] [.int p2, .int p1, .ref 19] rfl rfl ?_
  refine z_xcV (vs := [.ref 19, .int p1, .int p2]) (r := []) (L2 := [some (.ref 19), some (.int p1), some (.int p2)]) zt214 4 rfl zo214 zzcV12_212 (Or.inl rfl) rfl X f19 rfl rfl rfl (Nat.le_of_ble_eq_true rfl) zzm212 (Nat.le_of_ble_eq_true rfl) rfl ?_
  refine z_xP zt212 0 1 [some (.ref 19), some (.int p1), some (.int p2)] [.int p2] rfl rfl ?_
  refine z_xZ zt212 1 rfl rfl (fun (h13 : p2.toInt < 0) => ?_) (fun (h13 : 0 ≤ p2.toInt) => ?_)
  · skip
    refine z_xP zt212 9 21 [some (.ref 19), some (.int p1), some (.int p2)] [.int 0] rfl rfl ?_
    refine z_xrz zt212 10 rfl zzr212 (by decide) (by decide) ?_
    show z_ev (d + 1) 214 14 [some (.ref 19), some (.int p1), some (.int p2), some (.int p3)] [.int 0] M0 _
    refine z_xZ zt214 5 rfl rfl (fun (h14 : (0 : Int) = 0) => ?_) (fun (h14 : (0 : Int) ≠ 0) => absurd h14 (by omega))
    refine z_xP zt214 13 37 [some (.ref 19), some (.int p1), some (.int p2), some (.int p3)] [.int 0] rfl rfl ?_
    refine z_xrz zt214 14 rfl zzr214 (by decide) (by decide) ?_
    show z_ev (d + 2) 220 7 [some (.ref 19), some (.int p1), some (.int p2), some (.int p3), none, none, none, none, none] [.int 0] M0 _
    refine z_xZ zt220 2 rfl rfl (fun (h15 : (0 : Int) ≠ 0) => absurd h15 (by omega)) (fun (h15 : (0 : Int) = 0) => ?_)
    refine z_xP zt220 3 11 [some (.ref 19), some (.int p1), some (.int p2), some (.int p3), none, none, none, none, none] [.int (-1)] rfl rfl ?_
    have qm1 : (((-1) : Int32)).toInt = (-1) := rfl
    exact z_xri zt220 4 rfl zzr220 (kk (-1) M0 X (by omega) (by omega))
  refine z_xP zt212 2 7 [some (.ref 19), some (.int p1), some (.int p2)] [.ref 19, .int 1, .int p2] rfl rfl ?_
  refine z_xgX (b := 24) zt212 3 rfl zo212 zzf12_22 X f19 (by decide) (by decide) rfl ?_
  refine z_xP zt212 4 11 [some (.ref 19), some (.int p1), some (.int p2)] [.int p1, .ref 24, .int 1, .int p2] rfl rfl ?_
  have f24 : T[24]? = some (.inr (24, 0, 8, 0, 10)) := X.1.k rfl (by decide)
  refine z_xil zt212 5 rfl X f24 (by decide) (by omega) (by omega) (fun (x16 : Int32) h17 (h18 : 0 ≤ x16.toInt) (h19 : x16.toInt ≤ 10) => ?_)
  refine z_xI zt212 6 rfl rfl (fun (x20 : Int32) (h21 : 1 ≤ x20.toInt ∧ x20.toInt ≤ 1024) => ?_) (z_pShlB (a := 1) (b := 10) (c := 1024) (r := 1024) rfl rfl (by omega) (by omega) (by omega) (by omega) (by decide) (by decide) (by decide) (by decide))
  have h22 := z_b32 p2
  refine z_xJ zt212 7 rfl rfl (fun (h23 : x20.toInt ≤ p2.toInt) => ?_) (fun (h23 : p2.toInt < x20.toInt) => ?_)
  · skip
    refine z_xP zt212 9 21 [some (.ref 19), some (.int p1), some (.int p2)] [.int 0] rfl rfl ?_
    refine z_xrz zt212 10 rfl zzr212 (by decide) (by decide) ?_
    show z_ev (d + 1) 214 14 [some (.ref 19), some (.int p1), some (.int p2), some (.int p3)] [.int 0] M0 _
    refine z_xZ zt214 5 rfl rfl (fun (h24 : (0 : Int) = 0) => ?_) (fun (h24 : (0 : Int) ≠ 0) => absurd h24 (by omega))
    refine z_xP zt214 13 37 [some (.ref 19), some (.int p1), some (.int p2), some (.int p3)] [.int 0] rfl rfl ?_
    refine z_xrz zt214 14 rfl zzr214 (by decide) (by decide) ?_
    show z_ev (d + 2) 220 7 [some (.ref 19), some (.int p1), some (.int p2), some (.int p3), none, none, none, none, none] [.int 0] M0 _
    refine z_xZ zt220 2 rfl rfl (fun (h25 : (0 : Int) ≠ 0) => absurd h25 (by omega)) (fun (h25 : (0 : Int) = 0) => ?_)
    refine z_xP zt220 3 11 [some (.ref 19), some (.int p1), some (.int p2), some (.int p3), none, none, none, none, none] [.int (-1)] rfl rfl ?_
    have qm1 : (((-1) : Int32)).toInt = (-1) := rfl
    exact z_xri zt220 4 rfl zzr220 (kk (-1) M0 X (by omega) (by omega))
  refine z_xP zt212 8 21 [some (.ref 19), some (.int p1), some (.int p2)] [.int 1] rfl rfl ?_
  refine z_xrz zt212 10 rfl zzr212 (by decide) (by decide) ?_
  show z_ev (d + 1) 214 14 [some (.ref 19), some (.int p1), some (.int p2), some (.int p3)] [.int 1] M0 _
  refine z_xZ zt214 5 rfl rfl (fun (h26 : (1 : Int) = 0) => absurd h26 (by omega)) (fun (h26 : (1 : Int) ≠ 0) => ?_)
  refine z_xP zt214 6 20 [some (.ref 19), some (.int p1), some (.int p2), some (.int p3)] [.int p3, .int p1, .ref 19] rfl rfl ?_
  refine z_xcV (vs := [.ref 19, .int p1, .int p3]) (r := []) (L2 := [some (.ref 19), some (.int p1), some (.int p3)]) zt214 7 rfl zo214 zzcV12_212 (Or.inl rfl) rfl X f19 rfl rfl rfl (Nat.le_of_ble_eq_true rfl) zzm212 (Nat.le_of_ble_eq_true rfl) rfl ?_
  refine z_xP zt212 0 1 [some (.ref 19), some (.int p1), some (.int p3)] [.int p3] rfl rfl ?_
  refine z_xZ zt212 1 rfl rfl (fun (h27 : p3.toInt < 0) => ?_) (fun (h27 : 0 ≤ p3.toInt) => ?_)
  · skip
    refine z_xP zt212 9 21 [some (.ref 19), some (.int p1), some (.int p3)] [.int 0] rfl rfl ?_
    refine z_xrz zt212 10 rfl zzr212 (by decide) (by decide) ?_
    show z_ev (d + 1) 214 23 [some (.ref 19), some (.int p1), some (.int p2), some (.int p3)] [.int 0] M0 _
    refine z_xZ zt214 8 rfl rfl (fun (h28 : (0 : Int) = 0) => ?_) (fun (h28 : (0 : Int) ≠ 0) => absurd h28 (by omega))
    refine z_xP zt214 13 37 [some (.ref 19), some (.int p1), some (.int p2), some (.int p3)] [.int 0] rfl rfl ?_
    refine z_xrz zt214 14 rfl zzr214 (by decide) (by decide) ?_
    show z_ev (d + 2) 220 7 [some (.ref 19), some (.int p1), some (.int p2), some (.int p3), none, none, none, none, none] [.int 0] M0 _
    refine z_xZ zt220 2 rfl rfl (fun (h29 : (0 : Int) ≠ 0) => absurd h29 (by omega)) (fun (h29 : (0 : Int) = 0) => ?_)
    refine z_xP zt220 3 11 [some (.ref 19), some (.int p1), some (.int p2), some (.int p3), none, none, none, none, none] [.int (-1)] rfl rfl ?_
    have qm1 : (((-1) : Int32)).toInt = (-1) := rfl
    exact z_xri zt220 4 rfl zzr220 (kk (-1) M0 X (by omega) (by omega))
  refine z_xP zt212 2 7 [some (.ref 19), some (.int p1), some (.int p3)] [.ref 19, .int 1, .int p3] rfl rfl ?_
  refine z_xgX (b := 24) zt212 3 rfl zo212 zzf12_22 X f19 (by decide) (by decide) rfl ?_
  refine z_xP zt212 4 11 [some (.ref 19), some (.int p1), some (.int p3)] [.int p1, .ref 24, .int 1, .int p3] rfl rfl ?_
  refine z_xil zt212 5 rfl X f24 (by decide) (by omega) (by omega) (fun (x30 : Int32) h31 (h32 : 0 ≤ x30.toInt) (h33 : x30.toInt ≤ 10) => ?_)
  have h34 := congrArg Int32.toInt (h31.symm.trans h17)
  refine z_xI zt212 6 rfl rfl (fun (x35 : Int32) (h36 : 1 ≤ x35.toInt ∧ x35.toInt ≤ 1024) => ?_) (z_pShlB (a := 1) (b := 10) (c := 1024) (r := 1024) rfl rfl (by omega) (by omega) (by omega) (by omega) (by decide) (by decide) (by decide) (by decide))
  have h37 := z_b32 p3
  refine z_xJ zt212 7 rfl rfl (fun (h38 : x35.toInt ≤ p3.toInt) => ?_) (fun (h38 : p3.toInt < x35.toInt) => ?_)
  · skip
    refine z_xP zt212 9 21 [some (.ref 19), some (.int p1), some (.int p3)] [.int 0] rfl rfl ?_
    refine z_xrz zt212 10 rfl zzr212 (by decide) (by decide) ?_
    show z_ev (d + 1) 214 23 [some (.ref 19), some (.int p1), some (.int p2), some (.int p3)] [.int 0] M0 _
    refine z_xZ zt214 8 rfl rfl (fun (h39 : (0 : Int) = 0) => ?_) (fun (h39 : (0 : Int) ≠ 0) => absurd h39 (by omega))
    refine z_xP zt214 13 37 [some (.ref 19), some (.int p1), some (.int p2), some (.int p3)] [.int 0] rfl rfl ?_
    refine z_xrz zt214 14 rfl zzr214 (by decide) (by decide) ?_
    show z_ev (d + 2) 220 7 [some (.ref 19), some (.int p1), some (.int p2), some (.int p3), none, none, none, none, none] [.int 0] M0 _
    refine z_xZ zt220 2 rfl rfl (fun (h40 : (0 : Int) ≠ 0) => absurd h40 (by omega)) (fun (h40 : (0 : Int) = 0) => ?_)
    refine z_xP zt220 3 11 [some (.ref 19), some (.int p1), some (.int p2), some (.int p3), none, none, none, none, none] [.int (-1)] rfl rfl ?_
    have qm1 : (((-1) : Int32)).toInt = (-1) := rfl
    exact z_xri zt220 4 rfl zzr220 (kk (-1) M0 X (by omega) (by omega))
  refine z_xP zt212 8 21 [some (.ref 19), some (.int p1), some (.int p3)] [.int 1] rfl rfl ?_
  refine z_xrz zt212 10 rfl zzr212 (by decide) (by decide) ?_
  show z_ev (d + 1) 214 23 [some (.ref 19), some (.int p1), some (.int p2), some (.int p3)] [.int 1] M0 _
  refine z_xZ zt214 8 rfl rfl (fun (h41 : (1 : Int) = 0) => absurd h41 (by omega)) (fun (h41 : (1 : Int) ≠ 0) => ?_)
  refine z_xP zt214 9 28 [some (.ref 19), some (.int p1), some (.int p2), some (.int p3)] [.int p3, .int p2] rfl rfl ?_
  refine z_xI zt214 10 rfl rfl (fun (x42 : Int32) (h43 : 0 ≤ x42.toInt ∧ x42.toInt ≤ p2.toInt ∧ x42.toInt ≤ p3.toInt) => ?_) (z_pAnd2 rfl rfl (by omega) (by omega))
  refine z_xZ zt214 11 rfl rfl (fun (h44 : x42.toInt ≠ 0) => ?_) (fun (h44 : x42.toInt = 0) => ?_)
  · skip
    refine z_xP zt214 13 37 [some (.ref 19), some (.int p1), some (.int p2), some (.int p3)] [.int 0] rfl rfl ?_
    refine z_xrz zt214 14 rfl zzr214 (by decide) (by decide) ?_
    show z_ev (d + 2) 220 7 [some (.ref 19), some (.int p1), some (.int p2), some (.int p3), none, none, none, none, none] [.int 0] M0 _
    refine z_xZ zt220 2 rfl rfl (fun (h45 : (0 : Int) ≠ 0) => absurd h45 (by omega)) (fun (h45 : (0 : Int) = 0) => ?_)
    refine z_xP zt220 3 11 [some (.ref 19), some (.int p1), some (.int p2), some (.int p3), none, none, none, none, none] [.int (-1)] rfl rfl ?_
    have qm1 : (((-1) : Int32)).toInt = (-1) := rfl
    exact z_xri zt220 4 rfl zzr220 (kk (-1) M0 X (by omega) (by omega))
  refine z_xP zt214 12 37 [some (.ref 19), some (.int p1), some (.int p2), some (.int p3)] [.int 1] rfl rfl ?_
  refine z_xrz zt214 14 rfl zzr214 (by decide) (by decide) ?_
  show z_ev (d + 2) 220 7 [some (.ref 19), some (.int p1), some (.int p2), some (.int p3), none, none, none, none, none] [.int 1] M0 _
  refine z_xZ zt220 2 rfl rfl (fun (h46 : (1 : Int) ≠ 0) => ?_) (fun (h46 : (1 : Int) = 0) => absurd h46 (by omega))
  refine z_xP zt220 5 16 [some (.ref 19), some (.int p1), some (.int p2), some (.int p3), none, none, none, none, none] [.int p3, .int p2, .int p1, .ref 19] rfl rfl ?_
  refine z_xcV (vs := [.ref 19, .int p1, .int p2, .int p3]) (r := []) (L2 := [some (.ref 19), some (.int p1), some (.int p2), some (.int p3), none, none]) zt220 6 rfl zo220 zzcV12_222 (Or.inl rfl) rfl X f19 rfl rfl rfl (Nat.le_of_ble_eq_true rfl) zzm215 (Nat.le_of_ble_eq_true rfl) rfl ?_
  refine zC215 X.1 (by omega) (fun x49 M47 X48 h50 h51 => ?_)
  have X52 := X.go X48 (z_sb (by decide))
  show z_ev (d + 2) 220 19 [some (.ref 19), some (.int p1), some (.int p2), some (.int p3), none, none, none, none, none] [.int x49] M47 _
  refine z_xZ zt220 7 rfl rfl (fun (h54 : x49.toInt = 0) => ?_) (fun (h54 : x49.toInt ≠ 0) => ?_)
  · skip
    refine z_xP zt220 10 27 [some (.ref 19), some (.int p1), some (.int p2), some (.int p3), none, none, none, none, none] [.int p3, .int p2] rfl rfl ?_
    refine z_xI zt220 11 rfl rfl (fun (x55 : Int32) (h56 : 0 ≤ x55.toInt ∧ x55.toInt < 1024 ∧ p2.toInt ≤ x55.toInt ∧ p3.toInt ≤ x55.toInt) => ?_) (z_pOr 10 rfl rfl (by omega) (by omega) (by decide) (by omega) (by omega) (by decide))
    refine z_xP zt220 12 39 [some (.ref 19), some (.int p1), some (.int p2), some (.int p3), some (.int x55), some (.int (-1)), some (.int 0), some (.int 0), none] [] rfl rfl ?_
    have qm1 : (((-1) : Int32)).toInt = (-1) := rfl
    have q0 : ((0 : Int32)).toInt = 0 := rfl
    exact (zB220 kk 2050) M47 x55 ((-1)) (0) (0) none X52 ⟨by omega, by omega⟩ ⟨by omega, by omega⟩ ⟨by omega, by omega⟩ ⟨by omega, by omega⟩ (by decide) (by decide) (by omega)
  refine z_xP zt220 8 24 [some (.ref 19), some (.int p1), some (.int p2), some (.int p3), none, none, none, none, none] [.int (-2)] rfl rfl ?_
  have qm2 : (((-2) : Int32)).toInt = (-2) := rfl
  exact z_xri zt220 9 rfl zzr220 (kk (-2) M47 X52 (by omega) (by omega))
def zw221 : List Nat := [32, 33, 34, 35]
theorem zC221 {T : List zK} {d : Nat} {K : Option Value → zH → Prop} {p1 : Int32} {p2 : Int32} {p3 : Int32} {p4 : Int32} {M0 : zH} (hW : z_W M0 T)  (kk : ∀ (x : Int32) (M1 : zH), z_X T zw221 M0 M1 → (-3) ≤ x.toInt → x.toInt ≤ 8 → K (some (.int x)) M1) : z_ev (d + 2) 221 0 [some (.ref 19), some (.int p1), some (.int p2), some (.int p3), some (.int p4), none] [] M0 K := by
  have X : z_X T zw221 M0 M0 := .refl hW
  refine z_xP zt221 0 5 [some (.ref 19), some (.int p1), some (.int p2), some (.int p3), some (.int p4), none] [.int p4, .int p3, .int p1, .ref 19] rfl rfl ?_
  have f19 : T[19]? = some (.inl (12, 0, 0, 0, 0)) := X.1.k rfl (by decide)
  refine z_xcV (vs := [.ref 19, .int p1, .int p3, .int p4]) (r := []) (L2 := [some (.ref 19), some (.int p1), some (.int p3), some (.int p4)]) zt221 1 rfl zo221 zzcV12_219 (Or.inl rfl) rfl X f19 rfl rfl rfl (Nat.le_of_ble_eq_true rfl) zzm214 (Nat.le_of_ble_eq_true rfl) rfl ?_
  refine z_xP zt214 0 2 [some (.ref 19), some (.int p1), some (.int p3), some (.int p4)] [.int p1, .ref 19] rfl rfl ?_
  refine z_xcV (vs := [.ref 19, .int p1]) (r := []) (L2 := [some (.ref 19), some (.int p1)]) zt214 1 rfl zo214 zzcV12_209 (Or.inl rfl) rfl X f19 rfl rfl rfl (Nat.le_of_ble_eq_true rfl) zzm209 (Nat.le_of_ble_eq_true rfl) rfl ?_
  refine z_xP zt209 0 1 [some (.ref 19), some (.int p1)] [.int p1] rfl rfl ?_
  refine z_xZ zt209 1 rfl rfl (fun (h1 : p1.toInt < 0) => ?_) (fun (h1 : 0 ≤ p1.toInt) => ?_)
  · skip
    refine z_xP zt209 6 17 [some (.ref 19), some (.int p1)] [.int 0] rfl rfl ?_
    refine z_xrz zt209 7 rfl zzr209 (by decide) (by decide) ?_
    show z_ev (d + 1) 214 5 [some (.ref 19), some (.int p1), some (.int p3), some (.int p4)] [.int 0] M0 _
    refine z_xZ zt214 2 rfl rfl (fun (h2 : (0 : Int) = 0) => ?_) (fun (h2 : (0 : Int) ≠ 0) => absurd h2 (by omega))
    refine z_xP zt214 13 37 [some (.ref 19), some (.int p1), some (.int p3), some (.int p4)] [.int 0] rfl rfl ?_
    refine z_xrz zt214 14 rfl zzr214 (by decide) (by decide) ?_
    show z_ev (d + 2) 221 8 [some (.ref 19), some (.int p1), some (.int p2), some (.int p3), some (.int p4), none] [.int 0] M0 _
    refine z_xZ zt221 2 rfl rfl (fun (h3 : (0 : Int) = 0) => ?_) (fun (h3 : (0 : Int) ≠ 0) => absurd h3 (by omega))
    refine z_xP zt221 9 24 [some (.ref 19), some (.int p1), some (.int p2), some (.int p3), some (.int p4), none] [.int (-1)] rfl rfl ?_
    have qm1 : (((-1) : Int32)).toInt = (-1) := rfl
    exact z_xri zt221 10 rfl zzr221 (kk (-1) M0 X (by omega) (by omega))
  refine z_xP zt209 2 6 [some (.ref 19), some (.int p1)] [.ref 19, .int p1] rfl rfl ?_
  refine z_xgI zt209 3 rfl zo209 zzf12_110 X f19 (by decide) (by decide) rfl (fun (x5 : Int32) h4 (h6 : 0 ≤ x5.toInt) (h7 : x5.toInt ≤ 8) => ?_)
  have h8 := z_b32 p1
  refine z_xJ zt209 4 rfl rfl (fun (h9 : x5.toInt ≤ p1.toInt) => ?_) (fun (h9 : p1.toInt < x5.toInt) => ?_)
  · skip
    refine z_xP zt209 6 17 [some (.ref 19), some (.int p1)] [.int 0] rfl rfl ?_
    refine z_xrz zt209 7 rfl zzr209 (by decide) (by decide) ?_
    show z_ev (d + 1) 214 5 [some (.ref 19), some (.int p1), some (.int p3), some (.int p4)] [.int 0] M0 _
    refine z_xZ zt214 2 rfl rfl (fun (h10 : (0 : Int) = 0) => ?_) (fun (h10 : (0 : Int) ≠ 0) => absurd h10 (by omega))
    refine z_xP zt214 13 37 [some (.ref 19), some (.int p1), some (.int p3), some (.int p4)] [.int 0] rfl rfl ?_
    refine z_xrz zt214 14 rfl zzr214 (by decide) (by decide) ?_
    show z_ev (d + 2) 221 8 [some (.ref 19), some (.int p1), some (.int p2), some (.int p3), some (.int p4), none] [.int 0] M0 _
    refine z_xZ zt221 2 rfl rfl (fun (h11 : (0 : Int) = 0) => ?_) (fun (h11 : (0 : Int) ≠ 0) => absurd h11 (by omega))
    refine z_xP zt221 9 24 [some (.ref 19), some (.int p1), some (.int p2), some (.int p3), some (.int p4), none] [.int (-1)] rfl rfl ?_
    have qm1 : (((-1) : Int32)).toInt = (-1) := rfl
    exact z_xri zt221 10 rfl zzr221 (kk (-1) M0 X (by omega) (by omega))
  refine z_xP zt209 5 17 [some (.ref 19), some (.int p1)] [.int 1] rfl rfl ?_
  refine z_xrz zt209 7 rfl zzr209 (by decide) (by decide) ?_
  show z_ev (d + 1) 214 5 [some (.ref 19), some (.int p1), some (.int p3), some (.int p4)] [.int 1] M0 _
  refine z_xZ zt214 2 rfl rfl (fun (h12 : (1 : Int) = 0) => absurd h12 (by omega)) (fun (h12 : (1 : Int) ≠ 0) => ?_)
  refine z_xP zt214 3 11 [some (.ref 19), some (.int p1), some (.int p3), some (.int p4)] [.int p3, .int p1, .ref 19] rfl rfl ?_
  refine z_xcV (vs := [.ref 19, .int p1, .int p3]) (r := []) (L2 := [some (.ref 19), some (.int p1), some (.int p3)]) zt214 4 rfl zo214 zzcV12_212 (Or.inl rfl) rfl X f19 rfl rfl rfl (Nat.le_of_ble_eq_true rfl) zzm212 (Nat.le_of_ble_eq_true rfl) rfl ?_
  refine z_xP zt212 0 1 [some (.ref 19), some (.int p1), some (.int p3)] [.int p3] rfl rfl ?_
  refine z_xZ zt212 1 rfl rfl (fun (h13 : p3.toInt < 0) => ?_) (fun (h13 : 0 ≤ p3.toInt) => ?_)
  · skip
    refine z_xP zt212 9 21 [some (.ref 19), some (.int p1), some (.int p3)] [.int 0] rfl rfl ?_
    refine z_xrz zt212 10 rfl zzr212 (by decide) (by decide) ?_
    show z_ev (d + 1) 214 14 [some (.ref 19), some (.int p1), some (.int p3), some (.int p4)] [.int 0] M0 _
    refine z_xZ zt214 5 rfl rfl (fun (h14 : (0 : Int) = 0) => ?_) (fun (h14 : (0 : Int) ≠ 0) => absurd h14 (by omega))
    refine z_xP zt214 13 37 [some (.ref 19), some (.int p1), some (.int p3), some (.int p4)] [.int 0] rfl rfl ?_
    refine z_xrz zt214 14 rfl zzr214 (by decide) (by decide) ?_
    show z_ev (d + 2) 221 8 [some (.ref 19), some (.int p1), some (.int p2), some (.int p3), some (.int p4), none] [.int 0] M0 _
    refine z_xZ zt221 2 rfl rfl (fun (h15 : (0 : Int) = 0) => ?_) (fun (h15 : (0 : Int) ≠ 0) => absurd h15 (by omega))
    refine z_xP zt221 9 24 [some (.ref 19), some (.int p1), some (.int p2), some (.int p3), some (.int p4), none] [.int (-1)] rfl rfl ?_
    have qm1 : (((-1) : Int32)).toInt = (-1) := rfl
    exact z_xri zt221 10 rfl zzr221 (kk (-1) M0 X (by omega) (by omega))
  refine z_xP zt212 2 7 [some (.ref 19), some (.int p1), some (.int p3)] [.ref 19, .int 1, .int p3] rfl rfl ?_
  refine z_xgX (b := 24) zt212 3 rfl zo212 zzf12_22 X f19 (by decide) (by decide) rfl ?_
  refine z_xP zt212 4 11 [some (.ref 19), some (.int p1), some (.int p3)] [.int p1, .ref 24, .int 1, .int p3] rfl rfl ?_
  have f24 : T[24]? = some (.inr (24, 0, 8, 0, 10)) := X.1.k rfl (by decide)
  refine z_xil zt212 5 rfl X f24 (by decide) (by omega) (by omega) (fun (x16 : Int32) h17 (h18 : 0 ≤ x16.toInt) (h19 : x16.toInt ≤ 10) => ?_)
  refine z_xI zt212 6 rfl rfl (fun (x20 : Int32) (h21 : 1 ≤ x20.toInt ∧ x20.toInt ≤ 1024) => ?_) (z_pShlB (a := 1) (b := 10) (c := 1024) (r := 1024) rfl rfl (by omega) (by omega) (by omega) (by omega) (by decide) (by decide) (by decide) (by decide))
  have h22 := z_b32 p3
  refine z_xJ zt212 7 rfl rfl (fun (h23 : x20.toInt ≤ p3.toInt) => ?_) (fun (h23 : p3.toInt < x20.toInt) => ?_)
  · skip
    refine z_xP zt212 9 21 [some (.ref 19), some (.int p1), some (.int p3)] [.int 0] rfl rfl ?_
    refine z_xrz zt212 10 rfl zzr212 (by decide) (by decide) ?_
    show z_ev (d + 1) 214 14 [some (.ref 19), some (.int p1), some (.int p3), some (.int p4)] [.int 0] M0 _
    refine z_xZ zt214 5 rfl rfl (fun (h24 : (0 : Int) = 0) => ?_) (fun (h24 : (0 : Int) ≠ 0) => absurd h24 (by omega))
    refine z_xP zt214 13 37 [some (.ref 19), some (.int p1), some (.int p3), some (.int p4)] [.int 0] rfl rfl ?_
    refine z_xrz zt214 14 rfl zzr214 (by decide) (by decide) ?_
    show z_ev (d + 2) 221 8 [some (.ref 19), some (.int p1), some (.int p2), some (.int p3), some (.int p4), none] [.int 0] M0 _
    refine z_xZ zt221 2 rfl rfl (fun (h25 : (0 : Int) = 0) => ?_) (fun (h25 : (0 : Int) ≠ 0) => absurd h25 (by omega))
    refine z_xP zt221 9 24 [some (.ref 19), some (.int p1), some (.int p2), some (.int p3), some (.int p4), none] [.int (-1)] rfl rfl ?_
    have qm1 : (((-1) : Int32)).toInt = (-1) := rfl
    exact z_xri zt221 10 rfl zzr221 (kk (-1) M0 X (by omega) (by omega))
  refine z_xP zt212 8 21 [some (.ref 19), some (.int p1), some (.int p3)] [.int 1] rfl rfl ?_
  refine z_xrz zt212 10 rfl zzr212 (by decide) (by decide) ?_
  show z_ev (d + 1) 214 14 [some (.ref 19), some (.int p1), some (.int p3), some (.int p4)] [.int 1] M0 _
  refine z_xZ zt214 5 rfl rfl (fun (h26 : (1 : Int) = 0) => absurd h26 (by omega)) (fun (h26 : (1 : Int) ≠ 0) => ?_)
  refine z_xP zt214 6 20 [some (.ref 19), some (.int p1), some (.int p3), some (.int p4)] [.int p4, .int p1, .ref 19] rfl rfl ?_
  refine z_xcV (vs := [.ref 19, .int p1, .int p4]) (r := []) (L2 := [some (.ref 19), some (.int p1), some (.int p4)]) zt214 7 rfl zo214 zzcV12_212 (Or.inl rfl) rfl X f19 rfl rfl rfl (Nat.le_of_ble_eq_true rfl) zzm212 (Nat.le_of_ble_eq_true rfl) rfl ?_
  refine z_xP zt212 0 1 [some (.ref 19), some (.int p1), some (.int p4)] [.int p4] rfl rfl ?_
  refine z_xZ zt212 1 rfl rfl (fun (h27 : p4.toInt < 0) => ?_) (fun (h27 : 0 ≤ p4.toInt) => ?_)
  · skip
    refine z_xP zt212 9 21 [some (.ref 19), some (.int p1), some (.int p4)] [.int 0] rfl rfl ?_
    refine z_xrz zt212 10 rfl zzr212 (by decide) (by decide) ?_
    show z_ev (d + 1) 214 23 [some (.ref 19), some (.int p1), some (.int p3), some (.int p4)] [.int 0] M0 _
    refine z_xZ zt214 8 rfl rfl (fun (h28 : (0 : Int) = 0) => ?_) (fun (h28 : (0 : Int) ≠ 0) => absurd h28 (by omega))
    refine z_xP zt214 13 37 [some (.ref 19), some (.int p1), some (.int p3), some (.int p4)] [.int 0] rfl rfl ?_
    refine z_xrz zt214 14 rfl zzr214 (by decide) (by decide) ?_
    show z_ev (d + 2) 221 8 [some (.ref 19), some (.int p1), some (.int p2), some (.int p3), some (.int p4), none] [.int 0] M0 _
    refine z_xZ zt221 2 rfl rfl (fun (h29 : (0 : Int) = 0) => ?_) (fun (h29 : (0 : Int) ≠ 0) => absurd h29 (by omega))
    refine z_xP zt221 9 24 [some (.ref 19), some (.int p1), some (.int p2), some (.int p3), some (.int p4), none] [.int (-1)] rfl rfl ?_
    have qm1 : (((-1) : Int32)).toInt = (-1) := rfl
    exact z_xri zt221 10 rfl zzr221 (kk (-1) M0 X (by omega) (by omega))
  refine z_xP zt212 2 7 [some (.ref 19), some (.int p1), some (.int p4)] [.ref 19, .int 1, .int p4] rfl rfl ?_
  refine z_xgX (b := 24) zt212 3 rfl zo212 zzf12_22 X f19 (by decide) (by decide) rfl ?_
  refine z_xP zt212 4 11 [some (.ref 19), some (.int p1), some (.int p4)] [.int p1, .ref 24, .int 1, .int p4] rfl rfl ?_
  refine z_xil zt212 5 rfl X f24 (by decide) (by omega) (by omega) (fun (x30 : Int32) h31 (h32 : 0 ≤ x30.toInt) (h33 : x30.toInt ≤ 10) => ?_)
  have h34 := congrArg Int32.toInt (h31.symm.trans h17)
  refine z_xI zt212 6 rfl rfl (fun (x35 : Int32) (h36 : 1 ≤ x35.toInt ∧ x35.toInt ≤ 1024) => ?_) (z_pShlB (a := 1) (b := 10) (c := 1024) (r := 1024) rfl rfl (by omega) (by omega) (by omega) (by omega) (by decide) (by decide) (by decide) (by decide))
  have h37 := z_b32 p4
  refine z_xJ zt212 7 rfl rfl (fun (h38 : x35.toInt ≤ p4.toInt) => ?_) (fun (h38 : p4.toInt < x35.toInt) => ?_)
  · skip
    refine z_xP zt212 9 21 [some (.ref 19), some (.int p1), some (.int p4)] [.int 0] rfl rfl ?_
    refine z_xrz zt212 10 rfl zzr212 (by decide) (by decide) ?_
    show z_ev (d + 1) 214 23 [some (.ref 19), some (.int p1), some (.int p3), some (.int p4)] [.int 0] M0 _
    refine z_xZ zt214 8 rfl rfl (fun (h39 : (0 : Int) = 0) => ?_) (fun (h39 : (0 : Int) ≠ 0) => absurd h39 (by omega))
    refine z_xP zt214 13 37 [some (.ref 19), some (.int p1), some (.int p3), some (.int p4)] [.int 0] rfl rfl ?_
    refine z_xrz zt214 14 rfl zzr214 (by decide) (by decide) ?_
    show z_ev (d + 2) 221 8 [some (.ref 19), some (.int p1), some (.int p2), some (.int p3), some (.int p4), none] [.int 0] M0 _
    refine z_xZ zt221 2 rfl rfl (fun (h40 : (0 : Int) = 0) => ?_) (fun (h40 : (0 : Int) ≠ 0) => absurd h40 (by omega))
    refine z_xP zt221 9 24 [some (.ref 19), some (.int p1), some (.int p2), some (.int p3), some (.int p4), none] [.int (-1)] rfl rfl ?_
    have qm1 : (((-1) : Int32)).toInt = (-1) := rfl
    exact z_xri zt221 10 rfl zzr221 (kk (-1) M0 X (by omega) (by omega))
  refine z_xP zt212 8 21 [some (.ref 19), some (.int p1), some (.int p4)] [.int 1] rfl rfl ?_
  refine z_xrz zt212 10 rfl zzr212 (by decide) (by decide) ?_
  show z_ev (d + 1) 214 23 [some (.ref 19), some (.int p1), some (.int p3), some (.int p4)] [.int 1] M0 _
  refine z_xZ zt214 8 rfl rfl (fun (h41 : (1 : Int) = 0) => absurd h41 (by omega)) (fun (h41 : (1 : Int) ≠ 0) => ?_)
  refine z_xP zt214 9 28 [some (.ref 19), some (.int p1), some (.int p3), some (.int p4)] [.int p4, .int p3] rfl rfl ?_
  refine z_xI zt214 10 rfl rfl (fun (x42 : Int32) (h43 : 0 ≤ x42.toInt ∧ x42.toInt ≤ p3.toInt ∧ x42.toInt ≤ p4.toInt) => ?_) (z_pAnd2 rfl rfl (by omega) (by omega))
  refine z_xZ zt214 11 rfl rfl (fun (h44 : x42.toInt ≠ 0) => ?_) (fun (h44 : x42.toInt = 0) => ?_)
  · skip
    refine z_xP zt214 13 37 [some (.ref 19), some (.int p1), some (.int p3), some (.int p4)] [.int 0] rfl rfl ?_
    refine z_xrz zt214 14 rfl zzr214 (by decide) (by decide) ?_
    show z_ev (d + 2) 221 8 [some (.ref 19), some (.int p1), some (.int p2), some (.int p3), some (.int p4), none] [.int 0] M0 _
    refine z_xZ zt221 2 rfl rfl (fun (h45 : (0 : Int) = 0) => ?_) (fun (h45 : (0 : Int) ≠ 0) => absurd h45 (by omega))
    refine z_xP zt221 9 24 [some (.ref 19), some (.int p1), some (.int p2), some (.int p3), some (.int p4), none] [.int (-1)] rfl rfl ?_
    have qm1 : (((-1) : Int32)).toInt = (-1) := rfl
    exact z_xri zt221 10 rfl zzr221 (kk (-1) M0 X (by omega) (by omega))
  refine z_xP zt214 12 37 [some (.ref 19), some (.int p1), some (.int p3), some (.int p4)] [.int 1] rfl rfl ?_
  refine z_xrz zt214 14 rfl zzr214 (by decide) (by decide) ?_
  show z_ev (d + 2) 221 8 [some (.ref 19), some (.int p1), some (.int p2), some (.int p3), some (.int p4), none] [.int 1] M0 _
  refine z_xZ zt221 2 rfl rfl (fun (h46 : (1 : Int) = 0) => absurd h46 (by omega)) (fun (h46 : (1 : Int) ≠ 0) => ?_)
  refine z_xP zt221 3 12 [some (.ref 19), some (.int p1), some (.int p2), some (.int p3), some (.int p4), none] [.int p2] rfl rfl ?_
  have h47 := z_b32 p2
  refine z_xL zt221 4 rfl rfl (fun (y48 : Int64) (h49 : y48.toInt = p2.toInt) => ?_) (z_qI2L rfl)
  refine z_xP zt221 5 14 [some (.ref 19), some (.int p1), some (.int p2), some (.int p3), some (.int p4), none] [.long 1, .long y48] rfl rfl ?_
  refine z_xl2 zt221 6 rfl zo221 zkl12_232 ?_
  refine z_xcS (vs := [.long y48, .long 1, .long 9]) (r := []) (L2 := [some (.long y48), none, some (.long 1), none, some (.long 9), none]) zt221 7 rfl zo221 zzcS12_116 (Or.inl rfl) (Nat.le_of_ble_eq_true rfl) rfl rfl (Nat.le_of_ble_eq_true rfl) zzm189 (Nat.le_of_ble_eq_true rfl) rfl ?_
  refine z_xP zt189 0 2 [some (.long y48), none, some (.long 1), none, some (.long 9), none] [.long 1, .long y48] rfl rfl ?_
  refine z_xI zt189 1 rfl rfl (fun (x50 : Int32) (h51 : (x50.toInt < 0 ∧ y48.toInt < 1) ∨ (x50.toInt = 0 ∧ y48.toInt = 1) ∨ (0 < x50.toInt ∧ 1 < y48.toInt)) => ?_) (z_qCmp rfl rfl)
  refine z_xZ zt189 2 rfl rfl (fun (h52 : x50.toInt < 0) => ?_) (fun (h52 : 0 ≤ x50.toInt) => ?_)
  · skip
    refine z_xP zt189 7 18 [some (.long y48), none, some (.long 1), none, some (.long 9), none] [.int 0] rfl rfl ?_
    refine z_xrz zt189 8 rfl zzr189 (by decide) (by decide) ?_
    show z_ev (d + 2) 221 20 [some (.ref 19), some (.int p1), some (.int p2), some (.int p3), some (.int p4), none] [.int 0] M0 _
    refine z_xZ zt221 8 rfl rfl (fun (h53 : (0 : Int) ≠ 0) => absurd h53 (by omega)) (fun (h53 : (0 : Int) = 0) => ?_)
    refine z_xP zt221 9 24 [some (.ref 19), some (.int p1), some (.int p2), some (.int p3), some (.int p4), none] [.int (-1)] rfl rfl ?_
    have qm1 : (((-1) : Int32)).toInt = (-1) := rfl
    exact z_xri zt221 10 rfl zzr221 (kk (-1) M0 X (by omega) (by omega))
  refine z_xP zt189 3 9 [some (.long y48), none, some (.long 1), none, some (.long 9), none] [.long 9, .long y48] rfl rfl ?_
  refine z_xI zt189 4 rfl rfl (fun (x54 : Int32) (h55 : (x54.toInt < 0 ∧ y48.toInt < 9) ∨ (x54.toInt = 0 ∧ y48.toInt = 9) ∨ (0 < x54.toInt ∧ 9 < y48.toInt)) => ?_) (z_qCmp rfl rfl)
  refine z_xZ zt189 5 rfl rfl (fun (h56 : 0 < x54.toInt) => ?_) (fun (h56 : x54.toInt ≤ 0) => ?_)
  · skip
    refine z_xP zt189 7 18 [some (.long y48), none, some (.long 1), none, some (.long 9), none] [.int 0] rfl rfl ?_
    refine z_xrz zt189 8 rfl zzr189 (by decide) (by decide) ?_
    show z_ev (d + 2) 221 20 [some (.ref 19), some (.int p1), some (.int p2), some (.int p3), some (.int p4), none] [.int 0] M0 _
    refine z_xZ zt221 8 rfl rfl (fun (h57 : (0 : Int) ≠ 0) => absurd h57 (by omega)) (fun (h57 : (0 : Int) = 0) => ?_)
    refine z_xP zt221 9 24 [some (.ref 19), some (.int p1), some (.int p2), some (.int p3), some (.int p4), none] [.int (-1)] rfl rfl ?_
    have qm1 : (((-1) : Int32)).toInt = (-1) := rfl
    exact z_xri zt221 10 rfl zzr221 (kk (-1) M0 X (by omega) (by omega))
  refine z_xP zt189 6 18 [some (.long y48), none, some (.long 1), none, some (.long 9), none] [.int 1] rfl rfl ?_
  refine z_xrz zt189 8 rfl zzr189 (by decide) (by decide) ?_
  show z_ev (d + 2) 221 20 [some (.ref 19), some (.int p1), some (.int p2), some (.int p3), some (.int p4), none] [.int 1] M0 _
  refine z_xZ zt221 8 rfl rfl (fun (h58 : (1 : Int) ≠ 0) => ?_) (fun (h58 : (1 : Int) = 0) => absurd h58 (by omega))
  refine z_xP zt221 11 30 [some (.ref 19), some (.int p1), some (.int p2), some (.int p3), some (.int p4), none] [.int p4, .int p3, .int p1, .ref 19] rfl rfl ?_
  refine z_xcV (vs := [.ref 19, .int p1, .int p3, .int p4]) (r := []) (L2 := [some (.ref 19), some (.int p1), some (.int p3), some (.int p4), none, none]) zt221 12 rfl zo221 zzcV12_222 (Or.inl rfl) rfl X f19 rfl rfl rfl (Nat.le_of_ble_eq_true rfl) zzm215 (Nat.le_of_ble_eq_true rfl) rfl ?_
  refine zC215 X.1 (by omega) (fun x61 M59 X60 h62 h63 => ?_)
  have X64 := X.go X60 (z_sb (by decide))
  show z_ev (d + 2) 221 33 [some (.ref 19), some (.int p1), some (.int p2), some (.int p3), some (.int p4), none] [.int x61] M59 _
  refine z_xZ zt221 13 rfl rfl (fun (h66 : x61.toInt ≠ 0) => ?_) (fun (h66 : x61.toInt = 0) => ?_)
  · skip
    refine z_xP zt221 16 40 [some (.ref 19), some (.int p1), some (.int p2), some (.int p3), some (.int p4), none] [.ref 19] rfl rfl ?_
    refine z_xgX (b := 35) zt221 17 rfl zo221 zzf12_55 X64 f19 (by decide) (by decide) rfl ?_
    refine z_xP zt221 18 44 [some (.ref 19), some (.int p1), some (.int p2), some (.int p3), some (.int p4), none] [.int p1, .ref 35] rfl rfl ?_
    have f35 : T[35]? = some (.inr (35, 0, 8, 0, 9)) := X64.1.k rfl (by decide)
    refine z_xil zt221 19 rfl X64 f35 (by decide) (by omega) (by omega) (fun (x67 : Int32) h68 (h69 : 0 ≤ x67.toInt) (h70 : x67.toInt ≤ 9) => ?_)
    refine z_xP zt221 20 47 [some (.ref 19), some (.int p1), some (.int p2), some (.int p3), some (.int p4), none] [.int 9, .int x67] rfl rfl ?_
    refine z_xJ zt221 21 rfl rfl (fun (h71 : x67.toInt ≠ 9) => ?_) (fun (h71 : x67.toInt = 9) => ?_)
    · skip
      refine z_xP zt221 24 56 [some (.ref 19), some (.int p1), some (.int p2), some (.int p3), some (.int p4), none] [.int p1, .int 9] rfl rfl ?_
      refine z_xI zt221 25 rfl rfl (fun (x72 : Int32) (h73 : x72.toInt = 9 * p1.toInt) => ?_) (z_pMul rfl rfl (by omega) (by omega))
      refine z_xP zt221 26 58 [some (.ref 19), some (.int p1), some (.int p2), some (.int p3), some (.int p4), none] [.ref 19, .int x72] rfl rfl ?_
      refine z_xgX (b := 35) zt221 27 rfl zo221 zzf12_55 X64 f19 (by decide) (by decide) rfl ?_
      refine z_xP zt221 28 62 [some (.ref 19), some (.int p1), some (.int p2), some (.int p3), some (.int p4), none] [.int p1, .ref 35, .int x72] rfl rfl ?_
      refine z_xil zt221 29 rfl X64 f35 (by decide) (by omega) (by omega) (fun (x74 : Int32) h75 (h76 : 0 ≤ x74.toInt) (h77 : x74.toInt ≤ 9) => ?_)
      have h78 := congrArg Int32.toInt (h75.symm.trans h68)
      refine z_xI zt221 30 rfl rfl (fun (x79 : Int32) (h80 : x79.toInt = x72.toInt + x74.toInt) => ?_) (z_pAdd rfl rfl (by omega) (by omega))
      refine z_xP zt221 31 67 [some (.ref 19), some (.int p1), some (.int p2), some (.int p3), some (.int p4), some (.int x79)] [.ref 19] rfl rfl ?_
      refine z_xgX (b := 32) zt221 32 rfl zo221 zzf12_46 X64 f19 (by decide) (by decide) rfl ?_
      refine z_xP zt221 33 73 [some (.ref 19), some (.int p1), some (.int p2), some (.int p3), some (.int p4), some (.int x79)] [.int p2, .int x79, .ref 32] rfl rfl ?_
      have f32 : T[32]? = some (.inr (32, 0, 72, (-2147483648), 2147483647)) := X64.1.k rfl (by decide)
      refine z_xis zt221 34 rfl X64 f32 (by decide) (by decide) (by omega) (by omega) (Int32.le_toInt _) (Int32.toInt_le _) (by decide) (fun M81 X82 e83 h84 => ?_)
      refine z_xP zt221 35 75 [some (.ref 19), some (.int p1), some (.int p2), some (.int p3), some (.int p4), some (.int x79)] [.ref 19] rfl rfl ?_
      refine z_xgX (b := 33) zt221 36 rfl zo221 zzf12_49 X82 f19 (by decide) (by decide) rfl ?_
      refine z_xP zt221 37 81 [some (.ref 19), some (.int p1), some (.int p2), some (.int p3), some (.int p4), some (.int x79)] [.int p3, .int x79, .ref 33] rfl rfl ?_
      have f33 : T[33]? = some (.inr (33, 0, 72, (-2147483648), 2147483647)) := X82.1.k rfl (by decide)
      refine z_xis zt221 38 rfl X82 f33 (by decide) (by decide) (by omega) (by omega) (Int32.le_toInt _) (Int32.toInt_le _) (by decide) (fun M85 X86 e87 h88 => ?_)
      refine z_xP zt221 39 83 [some (.ref 19), some (.int p1), some (.int p2), some (.int p3), some (.int p4), some (.int x79)] [.ref 19] rfl rfl ?_
      refine z_xgX (b := 34) zt221 40 rfl zo221 zzf12_52 X86 f19 (by decide) (by decide) rfl ?_
      refine z_xP zt221 41 90 [some (.ref 19), some (.int p1), some (.int p2), some (.int p3), some (.int p4), some (.int x79)] [.int p4, .int x79, .ref 34] rfl rfl ?_
      have f34 : T[34]? = some (.inr (34, 0, 72, (-2147483648), 2147483647)) := X86.1.k rfl (by decide)
      refine z_xis zt221 42 rfl X86 f34 (by decide) (by decide) (by omega) (by omega) (Int32.le_toInt _) (Int32.toInt_le _) (by decide) (fun M89 X90 e91 h92 => ?_)
      refine z_xP zt221 43 92 [some (.ref 19), some (.int p1), some (.int p2), some (.int p3), some (.int p4), some (.int x79)] [.ref 19] rfl rfl ?_
      refine z_xgX (b := 35) zt221 44 rfl zo221 zzf12_55 X90 f19 (by decide) (by decide) rfl ?_
      refine z_xP zt221 45 97 [some (.ref 19), some (.int p1), some (.int p2), some (.int p3), some (.int p4), some (.int x79)] [.int p1, .ref 35, .int p1, .ref 35] rfl rfl ?_
      refine z_xil zt221 46 rfl X90 f35 (by decide) (by omega) (by omega) (fun (x93 : Int32) h94 (h95 : 0 ≤ x93.toInt) (h96 : x93.toInt ≤ 9) => ?_)
      have h97 := congrArg Int32.toInt (h94.symm.trans ((congrFun (e91.a f35 (by decide)) _).trans ((congrFun (e87.a f35 (by decide)) _).trans ((congrFun (e83.a f35 (by decide)) _).trans h68))))
      refine z_xP zt221 47 99 [some (.ref 19), some (.int p1), some (.int p2), some (.int p3), some (.int p4), some (.int x79)] [.int 1, .int x93, .int p1, .ref 35] rfl rfl ?_
      refine z_xI zt221 48 rfl rfl (fun (x98 : Int32) (h99 : x98.toInt = x93.toInt + 1) => ?_) (z_pAdd rfl rfl (by omega) (by omega))
      refine z_xis zt221 49 rfl X90 f35 (by decide) (by decide) (by omega) (by omega) (by omega) (by omega) (by decide) (fun M100 X101 e102 h103 => ?_)
      refine z_xP zt221 50 102 [some (.ref 19), some (.int p1), some (.int p2), some (.int p3), some (.int p4), some (.int x79)] [.ref 19] rfl rfl ?_
      refine z_xgX (b := 35) zt221 51 rfl zo221 zzf12_55 X101 f19 (by decide) (by decide) rfl ?_
      refine z_xP zt221 52 106 [some (.ref 19), some (.int p1), some (.int p2), some (.int p3), some (.int p4), some (.int x79)] [.int p1, .ref 35] rfl rfl ?_
      refine z_xil zt221 53 rfl X101 f35 (by decide) (by omega) (by omega) (fun (x104 : Int32) h105 (h106 : 0 ≤ x104.toInt) (h107 : x104.toInt ≤ 9) => ?_)
      have h108 := congrArg Int32.toInt (h105.symm.trans (z_upe h103))
      refine z_xP zt221 54 108 [some (.ref 19), some (.int p1), some (.int p2), some (.int p3), some (.int p4), some (.int x79)] [.int 1, .int x104] rfl rfl ?_
      refine z_xI zt221 55 rfl rfl (fun (x109 : Int32) (h110 : x109.toInt = x104.toInt - 1) => ?_) (z_pSub rfl rfl (by omega) (by omega))
      exact z_xri zt221 56 rfl zzr221 (kk x109 M100 X101 (by omega) (by omega))
    refine z_xP zt221 22 52 [some (.ref 19), some (.int p1), some (.int p2), some (.int p3), some (.int p4), none] [.int (-3)] rfl rfl ?_
    have qm3 : (((-3) : Int32)).toInt = (-3) := rfl
    exact z_xri zt221 23 rfl zzr221 (kk (-3) M59 X64 (by omega) (by omega))
  refine z_xP zt221 14 38 [some (.ref 19), some (.int p1), some (.int p2), some (.int p3), some (.int p4), none] [.int (-2)] rfl rfl ?_
  have qm2 : (((-2) : Int32)).toInt = (-2) := rfl
  exact z_xri zt221 15 rfl zzr221 (kk (-2) M59 X64 (by omega) (by omega))
def zw222 : List Nat := [33, 34]
theorem zC222 {T : List zK} {d : Nat} {K : Option Value → zH → Prop} {p1 : Int32} {p2 : Int32} {p3 : Int32} {p4 : Int32} {M0 : zH} (hW : z_W M0 T)  (kk : ∀ (x : Int32) (M1 : zH), z_X T zw222 M0 M1 → (-2) ≤ x.toInt → x.toInt ≤ 1 → K (some (.int x)) M1) : z_ev (d + 2) 222 0 [some (.ref 19), some (.int p1), some (.int p2), some (.int p3), some (.int p4)] [] M0 K := by
  have X : z_X T zw222 M0 M0 := .refl hW
  refine z_xP zt222 0 3 [some (.ref 19), some (.int p1), some (.int p2), some (.int p3), some (.int p4)] [.int p2, .int p1, .ref 19] rfl rfl ?_
  have f19 : T[19]? = some (.inl (12, 0, 0, 0, 0)) := X.1.k rfl (by decide)
  refine z_xcV (vs := [.ref 19, .int p1, .int p2]) (r := []) (L2 := [some (.ref 19), some (.int p1), some (.int p2)]) zt222 1 rfl zo222 zzcV12_234 (Or.inl rfl) rfl X f19 rfl rfl rfl (Nat.le_of_ble_eq_true rfl) zzm223 (Nat.le_of_ble_eq_true rfl) rfl ?_
  refine z_xP zt223 0 2 [some (.ref 19), some (.int p1), some (.int p2)] [.int p1, .ref 19] rfl rfl ?_
  refine z_xcV (vs := [.ref 19, .int p1]) (r := []) (L2 := [some (.ref 19), some (.int p1)]) zt223 1 rfl zo223 zzcV12_209 (Or.inl rfl) rfl X f19 rfl rfl rfl (Nat.le_of_ble_eq_true rfl) zzm209 (Nat.le_of_ble_eq_true rfl) rfl ?_
  refine z_xP zt209 0 1 [some (.ref 19), some (.int p1)] [.int p1] rfl rfl ?_
  refine z_xZ zt209 1 rfl rfl (fun (h1 : p1.toInt < 0) => ?_) (fun (h1 : 0 ≤ p1.toInt) => ?_)
  · skip
    refine z_xP zt209 6 17 [some (.ref 19), some (.int p1)] [.int 0] rfl rfl ?_
    refine z_xrz zt209 7 rfl zzr209 (by decide) (by decide) ?_
    show z_ev (d + 1) 223 5 [some (.ref 19), some (.int p1), some (.int p2)] [.int 0] M0 _
    refine z_xZ zt223 2 rfl rfl (fun (h2 : (0 : Int) = 0) => ?_) (fun (h2 : (0 : Int) ≠ 0) => absurd h2 (by omega))
    refine z_xP zt223 11 27 [some (.ref 19), some (.int p1), some (.int p2)] [.int 0] rfl rfl ?_
    refine z_xrz zt223 12 rfl zzr223 (by decide) (by decide) ?_
    show z_ev (d + 2) 222 6 [some (.ref 19), some (.int p1), some (.int p2), some (.int p3), some (.int p4)] [.int 0] M0 _
    refine z_xZ zt222 2 rfl rfl (fun (h3 : (0 : Int) = 0) => ?_) (fun (h3 : (0 : Int) ≠ 0) => absurd h3 (by omega))
    refine z_xP zt222 6 21 [some (.ref 19), some (.int p1), some (.int p2), some (.int p3), some (.int p4)] [.int (-1)] rfl rfl ?_
    have qm1 : (((-1) : Int32)).toInt = (-1) := rfl
    exact z_xri zt222 7 rfl zzr222 (kk (-1) M0 X (by omega) (by omega))
  refine z_xP zt209 2 6 [some (.ref 19), some (.int p1)] [.ref 19, .int p1] rfl rfl ?_
  refine z_xgI zt209 3 rfl zo209 zzf12_110 X f19 (by decide) (by decide) rfl (fun (x5 : Int32) h4 (h6 : 0 ≤ x5.toInt) (h7 : x5.toInt ≤ 8) => ?_)
  have h8 := z_b32 p1
  refine z_xJ zt209 4 rfl rfl (fun (h9 : x5.toInt ≤ p1.toInt) => ?_) (fun (h9 : p1.toInt < x5.toInt) => ?_)
  · skip
    refine z_xP zt209 6 17 [some (.ref 19), some (.int p1)] [.int 0] rfl rfl ?_
    refine z_xrz zt209 7 rfl zzr209 (by decide) (by decide) ?_
    show z_ev (d + 1) 223 5 [some (.ref 19), some (.int p1), some (.int p2)] [.int 0] M0 _
    refine z_xZ zt223 2 rfl rfl (fun (h10 : (0 : Int) = 0) => ?_) (fun (h10 : (0 : Int) ≠ 0) => absurd h10 (by omega))
    refine z_xP zt223 11 27 [some (.ref 19), some (.int p1), some (.int p2)] [.int 0] rfl rfl ?_
    refine z_xrz zt223 12 rfl zzr223 (by decide) (by decide) ?_
    show z_ev (d + 2) 222 6 [some (.ref 19), some (.int p1), some (.int p2), some (.int p3), some (.int p4)] [.int 0] M0 _
    refine z_xZ zt222 2 rfl rfl (fun (h11 : (0 : Int) = 0) => ?_) (fun (h11 : (0 : Int) ≠ 0) => absurd h11 (by omega))
    refine z_xP zt222 6 21 [some (.ref 19), some (.int p1), some (.int p2), some (.int p3), some (.int p4)] [.int (-1)] rfl rfl ?_
    have qm1 : (((-1) : Int32)).toInt = (-1) := rfl
    exact z_xri zt222 7 rfl zzr222 (kk (-1) M0 X (by omega) (by omega))
  refine z_xP zt209 5 17 [some (.ref 19), some (.int p1)] [.int 1] rfl rfl ?_
  refine z_xrz zt209 7 rfl zzr209 (by decide) (by decide) ?_
  show z_ev (d + 1) 223 5 [some (.ref 19), some (.int p1), some (.int p2)] [.int 1] M0 _
  refine z_xZ zt223 2 rfl rfl (fun (h12 : (1 : Int) = 0) => absurd h12 (by omega)) (fun (h12 : (1 : Int) ≠ 0) => ?_)
  refine z_xP zt223 3 9 [some (.ref 19), some (.int p1), some (.int p2)] [.int p2] rfl rfl ?_
  refine z_xZ zt223 4 rfl rfl (fun (h13 : p2.toInt < 0) => ?_) (fun (h13 : 0 ≤ p2.toInt) => ?_)
  · skip
    refine z_xP zt223 11 27 [some (.ref 19), some (.int p1), some (.int p2)] [.int 0] rfl rfl ?_
    refine z_xrz zt223 12 rfl zzr223 (by decide) (by decide) ?_
    show z_ev (d + 2) 222 6 [some (.ref 19), some (.int p1), some (.int p2), some (.int p3), some (.int p4)] [.int 0] M0 _
    refine z_xZ zt222 2 rfl rfl (fun (h14 : (0 : Int) = 0) => ?_) (fun (h14 : (0 : Int) ≠ 0) => absurd h14 (by omega))
    refine z_xP zt222 6 21 [some (.ref 19), some (.int p1), some (.int p2), some (.int p3), some (.int p4)] [.int (-1)] rfl rfl ?_
    have qm1 : (((-1) : Int32)).toInt = (-1) := rfl
    exact z_xri zt222 7 rfl zzr222 (kk (-1) M0 X (by omega) (by omega))
  refine z_xP zt223 5 14 [some (.ref 19), some (.int p1), some (.int p2)] [.ref 19, .int p2] rfl rfl ?_
  refine z_xgX (b := 35) zt223 6 rfl zo223 zzf12_55 X f19 (by decide) (by decide) rfl ?_
  refine z_xP zt223 7 18 [some (.ref 19), some (.int p1), some (.int p2)] [.int p1, .ref 35, .int p2] rfl rfl ?_
  have f35 : T[35]? = some (.inr (35, 0, 8, 0, 9)) := X.1.k rfl (by decide)
  refine z_xil zt223 8 rfl X f35 (by decide) (by omega) (by omega) (fun (x15 : Int32) h16 (h17 : 0 ≤ x15.toInt) (h18 : x15.toInt ≤ 9) => ?_)
  have h19 := z_b32 p2
  refine z_xJ zt223 9 rfl rfl (fun (h20 : x15.toInt ≤ p2.toInt) => ?_) (fun (h20 : p2.toInt < x15.toInt) => ?_)
  · skip
    refine z_xP zt223 11 27 [some (.ref 19), some (.int p1), some (.int p2)] [.int 0] rfl rfl ?_
    refine z_xrz zt223 12 rfl zzr223 (by decide) (by decide) ?_
    show z_ev (d + 2) 222 6 [some (.ref 19), some (.int p1), some (.int p2), some (.int p3), some (.int p4)] [.int 0] M0 _
    refine z_xZ zt222 2 rfl rfl (fun (h21 : (0 : Int) = 0) => ?_) (fun (h21 : (0 : Int) ≠ 0) => absurd h21 (by omega))
    refine z_xP zt222 6 21 [some (.ref 19), some (.int p1), some (.int p2), some (.int p3), some (.int p4)] [.int (-1)] rfl rfl ?_
    have qm1 : (((-1) : Int32)).toInt = (-1) := rfl
    exact z_xri zt222 7 rfl zzr222 (kk (-1) M0 X (by omega) (by omega))
  refine z_xP zt223 10 27 [some (.ref 19), some (.int p1), some (.int p2)] [.int 1] rfl rfl ?_
  refine z_xrz zt223 12 rfl zzr223 (by decide) (by decide) ?_
  show z_ev (d + 2) 222 6 [some (.ref 19), some (.int p1), some (.int p2), some (.int p3), some (.int p4)] [.int 1] M0 _
  refine z_xZ zt222 2 rfl rfl (fun (h22 : (1 : Int) = 0) => absurd h22 (by omega)) (fun (h22 : (1 : Int) ≠ 0) => ?_)
  refine z_xP zt222 3 14 [some (.ref 19), some (.int p1), some (.int p2), some (.int p3), some (.int p4)] [.int p4, .int p3, .int p1, .ref 19] rfl rfl ?_
  refine z_xcV (vs := [.ref 19, .int p1, .int p3, .int p4]) (r := []) (L2 := [some (.ref 19), some (.int p1), some (.int p3), some (.int p4)]) zt222 4 rfl zo222 zzcV12_219 (Or.inl rfl) rfl X f19 rfl rfl rfl (Nat.le_of_ble_eq_true rfl) zzm214 (Nat.le_of_ble_eq_true rfl) rfl ?_
  refine z_xP zt214 0 2 [some (.ref 19), some (.int p1), some (.int p3), some (.int p4)] [.int p1, .ref 19] rfl rfl ?_
  refine z_xcV (vs := [.ref 19, .int p1]) (r := []) (L2 := [some (.ref 19), some (.int p1)]) zt214 1 rfl zo214 zzcV12_209 (Or.inl rfl) rfl X f19 rfl rfl rfl (Nat.le_of_ble_eq_true rfl) zzm209 (Nat.le_of_ble_eq_true rfl) rfl ?_
  refine z_xP zt209 0 1 [some (.ref 19), some (.int p1)] [.int p1] rfl rfl ?_
  refine z_xZ zt209 1 rfl rfl (fun (h23 : p1.toInt < 0) => absurd h23 (by omega)) (fun (h23 : 0 ≤ p1.toInt) => ?_)
  refine z_xP zt209 2 6 [some (.ref 19), some (.int p1)] [.ref 19, .int p1] rfl rfl ?_
  refine z_xgv zt209 3 rfl zo209 zzf12_110 X f19 (by decide) h4 ?_
  refine z_xJ zt209 4 rfl rfl (fun (h24 : x5.toInt ≤ p1.toInt) => ?_) (fun (h24 : p1.toInt < x5.toInt) => ?_)
  · skip
    refine z_xP zt209 6 17 [some (.ref 19), some (.int p1)] [.int 0] rfl rfl ?_
    refine z_xrz zt209 7 rfl zzr209 (by decide) (by decide) ?_
    show z_ev (d + 1) 214 5 [some (.ref 19), some (.int p1), some (.int p3), some (.int p4)] [.int 0] M0 _
    refine z_xZ zt214 2 rfl rfl (fun (h25 : (0 : Int) = 0) => ?_) (fun (h25 : (0 : Int) ≠ 0) => absurd h25 (by omega))
    refine z_xP zt214 13 37 [some (.ref 19), some (.int p1), some (.int p3), some (.int p4)] [.int 0] rfl rfl ?_
    refine z_xrz zt214 14 rfl zzr214 (by decide) (by decide) ?_
    show z_ev (d + 2) 222 17 [some (.ref 19), some (.int p1), some (.int p2), some (.int p3), some (.int p4)] [.int 0] M0 _
    refine z_xZ zt222 5 rfl rfl (fun (h26 : (0 : Int) ≠ 0) => absurd h26 (by omega)) (fun (h26 : (0 : Int) = 0) => ?_)
    refine z_xP zt222 6 21 [some (.ref 19), some (.int p1), some (.int p2), some (.int p3), some (.int p4)] [.int (-1)] rfl rfl ?_
    have qm1 : (((-1) : Int32)).toInt = (-1) := rfl
    exact z_xri zt222 7 rfl zzr222 (kk (-1) M0 X (by omega) (by omega))
  refine z_xP zt209 5 17 [some (.ref 19), some (.int p1)] [.int 1] rfl rfl ?_
  refine z_xrz zt209 7 rfl zzr209 (by decide) (by decide) ?_
  show z_ev (d + 1) 214 5 [some (.ref 19), some (.int p1), some (.int p3), some (.int p4)] [.int 1] M0 _
  refine z_xZ zt214 2 rfl rfl (fun (h27 : (1 : Int) = 0) => absurd h27 (by omega)) (fun (h27 : (1 : Int) ≠ 0) => ?_)
  refine z_xP zt214 3 11 [some (.ref 19), some (.int p1), some (.int p3), some (.int p4)] [.int p3, .int p1, .ref 19] rfl rfl ?_
  refine z_xcV (vs := [.ref 19, .int p1, .int p3]) (r := []) (L2 := [some (.ref 19), some (.int p1), some (.int p3)]) zt214 4 rfl zo214 zzcV12_212 (Or.inl rfl) rfl X f19 rfl rfl rfl (Nat.le_of_ble_eq_true rfl) zzm212 (Nat.le_of_ble_eq_true rfl) rfl ?_
  refine z_xP zt212 0 1 [some (.ref 19), some (.int p1), some (.int p3)] [.int p3] rfl rfl ?_
  refine z_xZ zt212 1 rfl rfl (fun (h28 : p3.toInt < 0) => ?_) (fun (h28 : 0 ≤ p3.toInt) => ?_)
  · skip
    refine z_xP zt212 9 21 [some (.ref 19), some (.int p1), some (.int p3)] [.int 0] rfl rfl ?_
    refine z_xrz zt212 10 rfl zzr212 (by decide) (by decide) ?_
    show z_ev (d + 1) 214 14 [some (.ref 19), some (.int p1), some (.int p3), some (.int p4)] [.int 0] M0 _
    refine z_xZ zt214 5 rfl rfl (fun (h29 : (0 : Int) = 0) => ?_) (fun (h29 : (0 : Int) ≠ 0) => absurd h29 (by omega))
    refine z_xP zt214 13 37 [some (.ref 19), some (.int p1), some (.int p3), some (.int p4)] [.int 0] rfl rfl ?_
    refine z_xrz zt214 14 rfl zzr214 (by decide) (by decide) ?_
    show z_ev (d + 2) 222 17 [some (.ref 19), some (.int p1), some (.int p2), some (.int p3), some (.int p4)] [.int 0] M0 _
    refine z_xZ zt222 5 rfl rfl (fun (h30 : (0 : Int) ≠ 0) => absurd h30 (by omega)) (fun (h30 : (0 : Int) = 0) => ?_)
    refine z_xP zt222 6 21 [some (.ref 19), some (.int p1), some (.int p2), some (.int p3), some (.int p4)] [.int (-1)] rfl rfl ?_
    have qm1 : (((-1) : Int32)).toInt = (-1) := rfl
    exact z_xri zt222 7 rfl zzr222 (kk (-1) M0 X (by omega) (by omega))
  refine z_xP zt212 2 7 [some (.ref 19), some (.int p1), some (.int p3)] [.ref 19, .int 1, .int p3] rfl rfl ?_
  refine z_xgX (b := 24) zt212 3 rfl zo212 zzf12_22 X f19 (by decide) (by decide) rfl ?_
  refine z_xP zt212 4 11 [some (.ref 19), some (.int p1), some (.int p3)] [.int p1, .ref 24, .int 1, .int p3] rfl rfl ?_
  have f24 : T[24]? = some (.inr (24, 0, 8, 0, 10)) := X.1.k rfl (by decide)
  refine z_xil zt212 5 rfl X f24 (by decide) (by omega) (by omega) (fun (x31 : Int32) h32 (h33 : 0 ≤ x31.toInt) (h34 : x31.toInt ≤ 10) => ?_)
  refine z_xI zt212 6 rfl rfl (fun (x35 : Int32) (h36 : 1 ≤ x35.toInt ∧ x35.toInt ≤ 1024) => ?_) (z_pShlB (a := 1) (b := 10) (c := 1024) (r := 1024) rfl rfl (by omega) (by omega) (by omega) (by omega) (by decide) (by decide) (by decide) (by decide))
  have h37 := z_b32 p3
  refine z_xJ zt212 7 rfl rfl (fun (h38 : x35.toInt ≤ p3.toInt) => ?_) (fun (h38 : p3.toInt < x35.toInt) => ?_)
  · skip
    refine z_xP zt212 9 21 [some (.ref 19), some (.int p1), some (.int p3)] [.int 0] rfl rfl ?_
    refine z_xrz zt212 10 rfl zzr212 (by decide) (by decide) ?_
    show z_ev (d + 1) 214 14 [some (.ref 19), some (.int p1), some (.int p3), some (.int p4)] [.int 0] M0 _
    refine z_xZ zt214 5 rfl rfl (fun (h39 : (0 : Int) = 0) => ?_) (fun (h39 : (0 : Int) ≠ 0) => absurd h39 (by omega))
    refine z_xP zt214 13 37 [some (.ref 19), some (.int p1), some (.int p3), some (.int p4)] [.int 0] rfl rfl ?_
    refine z_xrz zt214 14 rfl zzr214 (by decide) (by decide) ?_
    show z_ev (d + 2) 222 17 [some (.ref 19), some (.int p1), some (.int p2), some (.int p3), some (.int p4)] [.int 0] M0 _
    refine z_xZ zt222 5 rfl rfl (fun (h40 : (0 : Int) ≠ 0) => absurd h40 (by omega)) (fun (h40 : (0 : Int) = 0) => ?_)
    refine z_xP zt222 6 21 [some (.ref 19), some (.int p1), some (.int p2), some (.int p3), some (.int p4)] [.int (-1)] rfl rfl ?_
    have qm1 : (((-1) : Int32)).toInt = (-1) := rfl
    exact z_xri zt222 7 rfl zzr222 (kk (-1) M0 X (by omega) (by omega))
  refine z_xP zt212 8 21 [some (.ref 19), some (.int p1), some (.int p3)] [.int 1] rfl rfl ?_
  refine z_xrz zt212 10 rfl zzr212 (by decide) (by decide) ?_
  show z_ev (d + 1) 214 14 [some (.ref 19), some (.int p1), some (.int p3), some (.int p4)] [.int 1] M0 _
  refine z_xZ zt214 5 rfl rfl (fun (h41 : (1 : Int) = 0) => absurd h41 (by omega)) (fun (h41 : (1 : Int) ≠ 0) => ?_)
  refine z_xP zt214 6 20 [some (.ref 19), some (.int p1), some (.int p3), some (.int p4)] [.int p4, .int p1, .ref 19] rfl rfl ?_
  refine z_xcV (vs := [.ref 19, .int p1, .int p4]) (r := []) (L2 := [some (.ref 19), some (.int p1), some (.int p4)]) zt214 7 rfl zo214 zzcV12_212 (Or.inl rfl) rfl X f19 rfl rfl rfl (Nat.le_of_ble_eq_true rfl) zzm212 (Nat.le_of_ble_eq_true rfl) rfl ?_
  refine z_xP zt212 0 1 [some (.ref 19), some (.int p1), some (.int p4)] [.int p4] rfl rfl ?_
  refine z_xZ zt212 1 rfl rfl (fun (h42 : p4.toInt < 0) => ?_) (fun (h42 : 0 ≤ p4.toInt) => ?_)
  · skip
    refine z_xP zt212 9 21 [some (.ref 19), some (.int p1), some (.int p4)] [.int 0] rfl rfl ?_
    refine z_xrz zt212 10 rfl zzr212 (by decide) (by decide) ?_
    show z_ev (d + 1) 214 23 [some (.ref 19), some (.int p1), some (.int p3), some (.int p4)] [.int 0] M0 _
    refine z_xZ zt214 8 rfl rfl (fun (h43 : (0 : Int) = 0) => ?_) (fun (h43 : (0 : Int) ≠ 0) => absurd h43 (by omega))
    refine z_xP zt214 13 37 [some (.ref 19), some (.int p1), some (.int p3), some (.int p4)] [.int 0] rfl rfl ?_
    refine z_xrz zt214 14 rfl zzr214 (by decide) (by decide) ?_
    show z_ev (d + 2) 222 17 [some (.ref 19), some (.int p1), some (.int p2), some (.int p3), some (.int p4)] [.int 0] M0 _
    refine z_xZ zt222 5 rfl rfl (fun (h44 : (0 : Int) ≠ 0) => absurd h44 (by omega)) (fun (h44 : (0 : Int) = 0) => ?_)
    refine z_xP zt222 6 21 [some (.ref 19), some (.int p1), some (.int p2), some (.int p3), some (.int p4)] [.int (-1)] rfl rfl ?_
    have qm1 : (((-1) : Int32)).toInt = (-1) := rfl
    exact z_xri zt222 7 rfl zzr222 (kk (-1) M0 X (by omega) (by omega))
  refine z_xP zt212 2 7 [some (.ref 19), some (.int p1), some (.int p4)] [.ref 19, .int 1, .int p4] rfl rfl ?_
  refine z_xgX (b := 24) zt212 3 rfl zo212 zzf12_22 X f19 (by decide) (by decide) rfl ?_
  refine z_xP zt212 4 11 [some (.ref 19), some (.int p1), some (.int p4)] [.int p1, .ref 24, .int 1, .int p4] rfl rfl ?_
  refine z_xil zt212 5 rfl X f24 (by decide) (by omega) (by omega) (fun (x45 : Int32) h46 (h47 : 0 ≤ x45.toInt) (h48 : x45.toInt ≤ 10) => ?_)
  have h49 := congrArg Int32.toInt (h46.symm.trans h32)
  refine z_xI zt212 6 rfl rfl (fun (x50 : Int32) (h51 : 1 ≤ x50.toInt ∧ x50.toInt ≤ 1024) => ?_) (z_pShlB (a := 1) (b := 10) (c := 1024) (r := 1024) rfl rfl (by omega) (by omega) (by omega) (by omega) (by decide) (by decide) (by decide) (by decide))
  have h52 := z_b32 p4
  refine z_xJ zt212 7 rfl rfl (fun (h53 : x50.toInt ≤ p4.toInt) => ?_) (fun (h53 : p4.toInt < x50.toInt) => ?_)
  · skip
    refine z_xP zt212 9 21 [some (.ref 19), some (.int p1), some (.int p4)] [.int 0] rfl rfl ?_
    refine z_xrz zt212 10 rfl zzr212 (by decide) (by decide) ?_
    show z_ev (d + 1) 214 23 [some (.ref 19), some (.int p1), some (.int p3), some (.int p4)] [.int 0] M0 _
    refine z_xZ zt214 8 rfl rfl (fun (h54 : (0 : Int) = 0) => ?_) (fun (h54 : (0 : Int) ≠ 0) => absurd h54 (by omega))
    refine z_xP zt214 13 37 [some (.ref 19), some (.int p1), some (.int p3), some (.int p4)] [.int 0] rfl rfl ?_
    refine z_xrz zt214 14 rfl zzr214 (by decide) (by decide) ?_
    show z_ev (d + 2) 222 17 [some (.ref 19), some (.int p1), some (.int p2), some (.int p3), some (.int p4)] [.int 0] M0 _
    refine z_xZ zt222 5 rfl rfl (fun (h55 : (0 : Int) ≠ 0) => absurd h55 (by omega)) (fun (h55 : (0 : Int) = 0) => ?_)
    refine z_xP zt222 6 21 [some (.ref 19), some (.int p1), some (.int p2), some (.int p3), some (.int p4)] [.int (-1)] rfl rfl ?_
    have qm1 : (((-1) : Int32)).toInt = (-1) := rfl
    exact z_xri zt222 7 rfl zzr222 (kk (-1) M0 X (by omega) (by omega))
  refine z_xP zt212 8 21 [some (.ref 19), some (.int p1), some (.int p4)] [.int 1] rfl rfl ?_
  refine z_xrz zt212 10 rfl zzr212 (by decide) (by decide) ?_
  show z_ev (d + 1) 214 23 [some (.ref 19), some (.int p1), some (.int p3), some (.int p4)] [.int 1] M0 _
  refine z_xZ zt214 8 rfl rfl (fun (h56 : (1 : Int) = 0) => absurd h56 (by omega)) (fun (h56 : (1 : Int) ≠ 0) => ?_)
  refine z_xP zt214 9 28 [some (.ref 19), some (.int p1), some (.int p3), some (.int p4)] [.int p4, .int p3] rfl rfl ?_
  refine z_xI zt214 10 rfl rfl (fun (x57 : Int32) (h58 : 0 ≤ x57.toInt ∧ x57.toInt ≤ p3.toInt ∧ x57.toInt ≤ p4.toInt) => ?_) (z_pAnd2 rfl rfl (by omega) (by omega))
  refine z_xZ zt214 11 rfl rfl (fun (h59 : x57.toInt ≠ 0) => ?_) (fun (h59 : x57.toInt = 0) => ?_)
  · skip
    refine z_xP zt214 13 37 [some (.ref 19), some (.int p1), some (.int p3), some (.int p4)] [.int 0] rfl rfl ?_
    refine z_xrz zt214 14 rfl zzr214 (by decide) (by decide) ?_
    show z_ev (d + 2) 222 17 [some (.ref 19), some (.int p1), some (.int p2), some (.int p3), some (.int p4)] [.int 0] M0 _
    refine z_xZ zt222 5 rfl rfl (fun (h60 : (0 : Int) ≠ 0) => absurd h60 (by omega)) (fun (h60 : (0 : Int) = 0) => ?_)
    refine z_xP zt222 6 21 [some (.ref 19), some (.int p1), some (.int p2), some (.int p3), some (.int p4)] [.int (-1)] rfl rfl ?_
    have qm1 : (((-1) : Int32)).toInt = (-1) := rfl
    exact z_xri zt222 7 rfl zzr222 (kk (-1) M0 X (by omega) (by omega))
  refine z_xP zt214 12 37 [some (.ref 19), some (.int p1), some (.int p3), some (.int p4)] [.int 1] rfl rfl ?_
  refine z_xrz zt214 14 rfl zzr214 (by decide) (by decide) ?_
  show z_ev (d + 2) 222 17 [some (.ref 19), some (.int p1), some (.int p2), some (.int p3), some (.int p4)] [.int 1] M0 _
  refine z_xZ zt222 5 rfl rfl (fun (h61 : (1 : Int) ≠ 0) => ?_) (fun (h61 : (1 : Int) = 0) => absurd h61 (by omega))
  refine z_xP zt222 8 27 [some (.ref 19), some (.int p1), some (.int p2), some (.int p3), some (.int p4)] [.int p4, .int p3, .int p1, .ref 19] rfl rfl ?_
  refine z_xcV (vs := [.ref 19, .int p1, .int p3, .int p4]) (r := []) (L2 := [some (.ref 19), some (.int p1), some (.int p3), some (.int p4), none, none]) zt222 9 rfl zo222 zzcV12_222 (Or.inl rfl) rfl X f19 rfl rfl rfl (Nat.le_of_ble_eq_true rfl) zzm215 (Nat.le_of_ble_eq_true rfl) rfl ?_
  refine zC215 X.1 (by omega) (fun x64 M62 X63 h65 h66 => ?_)
  have X67 := X.go X63 (z_sb (by decide))
  show z_ev (d + 2) 222 30 [some (.ref 19), some (.int p1), some (.int p2), some (.int p3), some (.int p4)] [.int x64] M62 _
  refine z_xZ zt222 10 rfl rfl (fun (h69 : x64.toInt ≠ 0) => ?_) (fun (h69 : x64.toInt = 0) => ?_)
  · skip
    refine z_xP zt222 13 37 [some (.ref 19), some (.int p1), some (.int p2), some (.int p3), some (.int p4)] [.ref 19] rfl rfl ?_
    refine z_xgX (b := 33) zt222 14 rfl zo222 zzf12_49 X67 f19 (by decide) (by decide) rfl ?_
    refine z_xP zt222 15 43 [some (.ref 19), some (.int p1), some (.int p2), some (.int p3), some (.int p4)] [.int p1, .int 9, .ref 33] rfl rfl ?_
    refine z_xI zt222 16 rfl rfl (fun (x70 : Int32) (h71 : x70.toInt = 9 * p1.toInt) => ?_) (z_pMul rfl rfl (by omega) (by omega))
    refine z_xP zt222 17 45 [some (.ref 19), some (.int p1), some (.int p2), some (.int p3), some (.int p4)] [.int p2, .int x70, .ref 33] rfl rfl ?_
    refine z_xI zt222 18 rfl rfl (fun (x72 : Int32) (h73 : x72.toInt = x70.toInt + p2.toInt) => ?_) (z_pAdd rfl rfl (by omega) (by omega))
    refine z_xP zt222 19 47 [some (.ref 19), some (.int p1), some (.int p2), some (.int p3), some (.int p4)] [.int p3, .int x72, .ref 33] rfl rfl ?_
    have f33 : T[33]? = some (.inr (33, 0, 72, (-2147483648), 2147483647)) := X67.1.k rfl (by decide)
    refine z_xis zt222 20 rfl X67 f33 (by decide) (by decide) (by omega) (by omega) (Int32.le_toInt _) (Int32.toInt_le _) (by decide) (fun M74 X75 e76 h77 => ?_)
    refine z_xP zt222 21 49 [some (.ref 19), some (.int p1), some (.int p2), some (.int p3), some (.int p4)] [.ref 19] rfl rfl ?_
    refine z_xgX (b := 34) zt222 22 rfl zo222 zzf12_52 X75 f19 (by decide) (by decide) rfl ?_
    refine z_xP zt222 23 55 [some (.ref 19), some (.int p1), some (.int p2), some (.int p3), some (.int p4)] [.int p1, .int 9, .ref 34] rfl rfl ?_
    refine z_xI zt222 24 rfl rfl (fun (x78 : Int32) (h79 : x78.toInt = 9 * p1.toInt) => ?_) (z_pMul rfl rfl (by omega) (by omega))
    refine z_xP zt222 25 57 [some (.ref 19), some (.int p1), some (.int p2), some (.int p3), some (.int p4)] [.int p2, .int x78, .ref 34] rfl rfl ?_
    refine z_xI zt222 26 rfl rfl (fun (x80 : Int32) (h81 : x80.toInt = x78.toInt + p2.toInt) => ?_) (z_pAdd rfl rfl (by omega) (by omega))
    refine z_xP zt222 27 60 [some (.ref 19), some (.int p1), some (.int p2), some (.int p3), some (.int p4)] [.int p4, .int x80, .ref 34] rfl rfl ?_
    have f34 : T[34]? = some (.inr (34, 0, 72, (-2147483648), 2147483647)) := X75.1.k rfl (by decide)
    refine z_xis zt222 28 rfl X75 f34 (by decide) (by decide) (by omega) (by omega) (Int32.le_toInt _) (Int32.toInt_le _) (by decide) (fun M82 X83 e84 h85 => ?_)
    refine z_xP zt222 29 62 [some (.ref 19), some (.int p1), some (.int p2), some (.int p3), some (.int p4)] [.int 1] rfl rfl ?_
    have q1 : ((1 : Int32)).toInt = 1 := rfl
    exact z_xri zt222 30 rfl zzr222 (kk 1 M82 X83 (by omega) (by omega))
  refine z_xP zt222 11 35 [some (.ref 19), some (.int p1), some (.int p2), some (.int p3), some (.int p4)] [.int (-2)] rfl rfl ?_
  have qm2 : (((-2) : Int32)).toInt = (-2) := rfl
  exact z_xri zt222 12 rfl zzr222 (kk (-2) M62 X67 (by omega) (by omega))
def zw224 : List Nat := [33, 34]
theorem zB224 {T : List zK} {d : Nat} {K : Option Value → zH → Prop} {p1 : Int32} {p2 : Int32} {p3 : Int32} {p4 : Int32} {M0 : zH}  (kk : ∀ (x : Int32) (M1 : zH), z_X T zw224 M0 M1 → K (some (.int x)) M1) : ∀ n : Nat, (∀ (M : zH) (b5 : Int32) (b6 : Int32) (b7 : Int32) (b8 : Int32) (o9 : Option Value) (o11 : Option Value), z_X T zw224 M0 M → 0 ≤ p1.toInt ∧ p1.toInt ≤ 7 → 0 ≤ p2.toInt ∧ p2.toInt ≤ 8 → 0 ≤ p3.toInt ∧ p3.toInt ≤ 5 → 0 ≤ b5.toInt ∧ b5.toInt ≤ 1023 → 0 ≤ b6.toInt ∧ b6.toInt ≤ 1023 → 0 ≤ b7.toInt ∧ b7.toInt ≤ 1 → 0 ≤ b8.toInt ∧ b8.toInt ≤ 10 → ((0) * 2 + 0) * 11 + (10 - b8.toInt) < (n : Int) → z_ev (d + 2) 224 54 [some (.ref 19), some (.int p1), some (.int p2), some (.int p3), some (.int p4), some (.int b5), some (.int b6), some (.int b7), some (.int b8), o9, none, o11] [] M K) := by
  intro n
  induction n with
  | zero => exact by intros; exfalso; omega
  | succ n ih =>
    intro M b5 b6 b7 b8 o9 o11 X hh0 hh1 hh2 hh3 hh4 hh5 hh6 hE
    refine z_xP zt224 23 57 [some (.ref 19), some (.int p1), some (.int p2), some (.int p3), some (.int p4), some (.int b5), some (.int b6), some (.int b7), some (.int b8), o9, none, o11] [.ref 19, .int b8] rfl rfl ?_
    have f19 : T[19]? = some (.inl (12, 0, 0, 0, 0)) := X.1.k rfl (by decide)
    refine z_xgX (b := 24) zt224 24 rfl zo224 zzf12_22 X f19 (by decide) (by decide) rfl ?_
    refine z_xP zt224 25 61 [some (.ref 19), some (.int p1), some (.int p2), some (.int p3), some (.int p4), some (.int b5), some (.int b6), some (.int b7), some (.int b8), o9, none, o11] [.int p1, .ref 24, .int b8] rfl rfl ?_
    have f24 : T[24]? = some (.inr (24, 0, 8, 0, 10)) := X.1.k rfl (by decide)
    refine z_xil zt224 26 rfl X f24 (by decide) (by omega) (by omega) (fun (x1 : Int32) h2 (h3 : 0 ≤ x1.toInt) (h4 : x1.toInt ≤ 10) => ?_)
    refine z_xJ zt224 27 rfl rfl (fun (h5 : x1.toInt ≤ b8.toInt) => ?_) (fun (h5 : b8.toInt < x1.toInt) => ?_)
    · skip
      refine z_xP zt224 91 208 [some (.ref 19), some (.int p1), some (.int p2), some (.int p3), some (.int p4), some (.int b5), some (.int b6), some (.int b7), some (.int b8), o9, none, o11] [.int b6, .int b5, .int p1, .ref 19] rfl rfl ?_
      refine z_xcV (vs := [.ref 19, .int p1, .int b5, .int b6]) (r := []) (L2 := [some (.ref 19), some (.int p1), some (.int b5), some (.int b6), none, none]) zt224 92 rfl zo224 zzcV12_222 (Or.inl rfl) rfl X f19 rfl rfl rfl (Nat.le_of_ble_eq_true rfl) zzm215 (Nat.le_of_ble_eq_true rfl) rfl ?_
      refine zC215 X.1 (by omega) (fun x8 M6 X7 h9 h10 => ?_)
      have X11 := X.go X7 (z_sb (by decide))
      show z_ev (d + 2) 224 211 [some (.ref 19), some (.int p1), some (.int p2), some (.int p3), some (.int p4), some (.int b5), some (.int b6), some (.int b7), some (.int b8), o9, none, o11] [.int x8] M6 _
      refine z_xZ zt224 93 rfl rfl (fun (h13 : x8.toInt ≠ 0) => ?_) (fun (h13 : x8.toInt = 0) => ?_)
      · skip
        refine z_xP zt224 96 218 [some (.ref 19), some (.int p1), some (.int p2), some (.int p3), some (.int p4), some (.int b5), some (.int b6), some (.int b7), some (.int b8), o9, none, o11] [.ref 19] rfl rfl ?_
        refine z_xgX (b := 33) zt224 97 rfl zo224 zzf12_49 X11 f19 (by decide) (by decide) rfl ?_
        refine z_xP zt224 98 224 [some (.ref 19), some (.int p1), some (.int p2), some (.int p3), some (.int p4), some (.int b5), some (.int b6), some (.int b7), some (.int b8), o9, none, o11] [.int p1, .int 9, .ref 33] rfl rfl ?_
        refine z_xI zt224 99 rfl rfl (fun (x14 : Int32) (h15 : x14.toInt = 9 * p1.toInt) => ?_) (z_pMul rfl rfl (by omega) (by omega))
        refine z_xP zt224 100 226 [some (.ref 19), some (.int p1), some (.int p2), some (.int p3), some (.int p4), some (.int b5), some (.int b6), some (.int b7), some (.int b8), o9, none, o11] [.int p2, .int x14, .ref 33] rfl rfl ?_
        refine z_xI zt224 101 rfl rfl (fun (x16 : Int32) (h17 : x16.toInt = x14.toInt + p2.toInt) => ?_) (z_pAdd rfl rfl (by omega) (by omega))
        refine z_xP zt224 102 229 [some (.ref 19), some (.int p1), some (.int p2), some (.int p3), some (.int p4), some (.int b5), some (.int b6), some (.int b7), some (.int b8), o9, none, o11] [.int b5, .int x16, .ref 33] rfl rfl ?_
        have f33 : T[33]? = some (.inr (33, 0, 72, (-2147483648), 2147483647)) := X11.1.k rfl (by decide)
        refine z_xis zt224 103 rfl X11 f33 (by decide) (by decide) (by omega) (by omega) (Int32.le_toInt _) (Int32.toInt_le _) (by decide) (fun M18 X19 e20 h21 => ?_)
        refine z_xP zt224 104 231 [some (.ref 19), some (.int p1), some (.int p2), some (.int p3), some (.int p4), some (.int b5), some (.int b6), some (.int b7), some (.int b8), o9, none, o11] [.ref 19] rfl rfl ?_
        refine z_xgX (b := 34) zt224 105 rfl zo224 zzf12_52 X19 f19 (by decide) (by decide) rfl ?_
        refine z_xP zt224 106 237 [some (.ref 19), some (.int p1), some (.int p2), some (.int p3), some (.int p4), some (.int b5), some (.int b6), some (.int b7), some (.int b8), o9, none, o11] [.int p1, .int 9, .ref 34] rfl rfl ?_
        refine z_xI zt224 107 rfl rfl (fun (x22 : Int32) (h23 : x22.toInt = 9 * p1.toInt) => ?_) (z_pMul rfl rfl (by omega) (by omega))
        refine z_xP zt224 108 239 [some (.ref 19), some (.int p1), some (.int p2), some (.int p3), some (.int p4), some (.int b5), some (.int b6), some (.int b7), some (.int b8), o9, none, o11] [.int p2, .int x22, .ref 34] rfl rfl ?_
        refine z_xI zt224 109 rfl rfl (fun (x24 : Int32) (h25 : x24.toInt = x22.toInt + p2.toInt) => ?_) (z_pAdd rfl rfl (by omega) (by omega))
        refine z_xP zt224 110 242 [some (.ref 19), some (.int p1), some (.int p2), some (.int p3), some (.int p4), some (.int b5), some (.int b6), some (.int b7), some (.int b8), o9, none, o11] [.int b6, .int x24, .ref 34] rfl rfl ?_
        have f34 : T[34]? = some (.inr (34, 0, 72, (-2147483648), 2147483647)) := X19.1.k rfl (by decide)
        refine z_xis zt224 111 rfl X19 f34 (by decide) (by decide) (by omega) (by omega) (Int32.le_toInt _) (Int32.toInt_le _) (by decide) (fun M26 X27 e28 h29 => ?_)
        refine z_xP zt224 112 247 [some (.ref 19), some (.int p1), some (.int p2), some (.int p3), some (.int p4), some (.int b5), some (.int b6), some (.int b7), some (.int b8), o9, none, o11] [.int b6, .int b5] rfl rfl ?_
        refine z_xI zt224 113 rfl rfl (fun (x30 : Int32) (h31 : 0 ≤ x30.toInt ∧ x30.toInt < 1024 ∧ b5.toInt ≤ x30.toInt ∧ b6.toInt ≤ x30.toInt) => ?_) (z_pOr 10 rfl rfl (by omega) (by omega) (by decide) (by omega) (by omega) (by decide))
        refine z_xcS (vs := [.int x30]) (r := []) (L2 := [some (.int x30), none, none]) zt224 114 rfl zo224 zzcS12_193 (Or.inl rfl) (Nat.le_of_ble_eq_true rfl) rfl rfl (Nat.le_of_ble_eq_true rfl) zzm207 (Nat.le_of_ble_eq_true rfl) rfl ?_
        refine zC207 X27.1 (fun x34 M32 X33  => ?_)
        have X35 := X27.go X33 (z_sb (by decide))
        show z_ev (d + 2) 224 251 [some (.ref 19), some (.int p1), some (.int p2), some (.int p3), some (.int p4), some (.int b5), some (.int b6), some (.int b7), some (.int b8), o9, none, o11] [.int x34] M32 _
        exact z_xri zt224 115 rfl zzr224 (kk x34 M32 X35)
      refine z_xP zt224 94 216 [some (.ref 19), some (.int p1), some (.int p2), some (.int p3), some (.int p4), some (.int b5), some (.int b6), some (.int b7), some (.int b8), o9, none, o11] [.int (-2)] rfl rfl ?_
      have qm2 : (((-2) : Int32)).toInt = (-2) := rfl
      exact z_xri zt224 95 rfl zzr224 (kk (-2) M6 X11)
    refine z_xP zt224 28 67 [some (.ref 19), some (.int p1), some (.int p2), some (.int p3), some (.int p4), some (.int b5), some (.int b6), some (.int b7), some (.int b8), o9, none, o11] [.int p4] rfl rfl ?_
    have h37 := z_b32 p4
    refine z_xL zt224 29 rfl rfl (fun (y38 : Int64) (h39 : y38.toInt = p4.toInt) => ?_) (z_qI2L rfl)
    refine z_xP zt224 30 70 [some (.ref 19), some (.int p1), some (.int p2), some (.int p3), some (.int p4), some (.int b5), some (.int b6), some (.int b7), some (.int b8), o9, none, o11] [.int b8, .long y38] rfl rfl ?_
    refine z_xL zt224 31 rfl rfl (fun (y40 : Int64) (h41 : y40.toInt = b8.toInt) => ?_) (z_qI2L rfl)
    refine z_xL zt224 32 rfl rfl (fun (y42 : Int64) (h43 : y42.toInt = y38.toInt + y40.toInt) => ?_) (z_qAdd rfl rfl (by omega) (by omega))
    refine z_xP zt224 33 76 [some (.ref 19), some (.int p1), some (.int p2), some (.int p3), some (.int p4), some (.int b5), some (.int b6), some (.int b7), some (.int b8), some (.long y42), none, o11] [.int b7] rfl rfl ?_
    refine z_xZ zt224 34 rfl rfl (fun (h44 : b7.toInt = 0) => ?_) (fun (h44 : b7.toInt ≠ 0) => ?_)
    · skip
      refine z_xP zt224 52 114 [some (.ref 19), some (.int p1), some (.int p2), some (.int p3), some (.int p4), some (.int b5), some (.int b6), some (.int b7), some (.int b8), some (.long y42), none, o11] [.int 0] rfl rfl ?_
      refine z_xP zt224 53 118 [some (.ref 19), some (.int p1), some (.int p2), some (.int p3), some (.int p4), some (.int b5), some (.int b6), some (.int 0), some (.int b8), some (.long y42), none, o11] [.int 0] rfl rfl ?_
      refine z_xZ zt224 54 rfl rfl (fun (h45 : (0 : Int) = 0) => ?_) (fun (h45 : (0 : Int) ≠ 0) => absurd h45 (by omega))
      refine z_xP zt224 71 153 [some (.ref 19), some (.int p1), some (.int p2), some (.int p3), some (.int p4), some (.int b5), some (.int b6), some (.int 0), some (.int b8), some (.long y42), none, o11] [.int 0] rfl rfl ?_
      refine z_xP zt224 72 159 [some (.ref 19), some (.int p1), some (.int p2), some (.int p3), some (.int p4), some (.int b5), some (.int b6), some (.int 0), some (.int b8), some (.long y42), none, some (.int 0)] [.int 0, .int b5] rfl rfl ?_
      refine z_xZ zt224 73 rfl rfl (fun (h46 : (0 : Int) = 0) => ?_) (fun (h46 : (0 : Int) ≠ 0) => absurd h46 (by omega))
      refine z_xP zt224 77 170 [some (.ref 19), some (.int p1), some (.int p2), some (.int p3), some (.int p4), some (.int b5), some (.int b6), some (.int 0), some (.int b8), some (.long y42), none, some (.int 0)] [.int 0, .int b5] rfl rfl ?_
      refine z_xI zt224 78 rfl rfl (fun (x47 : Int32) (h48 : 0 ≤ x47.toInt ∧ x47.toInt < 1024 ∧ b5.toInt ≤ x47.toInt ∧ 0 ≤ x47.toInt) => ?_) (z_pOr 10 rfl rfl (by omega) (by omega) (by decide) (by omega) (by omega) (by decide))
      refine z_xP zt224 79 177 [some (.ref 19), some (.int p1), some (.int p2), some (.int p3), some (.int p4), some (.int x47), some (.int b6), some (.int 0), some (.int b8), some (.long y42), none, some (.int 0)] [.int 0, .int b6] rfl rfl ?_
      refine z_xZ zt224 80 rfl rfl (fun (h49 : (0 : Int) = 0) => ?_) (fun (h49 : (0 : Int) ≠ 0) => absurd h49 (by omega))
      refine z_xP zt224 86 193 [some (.ref 19), some (.int p1), some (.int p2), some (.int p3), some (.int p4), some (.int x47), some (.int b6), some (.int 0), some (.int b8), some (.long y42), none, some (.int 0)] [.int 0, .int b6] rfl rfl ?_
      refine z_xI zt224 87 rfl rfl (fun (x50 : Int32) (h51 : 0 ≤ x50.toInt ∧ x50.toInt < 1024 ∧ b6.toInt ≤ x50.toInt ∧ 0 ≤ x50.toInt) => ?_) (z_pOr 10 rfl rfl (by omega) (by omega) (by decide) (by omega) (by omega) (by decide))
      refine z_xP zt224 88 196 [some (.ref 19), some (.int p1), some (.int p2), some (.int p3), some (.int p4), some (.int x47), some (.int x50), some (.int 0), some (.int b8), some (.long y42), none, some (.int 0)] [] rfl rfl ?_
      refine z_xN zt224 89 rfl rfl (fun (x52 : Int32) (h53 : x52.toInt = b8.toInt + 1) => ?_) (z_pAdd rfl rfl (by omega) (by omega))
      show z_ev (d + 2) 224 199 [some (.ref 19), some (.int p1), some (.int p2), some (.int p3), some (.int p4), some (.int x47), some (.int x50), some (.int 0), some (.int x52), some (.long y42), none, some (.int 0)] [] M _
      refine z_xP zt224 90 54 [some (.ref 19), some (.int p1), some (.int p2), some (.int p3), some (.int p4), some (.int x47), some (.int x50), some (.int 0), some (.int x52), some (.long y42), none, some (.int 0)] [] rfl rfl ?_
      have q0 : ((0 : Int32)).toInt = 0 := rfl
      exact ih M x47 x50 (0) x52 (some (.long y42)) (some (.int 0)) X ⟨by omega, by omega⟩ ⟨by omega, by omega⟩ ⟨by omega, by omega⟩ ⟨by omega, by omega⟩ ⟨by omega, by omega⟩ (by decide) ⟨by omega, by omega⟩ (by omega)
    refine z_xP zt224 35 80 [some (.ref 19), some (.int p1), some (.int p2), some (.int p3), some (.int p4), some (.int b5), some (.int b6), some (.int b7), some (.int b8), some (.long y42), none, o11] [.ref 19] rfl rfl ?_
    refine z_xgX (b := 49) zt224 36 rfl zo224 zzf12_97 X f19 (by decide) (by decide) rfl ?_
    refine z_xP zt224 37 84 [some (.ref 19), some (.int p1), some (.int p2), some (.int p3), some (.int p4), some (.int b5), some (.int b6), some (.int b7), some (.int b8), some (.long y42), none, o11] [.int p3, .ref 49] rfl rfl ?_
    have f49 : T[49]? = some (.inr (49, 0, 6, (-1), 24)) := X.1.k rfl (by decide)
    refine z_xil zt224 38 rfl X f49 (by decide) (by omega) (by omega) (fun (x54 : Int32) h55 (h56 : (-1) ≤ x54.toInt) (h57 : x54.toInt ≤ 24) => ?_)
    refine z_xP zt224 39 86 [some (.ref 19), some (.int p1), some (.int p2), some (.int p3), some (.int p4), some (.int b5), some (.int b6), some (.int b7), some (.int b8), some (.long y42), none, o11] [.int (-1), .int x54] rfl rfl ?_
    refine z_xJ zt224 40 rfl rfl (fun (h58 : x54.toInt = (-1)) => ?_) (fun (h58 : x54.toInt ≠ (-1)) => ?_)
    · skip
      refine z_xP zt224 52 114 [some (.ref 19), some (.int p1), some (.int p2), some (.int p3), some (.int p4), some (.int b5), some (.int b6), some (.int b7), some (.int b8), some (.long y42), none, o11] [.int 0] rfl rfl ?_
      refine z_xP zt224 53 118 [some (.ref 19), some (.int p1), some (.int p2), some (.int p3), some (.int p4), some (.int b5), some (.int b6), some (.int 0), some (.int b8), some (.long y42), none, o11] [.int 0] rfl rfl ?_
      refine z_xZ zt224 54 rfl rfl (fun (h59 : (0 : Int) = 0) => ?_) (fun (h59 : (0 : Int) ≠ 0) => absurd h59 (by omega))
      refine z_xP zt224 71 153 [some (.ref 19), some (.int p1), some (.int p2), some (.int p3), some (.int p4), some (.int b5), some (.int b6), some (.int 0), some (.int b8), some (.long y42), none, o11] [.int 0] rfl rfl ?_
      refine z_xP zt224 72 159 [some (.ref 19), some (.int p1), some (.int p2), some (.int p3), some (.int p4), some (.int b5), some (.int b6), some (.int 0), some (.int b8), some (.long y42), none, some (.int 0)] [.int 0, .int b5] rfl rfl ?_
      refine z_xZ zt224 73 rfl rfl (fun (h60 : (0 : Int) = 0) => ?_) (fun (h60 : (0 : Int) ≠ 0) => absurd h60 (by omega))
      refine z_xP zt224 77 170 [some (.ref 19), some (.int p1), some (.int p2), some (.int p3), some (.int p4), some (.int b5), some (.int b6), some (.int 0), some (.int b8), some (.long y42), none, some (.int 0)] [.int 0, .int b5] rfl rfl ?_
      refine z_xI zt224 78 rfl rfl (fun (x61 : Int32) (h62 : 0 ≤ x61.toInt ∧ x61.toInt < 1024 ∧ b5.toInt ≤ x61.toInt ∧ 0 ≤ x61.toInt) => ?_) (z_pOr 10 rfl rfl (by omega) (by omega) (by decide) (by omega) (by omega) (by decide))
      refine z_xP zt224 79 177 [some (.ref 19), some (.int p1), some (.int p2), some (.int p3), some (.int p4), some (.int x61), some (.int b6), some (.int 0), some (.int b8), some (.long y42), none, some (.int 0)] [.int 0, .int b6] rfl rfl ?_
      refine z_xZ zt224 80 rfl rfl (fun (h63 : (0 : Int) = 0) => ?_) (fun (h63 : (0 : Int) ≠ 0) => absurd h63 (by omega))
      refine z_xP zt224 86 193 [some (.ref 19), some (.int p1), some (.int p2), some (.int p3), some (.int p4), some (.int x61), some (.int b6), some (.int 0), some (.int b8), some (.long y42), none, some (.int 0)] [.int 0, .int b6] rfl rfl ?_
      refine z_xI zt224 87 rfl rfl (fun (x64 : Int32) (h65 : 0 ≤ x64.toInt ∧ x64.toInt < 1024 ∧ b6.toInt ≤ x64.toInt ∧ 0 ≤ x64.toInt) => ?_) (z_pOr 10 rfl rfl (by omega) (by omega) (by decide) (by omega) (by omega) (by decide))
      refine z_xP zt224 88 196 [some (.ref 19), some (.int p1), some (.int p2), some (.int p3), some (.int p4), some (.int x61), some (.int x64), some (.int 0), some (.int b8), some (.long y42), none, some (.int 0)] [] rfl rfl ?_
      refine z_xN zt224 89 rfl rfl (fun (x66 : Int32) (h67 : x66.toInt = b8.toInt + 1) => ?_) (z_pAdd rfl rfl (by omega) (by omega))
      show z_ev (d + 2) 224 199 [some (.ref 19), some (.int p1), some (.int p2), some (.int p3), some (.int p4), some (.int x61), some (.int x64), some (.int 0), some (.int x66), some (.long y42), none, some (.int 0)] [] M _
      refine z_xP zt224 90 54 [some (.ref 19), some (.int p1), some (.int p2), some (.int p3), some (.int p4), some (.int x61), some (.int x64), some (.int 0), some (.int x66), some (.long y42), none, some (.int 0)] [] rfl rfl ?_
      have q0 : ((0 : Int32)).toInt = 0 := rfl
      exact ih M x61 x64 (0) x66 (some (.long y42)) (some (.int 0)) X ⟨by omega, by omega⟩ ⟨by omega, by omega⟩ ⟨by omega, by omega⟩ ⟨by omega, by omega⟩ ⟨by omega, by omega⟩ (by decide) ⟨by omega, by omega⟩ (by omega)
    refine z_xP zt224 41 92 [some (.ref 19), some (.int p1), some (.int p2), some (.int p3), some (.int p4), some (.int b5), some (.int b6), some (.int b7), some (.int b8), some (.long y42), none, o11] [.long 0, .long y42] rfl rfl ?_
    refine z_xI zt224 42 rfl rfl (fun (x68 : Int32) (h69 : (x68.toInt < 0 ∧ y42.toInt < 0) ∨ (x68.toInt = 0 ∧ y42.toInt = 0) ∨ (0 < x68.toInt ∧ 0 < y42.toInt)) => ?_) (z_qCmp rfl rfl)
    refine z_xZ zt224 43 rfl rfl (fun (h70 : x68.toInt < 0) => ?_) (fun (h70 : 0 ≤ x68.toInt) => ?_)
    · skip
      refine z_xP zt224 52 114 [some (.ref 19), some (.int p1), some (.int p2), some (.int p3), some (.int p4), some (.int b5), some (.int b6), some (.int b7), some (.int b8), some (.long y42), none, o11] [.int 0] rfl rfl ?_
      refine z_xP zt224 53 118 [some (.ref 19), some (.int p1), some (.int p2), some (.int p3), some (.int p4), some (.int b5), some (.int b6), some (.int 0), some (.int b8), some (.long y42), none, o11] [.int 0] rfl rfl ?_
      refine z_xZ zt224 54 rfl rfl (fun (h71 : (0 : Int) = 0) => ?_) (fun (h71 : (0 : Int) ≠ 0) => absurd h71 (by omega))
      refine z_xP zt224 71 153 [some (.ref 19), some (.int p1), some (.int p2), some (.int p3), some (.int p4), some (.int b5), some (.int b6), some (.int 0), some (.int b8), some (.long y42), none, o11] [.int 0] rfl rfl ?_
      refine z_xP zt224 72 159 [some (.ref 19), some (.int p1), some (.int p2), some (.int p3), some (.int p4), some (.int b5), some (.int b6), some (.int 0), some (.int b8), some (.long y42), none, some (.int 0)] [.int 0, .int b5] rfl rfl ?_
      refine z_xZ zt224 73 rfl rfl (fun (h72 : (0 : Int) = 0) => ?_) (fun (h72 : (0 : Int) ≠ 0) => absurd h72 (by omega))
      refine z_xP zt224 77 170 [some (.ref 19), some (.int p1), some (.int p2), some (.int p3), some (.int p4), some (.int b5), some (.int b6), some (.int 0), some (.int b8), some (.long y42), none, some (.int 0)] [.int 0, .int b5] rfl rfl ?_
      refine z_xI zt224 78 rfl rfl (fun (x73 : Int32) (h74 : 0 ≤ x73.toInt ∧ x73.toInt < 1024 ∧ b5.toInt ≤ x73.toInt ∧ 0 ≤ x73.toInt) => ?_) (z_pOr 10 rfl rfl (by omega) (by omega) (by decide) (by omega) (by omega) (by decide))
      refine z_xP zt224 79 177 [some (.ref 19), some (.int p1), some (.int p2), some (.int p3), some (.int p4), some (.int x73), some (.int b6), some (.int 0), some (.int b8), some (.long y42), none, some (.int 0)] [.int 0, .int b6] rfl rfl ?_
      refine z_xZ zt224 80 rfl rfl (fun (h75 : (0 : Int) = 0) => ?_) (fun (h75 : (0 : Int) ≠ 0) => absurd h75 (by omega))
      refine z_xP zt224 86 193 [some (.ref 19), some (.int p1), some (.int p2), some (.int p3), some (.int p4), some (.int x73), some (.int b6), some (.int 0), some (.int b8), some (.long y42), none, some (.int 0)] [.int 0, .int b6] rfl rfl ?_
      refine z_xI zt224 87 rfl rfl (fun (x76 : Int32) (h77 : 0 ≤ x76.toInt ∧ x76.toInt < 1024 ∧ b6.toInt ≤ x76.toInt ∧ 0 ≤ x76.toInt) => ?_) (z_pOr 10 rfl rfl (by omega) (by omega) (by decide) (by omega) (by omega) (by decide))
      refine z_xP zt224 88 196 [some (.ref 19), some (.int p1), some (.int p2), some (.int p3), some (.int p4), some (.int x73), some (.int x76), some (.int 0), some (.int b8), some (.long y42), none, some (.int 0)] [] rfl rfl ?_
      refine z_xN zt224 89 rfl rfl (fun (x78 : Int32) (h79 : x78.toInt = b8.toInt + 1) => ?_) (z_pAdd rfl rfl (by omega) (by omega))
      show z_ev (d + 2) 224 199 [some (.ref 19), some (.int p1), some (.int p2), some (.int p3), some (.int p4), some (.int x73), some (.int x76), some (.int 0), some (.int x78), some (.long y42), none, some (.int 0)] [] M _
      refine z_xP zt224 90 54 [some (.ref 19), some (.int p1), some (.int p2), some (.int p3), some (.int p4), some (.int x73), some (.int x76), some (.int 0), some (.int x78), some (.long y42), none, some (.int 0)] [] rfl rfl ?_
      have q0 : ((0 : Int32)).toInt = 0 := rfl
      exact ih M x73 x76 (0) x78 (some (.long y42)) (some (.int 0)) X ⟨by omega, by omega⟩ ⟨by omega, by omega⟩ ⟨by omega, by omega⟩ ⟨by omega, by omega⟩ ⟨by omega, by omega⟩ (by decide) ⟨by omega, by omega⟩ (by omega)
    refine z_xP zt224 44 99 [some (.ref 19), some (.int p1), some (.int p2), some (.int p3), some (.int p4), some (.int b5), some (.int b6), some (.int b7), some (.int b8), some (.long y42), none, o11] [.ref 19, .long y42] rfl rfl ?_
    refine z_xgX (b := 50) zt224 45 rfl zo224 zzf12_100 X f19 (by decide) (by decide) rfl ?_
    refine z_xP zt224 46 103 [some (.ref 19), some (.int p1), some (.int p2), some (.int p3), some (.int p4), some (.int b5), some (.int b6), some (.int b7), some (.int b8), some (.long y42), none, o11] [.int p3, .ref 50, .long y42] rfl rfl ?_
    have f50 : T[50]? = some (.inr (50, 0, 6, 0, 60)) := X.1.k rfl (by decide)
    refine z_xil zt224 47 rfl X f50 (by decide) (by omega) (by omega) (fun (x80 : Int32) h81 (h82 : 0 ≤ x80.toInt) (h83 : x80.toInt ≤ 60) => ?_)
    refine z_xL zt224 48 rfl rfl (fun (y84 : Int64) (h85 : y84.toInt = x80.toInt) => ?_) (z_qI2L rfl)
    refine z_xI zt224 49 rfl rfl (fun (x86 : Int32) (h87 : (x86.toInt < 0 ∧ y42.toInt < y84.toInt) ∨ (x86.toInt = 0 ∧ y42.toInt = y84.toInt) ∨ (0 < x86.toInt ∧ y84.toInt < y42.toInt)) => ?_) (z_qCmp rfl rfl)
    refine z_xZ zt224 50 rfl rfl (fun (h88 : 0 ≤ x86.toInt) => ?_) (fun (h88 : x86.toInt < 0) => ?_)
    · skip
      refine z_xP zt224 52 114 [some (.ref 19), some (.int p1), some (.int p2), some (.int p3), some (.int p4), some (.int b5), some (.int b6), some (.int b7), some (.int b8), some (.long y42), none, o11] [.int 0] rfl rfl ?_
      refine z_xP zt224 53 118 [some (.ref 19), some (.int p1), some (.int p2), some (.int p3), some (.int p4), some (.int b5), some (.int b6), some (.int 0), some (.int b8), some (.long y42), none, o11] [.int 0] rfl rfl ?_
      refine z_xZ zt224 54 rfl rfl (fun (h89 : (0 : Int) = 0) => ?_) (fun (h89 : (0 : Int) ≠ 0) => absurd h89 (by omega))
      refine z_xP zt224 71 153 [some (.ref 19), some (.int p1), some (.int p2), some (.int p3), some (.int p4), some (.int b5), some (.int b6), some (.int 0), some (.int b8), some (.long y42), none, o11] [.int 0] rfl rfl ?_
      refine z_xP zt224 72 159 [some (.ref 19), some (.int p1), some (.int p2), some (.int p3), some (.int p4), some (.int b5), some (.int b6), some (.int 0), some (.int b8), some (.long y42), none, some (.int 0)] [.int 0, .int b5] rfl rfl ?_
      refine z_xZ zt224 73 rfl rfl (fun (h90 : (0 : Int) = 0) => ?_) (fun (h90 : (0 : Int) ≠ 0) => absurd h90 (by omega))
      refine z_xP zt224 77 170 [some (.ref 19), some (.int p1), some (.int p2), some (.int p3), some (.int p4), some (.int b5), some (.int b6), some (.int 0), some (.int b8), some (.long y42), none, some (.int 0)] [.int 0, .int b5] rfl rfl ?_
      refine z_xI zt224 78 rfl rfl (fun (x91 : Int32) (h92 : 0 ≤ x91.toInt ∧ x91.toInt < 1024 ∧ b5.toInt ≤ x91.toInt ∧ 0 ≤ x91.toInt) => ?_) (z_pOr 10 rfl rfl (by omega) (by omega) (by decide) (by omega) (by omega) (by decide))
      refine z_xP zt224 79 177 [some (.ref 19), some (.int p1), some (.int p2), some (.int p3), some (.int p4), some (.int x91), some (.int b6), some (.int 0), some (.int b8), some (.long y42), none, some (.int 0)] [.int 0, .int b6] rfl rfl ?_
      refine z_xZ zt224 80 rfl rfl (fun (h93 : (0 : Int) = 0) => ?_) (fun (h93 : (0 : Int) ≠ 0) => absurd h93 (by omega))
      refine z_xP zt224 86 193 [some (.ref 19), some (.int p1), some (.int p2), some (.int p3), some (.int p4), some (.int x91), some (.int b6), some (.int 0), some (.int b8), some (.long y42), none, some (.int 0)] [.int 0, .int b6] rfl rfl ?_
      refine z_xI zt224 87 rfl rfl (fun (x94 : Int32) (h95 : 0 ≤ x94.toInt ∧ x94.toInt < 1024 ∧ b6.toInt ≤ x94.toInt ∧ 0 ≤ x94.toInt) => ?_) (z_pOr 10 rfl rfl (by omega) (by omega) (by decide) (by omega) (by omega) (by decide))
      refine z_xP zt224 88 196 [some (.ref 19), some (.int p1), some (.int p2), some (.int p3), some (.int p4), some (.int x91), some (.int x94), some (.int 0), some (.int b8), some (.long y42), none, some (.int 0)] [] rfl rfl ?_
      refine z_xN zt224 89 rfl rfl (fun (x96 : Int32) (h97 : x96.toInt = b8.toInt + 1) => ?_) (z_pAdd rfl rfl (by omega) (by omega))
      show z_ev (d + 2) 224 199 [some (.ref 19), some (.int p1), some (.int p2), some (.int p3), some (.int p4), some (.int x91), some (.int x94), some (.int 0), some (.int x96), some (.long y42), none, some (.int 0)] [] M _
      refine z_xP zt224 90 54 [some (.ref 19), some (.int p1), some (.int p2), some (.int p3), some (.int p4), some (.int x91), some (.int x94), some (.int 0), some (.int x96), some (.long y42), none, some (.int 0)] [] rfl rfl ?_
      have q0 : ((0 : Int32)).toInt = 0 := rfl
      exact ih M x91 x94 (0) x96 (some (.long y42)) (some (.int 0)) X ⟨by omega, by omega⟩ ⟨by omega, by omega⟩ ⟨by omega, by omega⟩ ⟨by omega, by omega⟩ ⟨by omega, by omega⟩ (by decide) ⟨by omega, by omega⟩ (by omega)
    refine z_xP zt224 51 114 [some (.ref 19), some (.int p1), some (.int p2), some (.int p3), some (.int p4), some (.int b5), some (.int b6), some (.int b7), some (.int b8), some (.long y42), none, o11] [.int 1] rfl rfl ?_
    refine z_xP zt224 53 118 [some (.ref 19), some (.int p1), some (.int p2), some (.int p3), some (.int p4), some (.int b5), some (.int b6), some (.int 1), some (.int b8), some (.long y42), none, o11] [.int 1] rfl rfl ?_
    refine z_xZ zt224 54 rfl rfl (fun (h98 : (1 : Int) = 0) => absurd h98 (by omega)) (fun (h98 : (1 : Int) ≠ 0) => ?_)
    refine z_xP zt224 55 122 [some (.ref 19), some (.int p1), some (.int p2), some (.int p3), some (.int p4), some (.int b5), some (.int b6), some (.int 1), some (.int b8), some (.long y42), none, o11] [.ref 19] rfl rfl ?_
    refine z_xgX (b := 51) zt224 56 rfl zo224 zzf12_103 X f19 (by decide) (by decide) rfl ?_
    refine z_xP zt224 57 128 [some (.ref 19), some (.int p1), some (.int p2), some (.int p3), some (.int p4), some (.int b5), some (.int b6), some (.int 1), some (.int b8), some (.long y42), none, o11] [.int p3, .int 60, .ref 51] rfl rfl ?_
    refine z_xI zt224 58 rfl rfl (fun (x99 : Int32) (h100 : x99.toInt = 60 * p3.toInt) => ?_) (z_pMul rfl rfl (by omega) (by omega))
    refine z_xP zt224 59 131 [some (.ref 19), some (.int p1), some (.int p2), some (.int p3), some (.int p4), some (.int b5), some (.int b6), some (.int 1), some (.int b8), some (.long y42), none, o11] [.int 1, .int x99, .ref 51] rfl rfl ?_
    refine z_xZ zt224 60 rfl rfl (fun (h101 : (1 : Int) = 0) => absurd h101 (by omega)) (fun (h101 : (1 : Int) ≠ 0) => ?_)
    refine z_xP zt224 61 136 [some (.ref 19), some (.int p1), some (.int p2), some (.int p3), some (.int p4), some (.int b5), some (.int b6), some (.int 1), some (.int b8), some (.long y42), none, o11] [.long y42, .int x99, .ref 51] rfl rfl ?_
    refine z_xI zt224 62 rfl rfl (fun (x102 : Int32) (h103 : x102.toInt = y42.toInt) => ?_) (z_qL2I rfl (by omega) (by omega))
    refine z_xP zt224 63 141 [some (.ref 19), some (.int p1), some (.int p2), some (.int p3), some (.int p4), some (.int b5), some (.int b6), some (.int 1), some (.int b8), some (.long y42), none, o11] [.int x102, .int x99, .ref 51] rfl rfl ?_
    refine z_xI zt224 65 rfl rfl (fun (x104 : Int32) (h105 : x104.toInt = x99.toInt + x102.toInt) => ?_) (z_pAdd rfl rfl (by omega) (by omega))
    have f51 : T[51]? = some (.inr (51, 1, 360, 0, 0)) := X.1.k rfl (by decide)
    refine z_xll zt224 66 rfl X f51 (by decide) (by omega) (by omega) (fun (y106 : Int64) => ?_)
    refine z_xP zt224 67 144 [some (.ref 19), some (.int p1), some (.int p2), some (.int p3), some (.int p4), some (.int b5), some (.int b6), some (.int 1), some (.int b8), some (.long y42), none, o11] [.long 0, .long y106] rfl rfl ?_
    refine z_xI zt224 68 rfl rfl (fun (x107 : Int32) (h108 : (x107.toInt < 0 ∧ y106.toInt < 0) ∨ (x107.toInt = 0 ∧ y106.toInt = 0) ∨ (0 < x107.toInt ∧ 0 < y106.toInt)) => ?_) (z_qCmp rfl rfl)
    refine z_xZ zt224 69 rfl rfl (fun (h109 : x107.toInt = 0) => ?_) (fun (h109 : x107.toInt ≠ 0) => ?_)
    · skip
      refine z_xP zt224 71 153 [some (.ref 19), some (.int p1), some (.int p2), some (.int p3), some (.int p4), some (.int b5), some (.int b6), some (.int 1), some (.int b8), some (.long y42), none, o11] [.int 0] rfl rfl ?_
      refine z_xP zt224 72 159 [some (.ref 19), some (.int p1), some (.int p2), some (.int p3), some (.int p4), some (.int b5), some (.int b6), some (.int 1), some (.int b8), some (.long y42), none, some (.int 0)] [.int 0, .int b5] rfl rfl ?_
      refine z_xZ zt224 73 rfl rfl (fun (h110 : (0 : Int) = 0) => ?_) (fun (h110 : (0 : Int) ≠ 0) => absurd h110 (by omega))
      refine z_xP zt224 77 170 [some (.ref 19), some (.int p1), some (.int p2), some (.int p3), some (.int p4), some (.int b5), some (.int b6), some (.int 1), some (.int b8), some (.long y42), none, some (.int 0)] [.int 0, .int b5] rfl rfl ?_
      refine z_xI zt224 78 rfl rfl (fun (x111 : Int32) (h112 : 0 ≤ x111.toInt ∧ x111.toInt < 1024 ∧ b5.toInt ≤ x111.toInt ∧ 0 ≤ x111.toInt) => ?_) (z_pOr 10 rfl rfl (by omega) (by omega) (by decide) (by omega) (by omega) (by decide))
      refine z_xP zt224 79 177 [some (.ref 19), some (.int p1), some (.int p2), some (.int p3), some (.int p4), some (.int x111), some (.int b6), some (.int 1), some (.int b8), some (.long y42), none, some (.int 0)] [.int 1, .int b6] rfl rfl ?_
      refine z_xZ zt224 80 rfl rfl (fun (h113 : (1 : Int) = 0) => absurd h113 (by omega)) (fun (h113 : (1 : Int) ≠ 0) => ?_)
      refine z_xP zt224 81 182 [some (.ref 19), some (.int p1), some (.int p2), some (.int p3), some (.int p4), some (.int x111), some (.int b6), some (.int 1), some (.int b8), some (.long y42), none, some (.int 0)] [.int 0, .int b6] rfl rfl ?_
      refine z_xZ zt224 82 rfl rfl (fun (h114 : (0 : Int) ≠ 0) => absurd h114 (by omega)) (fun (h114 : (0 : Int) = 0) => ?_)
      refine z_xP zt224 83 188 [some (.ref 19), some (.int p1), some (.int p2), some (.int p3), some (.int p4), some (.int x111), some (.int b6), some (.int 1), some (.int b8), some (.long y42), none, some (.int 0)] [.int b8, .int 1, .int b6] rfl rfl ?_
      refine z_xI zt224 84 rfl rfl (fun (x115 : Int32) (h116 : 1 ≤ x115.toInt ∧ x115.toInt ≤ 512) => ?_) (z_pShlB (a := 1) (b := 9) (c := 512) (r := 512) rfl rfl (by omega) (by omega) (by omega) (by omega) (by decide) (by decide) (by decide) (by decide))
      refine z_xP zt224 85 193 [some (.ref 19), some (.int p1), some (.int p2), some (.int p3), some (.int p4), some (.int x111), some (.int b6), some (.int 1), some (.int b8), some (.long y42), none, some (.int 0)] [.int x115, .int b6] rfl rfl ?_
      refine z_xI zt224 87 rfl rfl (fun (x117 : Int32) (h118 : 0 ≤ x117.toInt ∧ x117.toInt < 1024 ∧ b6.toInt ≤ x117.toInt ∧ x115.toInt ≤ x117.toInt) => ?_) (z_pOr 10 rfl rfl (by omega) (by omega) (by decide) (by omega) (by omega) (by decide))
      refine z_xP zt224 88 196 [some (.ref 19), some (.int p1), some (.int p2), some (.int p3), some (.int p4), some (.int x111), some (.int x117), some (.int 1), some (.int b8), some (.long y42), none, some (.int 0)] [] rfl rfl ?_
      refine z_xN zt224 89 rfl rfl (fun (x119 : Int32) (h120 : x119.toInt = b8.toInt + 1) => ?_) (z_pAdd rfl rfl (by omega) (by omega))
      show z_ev (d + 2) 224 199 [some (.ref 19), some (.int p1), some (.int p2), some (.int p3), some (.int p4), some (.int x111), some (.int x117), some (.int 1), some (.int x119), some (.long y42), none, some (.int 0)] [] M _
      refine z_xP zt224 90 54 [some (.ref 19), some (.int p1), some (.int p2), some (.int p3), some (.int p4), some (.int x111), some (.int x117), some (.int 1), some (.int x119), some (.long y42), none, some (.int 0)] [] rfl rfl ?_
      have q0 : ((0 : Int32)).toInt = 0 := rfl
      have q1 : ((1 : Int32)).toInt = 1 := rfl
      exact ih M x111 x117 (1) x119 (some (.long y42)) (some (.int 0)) X ⟨by omega, by omega⟩ ⟨by omega, by omega⟩ ⟨by omega, by omega⟩ ⟨by omega, by omega⟩ ⟨by omega, by omega⟩ (by decide) ⟨by omega, by omega⟩ (by omega)
    refine z_xP zt224 70 153 [some (.ref 19), some (.int p1), some (.int p2), some (.int p3), some (.int p4), some (.int b5), some (.int b6), some (.int 1), some (.int b8), some (.long y42), none, o11] [.int 1] rfl rfl ?_
    refine z_xP zt224 72 159 [some (.ref 19), some (.int p1), some (.int p2), some (.int p3), some (.int p4), some (.int b5), some (.int b6), some (.int 1), some (.int b8), some (.long y42), none, some (.int 1)] [.int 1, .int b5] rfl rfl ?_
    refine z_xZ zt224 73 rfl rfl (fun (h121 : (1 : Int) = 0) => absurd h121 (by omega)) (fun (h121 : (1 : Int) ≠ 0) => ?_)
    refine z_xP zt224 74 165 [some (.ref 19), some (.int p1), some (.int p2), some (.int p3), some (.int p4), some (.int b5), some (.int b6), some (.int 1), some (.int b8), some (.long y42), none, some (.int 1)] [.int b8, .int 1, .int b5] rfl rfl ?_
    refine z_xI zt224 75 rfl rfl (fun (x122 : Int32) (h123 : 1 ≤ x122.toInt ∧ x122.toInt ≤ 512) => ?_) (z_pShlB (a := 1) (b := 9) (c := 512) (r := 512) rfl rfl (by omega) (by omega) (by omega) (by omega) (by decide) (by decide) (by decide) (by decide))
    refine z_xP zt224 76 170 [some (.ref 19), some (.int p1), some (.int p2), some (.int p3), some (.int p4), some (.int b5), some (.int b6), some (.int 1), some (.int b8), some (.long y42), none, some (.int 1)] [.int x122, .int b5] rfl rfl ?_
    refine z_xI zt224 78 rfl rfl (fun (x124 : Int32) (h125 : 0 ≤ x124.toInt ∧ x124.toInt < 1024 ∧ b5.toInt ≤ x124.toInt ∧ x122.toInt ≤ x124.toInt) => ?_) (z_pOr 10 rfl rfl (by omega) (by omega) (by decide) (by omega) (by omega) (by decide))
    refine z_xP zt224 79 177 [some (.ref 19), some (.int p1), some (.int p2), some (.int p3), some (.int p4), some (.int x124), some (.int b6), some (.int 1), some (.int b8), some (.long y42), none, some (.int 1)] [.int 1, .int b6] rfl rfl ?_
    refine z_xZ zt224 80 rfl rfl (fun (h126 : (1 : Int) = 0) => absurd h126 (by omega)) (fun (h126 : (1 : Int) ≠ 0) => ?_)
    refine z_xP zt224 81 182 [some (.ref 19), some (.int p1), some (.int p2), some (.int p3), some (.int p4), some (.int x124), some (.int b6), some (.int 1), some (.int b8), some (.long y42), none, some (.int 1)] [.int 1, .int b6] rfl rfl ?_
    refine z_xZ zt224 82 rfl rfl (fun (h127 : (1 : Int) ≠ 0) => ?_) (fun (h127 : (1 : Int) = 0) => absurd h127 (by omega))
    refine z_xP zt224 86 193 [some (.ref 19), some (.int p1), some (.int p2), some (.int p3), some (.int p4), some (.int x124), some (.int b6), some (.int 1), some (.int b8), some (.long y42), none, some (.int 1)] [.int 0, .int b6] rfl rfl ?_
    refine z_xI zt224 87 rfl rfl (fun (x128 : Int32) (h129 : 0 ≤ x128.toInt ∧ x128.toInt < 1024 ∧ b6.toInt ≤ x128.toInt ∧ 0 ≤ x128.toInt) => ?_) (z_pOr 10 rfl rfl (by omega) (by omega) (by decide) (by omega) (by omega) (by decide))
    refine z_xP zt224 88 196 [some (.ref 19), some (.int p1), some (.int p2), some (.int p3), some (.int p4), some (.int x124), some (.int x128), some (.int 1), some (.int b8), some (.long y42), none, some (.int 1)] [] rfl rfl ?_
    refine z_xN zt224 89 rfl rfl (fun (x130 : Int32) (h131 : x130.toInt = b8.toInt + 1) => ?_) (z_pAdd rfl rfl (by omega) (by omega))
    show z_ev (d + 2) 224 199 [some (.ref 19), some (.int p1), some (.int p2), some (.int p3), some (.int p4), some (.int x124), some (.int x128), some (.int 1), some (.int x130), some (.long y42), none, some (.int 1)] [] M _
    refine z_xP zt224 90 54 [some (.ref 19), some (.int p1), some (.int p2), some (.int p3), some (.int p4), some (.int x124), some (.int x128), some (.int 1), some (.int x130), some (.long y42), none, some (.int 1)] [] rfl rfl ?_
    have q1 : ((1 : Int32)).toInt = 1 := rfl
    exact ih M x124 x128 (1) x130 (some (.long y42)) (some (.int 1)) X ⟨by omega, by omega⟩ ⟨by omega, by omega⟩ ⟨by omega, by omega⟩ ⟨by omega, by omega⟩ ⟨by omega, by omega⟩ (by decide) ⟨by omega, by omega⟩ (by omega)
theorem zC224 {T : List zK} {d : Nat} {K : Option Value → zH → Prop} {p1 : Int32} {p2 : Int32} {p3 : Int32} {p4 : Int32} {M0 : zH} (hW : z_W M0 T)  (kk : ∀ (x : Int32) (M1 : zH), z_X T zw224 M0 M1 → K (some (.int x)) M1) : z_ev (d + 2) 224 0 [some (.ref 19), some (.int p1), some (.int p2), some (.int p3), some (.int p4), none, none, none, none, none, none, none] [] M0 K := by
  have X : z_X T zw224 M0 M0 := .refl hW
  refine z_xP zt224 0 3 [some (.ref 19), some (.int p1), some (.int p2), some (.int p3), some (.int p4), none, none, none, none, none, none, none] [.int p2, .int p1, .ref 19] rfl rfl ?_
  have f19 : T[19]? = some (.inl (12, 0, 0, 0, 0)) := X.1.k rfl (by decide)
  refine z_xcV (vs := [.ref 19, .int p1, .int p2]) (r := []) (L2 := [some (.ref 19), some (.int p1), some (.int p2)]) zt224 1 rfl zo224 zzcV12_234 (Or.inl rfl) rfl X f19 rfl rfl rfl (Nat.le_of_ble_eq_true rfl) zzm223 (Nat.le_of_ble_eq_true rfl) rfl ?_
  refine z_xP zt223 0 2 [some (.ref 19), some (.int p1), some (.int p2)] [.int p1, .ref 19] rfl rfl ?_
  refine z_xcV (vs := [.ref 19, .int p1]) (r := []) (L2 := [some (.ref 19), some (.int p1)]) zt223 1 rfl zo223 zzcV12_209 (Or.inl rfl) rfl X f19 rfl rfl rfl (Nat.le_of_ble_eq_true rfl) zzm209 (Nat.le_of_ble_eq_true rfl) rfl ?_
  refine z_xP zt209 0 1 [some (.ref 19), some (.int p1)] [.int p1] rfl rfl ?_
  refine z_xZ zt209 1 rfl rfl (fun (h1 : p1.toInt < 0) => ?_) (fun (h1 : 0 ≤ p1.toInt) => ?_)
  · skip
    refine z_xP zt209 6 17 [some (.ref 19), some (.int p1)] [.int 0] rfl rfl ?_
    refine z_xrz zt209 7 rfl zzr209 (by decide) (by decide) ?_
    show z_ev (d + 1) 223 5 [some (.ref 19), some (.int p1), some (.int p2)] [.int 0] M0 _
    refine z_xZ zt223 2 rfl rfl (fun (h2 : (0 : Int) = 0) => ?_) (fun (h2 : (0 : Int) ≠ 0) => absurd h2 (by omega))
    refine z_xP zt223 11 27 [some (.ref 19), some (.int p1), some (.int p2)] [.int 0] rfl rfl ?_
    refine z_xrz zt223 12 rfl zzr223 (by decide) (by decide) ?_
    show z_ev (d + 2) 224 6 [some (.ref 19), some (.int p1), some (.int p2), some (.int p3), some (.int p4), none, none, none, none, none, none, none] [.int 0] M0 _
    refine z_xZ zt224 2 rfl rfl (fun (h3 : (0 : Int) = 0) => ?_) (fun (h3 : (0 : Int) ≠ 0) => absurd h3 (by omega))
    refine z_xP zt224 6 17 [some (.ref 19), some (.int p1), some (.int p2), some (.int p3), some (.int p4), none, none, none, none, none, none, none] [.int (-1)] rfl rfl ?_
    have qm1 : (((-1) : Int32)).toInt = (-1) := rfl
    exact z_xri zt224 7 rfl zzr224 (kk (-1) M0 X)
  refine z_xP zt209 2 6 [some (.ref 19), some (.int p1)] [.ref 19, .int p1] rfl rfl ?_
  refine z_xgI zt209 3 rfl zo209 zzf12_110 X f19 (by decide) (by decide) rfl (fun (x5 : Int32) h4 (h6 : 0 ≤ x5.toInt) (h7 : x5.toInt ≤ 8) => ?_)
  have h8 := z_b32 p1
  refine z_xJ zt209 4 rfl rfl (fun (h9 : x5.toInt ≤ p1.toInt) => ?_) (fun (h9 : p1.toInt < x5.toInt) => ?_)
  · skip
    refine z_xP zt209 6 17 [some (.ref 19), some (.int p1)] [.int 0] rfl rfl ?_
    refine z_xrz zt209 7 rfl zzr209 (by decide) (by decide) ?_
    show z_ev (d + 1) 223 5 [some (.ref 19), some (.int p1), some (.int p2)] [.int 0] M0 _
    refine z_xZ zt223 2 rfl rfl (fun (h10 : (0 : Int) = 0) => ?_) (fun (h10 : (0 : Int) ≠ 0) => absurd h10 (by omega))
    refine z_xP zt223 11 27 [some (.ref 19), some (.int p1), some (.int p2)] [.int 0] rfl rfl ?_
    refine z_xrz zt223 12 rfl zzr223 (by decide) (by decide) ?_
    show z_ev (d + 2) 224 6 [some (.ref 19), some (.int p1), some (.int p2), some (.int p3), some (.int p4), none, none, none, none, none, none, none] [.int 0] M0 _
    refine z_xZ zt224 2 rfl rfl (fun (h11 : (0 : Int) = 0) => ?_) (fun (h11 : (0 : Int) ≠ 0) => absurd h11 (by omega))
    refine z_xP zt224 6 17 [some (.ref 19), some (.int p1), some (.int p2), some (.int p3), some (.int p4), none, none, none, none, none, none, none] [.int (-1)] rfl rfl ?_
    have qm1 : (((-1) : Int32)).toInt = (-1) := rfl
    exact z_xri zt224 7 rfl zzr224 (kk (-1) M0 X)
  refine z_xP zt209 5 17 [some (.ref 19), some (.int p1)] [.int 1] rfl rfl ?_
  refine z_xrz zt209 7 rfl zzr209 (by decide) (by decide) ?_
  show z_ev (d + 1) 223 5 [some (.ref 19), some (.int p1), some (.int p2)] [.int 1] M0 _
  refine z_xZ zt223 2 rfl rfl (fun (h12 : (1 : Int) = 0) => absurd h12 (by omega)) (fun (h12 : (1 : Int) ≠ 0) => ?_)
  refine z_xP zt223 3 9 [some (.ref 19), some (.int p1), some (.int p2)] [.int p2] rfl rfl ?_
  refine z_xZ zt223 4 rfl rfl (fun (h13 : p2.toInt < 0) => ?_) (fun (h13 : 0 ≤ p2.toInt) => ?_)
  · skip
    refine z_xP zt223 11 27 [some (.ref 19), some (.int p1), some (.int p2)] [.int 0] rfl rfl ?_
    refine z_xrz zt223 12 rfl zzr223 (by decide) (by decide) ?_
    show z_ev (d + 2) 224 6 [some (.ref 19), some (.int p1), some (.int p2), some (.int p3), some (.int p4), none, none, none, none, none, none, none] [.int 0] M0 _
    refine z_xZ zt224 2 rfl rfl (fun (h14 : (0 : Int) = 0) => ?_) (fun (h14 : (0 : Int) ≠ 0) => absurd h14 (by omega))
    refine z_xP zt224 6 17 [some (.ref 19), some (.int p1), some (.int p2), some (.int p3), some (.int p4), none, none, none, none, none, none, none] [.int (-1)] rfl rfl ?_
    have qm1 : (((-1) : Int32)).toInt = (-1) := rfl
    exact z_xri zt224 7 rfl zzr224 (kk (-1) M0 X)
  refine z_xP zt223 5 14 [some (.ref 19), some (.int p1), some (.int p2)] [.ref 19, .int p2] rfl rfl ?_
  refine z_xgX (b := 35) zt223 6 rfl zo223 zzf12_55 X f19 (by decide) (by decide) rfl ?_
  refine z_xP zt223 7 18 [some (.ref 19), some (.int p1), some (.int p2)] [.int p1, .ref 35, .int p2] rfl rfl ?_
  have f35 : T[35]? = some (.inr (35, 0, 8, 0, 9)) := X.1.k rfl (by decide)
  refine z_xil zt223 8 rfl X f35 (by decide) (by omega) (by omega) (fun (x15 : Int32) h16 (h17 : 0 ≤ x15.toInt) (h18 : x15.toInt ≤ 9) => ?_)
  have h19 := z_b32 p2
  refine z_xJ zt223 9 rfl rfl (fun (h20 : x15.toInt ≤ p2.toInt) => ?_) (fun (h20 : p2.toInt < x15.toInt) => ?_)
  · skip
    refine z_xP zt223 11 27 [some (.ref 19), some (.int p1), some (.int p2)] [.int 0] rfl rfl ?_
    refine z_xrz zt223 12 rfl zzr223 (by decide) (by decide) ?_
    show z_ev (d + 2) 224 6 [some (.ref 19), some (.int p1), some (.int p2), some (.int p3), some (.int p4), none, none, none, none, none, none, none] [.int 0] M0 _
    refine z_xZ zt224 2 rfl rfl (fun (h21 : (0 : Int) = 0) => ?_) (fun (h21 : (0 : Int) ≠ 0) => absurd h21 (by omega))
    refine z_xP zt224 6 17 [some (.ref 19), some (.int p1), some (.int p2), some (.int p3), some (.int p4), none, none, none, none, none, none, none] [.int (-1)] rfl rfl ?_
    have qm1 : (((-1) : Int32)).toInt = (-1) := rfl
    exact z_xri zt224 7 rfl zzr224 (kk (-1) M0 X)
  refine z_xP zt223 10 27 [some (.ref 19), some (.int p1), some (.int p2)] [.int 1] rfl rfl ?_
  refine z_xrz zt223 12 rfl zzr223 (by decide) (by decide) ?_
  show z_ev (d + 2) 224 6 [some (.ref 19), some (.int p1), some (.int p2), some (.int p3), some (.int p4), none, none, none, none, none, none, none] [.int 1] M0 _
  refine z_xZ zt224 2 rfl rfl (fun (h22 : (1 : Int) = 0) => absurd h22 (by omega)) (fun (h22 : (1 : Int) ≠ 0) => ?_)
  refine z_xP zt224 3 10 [some (.ref 19), some (.int p1), some (.int p2), some (.int p3), some (.int p4), none, none, none, none, none, none, none] [.int p3] rfl rfl ?_
  refine z_xcS (vs := [.int p3]) (r := []) (L2 := [some (.int p3)]) zt224 4 rfl zo224 zzcS12_237 (Or.inl rfl) (Nat.le_of_ble_eq_true rfl) rfl rfl (Nat.le_of_ble_eq_true rfl) zzm225 (Nat.le_of_ble_eq_true rfl) rfl ?_
  refine z_xP zt225 0 1 [some (.int p3)] [.int p3] rfl rfl ?_
  have h23 := z_b32 p3
  refine z_xL zt225 1 rfl rfl (fun (y24 : Int64) (h25 : y24.toInt = p3.toInt) => ?_) (z_qI2L rfl)
  refine z_xP zt225 2 3 [some (.int p3)] [.long 0, .long y24] rfl rfl ?_
  refine z_xl2 zt225 3 rfl zo225 zkl12_318 ?_
  refine z_xcS (vs := [.long y24, .long 0, .long 5]) (r := []) (L2 := [some (.long y24), none, some (.long 0), none, some (.long 5), none]) zt225 4 rfl zo225 zzcS12_116 (Or.inl rfl) (Nat.le_of_ble_eq_true rfl) rfl rfl (Nat.le_of_ble_eq_true rfl) zzm189 (Nat.le_of_ble_eq_true rfl) rfl ?_
  refine z_xP zt189 0 2 [some (.long y24), none, some (.long 0), none, some (.long 5), none] [.long 0, .long y24] rfl rfl ?_
  refine z_xI zt189 1 rfl rfl (fun (x26 : Int32) (h27 : (x26.toInt < 0 ∧ y24.toInt < 0) ∨ (x26.toInt = 0 ∧ y24.toInt = 0) ∨ (0 < x26.toInt ∧ 0 < y24.toInt)) => ?_) (z_qCmp rfl rfl)
  refine z_xZ zt189 2 rfl rfl (fun (h28 : x26.toInt < 0) => ?_) (fun (h28 : 0 ≤ x26.toInt) => ?_)
  · skip
    refine z_xP zt189 7 18 [some (.long y24), none, some (.long 0), none, some (.long 5), none] [.int 0] rfl rfl ?_
    refine z_xrz zt189 8 rfl zzr189 (by decide) (by decide) ?_
    show z_ev (d + 1) 225 9 [some (.int p3)] [.int 0] M0 _
    refine z_xrz zt225 5 rfl zzr225 (by decide) (by decide) ?_
    show z_ev (d + 2) 224 13 [some (.ref 19), some (.int p1), some (.int p2), some (.int p3), some (.int p4), none, none, none, none, none, none, none] [.int 0] M0 _
    refine z_xZ zt224 5 rfl rfl (fun (h29 : (0 : Int) ≠ 0) => absurd h29 (by omega)) (fun (h29 : (0 : Int) = 0) => ?_)
    refine z_xP zt224 6 17 [some (.ref 19), some (.int p1), some (.int p2), some (.int p3), some (.int p4), none, none, none, none, none, none, none] [.int (-1)] rfl rfl ?_
    have qm1 : (((-1) : Int32)).toInt = (-1) := rfl
    exact z_xri zt224 7 rfl zzr224 (kk (-1) M0 X)
  refine z_xP zt189 3 9 [some (.long y24), none, some (.long 0), none, some (.long 5), none] [.long 5, .long y24] rfl rfl ?_
  refine z_xI zt189 4 rfl rfl (fun (x30 : Int32) (h31 : (x30.toInt < 0 ∧ y24.toInt < 5) ∨ (x30.toInt = 0 ∧ y24.toInt = 5) ∨ (0 < x30.toInt ∧ 5 < y24.toInt)) => ?_) (z_qCmp rfl rfl)
  refine z_xZ zt189 5 rfl rfl (fun (h32 : 0 < x30.toInt) => ?_) (fun (h32 : x30.toInt ≤ 0) => ?_)
  · skip
    refine z_xP zt189 7 18 [some (.long y24), none, some (.long 0), none, some (.long 5), none] [.int 0] rfl rfl ?_
    refine z_xrz zt189 8 rfl zzr189 (by decide) (by decide) ?_
    show z_ev (d + 1) 225 9 [some (.int p3)] [.int 0] M0 _
    refine z_xrz zt225 5 rfl zzr225 (by decide) (by decide) ?_
    show z_ev (d + 2) 224 13 [some (.ref 19), some (.int p1), some (.int p2), some (.int p3), some (.int p4), none, none, none, none, none, none, none] [.int 0] M0 _
    refine z_xZ zt224 5 rfl rfl (fun (h33 : (0 : Int) ≠ 0) => absurd h33 (by omega)) (fun (h33 : (0 : Int) = 0) => ?_)
    refine z_xP zt224 6 17 [some (.ref 19), some (.int p1), some (.int p2), some (.int p3), some (.int p4), none, none, none, none, none, none, none] [.int (-1)] rfl rfl ?_
    have qm1 : (((-1) : Int32)).toInt = (-1) := rfl
    exact z_xri zt224 7 rfl zzr224 (kk (-1) M0 X)
  refine z_xP zt189 6 18 [some (.long y24), none, some (.long 0), none, some (.long 5), none] [.int 1] rfl rfl ?_
  refine z_xrz zt189 8 rfl zzr189 (by decide) (by decide) ?_
  show z_ev (d + 1) 225 9 [some (.int p3)] [.int 1] M0 _
  refine z_xrz zt225 5 rfl zzr225 (by decide) (by decide) ?_
  show z_ev (d + 2) 224 13 [some (.ref 19), some (.int p1), some (.int p2), some (.int p3), some (.int p4), none, none, none, none, none, none, none] [.int 1] M0 _
  refine z_xZ zt224 5 rfl rfl (fun (h34 : (1 : Int) ≠ 0) => ?_) (fun (h34 : (1 : Int) = 0) => absurd h34 (by omega))
  refine z_xP zt224 8 19 [some (.ref 19), some (.int p1), some (.int p2), some (.int p3), some (.int p4), none, none, none, none, none, none, none] [.ref 19] rfl rfl ?_
  refine z_xgX (b := 49) zt224 9 rfl zo224 zzf12_97 X f19 (by decide) (by decide) rfl ?_
  refine z_xP zt224 10 23 [some (.ref 19), some (.int p1), some (.int p2), some (.int p3), some (.int p4), none, none, none, none, none, none, none] [.int p3, .ref 49] rfl rfl ?_
  have f49 : T[49]? = some (.inr (49, 0, 6, (-1), 24)) := X.1.k rfl (by decide)
  refine z_xil zt224 11 rfl X f49 (by decide) (by omega) (by omega) (fun (x35 : Int32) h36 (h37 : (-1) ≤ x35.toInt) (h38 : x35.toInt ≤ 24) => ?_)
  refine z_xP zt224 12 25 [some (.ref 19), some (.int p1), some (.int p2), some (.int p3), some (.int p4), none, none, none, none, none, none, none] [.int (-1), .int x35] rfl rfl ?_
  refine z_xJ zt224 13 rfl rfl (fun (h39 : x35.toInt = (-1)) => ?_) (fun (h39 : x35.toInt ≠ (-1)) => ?_)
  · skip
    refine z_xP zt224 22 54 [some (.ref 19), some (.int p1), some (.int p2), some (.int p3), some (.int p4), some (.int 0), some (.int 0), some (.int 1), some (.int 0), none, none, none] [] rfl rfl ?_
    have q0 : ((0 : Int32)).toInt = 0 := rfl
    have q1 : ((1 : Int32)).toInt = 1 := rfl
    exact (zB224 kk 22) M0 (0) (0) (1) (0) none none X ⟨by omega, by omega⟩ ⟨by omega, by omega⟩ ⟨by omega, by omega⟩ (by decide) (by decide) (by decide) (by decide) (by omega)
  refine z_xP zt224 14 29 [some (.ref 19), some (.int p1), some (.int p2), some (.int p3), some (.int p4), none, none, none, none, none, none, none] [.ref 19] rfl rfl ?_
  refine z_xgX (b := 49) zt224 15 rfl zo224 zzf12_97 X f19 (by decide) (by decide) rfl ?_
  refine z_xP zt224 16 33 [some (.ref 19), some (.int p1), some (.int p2), some (.int p3), some (.int p4), none, none, none, none, none, none, none] [.int p3, .ref 49] rfl rfl ?_
  refine z_xil zt224 17 rfl X f49 (by decide) (by omega) (by omega) (fun (x40 : Int32) h41 (h42 : (-1) ≤ x40.toInt) (h43 : x40.toInt ≤ 24) => ?_)
  have h44 := congrArg Int32.toInt (h41.symm.trans h36)
  refine z_xP zt224 18 36 [some (.ref 19), some (.int p1), some (.int p2), some (.int p3), some (.int p4), none, none, none, none, none, none, none] [.int 24, .int x40] rfl rfl ?_
  refine z_xJ zt224 19 rfl rfl (fun (h45 : x40.toInt = 24) => ?_) (fun (h45 : x40.toInt ≠ 24) => ?_)
  · skip
    refine z_xP zt224 22 54 [some (.ref 19), some (.int p1), some (.int p2), some (.int p3), some (.int p4), some (.int 0), some (.int 0), some (.int 1), some (.int 0), none, none, none] [] rfl rfl ?_
    have q0 : ((0 : Int32)).toInt = 0 := rfl
    have q1 : ((1 : Int32)).toInt = 1 := rfl
    exact (zB224 kk 22) M0 (0) (0) (1) (0) none none X ⟨by omega, by omega⟩ ⟨by omega, by omega⟩ ⟨by omega, by omega⟩ (by decide) (by decide) (by decide) (by decide) (by omega)
  refine z_xP zt224 20 41 [some (.ref 19), some (.int p1), some (.int p2), some (.int p3), some (.int p4), none, none, none, none, none, none, none] [.int (-12)] rfl rfl ?_
  have qm12 : (((-12) : Int32)).toInt = (-12) := rfl
  exact z_xri zt224 21 rfl zzr224 (kk (-12) M0 X)
def zw226 : List Nat := [35]
theorem zC226 {T : List zK} {d : Nat} {K : Option Value → zH → Prop} {p1 : Int32} {M0 : zH} (hW : z_W M0 T)  (kk : ∀ (x : Int32) (M1 : zH), z_X T zw226 M0 M1 → (-1) ≤ x.toInt → x.toInt ≤ 9 → K (some (.int x)) M1) : z_ev (d + 1) 226 0 [some (.ref 19), some (.int p1), none] [] M0 K := by
  have X : z_X T zw226 M0 M0 := .refl hW
  refine z_xP zt226 0 2 [some (.ref 19), some (.int p1), none] [.int p1, .ref 19] rfl rfl ?_
  have f19 : T[19]? = some (.inl (12, 0, 0, 0, 0)) := X.1.k rfl (by decide)
  refine z_xcV (vs := [.ref 19, .int p1]) (r := []) (L2 := [some (.ref 19), some (.int p1)]) zt226 1 rfl zo226 zzcV12_209 (Or.inl rfl) rfl X f19 rfl rfl rfl (Nat.le_of_ble_eq_true rfl) zzm209 (Nat.le_of_ble_eq_true rfl) rfl ?_
  refine z_xP zt209 0 1 [some (.ref 19), some (.int p1)] [.int p1] rfl rfl ?_
  refine z_xZ zt209 1 rfl rfl (fun (h1 : p1.toInt < 0) => ?_) (fun (h1 : 0 ≤ p1.toInt) => ?_)
  · skip
    refine z_xP zt209 6 17 [some (.ref 19), some (.int p1)] [.int 0] rfl rfl ?_
    refine z_xrz zt209 7 rfl zzr209 (by decide) (by decide) ?_
    show z_ev (d + 1) 226 5 [some (.ref 19), some (.int p1), none] [.int 0] M0 _
    refine z_xZ zt226 2 rfl rfl (fun (h2 : (0 : Int) ≠ 0) => absurd h2 (by omega)) (fun (h2 : (0 : Int) = 0) => ?_)
    refine z_xP zt226 3 9 [some (.ref 19), some (.int p1), none] [.int (-1)] rfl rfl ?_
    have qm1 : (((-1) : Int32)).toInt = (-1) := rfl
    exact z_xri zt226 4 rfl zzr226 (kk (-1) M0 X (by omega) (by omega))
  refine z_xP zt209 2 6 [some (.ref 19), some (.int p1)] [.ref 19, .int p1] rfl rfl ?_
  refine z_xgI zt209 3 rfl zo209 zzf12_110 X f19 (by decide) (by decide) rfl (fun (x4 : Int32) h3 (h5 : 0 ≤ x4.toInt) (h6 : x4.toInt ≤ 8) => ?_)
  have h7 := z_b32 p1
  refine z_xJ zt209 4 rfl rfl (fun (h8 : x4.toInt ≤ p1.toInt) => ?_) (fun (h8 : p1.toInt < x4.toInt) => ?_)
  · skip
    refine z_xP zt209 6 17 [some (.ref 19), some (.int p1)] [.int 0] rfl rfl ?_
    refine z_xrz zt209 7 rfl zzr209 (by decide) (by decide) ?_
    show z_ev (d + 1) 226 5 [some (.ref 19), some (.int p1), none] [.int 0] M0 _
    refine z_xZ zt226 2 rfl rfl (fun (h9 : (0 : Int) ≠ 0) => absurd h9 (by omega)) (fun (h9 : (0 : Int) = 0) => ?_)
    refine z_xP zt226 3 9 [some (.ref 19), some (.int p1), none] [.int (-1)] rfl rfl ?_
    have qm1 : (((-1) : Int32)).toInt = (-1) := rfl
    exact z_xri zt226 4 rfl zzr226 (kk (-1) M0 X (by omega) (by omega))
  refine z_xP zt209 5 17 [some (.ref 19), some (.int p1)] [.int 1] rfl rfl ?_
  refine z_xrz zt209 7 rfl zzr209 (by decide) (by decide) ?_
  show z_ev (d + 1) 226 5 [some (.ref 19), some (.int p1), none] [.int 1] M0 _
  refine z_xZ zt226 2 rfl rfl (fun (h10 : (1 : Int) ≠ 0) => ?_) (fun (h10 : (1 : Int) = 0) => absurd h10 (by omega))
  refine z_xP zt226 5 11 [some (.ref 19), some (.int p1), none] [.ref 19] rfl rfl ?_
  refine z_xgX (b := 35) zt226 6 rfl zo226 zzf12_55 X f19 (by decide) (by decide) rfl ?_
  refine z_xP zt226 7 15 [some (.ref 19), some (.int p1), none] [.int p1, .ref 35] rfl rfl ?_
  have f35 : T[35]? = some (.inr (35, 0, 8, 0, 9)) := X.1.k rfl (by decide)
  refine z_xil zt226 8 rfl X f35 (by decide) (by omega) (by omega) (fun (x11 : Int32) h12 (h13 : 0 ≤ x11.toInt) (h14 : x11.toInt ≤ 9) => ?_)
  refine z_xP zt226 9 18 [some (.ref 19), some (.int p1), some (.int x11)] [.ref 19] rfl rfl ?_
  refine z_xgX (b := 35) zt226 10 rfl zo226 zzf12_55 X f19 (by decide) (by decide) rfl ?_
  refine z_xP zt226 11 23 [some (.ref 19), some (.int p1), some (.int x11)] [.int 0, .int p1, .ref 35] rfl rfl ?_
  have q0 : ((0 : Int32)).toInt = 0 := rfl
  refine z_xis zt226 12 rfl X f35 (by decide) (by decide) (by omega) (by omega) (by omega) (by omega) (by decide) (fun M15 X16 e17 h18 => ?_)
  refine z_xP zt226 13 25 [some (.ref 19), some (.int p1), some (.int x11)] [.int x11] rfl rfl ?_
  exact z_xri zt226 14 rfl zzr226 (kk x11 M15 X16 (by omega) (by omega))
def zw227 : List Nat := []
theorem zC227 {T : List zK} {d : Nat} {K : Option Value → zH → Prop} {p1 : Int32} {p2 : Int32} {p3 : Int32} {M0 : zH} (hW : z_W M0 T)  (kk : ∀ (x : Int32) (M1 : zH), z_X T zw227 M0 M1 → K (some (.int x)) M1) : z_ev (d + 2) 227 0 [some (.ref 19), some (.int p1), some (.int p2), some (.int p3), none] [] M0 K := by
  have X : z_X T zw227 M0 M0 := .refl hW
  refine z_xP zt227 0 3 [some (.ref 19), some (.int p1), some (.int p2), some (.int p3), none] [.int p2, .int p1, .ref 19] rfl rfl ?_
  have f19 : T[19]? = some (.inl (12, 0, 0, 0, 0)) := X.1.k rfl (by decide)
  refine z_xcV (vs := [.ref 19, .int p1, .int p2]) (r := []) (L2 := [some (.ref 19), some (.int p1), some (.int p2)]) zt227 1 rfl zo227 zzcV12_234 (Or.inl rfl) rfl X f19 rfl rfl rfl (Nat.le_of_ble_eq_true rfl) zzm223 (Nat.le_of_ble_eq_true rfl) rfl ?_
  refine z_xP zt223 0 2 [some (.ref 19), some (.int p1), some (.int p2)] [.int p1, .ref 19] rfl rfl ?_
  refine z_xcV (vs := [.ref 19, .int p1]) (r := []) (L2 := [some (.ref 19), some (.int p1)]) zt223 1 rfl zo223 zzcV12_209 (Or.inl rfl) rfl X f19 rfl rfl rfl (Nat.le_of_ble_eq_true rfl) zzm209 (Nat.le_of_ble_eq_true rfl) rfl ?_
  refine z_xP zt209 0 1 [some (.ref 19), some (.int p1)] [.int p1] rfl rfl ?_
  refine z_xZ zt209 1 rfl rfl (fun (h1 : p1.toInt < 0) => ?_) (fun (h1 : 0 ≤ p1.toInt) => ?_)
  · skip
    refine z_xP zt209 6 17 [some (.ref 19), some (.int p1)] [.int 0] rfl rfl ?_
    refine z_xrz zt209 7 rfl zzr209 (by decide) (by decide) ?_
    show z_ev (d + 1) 223 5 [some (.ref 19), some (.int p1), some (.int p2)] [.int 0] M0 _
    refine z_xZ zt223 2 rfl rfl (fun (h2 : (0 : Int) = 0) => ?_) (fun (h2 : (0 : Int) ≠ 0) => absurd h2 (by omega))
    refine z_xP zt223 11 27 [some (.ref 19), some (.int p1), some (.int p2)] [.int 0] rfl rfl ?_
    refine z_xrz zt223 12 rfl zzr223 (by decide) (by decide) ?_
    show z_ev (d + 2) 227 6 [some (.ref 19), some (.int p1), some (.int p2), some (.int p3), none] [.int 0] M0 _
    refine z_xZ zt227 2 rfl rfl (fun (h3 : (0 : Int) = 0) => ?_) (fun (h3 : (0 : Int) ≠ 0) => absurd h3 (by omega))
    refine z_xP zt227 9 22 [some (.ref 19), some (.int p1), some (.int p2), some (.int p3), none] [.int (-1)] rfl rfl ?_
    have qm1 : (((-1) : Int32)).toInt = (-1) := rfl
    exact z_xri zt227 10 rfl zzr227 (kk (-1) M0 X)
  refine z_xP zt209 2 6 [some (.ref 19), some (.int p1)] [.ref 19, .int p1] rfl rfl ?_
  refine z_xgI zt209 3 rfl zo209 zzf12_110 X f19 (by decide) (by decide) rfl (fun (x5 : Int32) h4 (h6 : 0 ≤ x5.toInt) (h7 : x5.toInt ≤ 8) => ?_)
  have h8 := z_b32 p1
  refine z_xJ zt209 4 rfl rfl (fun (h9 : x5.toInt ≤ p1.toInt) => ?_) (fun (h9 : p1.toInt < x5.toInt) => ?_)
  · skip
    refine z_xP zt209 6 17 [some (.ref 19), some (.int p1)] [.int 0] rfl rfl ?_
    refine z_xrz zt209 7 rfl zzr209 (by decide) (by decide) ?_
    show z_ev (d + 1) 223 5 [some (.ref 19), some (.int p1), some (.int p2)] [.int 0] M0 _
    refine z_xZ zt223 2 rfl rfl (fun (h10 : (0 : Int) = 0) => ?_) (fun (h10 : (0 : Int) ≠ 0) => absurd h10 (by omega))
    refine z_xP zt223 11 27 [some (.ref 19), some (.int p1), some (.int p2)] [.int 0] rfl rfl ?_
    refine z_xrz zt223 12 rfl zzr223 (by decide) (by decide) ?_
    show z_ev (d + 2) 227 6 [some (.ref 19), some (.int p1), some (.int p2), some (.int p3), none] [.int 0] M0 _
    refine z_xZ zt227 2 rfl rfl (fun (h11 : (0 : Int) = 0) => ?_) (fun (h11 : (0 : Int) ≠ 0) => absurd h11 (by omega))
    refine z_xP zt227 9 22 [some (.ref 19), some (.int p1), some (.int p2), some (.int p3), none] [.int (-1)] rfl rfl ?_
    have qm1 : (((-1) : Int32)).toInt = (-1) := rfl
    exact z_xri zt227 10 rfl zzr227 (kk (-1) M0 X)
  refine z_xP zt209 5 17 [some (.ref 19), some (.int p1)] [.int 1] rfl rfl ?_
  refine z_xrz zt209 7 rfl zzr209 (by decide) (by decide) ?_
  show z_ev (d + 1) 223 5 [some (.ref 19), some (.int p1), some (.int p2)] [.int 1] M0 _
  refine z_xZ zt223 2 rfl rfl (fun (h12 : (1 : Int) = 0) => absurd h12 (by omega)) (fun (h12 : (1 : Int) ≠ 0) => ?_)
  refine z_xP zt223 3 9 [some (.ref 19), some (.int p1), some (.int p2)] [.int p2] rfl rfl ?_
  refine z_xZ zt223 4 rfl rfl (fun (h13 : p2.toInt < 0) => ?_) (fun (h13 : 0 ≤ p2.toInt) => ?_)
  · skip
    refine z_xP zt223 11 27 [some (.ref 19), some (.int p1), some (.int p2)] [.int 0] rfl rfl ?_
    refine z_xrz zt223 12 rfl zzr223 (by decide) (by decide) ?_
    show z_ev (d + 2) 227 6 [some (.ref 19), some (.int p1), some (.int p2), some (.int p3), none] [.int 0] M0 _
    refine z_xZ zt227 2 rfl rfl (fun (h14 : (0 : Int) = 0) => ?_) (fun (h14 : (0 : Int) ≠ 0) => absurd h14 (by omega))
    refine z_xP zt227 9 22 [some (.ref 19), some (.int p1), some (.int p2), some (.int p3), none] [.int (-1)] rfl rfl ?_
    have qm1 : (((-1) : Int32)).toInt = (-1) := rfl
    exact z_xri zt227 10 rfl zzr227 (kk (-1) M0 X)
  refine z_xP zt223 5 14 [some (.ref 19), some (.int p1), some (.int p2)] [.ref 19, .int p2] rfl rfl ?_
  refine z_xgX (b := 35) zt223 6 rfl zo223 zzf12_55 X f19 (by decide) (by decide) rfl ?_
  refine z_xP zt223 7 18 [some (.ref 19), some (.int p1), some (.int p2)] [.int p1, .ref 35, .int p2] rfl rfl ?_
  have f35 : T[35]? = some (.inr (35, 0, 8, 0, 9)) := X.1.k rfl (by decide)
  refine z_xil zt223 8 rfl X f35 (by decide) (by omega) (by omega) (fun (x15 : Int32) h16 (h17 : 0 ≤ x15.toInt) (h18 : x15.toInt ≤ 9) => ?_)
  have h19 := z_b32 p2
  refine z_xJ zt223 9 rfl rfl (fun (h20 : x15.toInt ≤ p2.toInt) => ?_) (fun (h20 : p2.toInt < x15.toInt) => ?_)
  · skip
    refine z_xP zt223 11 27 [some (.ref 19), some (.int p1), some (.int p2)] [.int 0] rfl rfl ?_
    refine z_xrz zt223 12 rfl zzr223 (by decide) (by decide) ?_
    show z_ev (d + 2) 227 6 [some (.ref 19), some (.int p1), some (.int p2), some (.int p3), none] [.int 0] M0 _
    refine z_xZ zt227 2 rfl rfl (fun (h21 : (0 : Int) = 0) => ?_) (fun (h21 : (0 : Int) ≠ 0) => absurd h21 (by omega))
    refine z_xP zt227 9 22 [some (.ref 19), some (.int p1), some (.int p2), some (.int p3), none] [.int (-1)] rfl rfl ?_
    have qm1 : (((-1) : Int32)).toInt = (-1) := rfl
    exact z_xri zt227 10 rfl zzr227 (kk (-1) M0 X)
  refine z_xP zt223 10 27 [some (.ref 19), some (.int p1), some (.int p2)] [.int 1] rfl rfl ?_
  refine z_xrz zt223 12 rfl zzr223 (by decide) (by decide) ?_
  show z_ev (d + 2) 227 6 [some (.ref 19), some (.int p1), some (.int p2), some (.int p3), none] [.int 1] M0 _
  refine z_xZ zt227 2 rfl rfl (fun (h22 : (1 : Int) = 0) => absurd h22 (by omega)) (fun (h22 : (1 : Int) ≠ 0) => ?_)
  refine z_xP zt227 3 10 [some (.ref 19), some (.int p1), some (.int p2), some (.int p3), none] [.int p3] rfl rfl ?_
  have h23 := z_b32 p3
  refine z_xL zt227 4 rfl rfl (fun (y24 : Int64) (h25 : y24.toInt = p3.toInt) => ?_) (z_qI2L rfl)
  refine z_xP zt227 5 12 [some (.ref 19), some (.int p1), some (.int p2), some (.int p3), none] [.long 0, .long y24] rfl rfl ?_
  refine z_xl2 zt227 6 rfl zo227 zkl12_240 ?_
  refine z_xcS (vs := [.long y24, .long 0, .long 2]) (r := []) (L2 := [some (.long y24), none, some (.long 0), none, some (.long 2), none]) zt227 7 rfl zo227 zzcS12_116 (Or.inl rfl) (Nat.le_of_ble_eq_true rfl) rfl rfl (Nat.le_of_ble_eq_true rfl) zzm189 (Nat.le_of_ble_eq_true rfl) rfl ?_
  refine z_xP zt189 0 2 [some (.long y24), none, some (.long 0), none, some (.long 2), none] [.long 0, .long y24] rfl rfl ?_
  refine z_xI zt189 1 rfl rfl (fun (x26 : Int32) (h27 : (x26.toInt < 0 ∧ y24.toInt < 0) ∨ (x26.toInt = 0 ∧ y24.toInt = 0) ∨ (0 < x26.toInt ∧ 0 < y24.toInt)) => ?_) (z_qCmp rfl rfl)
  refine z_xZ zt189 2 rfl rfl (fun (h28 : x26.toInt < 0) => ?_) (fun (h28 : 0 ≤ x26.toInt) => ?_)
  · skip
    refine z_xP zt189 7 18 [some (.long y24), none, some (.long 0), none, some (.long 2), none] [.int 0] rfl rfl ?_
    refine z_xrz zt189 8 rfl zzr189 (by decide) (by decide) ?_
    show z_ev (d + 2) 227 18 [some (.ref 19), some (.int p1), some (.int p2), some (.int p3), none] [.int 0] M0 _
    refine z_xZ zt227 8 rfl rfl (fun (h29 : (0 : Int) ≠ 0) => absurd h29 (by omega)) (fun (h29 : (0 : Int) = 0) => ?_)
    refine z_xP zt227 9 22 [some (.ref 19), some (.int p1), some (.int p2), some (.int p3), none] [.int (-1)] rfl rfl ?_
    have qm1 : (((-1) : Int32)).toInt = (-1) := rfl
    exact z_xri zt227 10 rfl zzr227 (kk (-1) M0 X)
  refine z_xP zt189 3 9 [some (.long y24), none, some (.long 0), none, some (.long 2), none] [.long 2, .long y24] rfl rfl ?_
  refine z_xI zt189 4 rfl rfl (fun (x30 : Int32) (h31 : (x30.toInt < 0 ∧ y24.toInt < 2) ∨ (x30.toInt = 0 ∧ y24.toInt = 2) ∨ (0 < x30.toInt ∧ 2 < y24.toInt)) => ?_) (z_qCmp rfl rfl)
  refine z_xZ zt189 5 rfl rfl (fun (h32 : 0 < x30.toInt) => ?_) (fun (h32 : x30.toInt ≤ 0) => ?_)
  · skip
    refine z_xP zt189 7 18 [some (.long y24), none, some (.long 0), none, some (.long 2), none] [.int 0] rfl rfl ?_
    refine z_xrz zt189 8 rfl zzr189 (by decide) (by decide) ?_
    show z_ev (d + 2) 227 18 [some (.ref 19), some (.int p1), some (.int p2), some (.int p3), none] [.int 0] M0 _
    refine z_xZ zt227 8 rfl rfl (fun (h33 : (0 : Int) ≠ 0) => absurd h33 (by omega)) (fun (h33 : (0 : Int) = 0) => ?_)
    refine z_xP zt227 9 22 [some (.ref 19), some (.int p1), some (.int p2), some (.int p3), none] [.int (-1)] rfl rfl ?_
    have qm1 : (((-1) : Int32)).toInt = (-1) := rfl
    exact z_xri zt227 10 rfl zzr227 (kk (-1) M0 X)
  refine z_xP zt189 6 18 [some (.long y24), none, some (.long 0), none, some (.long 2), none] [.int 1] rfl rfl ?_
  refine z_xrz zt189 8 rfl zzr189 (by decide) (by decide) ?_
  show z_ev (d + 2) 227 18 [some (.ref 19), some (.int p1), some (.int p2), some (.int p3), none] [.int 1] M0 _
  refine z_xZ zt227 8 rfl rfl (fun (h34 : (1 : Int) ≠ 0) => ?_) (fun (h34 : (1 : Int) = 0) => absurd h34 (by omega))
  refine z_xP zt227 11 26 [some (.ref 19), some (.int p1), some (.int p2), some (.int p3), none] [.int p1, .int 9] rfl rfl ?_
  refine z_xI zt227 12 rfl rfl (fun (x35 : Int32) (h36 : x35.toInt = 9 * p1.toInt) => ?_) (z_pMul rfl rfl (by omega) (by omega))
  refine z_xP zt227 13 28 [some (.ref 19), some (.int p1), some (.int p2), some (.int p3), none] [.int p2, .int x35] rfl rfl ?_
  refine z_xI zt227 14 rfl rfl (fun (x37 : Int32) (h38 : x37.toInt = x35.toInt + p2.toInt) => ?_) (z_pAdd rfl rfl (by omega) (by omega))
  refine z_xP zt227 15 32 [some (.ref 19), some (.int p1), some (.int p2), some (.int p3), some (.int x37)] [.int p3] rfl rfl ?_
  refine z_xZ zt227 16 rfl rfl (fun (h39 : p3.toInt ≠ 0) => ?_) (fun (h39 : p3.toInt = 0) => ?_)
  · skip
    refine z_xP zt227 22 47 [some (.ref 19), some (.int p1), some (.int p2), some (.int p3), some (.int x37)] [.int 1, .int p3] rfl rfl ?_
    refine z_xJ zt227 23 rfl rfl (fun (h40 : p3.toInt ≠ 1) => ?_) (fun (h40 : p3.toInt = 1) => ?_)
    · skip
      refine z_xP zt227 29 61 [some (.ref 19), some (.int p1), some (.int p2), some (.int p3), some (.int x37)] [.ref 19] rfl rfl ?_
      refine z_xgX (b := 34) zt227 30 rfl zo227 zzf12_52 X f19 (by decide) (by decide) rfl ?_
      refine z_xP zt227 31 66 [some (.ref 19), some (.int p1), some (.int p2), some (.int p3), some (.int x37)] [.int x37, .ref 34] rfl rfl ?_
      have f34 : T[34]? = some (.inr (34, 0, 72, (-2147483648), 2147483647)) := X.1.k rfl (by decide)
      refine z_xil zt227 32 rfl X f34 (by decide) (by omega) (by omega) (fun (x41 : Int32) h42 (h43 : (-2147483648) ≤ x41.toInt) (h44 : x41.toInt ≤ 2147483647) => ?_)
      exact z_xri zt227 33 rfl zzr227 (kk x41 M0 X)
    refine z_xP zt227 24 51 [some (.ref 19), some (.int p1), some (.int p2), some (.int p3), some (.int x37)] [.ref 19] rfl rfl ?_
    refine z_xgX (b := 33) zt227 25 rfl zo227 zzf12_49 X f19 (by decide) (by decide) rfl ?_
    refine z_xP zt227 26 56 [some (.ref 19), some (.int p1), some (.int p2), some (.int p3), some (.int x37)] [.int x37, .ref 33] rfl rfl ?_
    have f33 : T[33]? = some (.inr (33, 0, 72, (-2147483648), 2147483647)) := X.1.k rfl (by decide)
    refine z_xil zt227 27 rfl X f33 (by decide) (by omega) (by omega) (fun (x45 : Int32) h46 (h47 : (-2147483648) ≤ x45.toInt) (h48 : x45.toInt ≤ 2147483647) => ?_)
    refine z_xP zt227 28 67 [some (.ref 19), some (.int p1), some (.int p2), some (.int p3), some (.int x37)] [.int x45] rfl rfl ?_
    exact z_xri zt227 33 rfl zzr227 (kk x45 M0 X)
  refine z_xP zt227 17 36 [some (.ref 19), some (.int p1), some (.int p2), some (.int p3), some (.int x37)] [.ref 19] rfl rfl ?_
  refine z_xgX (b := 32) zt227 18 rfl zo227 zzf12_46 X f19 (by decide) (by decide) rfl ?_
  refine z_xP zt227 19 41 [some (.ref 19), some (.int p1), some (.int p2), some (.int p3), some (.int x37)] [.int x37, .ref 32] rfl rfl ?_
  have f32 : T[32]? = some (.inr (32, 0, 72, (-2147483648), 2147483647)) := X.1.k rfl (by decide)
  refine z_xil zt227 20 rfl X f32 (by decide) (by omega) (by omega) (fun (x49 : Int32) h50 (h51 : (-2147483648) ≤ x49.toInt) (h52 : x49.toInt ≤ 2147483647) => ?_)
  refine z_xP zt227 21 67 [some (.ref 19), some (.int p1), some (.int p2), some (.int p3), some (.int x37)] [.int x49] rfl rfl ?_
  exact z_xri zt227 33 rfl zzr227 (kk x49 M0 X)
def zw229 : List Nat := [39, 40, 41, 2229, 2230]
theorem zB229 {T : List zK} {d : Nat} {K : Option Value → zH → Prop} {p1 : Int32} {zp0 : Int32} {M0 : zH} (u1 : 0 ≤ p1.toInt ∧ p1.toInt ≤ 7) (hz0 : z_F M0 19 29 = some (.int zp0)) (bz0 : 0 ≤ zp0.toInt ∧ zp0.toInt ≤ 7) (kk : ∀ (M1 : zH), z_X T zw229 M0 M1 → ∀ (w0 : Int32), z_F M1 19 29 = some (.int w0) → 0 ≤ w0.toInt ∧ w0.toInt ≤ 7 → w0.toInt = p1.toInt → K none M1) : ∀ n : Nat, (∀ (M : zH) (b2 : Int32) (z0 : Int32), z_X T zw229 M0 M → 0 ≤ b2.toInt ∧ b2.toInt ≤ 9 → z_F M 19 29 = some (.int z0) → 0 ≤ z0.toInt ∧ z0.toInt ≤ 7 → z0.toInt = p1.toInt → ((0) * 2 + 0) * 10 + (9 - b2.toInt) < (n : Int) → z_ev d 229 17 [some (.ref 19), some (.int p1), some (.int b2)] [] M K) := by
  intro n
  induction n with
  | zero => exact by intros; exfalso; omega
  | succ n ih =>
    intro M b2 z0 X hh0 hp0 hh2 hh3 hE
    refine z_xP zt229 8 19 [some (.ref 19), some (.int p1), some (.int b2)] [.ref 19, .int b2] rfl rfl ?_
    have f19 : T[19]? = some (.inl (12, 0, 0, 0, 0)) := X.1.k rfl (by decide)
    refine z_xgI zt229 9 rfl zo229 zzf12_245 X f19 (by decide) (by decide) rfl (fun (x2 : Int32) h1 (h3 : 0 ≤ x2.toInt) (h4 : x2.toInt ≤ 9) => ?_)
    refine z_xJ zt229 10 rfl rfl (fun (h5 : x2.toInt ≤ b2.toInt) => ?_) (fun (h5 : b2.toInt < x2.toInt) => ?_)
    · skip
      exact z_xrv zt229 43 rfl zzr229 (kk M X z0 hp0 ⟨by omega, by omega⟩ (by omega))
    refine z_xP zt229 11 26 [some (.ref 19), some (.int p1), some (.int b2)] [.ref 19] rfl rfl ?_
    refine z_xgX (b := 39) zt229 12 rfl zo229 zzf12_67 X f19 (by decide) (by decide) rfl ?_
    refine z_xP zt229 13 31 [some (.ref 19), some (.int p1), some (.int b2)] [.ref 19, .int b2, .ref 39] rfl rfl ?_
    refine z_xgX (b := 32) zt229 14 rfl zo229 zzf12_46 X f19 (by decide) (by decide) rfl ?_
    refine z_xP zt229 15 37 [some (.ref 19), some (.int p1), some (.int b2)] [.int p1, .int 9, .ref 32, .int b2, .ref 39] rfl rfl ?_
    refine z_xI zt229 16 rfl rfl (fun (x6 : Int32) (h7 : x6.toInt = 9 * p1.toInt) => ?_) (z_pMul rfl rfl (by omega) (by omega))
    refine z_xP zt229 17 39 [some (.ref 19), some (.int p1), some (.int b2)] [.int b2, .int x6, .ref 32, .int b2, .ref 39] rfl rfl ?_
    refine z_xI zt229 18 rfl rfl (fun (x8 : Int32) (h9 : x8.toInt = x6.toInt + b2.toInt) => ?_) (z_pAdd rfl rfl (by omega) (by omega))
    have f32 : T[32]? = some (.inr (32, 0, 72, (-2147483648), 2147483647)) := X.1.k rfl (by decide)
    refine z_xil zt229 19 rfl X f32 (by decide) (by omega) (by omega) (fun (x10 : Int32) h11 (h12 : (-2147483648) ≤ x10.toInt) (h13 : x10.toInt ≤ 2147483647) => ?_)
    have f39 : T[39]? = some (.inr (39, 0, 9, (-2147483648), 2147483647)) := X.1.k rfl (by decide)
    refine z_xis zt229 20 rfl X f39 (by decide) (by decide) (by omega) (by omega) (Int32.le_toInt _) (Int32.toInt_le _) (by decide) (fun M14 X15 e16 h17 => ?_)
    refine z_xP zt229 21 43 [some (.ref 19), some (.int p1), some (.int b2)] [.ref 19] rfl rfl ?_
    refine z_xgX (b := 40) zt229 22 rfl zo229 zzf12_70 X15 f19 (by decide) (by decide) rfl ?_
    refine z_xP zt229 23 48 [some (.ref 19), some (.int p1), some (.int b2)] [.ref 19, .int b2, .ref 40] rfl rfl ?_
    refine z_xgX (b := 33) zt229 24 rfl zo229 zzf12_49 X15 f19 (by decide) (by decide) rfl ?_
    refine z_xP zt229 25 54 [some (.ref 19), some (.int p1), some (.int b2)] [.int p1, .int 9, .ref 33, .int b2, .ref 40] rfl rfl ?_
    refine z_xI zt229 26 rfl rfl (fun (x18 : Int32) (h19 : x18.toInt = 9 * p1.toInt) => ?_) (z_pMul rfl rfl (by omega) (by omega))
    refine z_xP zt229 27 56 [some (.ref 19), some (.int p1), some (.int b2)] [.int b2, .int x18, .ref 33, .int b2, .ref 40] rfl rfl ?_
    refine z_xI zt229 28 rfl rfl (fun (x20 : Int32) (h21 : x20.toInt = x18.toInt + b2.toInt) => ?_) (z_pAdd rfl rfl (by omega) (by omega))
    have f33 : T[33]? = some (.inr (33, 0, 72, (-2147483648), 2147483647)) := X15.1.k rfl (by decide)
    refine z_xil zt229 29 rfl X15 f33 (by decide) (by omega) (by omega) (fun (x22 : Int32) h23 (h24 : (-2147483648) ≤ x22.toInt) (h25 : x22.toInt ≤ 2147483647) => ?_)
    have f40 : T[40]? = some (.inr (40, 0, 9, (-2147483648), 2147483647)) := X15.1.k rfl (by decide)
    refine z_xis zt229 30 rfl X15 f40 (by decide) (by decide) (by omega) (by omega) (Int32.le_toInt _) (Int32.toInt_le _) (by decide) (fun M26 X27 e28 h29 => ?_)
    refine z_xP zt229 31 60 [some (.ref 19), some (.int p1), some (.int b2)] [.ref 19] rfl rfl ?_
    refine z_xgX (b := 41) zt229 32 rfl zo229 zzf12_73 X27 f19 (by decide) (by decide) rfl ?_
    refine z_xP zt229 33 65 [some (.ref 19), some (.int p1), some (.int b2)] [.ref 19, .int b2, .ref 41] rfl rfl ?_
    refine z_xgX (b := 34) zt229 34 rfl zo229 zzf12_52 X27 f19 (by decide) (by decide) rfl ?_
    refine z_xP zt229 35 71 [some (.ref 19), some (.int p1), some (.int b2)] [.int p1, .int 9, .ref 34, .int b2, .ref 41] rfl rfl ?_
    refine z_xI zt229 36 rfl rfl (fun (x30 : Int32) (h31 : x30.toInt = 9 * p1.toInt) => ?_) (z_pMul rfl rfl (by omega) (by omega))
    refine z_xP zt229 37 73 [some (.ref 19), some (.int p1), some (.int b2)] [.int b2, .int x30, .ref 34, .int b2, .ref 41] rfl rfl ?_
    refine z_xI zt229 38 rfl rfl (fun (x32 : Int32) (h33 : x32.toInt = x30.toInt + b2.toInt) => ?_) (z_pAdd rfl rfl (by omega) (by omega))
    have f34 : T[34]? = some (.inr (34, 0, 72, (-2147483648), 2147483647)) := X27.1.k rfl (by decide)
    refine z_xil zt229 39 rfl X27 f34 (by decide) (by omega) (by omega) (fun (x34 : Int32) h35 (h36 : (-2147483648) ≤ x34.toInt) (h37 : x34.toInt ≤ 2147483647) => ?_)
    have f41 : T[41]? = some (.inr (41, 0, 9, (-2147483648), 2147483647)) := X27.1.k rfl (by decide)
    refine z_xis zt229 40 rfl X27 f41 (by decide) (by decide) (by omega) (by omega) (Int32.le_toInt _) (Int32.toInt_le _) (by decide) (fun M38 X39 e40 h41 => ?_)
    refine z_xN zt229 41 rfl rfl (fun (x42 : Int32) (h43 : x42.toInt = b2.toInt + 1) => ?_) (z_pAdd rfl rfl (by omega) (by omega))
    show z_ev d 229 79 [some (.ref 19), some (.int p1), some (.int x42)] [] M38 _
    refine z_xP zt229 42 17 [some (.ref 19), some (.int p1), some (.int x42)] [] rfl rfl ?_
    have h44 := (e40.f f19 (by decide) (e28.f f19 (by decide) (e16.f f19 (by decide) hp0)))
    exact ih M38 x42 z0 X39 ⟨by omega, by omega⟩ h44 ⟨by omega, by omega⟩ (by omega) (by omega)
theorem zC229 {T : List zK} {d : Nat} {K : Option Value → zH → Prop} {p1 : Int32} {zp0 : Int32} {M0 : zH} (hW : z_W M0 T) (u1 : 0 ≤ p1.toInt ∧ p1.toInt ≤ 7) (hz0 : z_F M0 19 29 = some (.int zp0)) (bz0 : 0 ≤ zp0.toInt ∧ zp0.toInt ≤ 7) (kk : ∀ (M1 : zH), z_X T zw229 M0 M1 → ∀ (w0 : Int32), z_F M1 19 29 = some (.int w0) → 0 ≤ w0.toInt ∧ w0.toInt ≤ 7 → w0.toInt = p1.toInt → K none M1) : z_ev d 229 0 [some (.ref 19), some (.int p1), none] [] M0 K := by
  have X : z_X T zw229 M0 M0 := .refl hW
  refine z_xP zt229 0 2 [some (.ref 19), some (.int p1), none] [.int p1, .ref 19] rfl rfl ?_
  have f19 : T[19]? = some (.inl (12, 0, 0, 0, 0)) := X.1.k rfl (by decide)
  refine z_xpf zt229 1 rfl zo229 zzf12_242 X f19 (by decide) (by decide) ⟨by omega, by omega⟩ rfl (by decide) zw12_29 (fun M1 X2 e3 h4 => ?_)
  refine z_xP zt229 2 7 [some (.ref 19), some (.int p1), none] [.ref 19, .ref 19] rfl rfl ?_
  refine z_xgX (b := 35) zt229 3 rfl zo229 zzf12_55 X2 f19 (by decide) (by decide) rfl ?_
  refine z_xP zt229 4 11 [some (.ref 19), some (.int p1), none] [.int p1, .ref 35, .ref 19] rfl rfl ?_
  have f35 : T[35]? = some (.inr (35, 0, 8, 0, 9)) := X2.1.k rfl (by decide)
  refine z_xil zt229 5 rfl X2 f35 (by decide) (by omega) (by omega) (fun (x5 : Int32) h6 (h7 : 0 ≤ x5.toInt) (h8 : x5.toInt ≤ 9) => ?_)
  refine z_xpf zt229 6 rfl zo229 zzf12_245 X2 f19 (by decide) (by decide) ⟨by omega, by omega⟩ rfl (by decide) zw12_30 (fun M9 X10 e11 h12 => ?_)
  refine z_xP zt229 7 17 [some (.ref 19), some (.int p1), some (.int 0)] [] rfl rfl ?_
  have h13 := (e11.f f19 (by decide) h4)
  have q0 : ((0 : Int32)).toInt = 0 := rfl
  exact (zB229 u1 hz0 bz0 kk 20) M9 (0) p1 X10 (by decide) h13 ⟨by omega, by omega⟩ (by omega) (by omega)
def zw230 : List Nat := []
theorem zB230 {T : List zK} {d : Nat} {K : Option Value → zH → Prop} {p1 : Int32} {p2 : Int32} {M0 : zH} (u2 : 0 ≤ p2.toInt ∧ p2.toInt ≤ 1) (kk : ∀ (x : Int32) (M1 : zH), z_X T zw230 M0 M1 → K (some (.int x)) M1) : ∀ n : Nat, (∀ (M : zH) (b3 : Int32) (b4 : Int32), z_X T zw230 M0 M → 0 ≤ b4.toInt ∧ b4.toInt ≤ 9 → ((0) * 2 + 0) * 10 + (9 - b4.toInt) < (n : Int) → z_ev d 230 5 [some (.ref 19), some (.int p1), some (.int p2), some (.int b3), some (.int b4)] [] M K) := by
  intro n
  induction n with
  | zero => exact by intros; exfalso; omega
  | succ n ih =>
    intro M b3 b4 X hh0 hE
    refine z_xP zt230 1 8 [some (.ref 19), some (.int p1), some (.int p2), some (.int b3), some (.int b4)] [.ref 19, .int b4] rfl rfl ?_
    have f19 : T[19]? = some (.inl (12, 0, 0, 0, 0)) := X.1.k rfl (by decide)
    refine z_xgI zt230 2 rfl zo230 zzf12_245 X f19 (by decide) (by decide) rfl (fun (x2 : Int32) h1 (h3 : 0 ≤ x2.toInt) (h4 : x2.toInt ≤ 9) => ?_)
    refine z_xJ zt230 3 rfl rfl (fun (h5 : x2.toInt ≤ b4.toInt) => ?_) (fun (h5 : b4.toInt < x2.toInt) => ?_)
    · skip
      refine z_xP zt230 31 64 [some (.ref 19), some (.int p1), some (.int p2), some (.int b3), some (.int b4)] [.int b3] rfl rfl ?_
      exact z_xri zt230 32 rfl zzr230 (kk b3 M X)
    refine z_xP zt230 4 16 [some (.ref 19), some (.int p1), some (.int p2), some (.int b3), some (.int b4)] [.int p2, .int b3] rfl rfl ?_
    refine z_xZ zt230 5 rfl rfl (fun (h6 : p2.toInt ≠ 0) => ?_) (fun (h6 : p2.toInt = 0) => ?_)
    · skip
      refine z_xP zt230 11 30 [some (.ref 19), some (.int p1), some (.int p2), some (.int b3), some (.int b4)] [.ref 19, .int b3] rfl rfl ?_
      refine z_xgX (b := 41) zt230 12 rfl zo230 zzf12_73 X f19 (by decide) (by decide) rfl ?_
      refine z_xP zt230 13 35 [some (.ref 19), some (.int p1), some (.int p2), some (.int b3), some (.int b4)] [.int b4, .ref 41, .int b3] rfl rfl ?_
      have f41 : T[41]? = some (.inr (41, 0, 9, (-2147483648), 2147483647)) := X.1.k rfl (by decide)
      refine z_xil zt230 14 rfl X f41 (by decide) (by omega) (by omega) (fun (x7 : Int32) h8 (h9 : (-2147483648) ≤ x7.toInt) (h10 : x7.toInt ≤ 2147483647) => ?_)
      refine z_xP zt230 15 37 [some (.ref 19), some (.int p1), some (.int p2), some (.int b3), some (.int b4)] [.int p1, .int x7, .int b3] rfl rfl ?_
      have h11 := z_b32 x7
      have h12 := z_b32 p1
      refine z_xI zt230 16 rfl rfl (P := fun _ => True) (fun (x13 : Int32) _ => ?_) trivial
      refine z_xP zt230 17 39 [some (.ref 19), some (.int p1), some (.int p2), some (.int b3), some (.int b4)] [.int 1, .int x13, .int b3] rfl rfl ?_
      refine z_xI zt230 18 rfl rfl (fun (x15 : Int32) (h16 : 0 ≤ x15.toInt ∧ x15.toInt ≤ 1) => ?_) (z_pAnd rfl (by omega))
      refine z_xP zt230 19 41 [some (.ref 19), some (.int p1), some (.int p2), some (.int b3), some (.int b4)] [.int 1, .int x15, .int b3] rfl rfl ?_
      refine z_xJ zt230 20 rfl rfl (fun (h17 : x15.toInt ≠ 1) => ?_) (fun (h17 : x15.toInt = 1) => ?_)
      · skip
        refine z_xP zt230 26 55 [some (.ref 19), some (.int p1), some (.int p2), some (.int b3), some (.int b4)] [.int 0, .int b3] rfl rfl ?_
        have h18 := z_b32 b3
        refine z_xI zt230 27 rfl rfl (fun (x19 : Int32) (h20 : x19.toInt = b3.toInt + 0) => ?_) (z_pAdd rfl rfl (by omega) (by omega))
        refine z_xP zt230 28 57 [some (.ref 19), some (.int p1), some (.int p2), some (.int x19), some (.int b4)] [] rfl rfl ?_
        refine z_xN zt230 29 rfl rfl (fun (x21 : Int32) (h22 : x21.toInt = b4.toInt + 1) => ?_) (z_pAdd rfl rfl (by omega) (by omega))
        show z_ev d 230 60 [some (.ref 19), some (.int p1), some (.int p2), some (.int x19), some (.int x21)] [] M _
        refine z_xP zt230 30 5 [some (.ref 19), some (.int p1), some (.int p2), some (.int x19), some (.int x21)] [] rfl rfl ?_
        exact ih M x19 x21 X ⟨by omega, by omega⟩ (by omega)
      refine z_xP zt230 21 45 [some (.ref 19), some (.int p1), some (.int p2), some (.int b3), some (.int b4)] [.ref 19, .int b3] rfl rfl ?_
      refine z_xgX (b := 39) zt230 22 rfl zo230 zzf12_67 X f19 (by decide) (by decide) rfl ?_
      refine z_xP zt230 23 50 [some (.ref 19), some (.int p1), some (.int p2), some (.int b3), some (.int b4)] [.int b4, .ref 39, .int b3] rfl rfl ?_
      have f39 : T[39]? = some (.inr (39, 0, 9, (-2147483648), 2147483647)) := X.1.k rfl (by decide)
      refine z_xil zt230 24 rfl X f39 (by decide) (by omega) (by omega) (fun (x23 : Int32) h24 (h25 : (-2147483648) ≤ x23.toInt) (h26 : x23.toInt ≤ 2147483647) => ?_)
      refine z_xP zt230 25 55 [some (.ref 19), some (.int p1), some (.int p2), some (.int b3), some (.int b4)] [.int x23, .int b3] rfl rfl ?_
      have h27 := z_b32 b3
      have h28 := z_b32 x23
      refine z_xI zt230 27 rfl rfl (P := fun _ => True) (fun (x29 : Int32) _ => ?_) trivial
      refine z_xP zt230 28 57 [some (.ref 19), some (.int p1), some (.int p2), some (.int x29), some (.int b4)] [] rfl rfl ?_
      refine z_xN zt230 29 rfl rfl (fun (x31 : Int32) (h32 : x31.toInt = b4.toInt + 1) => ?_) (z_pAdd rfl rfl (by omega) (by omega))
      show z_ev d 230 60 [some (.ref 19), some (.int p1), some (.int p2), some (.int x29), some (.int x31)] [] M _
      refine z_xP zt230 30 5 [some (.ref 19), some (.int p1), some (.int p2), some (.int x29), some (.int x31)] [] rfl rfl ?_
      exact ih M x29 x31 X ⟨by omega, by omega⟩ (by omega)
    refine z_xP zt230 6 20 [some (.ref 19), some (.int p1), some (.int p2), some (.int b3), some (.int b4)] [.ref 19, .int b3] rfl rfl ?_
    refine z_xgX (b := 40) zt230 7 rfl zo230 zzf12_70 X f19 (by decide) (by decide) rfl ?_
    refine z_xP zt230 8 25 [some (.ref 19), some (.int p1), some (.int p2), some (.int b3), some (.int b4)] [.int b4, .ref 40, .int b3] rfl rfl ?_
    have f40 : T[40]? = some (.inr (40, 0, 9, (-2147483648), 2147483647)) := X.1.k rfl (by decide)
    refine z_xil zt230 9 rfl X f40 (by decide) (by omega) (by omega) (fun (x33 : Int32) h34 (h35 : (-2147483648) ≤ x33.toInt) (h36 : x33.toInt ≤ 2147483647) => ?_)
    refine z_xP zt230 10 36 [some (.ref 19), some (.int p1), some (.int p2), some (.int b3), some (.int b4)] [.int x33, .int b3] rfl rfl ?_
    refine z_xP zt230 15 37 [some (.ref 19), some (.int p1), some (.int p2), some (.int b3), some (.int b4)] [.int p1, .int x33, .int b3] rfl rfl ?_
    have h37 := z_b32 x33
    have h38 := z_b32 p1
    refine z_xI zt230 16 rfl rfl (P := fun _ => True) (fun (x39 : Int32) _ => ?_) trivial
    refine z_xP zt230 17 39 [some (.ref 19), some (.int p1), some (.int p2), some (.int b3), some (.int b4)] [.int 1, .int x39, .int b3] rfl rfl ?_
    refine z_xI zt230 18 rfl rfl (fun (x41 : Int32) (h42 : 0 ≤ x41.toInt ∧ x41.toInt ≤ 1) => ?_) (z_pAnd rfl (by omega))
    refine z_xP zt230 19 41 [some (.ref 19), some (.int p1), some (.int p2), some (.int b3), some (.int b4)] [.int 1, .int x41, .int b3] rfl rfl ?_
    refine z_xJ zt230 20 rfl rfl (fun (h43 : x41.toInt ≠ 1) => ?_) (fun (h43 : x41.toInt = 1) => ?_)
    · skip
      refine z_xP zt230 26 55 [some (.ref 19), some (.int p1), some (.int p2), some (.int b3), some (.int b4)] [.int 0, .int b3] rfl rfl ?_
      have h44 := z_b32 b3
      refine z_xI zt230 27 rfl rfl (fun (x45 : Int32) (h46 : x45.toInt = b3.toInt + 0) => ?_) (z_pAdd rfl rfl (by omega) (by omega))
      refine z_xP zt230 28 57 [some (.ref 19), some (.int p1), some (.int p2), some (.int x45), some (.int b4)] [] rfl rfl ?_
      refine z_xN zt230 29 rfl rfl (fun (x47 : Int32) (h48 : x47.toInt = b4.toInt + 1) => ?_) (z_pAdd rfl rfl (by omega) (by omega))
      show z_ev d 230 60 [some (.ref 19), some (.int p1), some (.int p2), some (.int x45), some (.int x47)] [] M _
      refine z_xP zt230 30 5 [some (.ref 19), some (.int p1), some (.int p2), some (.int x45), some (.int x47)] [] rfl rfl ?_
      exact ih M x45 x47 X ⟨by omega, by omega⟩ (by omega)
    refine z_xP zt230 21 45 [some (.ref 19), some (.int p1), some (.int p2), some (.int b3), some (.int b4)] [.ref 19, .int b3] rfl rfl ?_
    refine z_xgX (b := 39) zt230 22 rfl zo230 zzf12_67 X f19 (by decide) (by decide) rfl ?_
    refine z_xP zt230 23 50 [some (.ref 19), some (.int p1), some (.int p2), some (.int b3), some (.int b4)] [.int b4, .ref 39, .int b3] rfl rfl ?_
    have f39 : T[39]? = some (.inr (39, 0, 9, (-2147483648), 2147483647)) := X.1.k rfl (by decide)
    refine z_xil zt230 24 rfl X f39 (by decide) (by omega) (by omega) (fun (x49 : Int32) h50 (h51 : (-2147483648) ≤ x49.toInt) (h52 : x49.toInt ≤ 2147483647) => ?_)
    refine z_xP zt230 25 55 [some (.ref 19), some (.int p1), some (.int p2), some (.int b3), some (.int b4)] [.int x49, .int b3] rfl rfl ?_
    have h53 := z_b32 b3
    have h54 := z_b32 x49
    refine z_xI zt230 27 rfl rfl (P := fun _ => True) (fun (x55 : Int32) _ => ?_) trivial
    refine z_xP zt230 28 57 [some (.ref 19), some (.int p1), some (.int p2), some (.int x55), some (.int b4)] [] rfl rfl ?_
    refine z_xN zt230 29 rfl rfl (fun (x57 : Int32) (h58 : x57.toInt = b4.toInt + 1) => ?_) (z_pAdd rfl rfl (by omega) (by omega))
    show z_ev d 230 60 [some (.ref 19), some (.int p1), some (.int p2), some (.int x55), some (.int x57)] [] M _
    refine z_xP zt230 30 5 [some (.ref 19), some (.int p1), some (.int p2), some (.int x55), some (.int x57)] [] rfl rfl ?_
    exact ih M x55 x57 X ⟨by omega, by omega⟩ (by omega)
theorem zC230 {T : List zK} {d : Nat} {K : Option Value → zH → Prop} {p1 : Int32} {p2 : Int32} {M0 : zH} (hW : z_W M0 T) (u2 : 0 ≤ p2.toInt ∧ p2.toInt ≤ 1) (kk : ∀ (x : Int32) (M1 : zH), z_X T zw230 M0 M1 → K (some (.int x)) M1) : z_ev d 230 0 [some (.ref 19), some (.int p1), some (.int p2), none, none] [] M0 K := by
  have X : z_X T zw230 M0 M0 := .refl hW
  refine z_xP zt230 0 5 [some (.ref 19), some (.int p1), some (.int p2), some (.int 0), some (.int 0)] [] rfl rfl ?_
  have q0 : ((0 : Int32)).toInt = 0 := rfl
  exact (zB230 u2 kk 20) M0 (0) (0) X (by decide) (by omega)
def zw228 : List Nat := [39, 40, 41, 2229, 2230]
theorem zC228 {T : List zK} {d : Nat} {K : Option Value → zH → Prop} {p1 : Int32} {p2 : Int32} {p3 : Int32} {M0 : zH} (hW : z_W M0 T)  (kk : ∀ (x : Int32) (M1 : zH), z_X T zw228 M0 M1 → K (some (.int x)) M1) : z_ev (d + 1) 228 0 [some (.ref 19), some (.int p1), some (.int p2), some (.int p3)] [] M0 K := by
  have X : z_X T zw228 M0 M0 := .refl hW
  refine z_xP zt228 0 2 [some (.ref 19), some (.int p1), some (.int p2), some (.int p3)] [.int p1, .ref 19] rfl rfl ?_
  have f19 : T[19]? = some (.inl (12, 0, 0, 0, 0)) := X.1.k rfl (by decide)
  refine z_xcV (vs := [.ref 19, .int p1]) (r := []) (L2 := [some (.ref 19), some (.int p1)]) zt228 1 rfl zo228 zzcV12_209 (Or.inl rfl) rfl X f19 rfl rfl rfl (Nat.le_of_ble_eq_true rfl) zzm209 (Nat.le_of_ble_eq_true rfl) rfl ?_
  refine z_xP zt209 0 1 [some (.ref 19), some (.int p1)] [.int p1] rfl rfl ?_
  refine z_xZ zt209 1 rfl rfl (fun (h1 : p1.toInt < 0) => ?_) (fun (h1 : 0 ≤ p1.toInt) => ?_)
  · skip
    refine z_xP zt209 6 17 [some (.ref 19), some (.int p1)] [.int 0] rfl rfl ?_
    refine z_xrz zt209 7 rfl zzr209 (by decide) (by decide) ?_
    show z_ev (d + 1) 228 5 [some (.ref 19), some (.int p1), some (.int p2), some (.int p3)] [.int 0] M0 _
    refine z_xZ zt228 2 rfl rfl (fun (h2 : (0 : Int) = 0) => ?_) (fun (h2 : (0 : Int) ≠ 0) => absurd h2 (by omega))
    refine z_xP zt228 11 28 [some (.ref 19), some (.int p1), some (.int p2), some (.int p3)] [.int (-1)] rfl rfl ?_
    have qm1 : (((-1) : Int32)).toInt = (-1) := rfl
    exact z_xri zt228 12 rfl zzr228 (kk (-1) M0 X)
  refine z_xP zt209 2 6 [some (.ref 19), some (.int p1)] [.ref 19, .int p1] rfl rfl ?_
  refine z_xgI zt209 3 rfl zo209 zzf12_110 X f19 (by decide) (by decide) rfl (fun (x4 : Int32) h3 (h5 : 0 ≤ x4.toInt) (h6 : x4.toInt ≤ 8) => ?_)
  have h7 := z_b32 p1
  refine z_xJ zt209 4 rfl rfl (fun (h8 : x4.toInt ≤ p1.toInt) => ?_) (fun (h8 : p1.toInt < x4.toInt) => ?_)
  · skip
    refine z_xP zt209 6 17 [some (.ref 19), some (.int p1)] [.int 0] rfl rfl ?_
    refine z_xrz zt209 7 rfl zzr209 (by decide) (by decide) ?_
    show z_ev (d + 1) 228 5 [some (.ref 19), some (.int p1), some (.int p2), some (.int p3)] [.int 0] M0 _
    refine z_xZ zt228 2 rfl rfl (fun (h9 : (0 : Int) = 0) => ?_) (fun (h9 : (0 : Int) ≠ 0) => absurd h9 (by omega))
    refine z_xP zt228 11 28 [some (.ref 19), some (.int p1), some (.int p2), some (.int p3)] [.int (-1)] rfl rfl ?_
    have qm1 : (((-1) : Int32)).toInt = (-1) := rfl
    exact z_xri zt228 12 rfl zzr228 (kk (-1) M0 X)
  refine z_xP zt209 5 17 [some (.ref 19), some (.int p1)] [.int 1] rfl rfl ?_
  refine z_xrz zt209 7 rfl zzr209 (by decide) (by decide) ?_
  show z_ev (d + 1) 228 5 [some (.ref 19), some (.int p1), some (.int p2), some (.int p3)] [.int 1] M0 _
  refine z_xZ zt228 2 rfl rfl (fun (h10 : (1 : Int) = 0) => absurd h10 (by omega)) (fun (h10 : (1 : Int) ≠ 0) => ?_)
  refine z_xP zt228 3 11 [some (.ref 19), some (.int p1), some (.int p2), some (.int p3)] [.int p2, .int p1, .ref 19] rfl rfl ?_
  refine z_xcV (vs := [.ref 19, .int p1, .int p2]) (r := []) (L2 := [some (.ref 19), some (.int p1), some (.int p2)]) zt228 4 rfl zo228 zzcV12_225 (Or.inl rfl) rfl X f19 rfl rfl rfl (Nat.le_of_ble_eq_true rfl) zzm218 (Nat.le_of_ble_eq_true rfl) rfl ?_
  refine z_xP zt218 0 1 [some (.ref 19), some (.int p1), some (.int p2)] [.int p2] rfl rfl ?_
  refine z_xZ zt218 1 rfl rfl (fun (h11 : p2.toInt < 0) => ?_) (fun (h11 : 0 ≤ p2.toInt) => ?_)
  · skip
    refine z_xP zt218 8 19 [some (.ref 19), some (.int p1), some (.int p2)] [.int 0] rfl rfl ?_
    refine z_xrz zt218 9 rfl zzr218 (by decide) (by decide) ?_
    show z_ev (d + 1) 228 14 [some (.ref 19), some (.int p1), some (.int p2), some (.int p3)] [.int 0] M0 _
    refine z_xZ zt228 5 rfl rfl (fun (h12 : (0 : Int) = 0) => ?_) (fun (h12 : (0 : Int) ≠ 0) => absurd h12 (by omega))
    refine z_xP zt228 11 28 [some (.ref 19), some (.int p1), some (.int p2), some (.int p3)] [.int (-1)] rfl rfl ?_
    have qm1 : (((-1) : Int32)).toInt = (-1) := rfl
    exact z_xri zt228 12 rfl zzr228 (kk (-1) M0 X)
  refine z_xP zt218 2 6 [some (.ref 19), some (.int p1), some (.int p2)] [.ref 19, .int p2] rfl rfl ?_
  refine z_xgX (b := 24) zt218 3 rfl zo218 zzf12_22 X f19 (by decide) (by decide) rfl ?_
  refine z_xP zt218 4 10 [some (.ref 19), some (.int p1), some (.int p2)] [.int p1, .ref 24, .int p2] rfl rfl ?_
  have f24 : T[24]? = some (.inr (24, 0, 8, 0, 10)) := X.1.k rfl (by decide)
  refine z_xil zt218 5 rfl X f24 (by decide) (by omega) (by omega) (fun (x13 : Int32) h14 (h15 : 0 ≤ x13.toInt) (h16 : x13.toInt ≤ 10) => ?_)
  have h17 := z_b32 p2
  refine z_xJ zt218 6 rfl rfl (fun (h18 : x13.toInt ≤ p2.toInt) => ?_) (fun (h18 : p2.toInt < x13.toInt) => ?_)
  · skip
    refine z_xP zt218 8 19 [some (.ref 19), some (.int p1), some (.int p2)] [.int 0] rfl rfl ?_
    refine z_xrz zt218 9 rfl zzr218 (by decide) (by decide) ?_
    show z_ev (d + 1) 228 14 [some (.ref 19), some (.int p1), some (.int p2), some (.int p3)] [.int 0] M0 _
    refine z_xZ zt228 5 rfl rfl (fun (h19 : (0 : Int) = 0) => ?_) (fun (h19 : (0 : Int) ≠ 0) => absurd h19 (by omega))
    refine z_xP zt228 11 28 [some (.ref 19), some (.int p1), some (.int p2), some (.int p3)] [.int (-1)] rfl rfl ?_
    have qm1 : (((-1) : Int32)).toInt = (-1) := rfl
    exact z_xri zt228 12 rfl zzr228 (kk (-1) M0 X)
  refine z_xP zt218 7 19 [some (.ref 19), some (.int p1), some (.int p2)] [.int 1] rfl rfl ?_
  refine z_xrz zt218 9 rfl zzr218 (by decide) (by decide) ?_
  show z_ev (d + 1) 228 14 [some (.ref 19), some (.int p1), some (.int p2), some (.int p3)] [.int 1] M0 _
  refine z_xZ zt228 5 rfl rfl (fun (h20 : (1 : Int) = 0) => absurd h20 (by omega)) (fun (h20 : (1 : Int) ≠ 0) => ?_)
  refine z_xP zt228 6 18 [some (.ref 19), some (.int p1), some (.int p2), some (.int p3)] [.int p3] rfl rfl ?_
  have h21 := z_b32 p3
  refine z_xL zt228 7 rfl rfl (fun (y22 : Int64) (h23 : y22.toInt = p3.toInt) => ?_) (z_qI2L rfl)
  refine z_xP zt228 8 21 [some (.ref 19), some (.int p1), some (.int p2), some (.int p3)] [.long 1, .long 0, .long y22] rfl rfl ?_
  refine z_xcS (vs := [.long y22, .long 0, .long 1]) (r := []) (L2 := [some (.long y22), none, some (.long 0), none, some (.long 1), none]) zt228 9 rfl zo228 zzcS12_116 (Or.inl rfl) (Nat.le_of_ble_eq_true rfl) rfl rfl (Nat.le_of_ble_eq_true rfl) zzm189 (Nat.le_of_ble_eq_true rfl) rfl ?_
  refine z_xP zt189 0 2 [some (.long y22), none, some (.long 0), none, some (.long 1), none] [.long 0, .long y22] rfl rfl ?_
  refine z_xI zt189 1 rfl rfl (fun (x24 : Int32) (h25 : (x24.toInt < 0 ∧ y22.toInt < 0) ∨ (x24.toInt = 0 ∧ y22.toInt = 0) ∨ (0 < x24.toInt ∧ 0 < y22.toInt)) => ?_) (z_qCmp rfl rfl)
  refine z_xZ zt189 2 rfl rfl (fun (h26 : x24.toInt < 0) => ?_) (fun (h26 : 0 ≤ x24.toInt) => ?_)
  · skip
    refine z_xP zt189 7 18 [some (.long y22), none, some (.long 0), none, some (.long 1), none] [.int 0] rfl rfl ?_
    refine z_xrz zt189 8 rfl zzr189 (by decide) (by decide) ?_
    show z_ev (d + 1) 228 24 [some (.ref 19), some (.int p1), some (.int p2), some (.int p3)] [.int 0] M0 _
    refine z_xZ zt228 10 rfl rfl (fun (h27 : (0 : Int) ≠ 0) => absurd h27 (by omega)) (fun (h27 : (0 : Int) = 0) => ?_)
    refine z_xP zt228 11 28 [some (.ref 19), some (.int p1), some (.int p2), some (.int p3)] [.int (-1)] rfl rfl ?_
    have qm1 : (((-1) : Int32)).toInt = (-1) := rfl
    exact z_xri zt228 12 rfl zzr228 (kk (-1) M0 X)
  refine z_xP zt189 3 9 [some (.long y22), none, some (.long 0), none, some (.long 1), none] [.long 1, .long y22] rfl rfl ?_
  refine z_xI zt189 4 rfl rfl (fun (x28 : Int32) (h29 : (x28.toInt < 0 ∧ y22.toInt < 1) ∨ (x28.toInt = 0 ∧ y22.toInt = 1) ∨ (0 < x28.toInt ∧ 1 < y22.toInt)) => ?_) (z_qCmp rfl rfl)
  refine z_xZ zt189 5 rfl rfl (fun (h30 : 0 < x28.toInt) => ?_) (fun (h30 : x28.toInt ≤ 0) => ?_)
  · skip
    refine z_xP zt189 7 18 [some (.long y22), none, some (.long 0), none, some (.long 1), none] [.int 0] rfl rfl ?_
    refine z_xrz zt189 8 rfl zzr189 (by decide) (by decide) ?_
    show z_ev (d + 1) 228 24 [some (.ref 19), some (.int p1), some (.int p2), some (.int p3)] [.int 0] M0 _
    refine z_xZ zt228 10 rfl rfl (fun (h31 : (0 : Int) ≠ 0) => absurd h31 (by omega)) (fun (h31 : (0 : Int) = 0) => ?_)
    refine z_xP zt228 11 28 [some (.ref 19), some (.int p1), some (.int p2), some (.int p3)] [.int (-1)] rfl rfl ?_
    have qm1 : (((-1) : Int32)).toInt = (-1) := rfl
    exact z_xri zt228 12 rfl zzr228 (kk (-1) M0 X)
  refine z_xP zt189 6 18 [some (.long y22), none, some (.long 0), none, some (.long 1), none] [.int 1] rfl rfl ?_
  refine z_xrz zt189 8 rfl zzr189 (by decide) (by decide) ?_
  show z_ev (d + 1) 228 24 [some (.ref 19), some (.int p1), some (.int p2), some (.int p3)] [.int 1] M0 _
  refine z_xZ zt228 10 rfl rfl (fun (h32 : (1 : Int) ≠ 0) => ?_) (fun (h32 : (1 : Int) = 0) => absurd h32 (by omega))
  refine z_xP zt228 13 31 [some (.ref 19), some (.int p1), some (.int p2), some (.int p3)] [.int p1, .ref 19] rfl rfl ?_
  refine z_xcV (vs := [.ref 19, .int p1]) (r := []) (L2 := [some (.ref 19), some (.int p1), none]) zt228 14 rfl zo228 zzcV12_255 (Or.inl rfl) rfl X f19 rfl rfl rfl (Nat.le_of_ble_eq_true rfl) zzm229 (Nat.le_of_ble_eq_true rfl) rfl ?_
  obtain ⟨x33, h34, h35, h36⟩ := z_W.fi X.1 f19 (k := 29) (lo := 0) (hi := 7) (by decide) rfl
  refine zC229 X.1 (by omega) h34 ⟨by omega, by omega⟩ (fun M37 X38 z39 h40 h41 h42 => ?_)
  have X43 := X.go X38 (z_sb (by decide))
  show z_ev (d + 1) 228 34 [some (.ref 19), some (.int p1), some (.int p2), some (.int p3)] [] M37 _
  have h45 : z39 = p1 := z_sub (c := p1.toInt) (by omega) rfl
  have h46 := h40
  rw [h45] at h46
  refine z_xP zt228 15 37 [some (.ref 19), some (.int p1), some (.int p2), some (.int p3)] [.int p3, .int p2, .ref 19] rfl rfl ?_
  refine z_xcV (vs := [.ref 19, .int p2, .int p3]) (r := []) (L2 := [some (.ref 19), some (.int p2), some (.int p3), none, none]) zt228 16 rfl zo228 zzcV12_251 (Or.inl rfl) rfl X43 f19 rfl rfl rfl (Nat.le_of_ble_eq_true rfl) zzm230 (Nat.le_of_ble_eq_true rfl) rfl ?_
  refine zC230 X43.1 (by omega) (fun x49 M47 X48  => ?_)
  have X50 := X43.go X48 (z_sb (by decide))
  show z_ev (d + 1) 228 40 [some (.ref 19), some (.int p1), some (.int p2), some (.int p3)] [.int x49] M47 _
  exact z_xri zt228 17 rfl zzr228 (kk x49 M47 X50)
def zw232 : List Nat := []
theorem zB232 {T : List zK} {d : Nat} {K : Option Value → zH → Prop} {p1 : Int32} {M0 : zH} (u1 : (-1) ≤ p1.toInt ∧ p1.toInt ≤ 1023) (kk : ∀ (x : Int32) (M1 : zH), z_X T zw232 M0 M1 → K (some (.int x)) M1) : ∀ n : Nat, (∀ (M : zH) (b2 : Int32) (b3 : Int32), z_X T zw232 M0 M → 0 ≤ b3.toInt ∧ b3.toInt ≤ 9 → ((0) * 2 + 0) * 10 + (9 - b3.toInt) < (n : Int) → z_ev (d + 1) 232 4 [some (.ref 19), some (.int p1), some (.int b2), some (.int b3)] [] M K) := by
  intro n
  induction n with
  | zero => exact by intros; exfalso; omega
  | succ n ih =>
    intro M b2 b3 X hh0 hE
    refine z_xP zt232 1 6 [some (.ref 19), some (.int p1), some (.int b2), some (.int b3)] [.ref 19, .int b3] rfl rfl ?_
    have f19 : T[19]? = some (.inl (12, 0, 0, 0, 0)) := X.1.k rfl (by decide)
    refine z_xgI zt232 2 rfl zo232 zzf12_245 X f19 (by decide) (by decide) rfl (fun (x2 : Int32) h1 (h3 : 0 ≤ x2.toInt) (h4 : x2.toInt ≤ 9) => ?_)
    refine z_xJ zt232 3 rfl rfl (fun (h5 : x2.toInt ≤ b3.toInt) => ?_) (fun (h5 : b3.toInt < x2.toInt) => ?_)
    · skip
      refine z_xP zt232 28 51 [some (.ref 19), some (.int p1), some (.int b2), some (.int b3)] [.int b2] rfl rfl ?_
      exact z_xri zt232 29 rfl zzr232 (kk b2 M X)
    refine z_xP zt232 4 14 [some (.ref 19), some (.int p1), some (.int b2), some (.int b3)] [.ref 19, .int b2] rfl rfl ?_
    refine z_xgX (b := 39) zt232 5 rfl zo232 zzf12_67 X f19 (by decide) (by decide) rfl ?_
    refine z_xP zt232 6 18 [some (.ref 19), some (.int p1), some (.int b2), some (.int b3)] [.int b3, .ref 39, .int b2] rfl rfl ?_
    have f39 : T[39]? = some (.inr (39, 0, 9, (-2147483648), 2147483647)) := X.1.k rfl (by decide)
    refine z_xil zt232 7 rfl X f39 (by decide) (by omega) (by omega) (fun (x6 : Int32) h7 (h8 : (-2147483648) ≤ x6.toInt) (h9 : x6.toInt ≤ 2147483647) => ?_)
    refine z_xP zt232 8 20 [some (.ref 19), some (.int p1), some (.int b2), some (.int b3)] [.ref 19, .int x6, .int b2] rfl rfl ?_
    refine z_xgX (b := 40) zt232 9 rfl zo232 zzf12_70 X f19 (by decide) (by decide) rfl ?_
    refine z_xP zt232 10 24 [some (.ref 19), some (.int p1), some (.int b2), some (.int b3)] [.int b3, .ref 40, .int x6, .int b2] rfl rfl ?_
    have f40 : T[40]? = some (.inr (40, 0, 9, (-2147483648), 2147483647)) := X.1.k rfl (by decide)
    refine z_xil zt232 11 rfl X f40 (by decide) (by omega) (by omega) (fun (x10 : Int32) h11 (h12 : (-2147483648) ≤ x10.toInt) (h13 : x10.toInt ≤ 2147483647) => ?_)
    refine z_xP zt232 12 27 [some (.ref 19), some (.int p1), some (.int b2), some (.int b3)] [.int (-1), .int p1, .int x10, .int x6, .int b2] rfl rfl ?_
    refine z_xI zt232 13 rfl rfl (P := fun _ => True) (fun (x14 : Int32) _ => ?_) trivial
    refine z_xI zt232 14 rfl rfl (P := fun _ => True) (fun (x16 : Int32) _ => ?_) trivial
    refine z_xP zt232 15 30 [some (.ref 19), some (.int p1), some (.int b2), some (.int b3)] [.ref 19, .int x16, .int x6, .int b2] rfl rfl ?_
    refine z_xgX (b := 41) zt232 16 rfl zo232 zzf12_73 X f19 (by decide) (by decide) rfl ?_
    refine z_xP zt232 17 34 [some (.ref 19), some (.int p1), some (.int b2), some (.int b3)] [.int b3, .ref 41, .int x16, .int x6, .int b2] rfl rfl ?_
    have f41 : T[41]? = some (.inr (41, 0, 9, (-2147483648), 2147483647)) := X.1.k rfl (by decide)
    refine z_xil zt232 18 rfl X f41 (by decide) (by omega) (by omega) (fun (x18 : Int32) h19 (h20 : (-2147483648) ≤ x18.toInt) (h21 : x18.toInt ≤ 2147483647) => ?_)
    refine z_xP zt232 19 36 [some (.ref 19), some (.int p1), some (.int b2), some (.int b3)] [.int p1, .int x18, .int x16, .int x6, .int b2] rfl rfl ?_
    refine z_xI zt232 20 rfl rfl (P := fun _ => True) (fun (x22 : Int32) _ => ?_) trivial
    refine z_xI zt232 21 rfl rfl (P := fun _ => True) (fun (x24 : Int32) _ => ?_) trivial
    refine z_xcS (vs := [.int x24]) (r := [.int x6, .int b2]) (L2 := [some (.int x24), none, none]) zt232 22 rfl zo232 zzcS12_193 (Or.inl rfl) (Nat.le_of_ble_eq_true rfl) rfl rfl (Nat.le_of_ble_eq_true rfl) zzm207 (Nat.le_of_ble_eq_true rfl) rfl ?_
    refine zC207 X.1 (fun x28 M26 X27  => ?_)
    have X29 := X.go X27 (z_sb (by decide))
    show z_ev (d + 1) 232 41 [some (.ref 19), some (.int p1), some (.int b2), some (.int b3)] [.int x28, .int x6, .int b2] M26 _
    have h31 := z_b32 x6
    have h32 := z_b32 x28
    refine z_xI zt232 23 rfl rfl (P := fun _ => True) (fun (x33 : Int32) _ => ?_) trivial
    have h35 := z_b32 b2
    have h36 := z_b32 x33
    refine z_xI zt232 24 rfl rfl (P := fun _ => True) (fun (x37 : Int32) _ => ?_) trivial
    refine z_xP zt232 25 44 [some (.ref 19), some (.int p1), some (.int x37), some (.int b3)] [] rfl rfl ?_
    refine z_xN zt232 26 rfl rfl (fun (x39 : Int32) (h40 : x39.toInt = b3.toInt + 1) => ?_) (z_pAdd rfl rfl (by omega) (by omega))
    show z_ev (d + 1) 232 47 [some (.ref 19), some (.int p1), some (.int x37), some (.int x39)] [] M26 _
    refine z_xP zt232 27 4 [some (.ref 19), some (.int p1), some (.int x37), some (.int x39)] [] rfl rfl ?_
    exact ih M26 x37 x39 X29 ⟨by omega, by omega⟩ (by omega)
theorem zC232 {T : List zK} {d : Nat} {K : Option Value → zH → Prop} {p1 : Int32} {M0 : zH} (hW : z_W M0 T) (u1 : (-1) ≤ p1.toInt ∧ p1.toInt ≤ 1023) (kk : ∀ (x : Int32) (M1 : zH), z_X T zw232 M0 M1 → K (some (.int x)) M1) : z_ev (d + 1) 232 0 [some (.ref 19), some (.int p1), none, none] [] M0 K := by
  have X : z_X T zw232 M0 M0 := .refl hW
  refine z_xP zt232 0 4 [some (.ref 19), some (.int p1), some (.int 0), some (.int 0)] [] rfl rfl ?_
  have q0 : ((0 : Int32)).toInt = 0 := rfl
  exact (zB232 u1 kk 20) M0 (0) (0) X (by decide) (by omega)
def zw231 : List Nat := [39, 40, 41, 2229, 2230]
theorem zC231 {T : List zK} {d : Nat} {K : Option Value → zH → Prop} {p1 : Int32} {p2 : Int32} {M0 : zH} (hW : z_W M0 T)  (kk : ∀ (x : Int32) (M1 : zH), z_X T zw231 M0 M1 → K (some (.int x)) M1) : z_ev (d + 2) 231 0 [some (.ref 19), some (.int p1), some (.int p2)] [] M0 K := by
  have X : z_X T zw231 M0 M0 := .refl hW
  refine z_xP zt231 0 2 [some (.ref 19), some (.int p1), some (.int p2)] [.int p1, .ref 19] rfl rfl ?_
  have f19 : T[19]? = some (.inl (12, 0, 0, 0, 0)) := X.1.k rfl (by decide)
  refine z_xcV (vs := [.ref 19, .int p1]) (r := []) (L2 := [some (.ref 19), some (.int p1)]) zt231 1 rfl zo231 zzcV12_209 (Or.inl rfl) rfl X f19 rfl rfl rfl (Nat.le_of_ble_eq_true rfl) zzm209 (Nat.le_of_ble_eq_true rfl) rfl ?_
  refine z_xP zt209 0 1 [some (.ref 19), some (.int p1)] [.int p1] rfl rfl ?_
  refine z_xZ zt209 1 rfl rfl (fun (h1 : p1.toInt < 0) => ?_) (fun (h1 : 0 ≤ p1.toInt) => ?_)
  · skip
    refine z_xP zt209 6 17 [some (.ref 19), some (.int p1)] [.int 0] rfl rfl ?_
    refine z_xrz zt209 7 rfl zzr209 (by decide) (by decide) ?_
    show z_ev (d + 2) 231 5 [some (.ref 19), some (.int p1), some (.int p2)] [.int 0] M0 _
    refine z_xZ zt231 2 rfl rfl (fun (h2 : (0 : Int) = 0) => ?_) (fun (h2 : (0 : Int) ≠ 0) => absurd h2 (by omega))
    refine z_xP zt231 6 18 [some (.ref 19), some (.int p1), some (.int p2)] [.int (-1)] rfl rfl ?_
    have qm1 : (((-1) : Int32)).toInt = (-1) := rfl
    exact z_xri zt231 7 rfl zzr231 (kk (-1) M0 X)
  refine z_xP zt209 2 6 [some (.ref 19), some (.int p1)] [.ref 19, .int p1] rfl rfl ?_
  refine z_xgI zt209 3 rfl zo209 zzf12_110 X f19 (by decide) (by decide) rfl (fun (x4 : Int32) h3 (h5 : 0 ≤ x4.toInt) (h6 : x4.toInt ≤ 8) => ?_)
  have h7 := z_b32 p1
  refine z_xJ zt209 4 rfl rfl (fun (h8 : x4.toInt ≤ p1.toInt) => ?_) (fun (h8 : p1.toInt < x4.toInt) => ?_)
  · skip
    refine z_xP zt209 6 17 [some (.ref 19), some (.int p1)] [.int 0] rfl rfl ?_
    refine z_xrz zt209 7 rfl zzr209 (by decide) (by decide) ?_
    show z_ev (d + 2) 231 5 [some (.ref 19), some (.int p1), some (.int p2)] [.int 0] M0 _
    refine z_xZ zt231 2 rfl rfl (fun (h9 : (0 : Int) = 0) => ?_) (fun (h9 : (0 : Int) ≠ 0) => absurd h9 (by omega))
    refine z_xP zt231 6 18 [some (.ref 19), some (.int p1), some (.int p2)] [.int (-1)] rfl rfl ?_
    have qm1 : (((-1) : Int32)).toInt = (-1) := rfl
    exact z_xri zt231 7 rfl zzr231 (kk (-1) M0 X)
  refine z_xP zt209 5 17 [some (.ref 19), some (.int p1)] [.int 1] rfl rfl ?_
  refine z_xrz zt209 7 rfl zzr209 (by decide) (by decide) ?_
  show z_ev (d + 2) 231 5 [some (.ref 19), some (.int p1), some (.int p2)] [.int 1] M0 _
  refine z_xZ zt231 2 rfl rfl (fun (h10 : (1 : Int) = 0) => absurd h10 (by omega)) (fun (h10 : (1 : Int) ≠ 0) => ?_)
  refine z_xP zt231 3 11 [some (.ref 19), some (.int p1), some (.int p2)] [.int p2, .int p1, .ref 19] rfl rfl ?_
  refine z_xcV (vs := [.ref 19, .int p1, .int p2]) (r := []) (L2 := [some (.ref 19), some (.int p1), some (.int p2)]) zt231 4 rfl zo231 zzcV12_212 (Or.inl rfl) rfl X f19 rfl rfl rfl (Nat.le_of_ble_eq_true rfl) zzm212 (Nat.le_of_ble_eq_true rfl) rfl ?_
  refine z_xP zt212 0 1 [some (.ref 19), some (.int p1), some (.int p2)] [.int p2] rfl rfl ?_
  refine z_xZ zt212 1 rfl rfl (fun (h11 : p2.toInt < 0) => ?_) (fun (h11 : 0 ≤ p2.toInt) => ?_)
  · skip
    refine z_xP zt212 9 21 [some (.ref 19), some (.int p1), some (.int p2)] [.int 0] rfl rfl ?_
    refine z_xrz zt212 10 rfl zzr212 (by decide) (by decide) ?_
    show z_ev (d + 2) 231 14 [some (.ref 19), some (.int p1), some (.int p2)] [.int 0] M0 _
    refine z_xZ zt231 5 rfl rfl (fun (h12 : (0 : Int) ≠ 0) => absurd h12 (by omega)) (fun (h12 : (0 : Int) = 0) => ?_)
    refine z_xP zt231 6 18 [some (.ref 19), some (.int p1), some (.int p2)] [.int (-1)] rfl rfl ?_
    have qm1 : (((-1) : Int32)).toInt = (-1) := rfl
    exact z_xri zt231 7 rfl zzr231 (kk (-1) M0 X)
  refine z_xP zt212 2 7 [some (.ref 19), some (.int p1), some (.int p2)] [.ref 19, .int 1, .int p2] rfl rfl ?_
  refine z_xgX (b := 24) zt212 3 rfl zo212 zzf12_22 X f19 (by decide) (by decide) rfl ?_
  refine z_xP zt212 4 11 [some (.ref 19), some (.int p1), some (.int p2)] [.int p1, .ref 24, .int 1, .int p2] rfl rfl ?_
  have f24 : T[24]? = some (.inr (24, 0, 8, 0, 10)) := X.1.k rfl (by decide)
  refine z_xil zt212 5 rfl X f24 (by decide) (by omega) (by omega) (fun (x13 : Int32) h14 (h15 : 0 ≤ x13.toInt) (h16 : x13.toInt ≤ 10) => ?_)
  refine z_xI zt212 6 rfl rfl (fun (x17 : Int32) (h18 : 1 ≤ x17.toInt ∧ x17.toInt ≤ 1024) => ?_) (z_pShlB (a := 1) (b := 10) (c := 1024) (r := 1024) rfl rfl (by omega) (by omega) (by omega) (by omega) (by decide) (by decide) (by decide) (by decide))
  have h19 := z_b32 p2
  refine z_xJ zt212 7 rfl rfl (fun (h20 : x17.toInt ≤ p2.toInt) => ?_) (fun (h20 : p2.toInt < x17.toInt) => ?_)
  · skip
    refine z_xP zt212 9 21 [some (.ref 19), some (.int p1), some (.int p2)] [.int 0] rfl rfl ?_
    refine z_xrz zt212 10 rfl zzr212 (by decide) (by decide) ?_
    show z_ev (d + 2) 231 14 [some (.ref 19), some (.int p1), some (.int p2)] [.int 0] M0 _
    refine z_xZ zt231 5 rfl rfl (fun (h21 : (0 : Int) ≠ 0) => absurd h21 (by omega)) (fun (h21 : (0 : Int) = 0) => ?_)
    refine z_xP zt231 6 18 [some (.ref 19), some (.int p1), some (.int p2)] [.int (-1)] rfl rfl ?_
    have qm1 : (((-1) : Int32)).toInt = (-1) := rfl
    exact z_xri zt231 7 rfl zzr231 (kk (-1) M0 X)
  refine z_xP zt212 8 21 [some (.ref 19), some (.int p1), some (.int p2)] [.int 1] rfl rfl ?_
  refine z_xrz zt212 10 rfl zzr212 (by decide) (by decide) ?_
  show z_ev (d + 2) 231 14 [some (.ref 19), some (.int p1), some (.int p2)] [.int 1] M0 _
  refine z_xZ zt231 5 rfl rfl (fun (h22 : (1 : Int) ≠ 0) => ?_) (fun (h22 : (1 : Int) = 0) => absurd h22 (by omega))
  refine z_xP zt231 8 21 [some (.ref 19), some (.int p1), some (.int p2)] [.int p1, .ref 19] rfl rfl ?_
  refine z_xcV (vs := [.ref 19, .int p1]) (r := []) (L2 := [some (.ref 19), some (.int p1), none]) zt231 9 rfl zo231 zzcV12_255 (Or.inl rfl) rfl X f19 rfl rfl rfl (Nat.le_of_ble_eq_true rfl) zzm229 (Nat.le_of_ble_eq_true rfl) rfl ?_
  obtain ⟨x23, h24, h25, h26⟩ := z_W.fi X.1 f19 (k := 29) (lo := 0) (hi := 7) (by decide) rfl
  refine zC229 X.1 (by omega) h24 ⟨by omega, by omega⟩ (fun M27 X28 z29 h30 h31 h32 => ?_)
  have X33 := X.go X28 (z_sb (by decide))
  show z_ev (d + 2) 231 24 [some (.ref 19), some (.int p1), some (.int p2)] [] M27 _
  have h35 : z29 = p1 := z_sub (c := p1.toInt) (by omega) rfl
  have h36 := h30
  rw [h35] at h36
  refine z_xP zt231 10 26 [some (.ref 19), some (.int p1), some (.int p2)] [.int p2, .ref 19] rfl rfl ?_
  refine z_xcV (vs := [.ref 19, .int p2]) (r := []) (L2 := [some (.ref 19), some (.int p2), none, none]) zt231 11 rfl zo231 zzcV12_259 (Or.inl rfl) rfl X33 f19 rfl rfl rfl (Nat.le_of_ble_eq_true rfl) zzm232 (Nat.le_of_ble_eq_true rfl) rfl ?_
  refine zC232 X33.1 (by omega) (fun x39 M37 X38  => ?_)
  have X40 := X33.go X38 (z_sb (by decide))
  show z_ev (d + 2) 231 29 [some (.ref 19), some (.int p1), some (.int p2)] [.int x39] M37 _
  exact z_xri zt231 12 rfl zzr231 (kk x39 M37 X40)
def zw234 : List Nat := []
theorem zB234 {T : List zK} {d : Nat} {K : Option Value → zH → Prop} {p1 : Int32} {p2 : Int32} {M0 : zH}  (kk : ∀ (x : Int32) (M1 : zH), z_X T zw234 M0 M1 → (-1) ≤ x.toInt → x.toInt ≤ 1023 → K (some (.int x)) M1) : ∀ n : Nat, (∀ (M : zH) (b3 : Int32) (b4 : Int32) (o5 : Option Value), z_X T zw234 M0 M → (-1) ≤ b3.toInt ∧ b3.toInt ≤ 1023 → 0 ≤ b4.toInt ∧ b4.toInt ≤ 1024 → ((0) * 2 + 0) * 1025 + (1024 - b4.toInt) < (n : Int) → z_ev (d + 2) 234 5 [some (.ref 19), some (.int p1), some (.int p2), some (.int b3), some (.int b4), o5] [] M K) := by
  intro n
  induction n with
  | zero => exact by intros; exfalso; omega
  | succ n ih =>
    intro M b3 b4 o5 X hh0 hh1 hE
    refine z_xP zt234 1 8 [some (.ref 19), some (.int p1), some (.int p2), some (.int b3), some (.int b4), o5] [.ref 19, .int b4] rfl rfl ?_
    have f19 : T[19]? = some (.inl (12, 0, 0, 0, 0)) := X.1.k rfl (by decide)
    refine z_xgX (b := 31) zt234 2 rfl zo234 zzf12_43 X f19 (by decide) (by decide) rfl ?_
    refine z_xP zt234 3 12 [some (.ref 19), some (.int p1), some (.int p2), some (.int b3), some (.int b4), o5] [.ref 19, .ref 31, .int b4] rfl rfl ?_
    refine z_xgI zt234 4 rfl zo234 zzf12_242 X f19 (by decide) (by decide) rfl (fun (x2 : Int32) h1 (h3 : 0 ≤ x2.toInt) (h4 : x2.toInt ≤ 7) => ?_)
    have f31 : T[31]? = some (.inr (31, 0, 8, 0, 1024)) := X.1.k rfl (by decide)
    refine z_xil zt234 5 rfl X f31 (by decide) (by omega) (by omega) (fun (x5 : Int32) h6 (h7 : 0 ≤ x5.toInt) (h8 : x5.toInt ≤ 1024) => ?_)
    refine z_xJ zt234 6 rfl rfl (fun (h9 : x5.toInt ≤ b4.toInt) => ?_) (fun (h9 : b4.toInt < x5.toInt) => ?_)
    · skip
      refine z_xP zt234 28 75 [some (.ref 19), some (.int p1), some (.int p2), some (.int b3), some (.int b4), o5] [.int b3] rfl rfl ?_
      exact z_xri zt234 29 rfl zzr234 (kk b3 M X (by omega) (by omega))
    refine z_xP zt234 7 20 [some (.ref 19), some (.int p1), some (.int p2), some (.int b3), some (.int b4), o5] [.ref 19] rfl rfl ?_
    refine z_xgX (b := 30) zt234 8 rfl zo234 zzf12_40 X f19 (by decide) (by decide) rfl ?_
    refine z_xP zt234 9 27 [some (.ref 19), some (.int p1), some (.int p2), some (.int b3), some (.int b4), o5] [.ref 19, .int 1024, .ref 30] rfl rfl ?_
    refine z_xgv zt234 10 rfl zo234 zzf12_242 X f19 (by decide) h1 ?_
    refine z_xI zt234 11 rfl rfl (fun (x10 : Int32) (h11 : x10.toInt = 1024 * x2.toInt) => ?_) (z_pMul rfl rfl (by omega) (by omega))
    refine z_xP zt234 12 33 [some (.ref 19), some (.int p1), some (.int p2), some (.int b3), some (.int b4), o5] [.int b4, .int x10, .ref 30] rfl rfl ?_
    refine z_xI zt234 13 rfl rfl (fun (x12 : Int32) (h13 : x12.toInt = x10.toInt + b4.toInt) => ?_) (z_pAdd rfl rfl (by omega) (by omega))
    have f30 : T[30]? = some (.inr (30, 0, 8192, 0, 1023)) := X.1.k rfl (by decide)
    refine z_xil zt234 14 rfl X f30 (by decide) (by omega) (by omega) (fun (x14 : Int32) h15 (h16 : 0 ≤ x14.toInt) (h17 : x14.toInt ≤ 1023) => ?_)
    refine z_xP zt234 15 41 [some (.ref 19), some (.int p1), some (.int p2), some (.int b3), some (.int b4), some (.int x14)] [.int p2, .int p1, .int x14] rfl rfl ?_
    refine z_xcS (vs := [.int x14, .int p1, .int p2]) (r := []) (L2 := [some (.int x14), some (.int p1), some (.int p2)]) zt234 16 rfl zo234 zzcS12_216 (Or.inl rfl) (Nat.le_of_ble_eq_true rfl) rfl rfl (Nat.le_of_ble_eq_true rfl) zzm216 (Nat.le_of_ble_eq_true rfl) rfl ?_
    refine z_xP zt216 0 2 [some (.int x14), some (.int p1), some (.int p2)] [.int p1, .int x14] rfl rfl ?_
    refine z_xI zt216 1 rfl rfl (fun (x18 : Int32) (h19 : 0 ≤ x18.toInt ∧ x18.toInt ≤ x14.toInt) => ?_) (z_pAndL rfl (by omega))
    refine z_xP zt216 2 4 [some (.int x14), some (.int p1), some (.int p2)] [.int p1, .int x18] rfl rfl ?_
    have h20 := z_b32 p1
    refine z_xJ zt216 3 rfl rfl (fun (h21 : x18.toInt ≠ p1.toInt) => ?_) (fun (h21 : x18.toInt = p1.toInt) => ?_)
    · skip
      refine z_xP zt216 8 18 [some (.int x14), some (.int p1), some (.int p2)] [.int 0] rfl rfl ?_
      refine z_xrz zt216 9 rfl zzr216 (by decide) (by decide) ?_
      show z_ev (d + 2) 234 44 [some (.ref 19), some (.int p1), some (.int p2), some (.int b3), some (.int b4), some (.int x14)] [.int 0] M _
      refine z_xZ zt234 17 rfl rfl (fun (h22 : (0 : Int) = 0) => ?_) (fun (h22 : (0 : Int) ≠ 0) => absurd h22 (by omega))
      refine z_xN zt234 26 rfl rfl (fun (x23 : Int32) (h24 : x23.toInt = b4.toInt + 1) => ?_) (z_pAdd rfl rfl (by omega) (by omega))
      show z_ev (d + 2) 234 71 [some (.ref 19), some (.int p1), some (.int p2), some (.int b3), some (.int x23), some (.int x14)] [] M _
      refine z_xP zt234 27 5 [some (.ref 19), some (.int p1), some (.int p2), some (.int b3), some (.int x23), some (.int x14)] [] rfl rfl ?_
      exact ih M b3 x23 (some (.int x14)) X ⟨by omega, by omega⟩ ⟨by omega, by omega⟩ (by omega)
    refine z_xP zt216 4 9 [some (.int x14), some (.int p1), some (.int p2)] [.int p2, .int x14] rfl rfl ?_
    refine z_xI zt216 5 rfl rfl (fun (x25 : Int32) (h26 : 0 ≤ x25.toInt ∧ x25.toInt ≤ x14.toInt) => ?_) (z_pAndL rfl (by omega))
    refine z_xZ zt216 6 rfl rfl (fun (h27 : x25.toInt ≠ 0) => ?_) (fun (h27 : x25.toInt = 0) => ?_)
    · skip
      refine z_xP zt216 8 18 [some (.int x14), some (.int p1), some (.int p2)] [.int 0] rfl rfl ?_
      refine z_xrz zt216 9 rfl zzr216 (by decide) (by decide) ?_
      show z_ev (d + 2) 234 44 [some (.ref 19), some (.int p1), some (.int p2), some (.int b3), some (.int b4), some (.int x14)] [.int 0] M _
      refine z_xZ zt234 17 rfl rfl (fun (h28 : (0 : Int) = 0) => ?_) (fun (h28 : (0 : Int) ≠ 0) => absurd h28 (by omega))
      refine z_xN zt234 26 rfl rfl (fun (x29 : Int32) (h30 : x29.toInt = b4.toInt + 1) => ?_) (z_pAdd rfl rfl (by omega) (by omega))
      show z_ev (d + 2) 234 71 [some (.ref 19), some (.int p1), some (.int p2), some (.int b3), some (.int x29), some (.int x14)] [] M _
      refine z_xP zt234 27 5 [some (.ref 19), some (.int p1), some (.int p2), some (.int b3), some (.int x29), some (.int x14)] [] rfl rfl ?_
      exact ih M b3 x29 (some (.int x14)) X ⟨by omega, by omega⟩ ⟨by omega, by omega⟩ (by omega)
    refine z_xP zt216 7 18 [some (.int x14), some (.int p1), some (.int p2)] [.int 1] rfl rfl ?_
    refine z_xrz zt216 9 rfl zzr216 (by decide) (by decide) ?_
    show z_ev (d + 2) 234 44 [some (.ref 19), some (.int p1), some (.int p2), some (.int b3), some (.int b4), some (.int x14)] [.int 1] M _
    refine z_xZ zt234 17 rfl rfl (fun (h31 : (1 : Int) = 0) => absurd h31 (by omega)) (fun (h31 : (1 : Int) ≠ 0) => ?_)
    refine z_xP zt234 18 48 [some (.ref 19), some (.int p1), some (.int p2), some (.int b3), some (.int b4), some (.int x14)] [.int b3] rfl rfl ?_
    refine z_xZ zt234 19 rfl rfl (fun (h32 : b3.toInt < 0) => ?_) (fun (h32 : 0 ≤ b3.toInt) => ?_)
    · skip
      refine z_xP zt234 25 68 [some (.ref 19), some (.int p1), some (.int p2), some (.int x14), some (.int b4), some (.int x14)] [] rfl rfl ?_
      refine z_xN zt234 26 rfl rfl (fun (x33 : Int32) (h34 : x33.toInt = b4.toInt + 1) => ?_) (z_pAdd rfl rfl (by omega) (by omega))
      show z_ev (d + 2) 234 71 [some (.ref 19), some (.int p1), some (.int p2), some (.int x14), some (.int x33), some (.int x14)] [] M _
      refine z_xP zt234 27 5 [some (.ref 19), some (.int p1), some (.int p2), some (.int x14), some (.int x33), some (.int x14)] [] rfl rfl ?_
      exact ih M x14 x33 (some (.int x14)) X ⟨by omega, by omega⟩ ⟨by omega, by omega⟩ (by omega)
    refine z_xP zt234 20 54 [some (.ref 19), some (.int p1), some (.int p2), some (.int b3), some (.int b4), some (.int x14)] [.int x14, .ref 19] rfl rfl ?_
    refine z_xcV (vs := [.ref 19, .int x14]) (r := []) (L2 := [some (.ref 19), some (.int x14), none, none]) zt234 21 rfl zo234 zzcV12_259 (Or.inl rfl) rfl X f19 rfl rfl rfl (Nat.le_of_ble_eq_true rfl) zzm232 (Nat.le_of_ble_eq_true rfl) rfl ?_
    refine zC232 X.1 (by omega) (fun x37 M35 X36  => ?_)
    have X38 := X.go X36 (z_sb (by decide))
    show z_ev (d + 2) 234 57 [some (.ref 19), some (.int p1), some (.int p2), some (.int b3), some (.int b4), some (.int x14)] [.int x37] M35 _
    refine z_xP zt234 22 59 [some (.ref 19), some (.int p1), some (.int p2), some (.int b3), some (.int b4), some (.int x14)] [.int b3, .ref 19, .int x37] rfl rfl ?_
    refine z_xcV (vs := [.ref 19, .int b3]) (r := [.int x37]) (L2 := [some (.ref 19), some (.int b3), none, none]) zt234 23 rfl zo234 zzcV12_259 (Or.inl rfl) rfl X38 f19 rfl rfl rfl (Nat.le_of_ble_eq_true rfl) zzm232 (Nat.le_of_ble_eq_true rfl) rfl ?_
    refine zC232 X38.1 (by omega) (fun x42 M40 X41  => ?_)
    have X43 := X38.go X41 (z_sb (by decide))
    show z_ev (d + 2) 234 62 [some (.ref 19), some (.int p1), some (.int p2), some (.int b3), some (.int b4), some (.int x14)] [.int x42, .int x37] M40 _
    have h45 := z_b32 x37
    have h46 := z_b32 x42
    refine z_xJ zt234 24 rfl rfl (fun (h47 : x42.toInt ≤ x37.toInt) => ?_) (fun (h47 : x37.toInt < x42.toInt) => ?_)
    · skip
      refine z_xN zt234 26 rfl rfl (fun (x48 : Int32) (h49 : x48.toInt = b4.toInt + 1) => ?_) (z_pAdd rfl rfl (by omega) (by omega))
      show z_ev (d + 2) 234 71 [some (.ref 19), some (.int p1), some (.int p2), some (.int b3), some (.int x48), some (.int x14)] [] M40 _
      refine z_xP zt234 27 5 [some (.ref 19), some (.int p1), some (.int p2), some (.int b3), some (.int x48), some (.int x14)] [] rfl rfl ?_
      exact ih M40 b3 x48 (some (.int x14)) X43 ⟨by omega, by omega⟩ ⟨by omega, by omega⟩ (by omega)
    refine z_xP zt234 25 68 [some (.ref 19), some (.int p1), some (.int p2), some (.int x14), some (.int b4), some (.int x14)] [] rfl rfl ?_
    refine z_xN zt234 26 rfl rfl (fun (x50 : Int32) (h51 : x50.toInt = b4.toInt + 1) => ?_) (z_pAdd rfl rfl (by omega) (by omega))
    show z_ev (d + 2) 234 71 [some (.ref 19), some (.int p1), some (.int p2), some (.int x14), some (.int x50), some (.int x14)] [] M40 _
    refine z_xP zt234 27 5 [some (.ref 19), some (.int p1), some (.int p2), some (.int x14), some (.int x50), some (.int x14)] [] rfl rfl ?_
    exact ih M40 x14 x50 (some (.int x14)) X43 ⟨by omega, by omega⟩ ⟨by omega, by omega⟩ (by omega)
theorem zC234 {T : List zK} {d : Nat} {K : Option Value → zH → Prop} {p1 : Int32} {p2 : Int32} {M0 : zH} (hW : z_W M0 T)  (kk : ∀ (x : Int32) (M1 : zH), z_X T zw234 M0 M1 → (-1) ≤ x.toInt → x.toInt ≤ 1023 → K (some (.int x)) M1) : z_ev (d + 2) 234 0 [some (.ref 19), some (.int p1), some (.int p2), none, none, none] [] M0 K := by
  have X : z_X T zw234 M0 M0 := .refl hW
  refine z_xP zt234 0 5 [some (.ref 19), some (.int p1), some (.int p2), some (.int (-1)), some (.int 0), none] [] rfl rfl ?_
  have qm1 : (((-1) : Int32)).toInt = (-1) := rfl
  have q0 : ((0 : Int32)).toInt = 0 := rfl
  exact (zB234 kk 2050) M0 ((-1)) (0) none X (by decide) (by decide) (by omega)
def zw233 : List Nat := [39, 40, 41, 2229, 2230]
theorem zB233 {T : List zK} {d : Nat} {K : Option Value → zH → Prop} {p1 : Int32} {p2 : Int32} {M0 : zH}  (kk : ∀ (x : Int32) (M1 : zH), z_X T zw233 M0 M1 → K (some (.int x)) M1) : ∀ n : Nat, (∀ (M : zH) (b3 : Int32) (b4 : Int32) (b5 : Int32) (o6 : Option Value), z_X T zw233 M0 M → 0 ≤ p1.toInt ∧ p1.toInt ≤ 7 → (-1) ≤ p2.toInt ∧ p2.toInt ≤ 2147483647 → 0 ≤ b5.toInt ∧ b5.toInt ≤ 1024 → ((0) * 2 + 0) * 1025 + (1024 - b5.toInt) < (n : Int) → z_ev (d + 3) 233 37 [some (.ref 19), some (.int p1), some (.int p2), some (.int b3), some (.int b4), some (.int b5), o6] [] M K) := by
  intro n
  induction n with
  | zero => exact by intros; exfalso; omega
  | succ n ih =>
    intro M b3 b4 b5 o6 X hh0 hh1 hh2 hE
    refine z_xP zt233 13 40 [some (.ref 19), some (.int p1), some (.int p2), some (.int b3), some (.int b4), some (.int b5), o6] [.ref 19, .int b5] rfl rfl ?_
    have f19 : T[19]? = some (.inl (12, 0, 0, 0, 0)) := X.1.k rfl (by decide)
    refine z_xgX (b := 31) zt233 14 rfl zo233 zzf12_43 X f19 (by decide) (by decide) rfl ?_
    refine z_xP zt233 15 44 [some (.ref 19), some (.int p1), some (.int p2), some (.int b3), some (.int b4), some (.int b5), o6] [.int p1, .ref 31, .int b5] rfl rfl ?_
    have f31 : T[31]? = some (.inr (31, 0, 8, 0, 1024)) := X.1.k rfl (by decide)
    refine z_xil zt233 16 rfl X f31 (by decide) (by omega) (by omega) (fun (x1 : Int32) h2 (h3 : 0 ≤ x1.toInt) (h4 : x1.toInt ≤ 1024) => ?_)
    refine z_xJ zt233 17 rfl rfl (fun (h5 : x1.toInt ≤ b5.toInt) => ?_) (fun (h5 : b5.toInt < x1.toInt) => ?_)
    · skip
      refine z_xP zt233 36 92 [some (.ref 19), some (.int p1), some (.int p2), some (.int b3), some (.int b4), some (.int b5), o6] [.int p2] rfl rfl ?_
      refine z_xZ zt233 37 rfl rfl (fun (h6 : 0 ≤ p2.toInt) => ?_) (fun (h6 : p2.toInt < 0) => ?_)
      · skip
        refine z_xP zt233 39 101 [some (.ref 19), some (.int p1), some (.int p2), some (.int b3), some (.int b4), some (.int b5), o6] [.int (-1)] rfl rfl ?_
        have qm1 : (((-1) : Int32)).toInt = (-1) := rfl
        exact z_xri zt233 40 rfl zzr233 (kk (-1) M X)
      refine z_xP zt233 38 101 [some (.ref 19), some (.int p1), some (.int p2), some (.int b3), some (.int b4), some (.int b5), o6] [.int b4] rfl rfl ?_
      exact z_xri zt233 40 rfl zzr233 (kk b4 M X)
    refine z_xP zt233 18 49 [some (.ref 19), some (.int p1), some (.int p2), some (.int b3), some (.int b4), some (.int b5), o6] [.ref 19] rfl rfl ?_
    refine z_xgX (b := 30) zt233 19 rfl zo233 zzf12_40 X f19 (by decide) (by decide) rfl ?_
    refine z_xP zt233 20 56 [some (.ref 19), some (.int p1), some (.int p2), some (.int b3), some (.int b4), some (.int b5), o6] [.int p1, .int 1024, .ref 30] rfl rfl ?_
    refine z_xI zt233 21 rfl rfl (fun (x7 : Int32) (h8 : x7.toInt = 1024 * p1.toInt) => ?_) (z_pMul rfl rfl (by omega) (by omega))
    refine z_xP zt233 22 59 [some (.ref 19), some (.int p1), some (.int p2), some (.int b3), some (.int b4), some (.int b5), o6] [.int b5, .int x7, .ref 30] rfl rfl ?_
    refine z_xI zt233 23 rfl rfl (fun (x9 : Int32) (h10 : x9.toInt = x7.toInt + b5.toInt) => ?_) (z_pAdd rfl rfl (by omega) (by omega))
    have f30 : T[30]? = some (.inr (30, 0, 8192, 0, 1023)) := X.1.k rfl (by decide)
    refine z_xil zt233 24 rfl X f30 (by decide) (by omega) (by omega) (fun (x11 : Int32) h12 (h13 : 0 ≤ x11.toInt) (h14 : x11.toInt ≤ 1023) => ?_)
    refine z_xP zt233 25 66 [some (.ref 19), some (.int p1), some (.int p2), some (.int b3), some (.int b4), some (.int b5), some (.int x11)] [.int x11, .ref 19] rfl rfl ?_
    refine z_xcV (vs := [.ref 19, .int x11]) (r := []) (L2 := [some (.ref 19), some (.int x11), none, none]) zt233 26 rfl zo233 zzcV12_259 (Or.inl rfl) rfl X f19 rfl rfl rfl (Nat.le_of_ble_eq_true rfl) zzm232 (Nat.le_of_ble_eq_true rfl) rfl ?_
    refine zC232 X.1 (by omega) (fun x17 M15 X16  => ?_)
    have X18 := X.go X16 (z_sb (by decide))
    show z_ev (d + 3) 233 69 [some (.ref 19), some (.int p1), some (.int p2), some (.int b3), some (.int b4), some (.int b5), some (.int x11)] [.int x17] M15 _
    refine z_xP zt233 27 70 [some (.ref 19), some (.int p1), some (.int p2), some (.int b3), some (.int b4), some (.int b5), some (.int x11)] [.int b3, .int x17] rfl rfl ?_
    have h20 := z_b32 x17
    have h21 := z_b32 b3
    refine z_xJ zt233 28 rfl rfl (fun (h22 : x17.toInt ≠ b3.toInt) => ?_) (fun (h22 : x17.toInt = b3.toInt) => ?_)
    · skip
      refine z_xN zt233 34 rfl rfl (fun (x23 : Int32) (h24 : x23.toInt = b5.toInt + 1) => ?_) (z_pAdd rfl rfl (by omega) (by omega))
      show z_ev (d + 3) 233 88 [some (.ref 19), some (.int p1), some (.int p2), some (.int b3), some (.int b4), some (.int x23), some (.int x11)] [] M15 _
      refine z_xP zt233 35 37 [some (.ref 19), some (.int p1), some (.int p2), some (.int b3), some (.int b4), some (.int x23), some (.int x11)] [] rfl rfl ?_
      have h25 := z_b32 p2
      exact ih M15 b3 b4 x23 (some (.int x11)) X18 ⟨by omega, by omega⟩ ⟨by omega, by omega⟩ ⟨by omega, by omega⟩ (by omega)
    refine z_xP zt233 29 76 [some (.ref 19), some (.int p1), some (.int p2), some (.int b3), some (.int b4), some (.int b5), some (.int x11)] [.int p2, .int b4] rfl rfl ?_
    have h26 := z_b32 b4
    have h27 := z_b32 p2
    refine z_xJ zt233 30 rfl rfl (fun (h28 : b4.toInt ≠ p2.toInt) => ?_) (fun (h28 : b4.toInt = p2.toInt) => ?_)
    · skip
      refine z_xN zt233 33 rfl rfl (fun (x29 : Int32) (h30 : True) => ?_) (trivial)
      show z_ev (d + 3) 233 85 [some (.ref 19), some (.int p1), some (.int p2), some (.int b3), some (.int x29), some (.int b5), some (.int x11)] [] M15 _
      refine z_xN zt233 34 rfl rfl (fun (x31 : Int32) (h32 : x31.toInt = b5.toInt + 1) => ?_) (z_pAdd rfl rfl (by omega) (by omega))
      show z_ev (d + 3) 233 88 [some (.ref 19), some (.int p1), some (.int p2), some (.int b3), some (.int x29), some (.int x31), some (.int x11)] [] M15 _
      refine z_xP zt233 35 37 [some (.ref 19), some (.int p1), some (.int p2), some (.int b3), some (.int x29), some (.int x31), some (.int x11)] [] rfl rfl ?_
      exact ih M15 b3 x29 x31 (some (.int x11)) X18 ⟨by omega, by omega⟩ ⟨by omega, by omega⟩ ⟨by omega, by omega⟩ (by omega)
    refine z_xP zt233 31 81 [some (.ref 19), some (.int p1), some (.int p2), some (.int b3), some (.int b4), some (.int b5), some (.int x11)] [.int x11] rfl rfl ?_
    exact z_xri zt233 32 rfl zzr233 (kk x11 M15 X18)
theorem zC233 {T : List zK} {d : Nat} {K : Option Value → zH → Prop} {p1 : Int32} {p2 : Int32} {M0 : zH} (hW : z_W M0 T)  (kk : ∀ (x : Int32) (M1 : zH), z_X T zw233 M0 M1 → K (some (.int x)) M1) : z_ev (d + 3) 233 0 [some (.ref 19), some (.int p1), some (.int p2), none, none, none, none] [] M0 K := by
  have X : z_X T zw233 M0 M0 := .refl hW
  refine z_xP zt233 0 2 [some (.ref 19), some (.int p1), some (.int p2), none, none, none, none] [.int p1, .ref 19] rfl rfl ?_
  have f19 : T[19]? = some (.inl (12, 0, 0, 0, 0)) := X.1.k rfl (by decide)
  refine z_xcV (vs := [.ref 19, .int p1]) (r := []) (L2 := [some (.ref 19), some (.int p1)]) zt233 1 rfl zo233 zzcV12_209 (Or.inl rfl) rfl X f19 rfl rfl rfl (Nat.le_of_ble_eq_true rfl) zzm209 (Nat.le_of_ble_eq_true rfl) rfl ?_
  refine z_xP zt209 0 1 [some (.ref 19), some (.int p1)] [.int p1] rfl rfl ?_
  refine z_xZ zt209 1 rfl rfl (fun (h1 : p1.toInt < 0) => ?_) (fun (h1 : 0 ≤ p1.toInt) => ?_)
  · skip
    refine z_xP zt209 6 17 [some (.ref 19), some (.int p1)] [.int 0] rfl rfl ?_
    refine z_xrz zt209 7 rfl zzr209 (by decide) (by decide) ?_
    show z_ev (d + 3) 233 5 [some (.ref 19), some (.int p1), some (.int p2), none, none, none, none] [.int 0] M0 _
    refine z_xZ zt233 2 rfl rfl (fun (h2 : (0 : Int) = 0) => ?_) (fun (h2 : (0 : Int) ≠ 0) => absurd h2 (by omega))
    refine z_xP zt233 5 14 [some (.ref 19), some (.int p1), some (.int p2), none, none, none, none] [.int (-1)] rfl rfl ?_
    have qm1 : (((-1) : Int32)).toInt = (-1) := rfl
    exact z_xri zt233 6 rfl zzr233 (kk (-1) M0 X)
  refine z_xP zt209 2 6 [some (.ref 19), some (.int p1)] [.ref 19, .int p1] rfl rfl ?_
  refine z_xgI zt209 3 rfl zo209 zzf12_110 X f19 (by decide) (by decide) rfl (fun (x4 : Int32) h3 (h5 : 0 ≤ x4.toInt) (h6 : x4.toInt ≤ 8) => ?_)
  have h7 := z_b32 p1
  refine z_xJ zt209 4 rfl rfl (fun (h8 : x4.toInt ≤ p1.toInt) => ?_) (fun (h8 : p1.toInt < x4.toInt) => ?_)
  · skip
    refine z_xP zt209 6 17 [some (.ref 19), some (.int p1)] [.int 0] rfl rfl ?_
    refine z_xrz zt209 7 rfl zzr209 (by decide) (by decide) ?_
    show z_ev (d + 3) 233 5 [some (.ref 19), some (.int p1), some (.int p2), none, none, none, none] [.int 0] M0 _
    refine z_xZ zt233 2 rfl rfl (fun (h9 : (0 : Int) = 0) => ?_) (fun (h9 : (0 : Int) ≠ 0) => absurd h9 (by omega))
    refine z_xP zt233 5 14 [some (.ref 19), some (.int p1), some (.int p2), none, none, none, none] [.int (-1)] rfl rfl ?_
    have qm1 : (((-1) : Int32)).toInt = (-1) := rfl
    exact z_xri zt233 6 rfl zzr233 (kk (-1) M0 X)
  refine z_xP zt209 5 17 [some (.ref 19), some (.int p1)] [.int 1] rfl rfl ?_
  refine z_xrz zt209 7 rfl zzr209 (by decide) (by decide) ?_
  show z_ev (d + 3) 233 5 [some (.ref 19), some (.int p1), some (.int p2), none, none, none, none] [.int 1] M0 _
  refine z_xZ zt233 2 rfl rfl (fun (h10 : (1 : Int) = 0) => absurd h10 (by omega)) (fun (h10 : (1 : Int) ≠ 0) => ?_)
  refine z_xP zt233 3 10 [some (.ref 19), some (.int p1), some (.int p2), none, none, none, none] [.int (-1), .int p2] rfl rfl ?_
  refine z_xJ zt233 4 rfl rfl (fun (h11 : (-1) ≤ p2.toInt) => ?_) (fun (h11 : p2.toInt < (-1)) => ?_)
  · skip
    refine z_xP zt233 7 17 [some (.ref 19), some (.int p1), some (.int p2), none, none, none, none] [.int p1, .ref 19] rfl rfl ?_
    refine z_xcV (vs := [.ref 19, .int p1]) (r := []) (L2 := [some (.ref 19), some (.int p1), none]) zt233 8 rfl zo233 zzcV12_255 (Or.inl rfl) rfl X f19 rfl rfl rfl (Nat.le_of_ble_eq_true rfl) zzm229 (Nat.le_of_ble_eq_true rfl) rfl ?_
    obtain ⟨x12, h13, h14, h15⟩ := z_W.fi X.1 f19 (k := 29) (lo := 0) (hi := 7) (by decide) rfl
    refine zC229 X.1 (by omega) h13 ⟨by omega, by omega⟩ (fun M16 X17 z18 h19 h20 h21 => ?_)
    have X22 := X.go X17 (z_sb (by decide))
    show z_ev (d + 3) 233 20 [some (.ref 19), some (.int p1), some (.int p2), none, none, none, none] [] M16 _
    have h24 : z18 = p1 := z_sub (c := p1.toInt) (by omega) rfl
    have h25 := h19
    rw [h24] at h25
    refine z_xP zt233 9 24 [some (.ref 19), some (.int p1), some (.int p2), none, none, none, none] [.int 0, .int 0, .ref 19, .ref 19] rfl rfl ?_
    refine z_xcV (vs := [.ref 19, .int 0, .int 0]) (r := [.ref 19]) (L2 := [some (.ref 19), some (.int 0), some (.int 0), none, none, none]) zt233 10 rfl zo233 zzcV12_262 (Or.inl rfl) rfl X22 f19 rfl rfl rfl (Nat.le_of_ble_eq_true rfl) zzm234 (Nat.le_of_ble_eq_true rfl) rfl ?_
    have q0 : ((0 : Int32)).toInt = 0 := rfl
    have q0 : ((0 : Int32)).toInt = 0 := rfl
    refine zC234 X22.1 (fun x28 M26 X27 h29 h30 => ?_)
    have X31 := X22.go X27 (z_sb (by decide))
    show z_ev (d + 3) 233 27 [some (.ref 19), some (.int p1), some (.int p2), none, none, none, none] [.int x28, .ref 19] M26 _
    refine z_xcV (vs := [.ref 19, .int x28]) (r := []) (L2 := [some (.ref 19), some (.int x28), none, none]) zt233 11 rfl zo233 zzcV12_259 (Or.inl rfl) rfl X31 f19 rfl rfl rfl (Nat.le_of_ble_eq_true rfl) zzm232 (Nat.le_of_ble_eq_true rfl) rfl ?_
    refine zC232 X31.1 (by omega) (fun x35 M33 X34  => ?_)
    have X36 := X31.go X34 (z_sb (by decide))
    show z_ev (d + 3) 233 30 [some (.ref 19), some (.int p1), some (.int p2), none, none, none, none] [.int x35] M33 _
    refine z_xP zt233 12 37 [some (.ref 19), some (.int p1), some (.int p2), some (.int x35), some (.int 0), some (.int 0), none] [] rfl rfl ?_
    have h38 := z_b32 p2
    have q0 : ((0 : Int32)).toInt = 0 := rfl
    exact (zB233 kk 2050) M33 x35 (0) (0) none X36 ⟨by omega, by omega⟩ ⟨by omega, by omega⟩ (by decide) (by omega)
  refine z_xP zt233 5 14 [some (.ref 19), some (.int p1), some (.int p2), none, none, none, none] [.int (-1)] rfl rfl ?_
  have qm1 : (((-1) : Int32)).toInt = (-1) := rfl
  exact z_xri zt233 6 rfl zzr233 (kk (-1) M0 X)
def zw235 : List Nat := [36, 37, 38, 2221]
def zw236 : List Nat := []
theorem zC236 {T : List zK} {d : Nat} {K : Option Value → zH → Prop} {p1 : Int32} {p2 : Int32} {M0 : zH} (hW : z_W M0 T)  (kk : ∀ (x : Int32) (M1 : zH), z_X T zw236 M0 M1 → (-1) ≤ x.toInt → x.toInt ≤ 9 → K (some (.int x)) M1) : z_ev (d + 1) 236 0 [some (.ref 19), some (.int p1), some (.int p2)] [] M0 K := by
  have X : z_X T zw236 M0 M0 := .refl hW
  refine z_xP zt236 0 2 [some (.ref 19), some (.int p1), some (.int p2)] [.int p1, .ref 19] rfl rfl ?_
  have f19 : T[19]? = some (.inl (12, 0, 0, 0, 0)) := X.1.k rfl (by decide)
  refine z_xcV (vs := [.ref 19, .int p1]) (r := []) (L2 := [some (.ref 19), some (.int p1)]) zt236 1 rfl zo236 zzcV12_272 (Or.inl rfl) rfl X f19 rfl rfl rfl (Nat.le_of_ble_eq_true rfl) zzm237 (Nat.le_of_ble_eq_true rfl) rfl ?_
  refine z_xP zt237 0 1 [some (.ref 19), some (.int p1)] [.int p1] rfl rfl ?_
  refine z_xZ zt237 1 rfl rfl (fun (h1 : p1.toInt < 0) => ?_) (fun (h1 : 0 ≤ p1.toInt) => ?_)
  · skip
    refine z_xP zt237 6 17 [some (.ref 19), some (.int p1)] [.int 0] rfl rfl ?_
    refine z_xrz zt237 7 rfl zzr237 (by decide) (by decide) ?_
    show z_ev (d + 1) 236 5 [some (.ref 19), some (.int p1), some (.int p2)] [.int 0] M0 _
    refine z_xZ zt236 2 rfl rfl (fun (h2 : (0 : Int) = 0) => ?_) (fun (h2 : (0 : Int) ≠ 0) => absurd h2 (by omega))
    refine z_xP zt236 9 21 [some (.ref 19), some (.int p1), some (.int p2)] [.int (-1)] rfl rfl ?_
    have qm1 : (((-1) : Int32)).toInt = (-1) := rfl
    exact z_xri zt236 10 rfl zzr236 (kk (-1) M0 X (by omega) (by omega))
  refine z_xP zt237 2 6 [some (.ref 19), some (.int p1)] [.ref 19, .int p1] rfl rfl ?_
  refine z_xgI zt237 3 rfl zo237 zzf12_269 X f19 (by decide) (by decide) rfl (fun (x4 : Int32) h3 (h5 : 0 ≤ x4.toInt) (h6 : x4.toInt ≤ 20) => ?_)
  have h7 := z_b32 p1
  refine z_xJ zt237 4 rfl rfl (fun (h8 : x4.toInt ≤ p1.toInt) => ?_) (fun (h8 : p1.toInt < x4.toInt) => ?_)
  · skip
    refine z_xP zt237 6 17 [some (.ref 19), some (.int p1)] [.int 0] rfl rfl ?_
    refine z_xrz zt237 7 rfl zzr237 (by decide) (by decide) ?_
    show z_ev (d + 1) 236 5 [some (.ref 19), some (.int p1), some (.int p2)] [.int 0] M0 _
    refine z_xZ zt236 2 rfl rfl (fun (h9 : (0 : Int) = 0) => ?_) (fun (h9 : (0 : Int) ≠ 0) => absurd h9 (by omega))
    refine z_xP zt236 9 21 [some (.ref 19), some (.int p1), some (.int p2)] [.int (-1)] rfl rfl ?_
    have qm1 : (((-1) : Int32)).toInt = (-1) := rfl
    exact z_xri zt236 10 rfl zzr236 (kk (-1) M0 X (by omega) (by omega))
  refine z_xP zt237 5 17 [some (.ref 19), some (.int p1)] [.int 1] rfl rfl ?_
  refine z_xrz zt237 7 rfl zzr237 (by decide) (by decide) ?_
  show z_ev (d + 1) 236 5 [some (.ref 19), some (.int p1), some (.int p2)] [.int 1] M0 _
  refine z_xZ zt236 2 rfl rfl (fun (h10 : (1 : Int) = 0) => absurd h10 (by omega)) (fun (h10 : (1 : Int) ≠ 0) => ?_)
  refine z_xP zt236 3 9 [some (.ref 19), some (.int p1), some (.int p2)] [.int p2] rfl rfl ?_
  have h11 := z_b32 p2
  refine z_xL zt236 4 rfl rfl (fun (y12 : Int64) (h13 : y12.toInt = p2.toInt) => ?_) (z_qI2L rfl)
  refine z_xP zt236 5 11 [some (.ref 19), some (.int p1), some (.int p2)] [.long 0, .long y12] rfl rfl ?_
  refine z_xl2 zt236 6 rfl zo236 zkl12_240 ?_
  refine z_xcS (vs := [.long y12, .long 0, .long 2]) (r := []) (L2 := [some (.long y12), none, some (.long 0), none, some (.long 2), none]) zt236 7 rfl zo236 zzcS12_116 (Or.inl rfl) (Nat.le_of_ble_eq_true rfl) rfl rfl (Nat.le_of_ble_eq_true rfl) zzm189 (Nat.le_of_ble_eq_true rfl) rfl ?_
  refine z_xP zt189 0 2 [some (.long y12), none, some (.long 0), none, some (.long 2), none] [.long 0, .long y12] rfl rfl ?_
  refine z_xI zt189 1 rfl rfl (fun (x14 : Int32) (h15 : (x14.toInt < 0 ∧ y12.toInt < 0) ∨ (x14.toInt = 0 ∧ y12.toInt = 0) ∨ (0 < x14.toInt ∧ 0 < y12.toInt)) => ?_) (z_qCmp rfl rfl)
  refine z_xZ zt189 2 rfl rfl (fun (h16 : x14.toInt < 0) => ?_) (fun (h16 : 0 ≤ x14.toInt) => ?_)
  · skip
    refine z_xP zt189 7 18 [some (.long y12), none, some (.long 0), none, some (.long 2), none] [.int 0] rfl rfl ?_
    refine z_xrz zt189 8 rfl zzr189 (by decide) (by decide) ?_
    show z_ev (d + 1) 236 17 [some (.ref 19), some (.int p1), some (.int p2)] [.int 0] M0 _
    refine z_xZ zt236 8 rfl rfl (fun (h17 : (0 : Int) ≠ 0) => absurd h17 (by omega)) (fun (h17 : (0 : Int) = 0) => ?_)
    refine z_xP zt236 9 21 [some (.ref 19), some (.int p1), some (.int p2)] [.int (-1)] rfl rfl ?_
    have qm1 : (((-1) : Int32)).toInt = (-1) := rfl
    exact z_xri zt236 10 rfl zzr236 (kk (-1) M0 X (by omega) (by omega))
  refine z_xP zt189 3 9 [some (.long y12), none, some (.long 0), none, some (.long 2), none] [.long 2, .long y12] rfl rfl ?_
  refine z_xI zt189 4 rfl rfl (fun (x18 : Int32) (h19 : (x18.toInt < 0 ∧ y12.toInt < 2) ∨ (x18.toInt = 0 ∧ y12.toInt = 2) ∨ (0 < x18.toInt ∧ 2 < y12.toInt)) => ?_) (z_qCmp rfl rfl)
  refine z_xZ zt189 5 rfl rfl (fun (h20 : 0 < x18.toInt) => ?_) (fun (h20 : x18.toInt ≤ 0) => ?_)
  · skip
    refine z_xP zt189 7 18 [some (.long y12), none, some (.long 0), none, some (.long 2), none] [.int 0] rfl rfl ?_
    refine z_xrz zt189 8 rfl zzr189 (by decide) (by decide) ?_
    show z_ev (d + 1) 236 17 [some (.ref 19), some (.int p1), some (.int p2)] [.int 0] M0 _
    refine z_xZ zt236 8 rfl rfl (fun (h21 : (0 : Int) ≠ 0) => absurd h21 (by omega)) (fun (h21 : (0 : Int) = 0) => ?_)
    refine z_xP zt236 9 21 [some (.ref 19), some (.int p1), some (.int p2)] [.int (-1)] rfl rfl ?_
    have qm1 : (((-1) : Int32)).toInt = (-1) := rfl
    exact z_xri zt236 10 rfl zzr236 (kk (-1) M0 X (by omega) (by omega))
  refine z_xP zt189 6 18 [some (.long y12), none, some (.long 0), none, some (.long 2), none] [.int 1] rfl rfl ?_
  refine z_xrz zt189 8 rfl zzr189 (by decide) (by decide) ?_
  show z_ev (d + 1) 236 17 [some (.ref 19), some (.int p1), some (.int p2)] [.int 1] M0 _
  refine z_xZ zt236 8 rfl rfl (fun (h22 : (1 : Int) ≠ 0) => ?_) (fun (h22 : (1 : Int) = 0) => absurd h22 (by omega))
  refine z_xP zt236 11 23 [some (.ref 19), some (.int p1), some (.int p2)] [.int p2] rfl rfl ?_
  refine z_xZ zt236 12 rfl rfl (fun (h23 : p2.toInt ≠ 0) => ?_) (fun (h23 : p2.toInt = 0) => ?_)
  · skip
    refine z_xP zt236 18 37 [some (.ref 19), some (.int p1), some (.int p2)] [.int 1, .int p2] rfl rfl ?_
    refine z_xJ zt236 19 rfl rfl (fun (h24 : p2.toInt ≠ 1) => ?_) (fun (h24 : p2.toInt = 1) => ?_)
    · skip
      refine z_xP zt236 25 50 [some (.ref 19), some (.int p1), some (.int p2)] [.ref 19] rfl rfl ?_
      refine z_xgX (b := 38) zt236 26 rfl zo236 zzf12_64 X f19 (by decide) (by decide) rfl ?_
      refine z_xP zt236 27 54 [some (.ref 19), some (.int p1), some (.int p2)] [.int p1, .ref 38] rfl rfl ?_
      have f38 : T[38]? = some (.inr (38, 0, 20, 0, 8)) := X.1.k rfl (by decide)
      refine z_xil zt236 28 rfl X f38 (by decide) (by omega) (by omega) (fun (x25 : Int32) h26 (h27 : 0 ≤ x25.toInt) (h28 : x25.toInt ≤ 8) => ?_)
      exact z_xri zt236 29 rfl zzr236 (kk x25 M0 X (by omega) (by omega))
    refine z_xP zt236 20 41 [some (.ref 19), some (.int p1), some (.int p2)] [.ref 19] rfl rfl ?_
    refine z_xgX (b := 37) zt236 21 rfl zo236 zzf12_61 X f19 (by decide) (by decide) rfl ?_
    refine z_xP zt236 22 45 [some (.ref 19), some (.int p1), some (.int p2)] [.int p1, .ref 37] rfl rfl ?_
    have f37 : T[37]? = some (.inr (37, 0, 20, 0, 9)) := X.1.k rfl (by decide)
    refine z_xil zt236 23 rfl X f37 (by decide) (by omega) (by omega) (fun (x29 : Int32) h30 (h31 : 0 ≤ x29.toInt) (h32 : x29.toInt ≤ 9) => ?_)
    refine z_xP zt236 24 55 [some (.ref 19), some (.int p1), some (.int p2)] [.int x29] rfl rfl ?_
    exact z_xri zt236 29 rfl zzr236 (kk x29 M0 X (by omega) (by omega))
  refine z_xP zt236 13 27 [some (.ref 19), some (.int p1), some (.int p2)] [.ref 19] rfl rfl ?_
  refine z_xgX (b := 36) zt236 14 rfl zo236 zzf12_58 X f19 (by decide) (by decide) rfl ?_
  refine z_xP zt236 15 31 [some (.ref 19), some (.int p1), some (.int p2)] [.int p1, .ref 36] rfl rfl ?_
  have f36 : T[36]? = some (.inr (36, 0, 20, 0, 7)) := X.1.k rfl (by decide)
  refine z_xil zt236 16 rfl X f36 (by decide) (by omega) (by omega) (fun (x33 : Int32) h34 (h35 : 0 ≤ x33.toInt) (h36 : x33.toInt ≤ 7) => ?_)
  refine z_xP zt236 17 55 [some (.ref 19), some (.int p1), some (.int p2)] [.int x33] rfl rfl ?_
  exact z_xri zt236 29 rfl zzr236 (kk x33 M0 X (by omega) (by omega))
def zw241 : List Nat := [2234, 2235]
theorem zB241 {T : List zK} {d : Nat} {K : Option Value → zH → Prop} {p1 : Int32} {M0 : zH}  (kk : ∀ (M1 : zH), z_X T zw241 M0 M1 → K none M1) : ∀ n : Nat, (∀ (M : zH) (b2 : Int32), z_X T zw241 M0 M → 0 ≤ b2.toInt ∧ b2.toInt ≤ 10 → ((0) * 2 + 0) * 11 + (10 - b2.toInt) < (n : Int) → z_ev (d + 2) 241 2 [some (.ref 19), some (.int p1), some (.int b2)] [] M K) := by
  intro n
  induction n with
  | zero => exact by intros; exfalso; omega
  | succ n ih =>
    intro M b2 X hh0 hE
    refine z_xP zt241 1 4 [some (.ref 19), some (.int p1), some (.int b2)] [.ref 19, .int b2] rfl rfl ?_
    have f19 : T[19]? = some (.inl (12, 0, 0, 0, 0)) := X.1.k rfl (by decide)
    refine z_xgX (b := 24) zt241 2 rfl zo241 zzf12_22 X f19 (by decide) (by decide) rfl ?_
    refine z_xP zt241 3 8 [some (.ref 19), some (.int p1), some (.int b2)] [.ref 19, .ref 24, .int b2] rfl rfl ?_
    refine z_xgI zt241 4 rfl zo241 zzf12_242 X f19 (by decide) (by decide) rfl (fun (x2 : Int32) h1 (h3 : 0 ≤ x2.toInt) (h4 : x2.toInt ≤ 7) => ?_)
    have f24 : T[24]? = some (.inr (24, 0, 8, 0, 10)) := X.1.k rfl (by decide)
    refine z_xil zt241 5 rfl X f24 (by decide) (by omega) (by omega) (fun (x5 : Int32) h6 (h7 : 0 ≤ x5.toInt) (h8 : x5.toInt ≤ 10) => ?_)
    refine z_xJ zt241 6 rfl rfl (fun (h9 : x5.toInt ≤ b2.toInt) => ?_) (fun (h9 : b2.toInt < x5.toInt) => ?_)
    · skip
      exact z_xrv zt241 18 rfl zzr241 (kk M X)
    refine z_xP zt241 7 17 [some (.ref 19), some (.int p1), some (.int b2)] [.int b2, .int p1] rfl rfl ?_
    have h10 := z_b32 p1
    refine z_xI zt241 8 rfl rfl (P := fun _ => True) (fun (x11 : Int32) _ => ?_) trivial
    refine z_xP zt241 9 19 [some (.ref 19), some (.int p1), some (.int b2)] [.int 1, .int x11] rfl rfl ?_
    refine z_xI zt241 10 rfl rfl (fun (x13 : Int32) (h14 : 0 ≤ x13.toInt ∧ x13.toInt ≤ 1) => ?_) (z_pAnd rfl (by omega))
    refine z_xP zt241 11 21 [some (.ref 19), some (.int p1), some (.int b2)] [.int 1, .int x13] rfl rfl ?_
    refine z_xJ zt241 12 rfl rfl (fun (h15 : x13.toInt ≠ 1) => ?_) (fun (h15 : x13.toInt = 1) => ?_)
    · skip
      refine z_xN zt241 16 rfl rfl (fun (x16 : Int32) (h17 : x16.toInt = b2.toInt + 1) => ?_) (z_pAdd rfl rfl (by omega) (by omega))
      show z_ev (d + 2) 241 37 [some (.ref 19), some (.int p1), some (.int x16)] [] M _
      refine z_xP zt241 17 2 [some (.ref 19), some (.int p1), some (.int x16)] [] rfl rfl ?_
      exact ih M x16 X ⟨by omega, by omega⟩ (by omega)
    refine z_xP zt241 13 28 [some (.ref 19), some (.int p1), some (.int b2)] [.int b2, .ref 19, .int b2, .ref 19] rfl rfl ?_
    refine z_xcV (vs := [.ref 19, .int b2]) (r := [.int b2, .ref 19]) (L2 := [some (.ref 19), some (.int b2), none, none]) zt241 14 rfl zo241 zzcV12_281 (Or.inl rfl) rfl X f19 rfl rfl rfl (Nat.le_of_ble_eq_true rfl) zzm242 (Nat.le_of_ble_eq_true rfl) rfl ?_
    refine z_xP zt242 0 3 [some (.ref 19), some (.int b2), none, none] [.int 0, .int b2, .ref 19] rfl rfl ?_
    refine z_xcV (vs := [.ref 19, .int b2, .int 0]) (r := []) (L2 := [some (.ref 19), some (.int b2), some (.int 0), none, none]) zt242 1 rfl zo242 zzcV12_251 (Or.inl rfl) rfl X f19 rfl rfl rfl (Nat.le_of_ble_eq_true rfl) zzm230 (Nat.le_of_ble_eq_true rfl) rfl ?_
    have q0 : ((0 : Int32)).toInt = 0 := rfl
    have q0 : ((0 : Int32)).toInt = 0 := rfl
    refine zC230 X.1 (by decide) (fun x20 M18 X19  => ?_)
    have X21 := X.go X19 (z_sb (by decide))
    show z_ev (d + 1) 242 6 [some (.ref 19), some (.int b2), none, none] [.int x20] M18 _
    refine z_xP zt242 2 10 [some (.ref 19), some (.int b2), some (.int x20), none] [.int 1, .int b2, .ref 19] rfl rfl ?_
    refine z_xcV (vs := [.ref 19, .int b2, .int 1]) (r := []) (L2 := [some (.ref 19), some (.int b2), some (.int 1), none, none]) zt242 3 rfl zo242 zzcV12_251 (Or.inl rfl) rfl X21 f19 rfl rfl rfl (Nat.le_of_ble_eq_true rfl) zzm230 (Nat.le_of_ble_eq_true rfl) rfl ?_
    have q1 : ((1 : Int32)).toInt = 1 := rfl
    have q1 : ((1 : Int32)).toInt = 1 := rfl
    refine zC230 X21.1 (by decide) (fun x25 M23 X24  => ?_)
    have X26 := X21.go X24 (z_sb (by decide))
    show z_ev (d + 1) 242 13 [some (.ref 19), some (.int b2), some (.int x20), none] [.int x25] M23 _
    refine z_xP zt242 4 16 [some (.ref 19), some (.int b2), some (.int x20), some (.int x25)] [.int x25, .int x20] rfl rfl ?_
    have h28 := z_b32 x20
    have h29 := z_b32 x25
    refine z_xJ zt242 5 rfl rfl (fun (h30 : x20.toInt ≤ x25.toInt) => ?_) (fun (h30 : x25.toInt < x20.toInt) => ?_)
    · skip
      refine z_xP zt242 7 25 [some (.ref 19), some (.int b2), some (.int x20), some (.int x25)] [.int x25, .int x20] rfl rfl ?_
      refine z_xJ zt242 8 rfl rfl (fun (h31 : x25.toInt ≤ x20.toInt) => ?_) (fun (h31 : x20.toInt < x25.toInt) => ?_)
      · skip
        refine z_xP zt242 10 33 [some (.ref 19), some (.int b2), some (.int x20), some (.int x25)] [.int (-1)] rfl rfl ?_
        refine z_xri zt242 11 rfl zzr242 ?_
        show z_ev (d + 2) 241 31 [some (.ref 19), some (.int p1), some (.int b2)] [.int (-1), .int b2, .ref 19] M23 _
        refine z_xcV (vs := [.ref 19, .int b2, .int (-1)]) (r := []) (L2 := [some (.ref 19), some (.int b2), some (.int (-1))]) zt241 15 rfl zo241 zzcV12_284 (Or.inl rfl) rfl X26 f19 rfl rfl rfl (Nat.le_of_ble_eq_true rfl) zzm243 (Nat.le_of_ble_eq_true rfl) rfl ?_
        refine z_xP zt243 0 2 [some (.ref 19), some (.int b2), some (.int (-1))] [.ref 19, .ref 19] rfl rfl ?_
        refine z_xgI zt243 1 rfl zo243 zzf12_275 X26 f19 (by decide) (by decide) rfl (fun (x33 : Int32) h32 (h34 : (-2147483648) ≤ x33.toInt) (h35 : x33.toInt ≤ 2147483647) => ?_)
        refine z_xP zt243 2 7 [some (.ref 19), some (.int b2), some (.int (-1))] [.int 1, .int (-1), .int x33, .ref 19] rfl rfl ?_
        refine z_xJ zt243 3 rfl rfl (fun (h36 : ((-1) : Int) ≠ 1) => ?_) (fun (h36 : ((-1) : Int) = 1) => absurd h36 (by omega))
        refine z_xP zt243 7 17 [some (.ref 19), some (.int b2), some (.int (-1))] [.int 0, .int x33, .ref 19] rfl rfl ?_
        refine z_xI zt243 8 rfl rfl (P := fun _ => True) (fun (x37 : Int32) _ => ?_) trivial
        refine z_xpf zt243 9 rfl zo243 zzf12_275 X26 f19 (by decide) (by decide) ⟨Int32.le_toInt _, Int32.toInt_le _⟩ rfl (by decide) zw12_34 (fun M39 X40 e41 h42 => ?_)
        refine z_xP zt243 10 23 [some (.ref 19), some (.int b2), some (.int (-1))] [.ref 19, .ref 19] rfl rfl ?_
        refine z_xgI zt243 11 rfl zo243 zzf12_278 X40 f19 (by decide) (by decide) rfl (fun (x44 : Int32) h43 (h45 : (-2147483648) ≤ x44.toInt) (h46 : x44.toInt ≤ 2147483647) => ?_)
        refine z_xP zt243 12 27 [some (.ref 19), some (.int b2), some (.int (-1))] [.int (-1), .int x44, .ref 19] rfl rfl ?_
        refine z_xZ zt243 13 rfl rfl (fun (h47 : ((-1) : Int) ≠ 0) => ?_) (fun (h47 : ((-1) : Int) = 0) => absurd h47 (by omega))
        refine z_xP zt243 17 37 [some (.ref 19), some (.int b2), some (.int (-1))] [.int 0, .int x44, .ref 19] rfl rfl ?_
        refine z_xI zt243 18 rfl rfl (P := fun _ => True) (fun (x48 : Int32) _ => ?_) trivial
        refine z_xpf zt243 19 rfl zo243 zzf12_278 X40 f19 (by decide) (by decide) ⟨Int32.le_toInt _, Int32.toInt_le _⟩ rfl (by decide) zw12_35 (fun M50 X51 e52 h53 => ?_)
        refine z_xrv zt243 20 rfl zzr243 ?_
        show z_ev (d + 2) 241 34 [some (.ref 19), some (.int p1), some (.int b2)] [] M50 _
        refine z_xN zt241 16 rfl rfl (fun (x54 : Int32) (h55 : x54.toInt = b2.toInt + 1) => ?_) (z_pAdd rfl rfl (by omega) (by omega))
        show z_ev (d + 2) 241 37 [some (.ref 19), some (.int p1), some (.int x54)] [] M50 _
        refine z_xP zt241 17 2 [some (.ref 19), some (.int p1), some (.int x54)] [] rfl rfl ?_
        exact ih M50 x54 X51 ⟨by omega, by omega⟩ (by omega)
      refine z_xP zt242 9 33 [some (.ref 19), some (.int b2), some (.int x20), some (.int x25)] [.int 0] rfl rfl ?_
      refine z_xri zt242 11 rfl zzr242 ?_
      show z_ev (d + 2) 241 31 [some (.ref 19), some (.int p1), some (.int b2)] [.int 0, .int b2, .ref 19] M23 _
      refine z_xcV (vs := [.ref 19, .int b2, .int 0]) (r := []) (L2 := [some (.ref 19), some (.int b2), some (.int 0)]) zt241 15 rfl zo241 zzcV12_284 (Or.inl rfl) rfl X26 f19 rfl rfl rfl (Nat.le_of_ble_eq_true rfl) zzm243 (Nat.le_of_ble_eq_true rfl) rfl ?_
      refine z_xP zt243 0 2 [some (.ref 19), some (.int b2), some (.int 0)] [.ref 19, .ref 19] rfl rfl ?_
      refine z_xgI zt243 1 rfl zo243 zzf12_275 X26 f19 (by decide) (by decide) rfl (fun (x57 : Int32) h56 (h58 : (-2147483648) ≤ x57.toInt) (h59 : x57.toInt ≤ 2147483647) => ?_)
      refine z_xP zt243 2 7 [some (.ref 19), some (.int b2), some (.int 0)] [.int 1, .int 0, .int x57, .ref 19] rfl rfl ?_
      refine z_xJ zt243 3 rfl rfl (fun (h60 : (0 : Int) ≠ 1) => ?_) (fun (h60 : (0 : Int) = 1) => absurd h60 (by omega))
      refine z_xP zt243 7 17 [some (.ref 19), some (.int b2), some (.int 0)] [.int 0, .int x57, .ref 19] rfl rfl ?_
      refine z_xI zt243 8 rfl rfl (P := fun _ => True) (fun (x61 : Int32) _ => ?_) trivial
      refine z_xpf zt243 9 rfl zo243 zzf12_275 X26 f19 (by decide) (by decide) ⟨Int32.le_toInt _, Int32.toInt_le _⟩ rfl (by decide) zw12_34 (fun M63 X64 e65 h66 => ?_)
      refine z_xP zt243 10 23 [some (.ref 19), some (.int b2), some (.int 0)] [.ref 19, .ref 19] rfl rfl ?_
      refine z_xgI zt243 11 rfl zo243 zzf12_278 X64 f19 (by decide) (by decide) rfl (fun (x68 : Int32) h67 (h69 : (-2147483648) ≤ x68.toInt) (h70 : x68.toInt ≤ 2147483647) => ?_)
      refine z_xP zt243 12 27 [some (.ref 19), some (.int b2), some (.int 0)] [.int 0, .int x68, .ref 19] rfl rfl ?_
      refine z_xZ zt243 13 rfl rfl (fun (h71 : (0 : Int) ≠ 0) => absurd h71 (by omega)) (fun (h71 : (0 : Int) = 0) => ?_)
      refine z_xP zt243 14 32 [some (.ref 19), some (.int b2), some (.int 0)] [.int b2, .int 1, .int x68, .ref 19] rfl rfl ?_
      refine z_xI zt243 15 rfl rfl (fun (x72 : Int32) (h73 : 1 ≤ x72.toInt ∧ x72.toInt ≤ 512) => ?_) (z_pShlB (a := 1) (b := 9) (c := 512) (r := 512) rfl rfl (by omega) (by omega) (by omega) (by omega) (by decide) (by decide) (by decide) (by decide))
      refine z_xP zt243 16 37 [some (.ref 19), some (.int b2), some (.int 0)] [.int x72, .int x68, .ref 19] rfl rfl ?_
      refine z_xI zt243 18 rfl rfl (P := fun _ => True) (fun (x74 : Int32) _ => ?_) trivial
      refine z_xpf zt243 19 rfl zo243 zzf12_278 X64 f19 (by decide) (by decide) ⟨Int32.le_toInt _, Int32.toInt_le _⟩ rfl (by decide) zw12_35 (fun M76 X77 e78 h79 => ?_)
      refine z_xrv zt243 20 rfl zzr243 ?_
      show z_ev (d + 2) 241 34 [some (.ref 19), some (.int p1), some (.int b2)] [] M76 _
      refine z_xN zt241 16 rfl rfl (fun (x80 : Int32) (h81 : x80.toInt = b2.toInt + 1) => ?_) (z_pAdd rfl rfl (by omega) (by omega))
      show z_ev (d + 2) 241 37 [some (.ref 19), some (.int p1), some (.int x80)] [] M76 _
      refine z_xP zt241 17 2 [some (.ref 19), some (.int p1), some (.int x80)] [] rfl rfl ?_
      exact ih M76 x80 X77 ⟨by omega, by omega⟩ (by omega)
    refine z_xP zt242 6 33 [some (.ref 19), some (.int b2), some (.int x20), some (.int x25)] [.int 1] rfl rfl ?_
    refine z_xri zt242 11 rfl zzr242 ?_
    show z_ev (d + 2) 241 31 [some (.ref 19), some (.int p1), some (.int b2)] [.int 1, .int b2, .ref 19] M23 _
    refine z_xcV (vs := [.ref 19, .int b2, .int 1]) (r := []) (L2 := [some (.ref 19), some (.int b2), some (.int 1)]) zt241 15 rfl zo241 zzcV12_284 (Or.inl rfl) rfl X26 f19 rfl rfl rfl (Nat.le_of_ble_eq_true rfl) zzm243 (Nat.le_of_ble_eq_true rfl) rfl ?_
    refine z_xP zt243 0 2 [some (.ref 19), some (.int b2), some (.int 1)] [.ref 19, .ref 19] rfl rfl ?_
    refine z_xgI zt243 1 rfl zo243 zzf12_275 X26 f19 (by decide) (by decide) rfl (fun (x83 : Int32) h82 (h84 : (-2147483648) ≤ x83.toInt) (h85 : x83.toInt ≤ 2147483647) => ?_)
    refine z_xP zt243 2 7 [some (.ref 19), some (.int b2), some (.int 1)] [.int 1, .int 1, .int x83, .ref 19] rfl rfl ?_
    refine z_xJ zt243 3 rfl rfl (fun (h86 : (1 : Int) ≠ 1) => absurd h86 (by omega)) (fun (h86 : (1 : Int) = 1) => ?_)
    refine z_xP zt243 4 12 [some (.ref 19), some (.int b2), some (.int 1)] [.int b2, .int 1, .int x83, .ref 19] rfl rfl ?_
    refine z_xI zt243 5 rfl rfl (fun (x87 : Int32) (h88 : 1 ≤ x87.toInt ∧ x87.toInt ≤ 512) => ?_) (z_pShlB (a := 1) (b := 9) (c := 512) (r := 512) rfl rfl (by omega) (by omega) (by omega) (by omega) (by decide) (by decide) (by decide) (by decide))
    refine z_xP zt243 6 17 [some (.ref 19), some (.int b2), some (.int 1)] [.int x87, .int x83, .ref 19] rfl rfl ?_
    refine z_xI zt243 8 rfl rfl (P := fun _ => True) (fun (x89 : Int32) _ => ?_) trivial
    refine z_xpf zt243 9 rfl zo243 zzf12_275 X26 f19 (by decide) (by decide) ⟨Int32.le_toInt _, Int32.toInt_le _⟩ rfl (by decide) zw12_34 (fun M91 X92 e93 h94 => ?_)
    refine z_xP zt243 10 23 [some (.ref 19), some (.int b2), some (.int 1)] [.ref 19, .ref 19] rfl rfl ?_
    refine z_xgI zt243 11 rfl zo243 zzf12_278 X92 f19 (by decide) (by decide) rfl (fun (x96 : Int32) h95 (h97 : (-2147483648) ≤ x96.toInt) (h98 : x96.toInt ≤ 2147483647) => ?_)
    refine z_xP zt243 12 27 [some (.ref 19), some (.int b2), some (.int 1)] [.int 1, .int x96, .ref 19] rfl rfl ?_
    refine z_xZ zt243 13 rfl rfl (fun (h99 : (1 : Int) ≠ 0) => ?_) (fun (h99 : (1 : Int) = 0) => absurd h99 (by omega))
    refine z_xP zt243 17 37 [some (.ref 19), some (.int b2), some (.int 1)] [.int 0, .int x96, .ref 19] rfl rfl ?_
    refine z_xI zt243 18 rfl rfl (P := fun _ => True) (fun (x100 : Int32) _ => ?_) trivial
    refine z_xpf zt243 19 rfl zo243 zzf12_278 X92 f19 (by decide) (by decide) ⟨Int32.le_toInt _, Int32.toInt_le _⟩ rfl (by decide) zw12_35 (fun M102 X103 e104 h105 => ?_)
    refine z_xrv zt243 20 rfl zzr243 ?_
    show z_ev (d + 2) 241 34 [some (.ref 19), some (.int p1), some (.int b2)] [] M102 _
    refine z_xN zt241 16 rfl rfl (fun (x106 : Int32) (h107 : x106.toInt = b2.toInt + 1) => ?_) (z_pAdd rfl rfl (by omega) (by omega))
    show z_ev (d + 2) 241 37 [some (.ref 19), some (.int p1), some (.int x106)] [] M102 _
    refine z_xP zt241 17 2 [some (.ref 19), some (.int p1), some (.int x106)] [] rfl rfl ?_
    exact ih M102 x106 X103 ⟨by omega, by omega⟩ (by omega)
theorem zC241 {T : List zK} {d : Nat} {K : Option Value → zH → Prop} {p1 : Int32} {M0 : zH} (hW : z_W M0 T)  (kk : ∀ (M1 : zH), z_X T zw241 M0 M1 → K none M1) : z_ev (d + 2) 241 0 [some (.ref 19), some (.int p1), none] [] M0 K := by
  have X : z_X T zw241 M0 M0 := .refl hW
  refine z_xP zt241 0 2 [some (.ref 19), some (.int p1), some (.int 0)] [] rfl rfl ?_
  have q0 : ((0 : Int32)).toInt = 0 := rfl
  exact (zB241 kk 22) M0 (0) X (by decide) (by omega)
def zw244 : List Nat := [2234, 2235]
theorem zB244 {T : List zK} {d : Nat} {K : Option Value → zH → Prop}  {M0 : zH}  (kk : ∀ (M1 : zH), z_X T zw244 M0 M1 → K none M1) : ∀ n : Nat, (∀ (M : zH) (b1 : Int32) (b2 : Int32) (b3 : Int32), z_X T zw244 M0 M → 0 ≤ b3.toInt ∧ b3.toInt ≤ 10 → ((0) * 2 + 0) * 11 + (10 - b3.toInt) < (n : Int) → z_ev (d + 3) 244 25 [some (.ref 19), some (.int b1), some (.int b2), some (.int b3)] [] M K) := by
  intro n
  induction n with
  | zero => exact by intros; exfalso; omega
  | succ n ih =>
    intro M b1 b2 b3 X hh0 hE
    refine z_xP zt244 11 27 [some (.ref 19), some (.int b1), some (.int b2), some (.int b3)] [.ref 19, .int b3] rfl rfl ?_
    have f19 : T[19]? = some (.inl (12, 0, 0, 0, 0)) := X.1.k rfl (by decide)
    refine z_xgX (b := 24) zt244 12 rfl zo244 zzf12_22 X f19 (by decide) (by decide) rfl ?_
    refine z_xP zt244 13 31 [some (.ref 19), some (.int b1), some (.int b2), some (.int b3)] [.ref 19, .ref 24, .int b3] rfl rfl ?_
    refine z_xgI zt244 14 rfl zo244 zzf12_242 X f19 (by decide) (by decide) rfl (fun (x2 : Int32) h1 (h3 : 0 ≤ x2.toInt) (h4 : x2.toInt ≤ 7) => ?_)
    have f24 : T[24]? = some (.inr (24, 0, 8, 0, 10)) := X.1.k rfl (by decide)
    refine z_xil zt244 15 rfl X f24 (by decide) (by omega) (by omega) (fun (x5 : Int32) h6 (h7 : 0 ≤ x5.toInt) (h8 : x5.toInt ≤ 10) => ?_)
    refine z_xJ zt244 16 rfl rfl (fun (h9 : x5.toInt ≤ b3.toInt) => ?_) (fun (h9 : b3.toInt < x5.toInt) => ?_)
    · skip
      exact z_xrv zt244 34 rfl zzr244 (kk M X)
    refine z_xP zt244 17 39 [some (.ref 19), some (.int b1), some (.int b2), some (.int b3)] [.ref 19] rfl rfl ?_
    refine z_xgX (b := 27) zt244 18 rfl zo244 zzf12_31 X f19 (by decide) (by decide) rfl ?_
    refine z_xP zt244 19 43 [some (.ref 19), some (.int b1), some (.int b2), some (.int b3)] [.ref 19, .ref 27] rfl rfl ?_
    refine z_xgv zt244 20 rfl zo244 zzf12_242 X f19 (by decide) h1 ?_
    have f27 : T[27]? = some (.inr (27, 0, 8, (-2147483648), 2147483647)) := X.1.k rfl (by decide)
    refine z_xil zt244 21 rfl X f27 (by decide) (by omega) (by omega) (fun (x10 : Int32) h11 (h12 : (-2147483648) ≤ x10.toInt) (h13 : x10.toInt ≤ 2147483647) => ?_)
    refine z_xP zt244 22 48 [some (.ref 19), some (.int b1), some (.int b2), some (.int b3)] [.int b3, .int x10] rfl rfl ?_
    have h14 := z_b32 x10
    refine z_xI zt244 23 rfl rfl (P := fun _ => True) (fun (x15 : Int32) _ => ?_) trivial
    refine z_xP zt244 24 50 [some (.ref 19), some (.int b1), some (.int b2), some (.int b3)] [.int 1, .int x15] rfl rfl ?_
    refine z_xI zt244 25 rfl rfl (fun (x17 : Int32) (h18 : 0 ≤ x17.toInt ∧ x17.toInt ≤ 1) => ?_) (z_pAnd rfl (by omega))
    refine z_xZ zt244 26 rfl rfl (fun (h19 : x17.toInt ≠ 0) => ?_) (fun (h19 : x17.toInt = 0) => ?_)
    · skip
      refine z_xN zt244 32 rfl rfl (fun (x20 : Int32) (h21 : x20.toInt = b3.toInt + 1) => ?_) (z_pAdd rfl rfl (by omega) (by omega))
      show z_ev (d + 3) 244 73 [some (.ref 19), some (.int b1), some (.int b2), some (.int x20)] [] M _
      refine z_xP zt244 33 25 [some (.ref 19), some (.int b1), some (.int b2), some (.int x20)] [] rfl rfl ?_
      exact ih M b1 b2 x20 X ⟨by omega, by omega⟩ (by omega)
    refine z_xP zt244 27 58 [some (.ref 19), some (.int b1), some (.int b2), some (.int b3)] [.ref 19, .ref 19, .int b3, .ref 19] rfl rfl ?_
    refine z_xgv zt244 28 rfl zo244 zzf12_242 X f19 (by decide) h1 ?_
    refine z_xP zt244 29 64 [some (.ref 19), some (.int b1), some (.int b2), some (.int b3)] [.int b3, .int b2, .int b1, .int x2, .ref 19, .int b3, .ref 19] rfl rfl ?_
    refine z_xcV (vs := [.ref 19, .int x2, .int b1, .int b2, .int b3]) (r := [.int b3, .ref 19]) (L2 := [some (.ref 19), some (.int x2), some (.int b1), some (.int b2), some (.int b3), none, none, none, none]) zt244 30 rfl zo244 zzcV12_228 (Or.inl rfl) rfl X f19 rfl rfl rfl (Nat.le_of_ble_eq_true rfl) zzm219 (Nat.le_of_ble_eq_true rfl) rfl ?_
    refine zC219 X.1 (by omega) (fun x24 M22 X23 h25 h26 => ?_)
    have X27 := X.go X23 (z_sb (by decide))
    show z_ev (d + 3) 244 67 [some (.ref 19), some (.int b1), some (.int b2), some (.int b3)] [.int x24, .int b3, .ref 19] M22 _
    refine z_xcV (vs := [.ref 19, .int b3, .int x24]) (r := []) (L2 := [some (.ref 19), some (.int b3), some (.int x24)]) zt244 31 rfl zo244 zzcV12_284 (Or.inl rfl) rfl X27 f19 rfl rfl rfl (Nat.le_of_ble_eq_true rfl) zzm243 (Nat.le_of_ble_eq_true rfl) rfl ?_
    refine z_xP zt243 0 2 [some (.ref 19), some (.int b3), some (.int x24)] [.ref 19, .ref 19] rfl rfl ?_
    refine z_xgI zt243 1 rfl zo243 zzf12_275 X27 f19 (by decide) (by decide) rfl (fun (x30 : Int32) h29 (h31 : (-2147483648) ≤ x30.toInt) (h32 : x30.toInt ≤ 2147483647) => ?_)
    refine z_xP zt243 2 7 [some (.ref 19), some (.int b3), some (.int x24)] [.int 1, .int x24, .int x30, .ref 19] rfl rfl ?_
    refine z_xJ zt243 3 rfl rfl (fun (h33 : x24.toInt ≠ 1) => ?_) (fun (h33 : x24.toInt = 1) => ?_)
    · skip
      refine z_xP zt243 7 17 [some (.ref 19), some (.int b3), some (.int x24)] [.int 0, .int x30, .ref 19] rfl rfl ?_
      refine z_xI zt243 8 rfl rfl (P := fun _ => True) (fun (x34 : Int32) _ => ?_) trivial
      refine z_xpf zt243 9 rfl zo243 zzf12_275 X27 f19 (by decide) (by decide) ⟨Int32.le_toInt _, Int32.toInt_le _⟩ rfl (by decide) zw12_34 (fun M36 X37 e38 h39 => ?_)
      refine z_xP zt243 10 23 [some (.ref 19), some (.int b3), some (.int x24)] [.ref 19, .ref 19] rfl rfl ?_
      refine z_xgI zt243 11 rfl zo243 zzf12_278 X37 f19 (by decide) (by decide) rfl (fun (x41 : Int32) h40 (h42 : (-2147483648) ≤ x41.toInt) (h43 : x41.toInt ≤ 2147483647) => ?_)
      refine z_xP zt243 12 27 [some (.ref 19), some (.int b3), some (.int x24)] [.int x24, .int x41, .ref 19] rfl rfl ?_
      refine z_xZ zt243 13 rfl rfl (fun (h44 : x24.toInt ≠ 0) => ?_) (fun (h44 : x24.toInt = 0) => ?_)
      · skip
        refine z_xP zt243 17 37 [some (.ref 19), some (.int b3), some (.int x24)] [.int 0, .int x41, .ref 19] rfl rfl ?_
        refine z_xI zt243 18 rfl rfl (P := fun _ => True) (fun (x45 : Int32) _ => ?_) trivial
        refine z_xpf zt243 19 rfl zo243 zzf12_278 X37 f19 (by decide) (by decide) ⟨Int32.le_toInt _, Int32.toInt_le _⟩ rfl (by decide) zw12_35 (fun M47 X48 e49 h50 => ?_)
        refine z_xrv zt243 20 rfl zzr243 ?_
        show z_ev (d + 3) 244 70 [some (.ref 19), some (.int b1), some (.int b2), some (.int b3)] [] M47 _
        refine z_xN zt244 32 rfl rfl (fun (x51 : Int32) (h52 : x51.toInt = b3.toInt + 1) => ?_) (z_pAdd rfl rfl (by omega) (by omega))
        show z_ev (d + 3) 244 73 [some (.ref 19), some (.int b1), some (.int b2), some (.int x51)] [] M47 _
        refine z_xP zt244 33 25 [some (.ref 19), some (.int b1), some (.int b2), some (.int x51)] [] rfl rfl ?_
        exact ih M47 b1 b2 x51 X48 ⟨by omega, by omega⟩ (by omega)
      refine z_xP zt243 14 32 [some (.ref 19), some (.int b3), some (.int x24)] [.int b3, .int 1, .int x41, .ref 19] rfl rfl ?_
      refine z_xI zt243 15 rfl rfl (fun (x53 : Int32) (h54 : 1 ≤ x53.toInt ∧ x53.toInt ≤ 512) => ?_) (z_pShlB (a := 1) (b := 9) (c := 512) (r := 512) rfl rfl (by omega) (by omega) (by omega) (by omega) (by decide) (by decide) (by decide) (by decide))
      refine z_xP zt243 16 37 [some (.ref 19), some (.int b3), some (.int x24)] [.int x53, .int x41, .ref 19] rfl rfl ?_
      refine z_xI zt243 18 rfl rfl (P := fun _ => True) (fun (x55 : Int32) _ => ?_) trivial
      refine z_xpf zt243 19 rfl zo243 zzf12_278 X37 f19 (by decide) (by decide) ⟨Int32.le_toInt _, Int32.toInt_le _⟩ rfl (by decide) zw12_35 (fun M57 X58 e59 h60 => ?_)
      refine z_xrv zt243 20 rfl zzr243 ?_
      show z_ev (d + 3) 244 70 [some (.ref 19), some (.int b1), some (.int b2), some (.int b3)] [] M57 _
      refine z_xN zt244 32 rfl rfl (fun (x61 : Int32) (h62 : x61.toInt = b3.toInt + 1) => ?_) (z_pAdd rfl rfl (by omega) (by omega))
      show z_ev (d + 3) 244 73 [some (.ref 19), some (.int b1), some (.int b2), some (.int x61)] [] M57 _
      refine z_xP zt244 33 25 [some (.ref 19), some (.int b1), some (.int b2), some (.int x61)] [] rfl rfl ?_
      exact ih M57 b1 b2 x61 X58 ⟨by omega, by omega⟩ (by omega)
    refine z_xP zt243 4 12 [some (.ref 19), some (.int b3), some (.int x24)] [.int b3, .int 1, .int x30, .ref 19] rfl rfl ?_
    refine z_xI zt243 5 rfl rfl (fun (x63 : Int32) (h64 : 1 ≤ x63.toInt ∧ x63.toInt ≤ 512) => ?_) (z_pShlB (a := 1) (b := 9) (c := 512) (r := 512) rfl rfl (by omega) (by omega) (by omega) (by omega) (by decide) (by decide) (by decide) (by decide))
    refine z_xP zt243 6 17 [some (.ref 19), some (.int b3), some (.int x24)] [.int x63, .int x30, .ref 19] rfl rfl ?_
    refine z_xI zt243 8 rfl rfl (P := fun _ => True) (fun (x65 : Int32) _ => ?_) trivial
    refine z_xpf zt243 9 rfl zo243 zzf12_275 X27 f19 (by decide) (by decide) ⟨Int32.le_toInt _, Int32.toInt_le _⟩ rfl (by decide) zw12_34 (fun M67 X68 e69 h70 => ?_)
    refine z_xP zt243 10 23 [some (.ref 19), some (.int b3), some (.int x24)] [.ref 19, .ref 19] rfl rfl ?_
    refine z_xgI zt243 11 rfl zo243 zzf12_278 X68 f19 (by decide) (by decide) rfl (fun (x72 : Int32) h71 (h73 : (-2147483648) ≤ x72.toInt) (h74 : x72.toInt ≤ 2147483647) => ?_)
    refine z_xP zt243 12 27 [some (.ref 19), some (.int b3), some (.int x24)] [.int x24, .int x72, .ref 19] rfl rfl ?_
    refine z_xZ zt243 13 rfl rfl (fun (h75 : x24.toInt ≠ 0) => ?_) (fun (h75 : x24.toInt = 0) => absurd h75 (by omega))
    refine z_xP zt243 17 37 [some (.ref 19), some (.int b3), some (.int x24)] [.int 0, .int x72, .ref 19] rfl rfl ?_
    refine z_xI zt243 18 rfl rfl (P := fun _ => True) (fun (x76 : Int32) _ => ?_) trivial
    refine z_xpf zt243 19 rfl zo243 zzf12_278 X68 f19 (by decide) (by decide) ⟨Int32.le_toInt _, Int32.toInt_le _⟩ rfl (by decide) zw12_35 (fun M78 X79 e80 h81 => ?_)
    refine z_xrv zt243 20 rfl zzr243 ?_
    show z_ev (d + 3) 244 70 [some (.ref 19), some (.int b1), some (.int b2), some (.int b3)] [] M78 _
    refine z_xN zt244 32 rfl rfl (fun (x82 : Int32) (h83 : x82.toInt = b3.toInt + 1) => ?_) (z_pAdd rfl rfl (by omega) (by omega))
    show z_ev (d + 3) 244 73 [some (.ref 19), some (.int b1), some (.int b2), some (.int x82)] [] M78 _
    refine z_xP zt244 33 25 [some (.ref 19), some (.int b1), some (.int b2), some (.int x82)] [] rfl rfl ?_
    exact ih M78 b1 b2 x82 X79 ⟨by omega, by omega⟩ (by omega)
theorem zC244 {T : List zK} {d : Nat} {K : Option Value → zH → Prop}  {M0 : zH} (hW : z_W M0 T)  (kk : ∀ (M1 : zH), z_X T zw244 M0 M1 → K none M1) : z_ev (d + 3) 244 0 [some (.ref 19), none, none, none] [] M0 K := by
  have X : z_X T zw244 M0 M0 := .refl hW
  refine z_xP zt244 0 2 [some (.ref 19), none, none, none] [.ref 19, .ref 19] rfl rfl ?_
  have f19 : T[19]? = some (.inl (12, 0, 0, 0, 0)) := X.1.k rfl (by decide)
  refine z_xgX (b := 27) zt244 1 rfl zo244 zzf12_31 X f19 (by decide) (by decide) rfl ?_
  refine z_xP zt244 2 6 [some (.ref 19), none, none, none] [.ref 19, .ref 27, .ref 19] rfl rfl ?_
  refine z_xgI zt244 3 rfl zo244 zzf12_242 X f19 (by decide) (by decide) rfl (fun (x2 : Int32) h1 (h3 : 0 ≤ x2.toInt) (h4 : x2.toInt ≤ 7) => ?_)
  have f27 : T[27]? = some (.inr (27, 0, 8, (-2147483648), 2147483647)) := X.1.k rfl (by decide)
  refine z_xil zt244 4 rfl X f27 (by decide) (by omega) (by omega) (fun (x5 : Int32) h6 (h7 : (-2147483648) ≤ x5.toInt) (h8 : x5.toInt ≤ 2147483647) => ?_)
  refine z_xcV (vs := [.ref 19, .int x5]) (r := []) (L2 := [some (.ref 19), some (.int x5), none]) zt244 5 rfl zo244 zzcV12_288 (Or.inl rfl) rfl X f19 rfl rfl rfl (Nat.le_of_ble_eq_true rfl) zzm241 (Nat.le_of_ble_eq_true rfl) rfl ?_
  refine zC241 X.1 (fun M9 X10  => ?_)
  have X11 := X.go X10 (z_sb (by decide))
  show z_ev (d + 3) 244 13 [some (.ref 19), none, none, none] [] M9 _
  refine z_xP zt244 6 14 [some (.ref 19), none, none, none] [.ref 19] rfl rfl ?_
  refine z_xgI zt244 7 rfl zo244 zzf12_275 X11 f19 (by decide) (by decide) rfl (fun (x14 : Int32) h13 (h15 : (-2147483648) ≤ x14.toInt) (h16 : x14.toInt ≤ 2147483647) => ?_)
  refine z_xP zt244 8 19 [some (.ref 19), some (.int x14), none, none] [.ref 19] rfl rfl ?_
  refine z_xgI zt244 9 rfl zo244 zzf12_278 X11 f19 (by decide) (by decide) rfl (fun (x18 : Int32) h17 (h19 : (-2147483648) ≤ x18.toInt) (h20 : x18.toInt ≤ 2147483647) => ?_)
  refine z_xP zt244 10 25 [some (.ref 19), some (.int x14), some (.int x18), some (.int 0)] [] rfl rfl ?_
  have q0 : ((0 : Int32)).toInt = 0 := rfl
  exact (zB244 kk 22) M9 x14 x18 (0) X11 (by decide) (by omega)
def zw245 : List Nat := [2234, 2235]
theorem zC245 {T : List zK} {d : Nat} {K : Option Value → zH → Prop}  {M0 : zH} (hW : z_W M0 T)  (kk : ∀ (M1 : zH), z_X T zw245 M0 M1 → K none M1) : z_ev (d + 3) 245 0 [some (.ref 19), none, none] [] M0 K := by
  have X : z_X T zw245 M0 M0 := .refl hW
  refine z_xP zt245 0 2 [some (.ref 19), none, none] [.ref 19, .ref 19] rfl rfl ?_
  have f19 : T[19]? = some (.inl (12, 0, 0, 0, 0)) := X.1.k rfl (by decide)
  refine z_xgX (b := 28) zt245 1 rfl zo245 zzf12_34 X f19 (by decide) (by decide) rfl ?_
  refine z_xP zt245 2 6 [some (.ref 19), none, none] [.ref 19, .ref 28, .ref 19] rfl rfl ?_
  refine z_xgI zt245 3 rfl zo245 zzf12_242 X f19 (by decide) (by decide) rfl (fun (x2 : Int32) h1 (h3 : 0 ≤ x2.toInt) (h4 : x2.toInt ≤ 7) => ?_)
  have f28 : T[28]? = some (.inr (28, 0, 8, (-2147483648), 2147483647)) := X.1.k rfl (by decide)
  refine z_xil zt245 4 rfl X f28 (by decide) (by omega) (by omega) (fun (x5 : Int32) h6 (h7 : (-2147483648) ≤ x5.toInt) (h8 : x5.toInt ≤ 2147483647) => ?_)
  refine z_xcV (vs := [.ref 19, .int x5]) (r := []) (L2 := [some (.ref 19), some (.int x5), none]) zt245 5 rfl zo245 zzcV12_288 (Or.inl rfl) rfl X f19 rfl rfl rfl (Nat.le_of_ble_eq_true rfl) zzm241 (Nat.le_of_ble_eq_true rfl) rfl ?_
  refine zC241 X.1 (fun M9 X10  => ?_)
  have X11 := X.go X10 (z_sb (by decide))
  show z_ev (d + 3) 245 13 [some (.ref 19), none, none] [] M9 _
  refine z_xP zt245 6 15 [some (.ref 19), none, none] [.ref 19, .ref 19] rfl rfl ?_
  refine z_xgI zt245 7 rfl zo245 zzf12_275 X11 f19 (by decide) (by decide) rfl (fun (x14 : Int32) h13 (h15 : (-2147483648) ≤ x14.toInt) (h16 : x14.toInt ≤ 2147483647) => ?_)
  refine z_xP zt245 8 19 [some (.ref 19), none, none] [.ref 19, .int x14, .ref 19] rfl rfl ?_
  refine z_xgI zt245 9 rfl zo245 zzf12_278 X11 f19 (by decide) (by decide) rfl (fun (x18 : Int32) h17 (h19 : (-2147483648) ≤ x18.toInt) (h20 : x18.toInt ≤ 2147483647) => ?_)
  refine z_xcV (vs := [.ref 19, .int x14, .int x18]) (r := []) (L2 := [some (.ref 19), some (.int x14), some (.int x18), none, none, none]) zt245 10 rfl zo245 zzcV12_262 (Or.inl rfl) rfl X11 f19 rfl rfl rfl (Nat.le_of_ble_eq_true rfl) zzm234 (Nat.le_of_ble_eq_true rfl) rfl ?_
  refine zC234 X11.1 (fun x23 M21 X22 h24 h25 => ?_)
  have X26 := X11.go X22 (z_sb (by decide))
  show z_ev (d + 3) 245 25 [some (.ref 19), none, none] [.int x23] M21 _
  refine z_xP zt245 11 27 [some (.ref 19), some (.int x23), none] [.ref 19] rfl rfl ?_
  refine z_xcV (vs := [.ref 19]) (r := []) (L2 := [some (.ref 19)]) zt245 12 rfl zo245 zzcV12_248 (Or.inl rfl) rfl X26 f19 rfl rfl rfl (Nat.le_of_ble_eq_true rfl) zzm240 (Nat.le_of_ble_eq_true rfl) rfl ?_
  refine z_xP zt240 0 2 [some (.ref 19)] [.ref 19, .int 1] rfl rfl ?_
  refine z_xgX (b := 24) zt240 1 rfl zo240 zzf12_22 X26 f19 (by decide) (by decide) rfl ?_
  refine z_xP zt240 2 6 [some (.ref 19)] [.ref 19, .ref 24, .int 1] rfl rfl ?_
  have h28 := (X22.2.f f19 (by decide) (X10.2.f f19 (by decide) h1))
  refine z_xgv zt240 3 rfl zo240 zzf12_242 X26 f19 (by decide) h28 ?_
  have f24 : T[24]? = some (.inr (24, 0, 8, 0, 10)) := X26.1.k rfl (by decide)
  refine z_xil zt240 4 rfl X26 f24 (by decide) (by omega) (by omega) (fun (x29 : Int32) h30 (h31 : 0 ≤ x29.toInt) (h32 : x29.toInt ≤ 10) => ?_)
  refine z_xI zt240 5 rfl rfl (fun (x33 : Int32) (h34 : 1 ≤ x33.toInt ∧ x33.toInt ≤ 1024) => ?_) (z_pShlB (a := 1) (b := 10) (c := 1024) (r := 1024) rfl rfl (by omega) (by omega) (by omega) (by omega) (by decide) (by decide) (by decide) (by decide))
  refine z_xP zt240 6 12 [some (.ref 19)] [.int 1, .int x33] rfl rfl ?_
  refine z_xI zt240 7 rfl rfl (fun (x35 : Int32) (h36 : x35.toInt = x33.toInt - 1) => ?_) (z_pSub rfl rfl (by omega) (by omega))
  refine z_xri zt240 8 rfl zzr240 ?_
  show z_ev (d + 3) 245 30 [some (.ref 19), some (.int x23), none] [.int x35] M21 _
  refine z_xP zt245 13 31 [some (.ref 19), some (.int x23), none] [.ref 19, .int x35] rfl rfl ?_
  refine z_xgX (b := 28) zt245 14 rfl zo245 zzf12_34 X26 f19 (by decide) (by decide) rfl ?_
  refine z_xP zt245 15 35 [some (.ref 19), some (.int x23), none] [.ref 19, .ref 28, .int x35] rfl rfl ?_
  refine z_xgv zt245 16 rfl zo245 zzf12_242 X26 f19 (by decide) h28 ?_
  refine z_xil zt245 17 rfl X26 f28 (by decide) (by omega) (by omega) (fun (x37 : Int32) h38 (h39 : (-2147483648) ≤ x37.toInt) (h40 : x37.toInt ≤ 2147483647) => ?_)
  have h41 := congrArg Int32.toInt (h38.symm.trans ((congrFun (X22.2.a f28 (by decide)) _).trans ((congrFun (X10.2.a f28 (by decide)) _).trans h6)))
  refine z_xP zt245 18 40 [some (.ref 19), some (.int x23), none] [.int (-1), .int x37, .int x35] rfl rfl ?_
  refine z_xI zt245 19 rfl rfl (P := fun _ => True) (fun (x42 : Int32) _ => ?_) trivial
  refine z_xI zt245 20 rfl rfl (fun (x44 : Int32) (h45 : 0 ≤ x44.toInt ∧ x44.toInt ≤ x35.toInt) => ?_) (z_pAndL rfl (by omega))
  refine z_xP zt245 21 44 [some (.ref 19), some (.int x23), some (.int x44)] [.int x23] rfl rfl ?_
  refine z_xZ zt245 22 rfl rfl (fun (h46 : x23.toInt < 0) => ?_) (fun (h46 : 0 ≤ x23.toInt) => ?_)
  · skip
    exact z_xrv zt245 37 rfl zzr245 (kk M21 X26)
  refine z_xP zt245 23 49 [some (.ref 19), some (.int x23), some (.int x44)] [.ref 19, .ref 19] rfl rfl ?_
  have h47 := (X22.2.f f19 (by decide) h13)
  refine z_xgv zt245 24 rfl zo245 zzf12_275 X26 f19 (by decide) h47 ?_
  refine z_xP zt245 25 54 [some (.ref 19), some (.int x23), some (.int x44)] [.int x44, .int x23, .int x14, .ref 19] rfl rfl ?_
  refine z_xI zt245 26 rfl rfl (fun (x48 : Int32) (h49 : 0 ≤ x48.toInt ∧ x48.toInt ≤ x23.toInt ∧ x48.toInt ≤ x44.toInt) => ?_) (z_pAnd2 rfl rfl (by omega) (by omega))
  refine z_xI zt245 27 rfl rfl (P := fun _ => True) (fun (x50 : Int32) _ => ?_) trivial
  refine z_xpf zt245 28 rfl zo245 zzf12_275 X26 f19 (by decide) (by decide) ⟨Int32.le_toInt _, Int32.toInt_le _⟩ rfl (by decide) zw12_34 (fun M52 X53 e54 h55 => ?_)
  refine z_xP zt245 29 61 [some (.ref 19), some (.int x23), some (.int x44)] [.ref 19, .ref 19] rfl rfl ?_
  have h56 := (e54.f f19 (by decide) (X22.2.f f19 (by decide) h17))
  refine z_xgv zt245 30 rfl zo245 zzf12_278 X53 f19 (by decide) h56 ?_
  refine z_xP zt245 31 66 [some (.ref 19), some (.int x23), some (.int x44)] [.int (-1), .int x23, .int x18, .ref 19] rfl rfl ?_
  refine z_xI zt245 32 rfl rfl (P := fun _ => True) (fun (x57 : Int32) _ => ?_) trivial
  refine z_xP zt245 33 68 [some (.ref 19), some (.int x23), some (.int x44)] [.int x44, .int x57, .int x18, .ref 19] rfl rfl ?_
  refine z_xI zt245 34 rfl rfl (fun (x59 : Int32) (h60 : 0 ≤ x59.toInt ∧ x59.toInt ≤ x44.toInt) => ?_) (z_pAnd rfl (by omega))
  refine z_xI zt245 35 rfl rfl (P := fun _ => True) (fun (x61 : Int32) _ => ?_) trivial
  refine z_xpf zt245 36 rfl zo245 zzf12_278 X53 f19 (by decide) (by decide) ⟨Int32.le_toInt _, Int32.toInt_le _⟩ rfl (by decide) zw12_35 (fun M63 X64 e65 h66 => ?_)
  exact z_xrv zt245 37 rfl zzr245 (kk M63 X64)
def zw246 : List Nat := [2234, 2235]
theorem zB246 {T : List zK} {d : Nat} {K : Option Value → zH → Prop} {p1 : Int32} {M0 : zH} (u1 : (-1) ≤ p1.toInt ∧ p1.toInt ≤ 8) (kk : ∀ (M1 : zH), z_X T zw246 M0 M1 → K none M1) : ∀ n : Nat, (∀ (M : zH) (b2 : Int32) (o3 : Option Value) (o4 : Option Value) (o5 : Option Value), z_X T zw246 M0 M → 0 ≤ b2.toInt ∧ b2.toInt ≤ 10 → ((0) * 2 + 0) * 11 + (10 - b2.toInt) < (n : Int) → z_ev (d + 2) 246 2 [some (.ref 19), some (.int p1), some (.int b2), o3, o4, o5] [] M K) := by
  intro n
  induction n with
  | zero => exact by intros; exfalso; omega
  | succ n ih =>
    intro M b2 o3 o4 o5 X hh0 hE
    refine z_xP zt246 1 4 [some (.ref 19), some (.int p1), some (.int b2), o3, o4, o5] [.ref 19, .int b2] rfl rfl ?_
    have f19 : T[19]? = some (.inl (12, 0, 0, 0, 0)) := X.1.k rfl (by decide)
    refine z_xgX (b := 24) zt246 2 rfl zo246 zzf12_22 X f19 (by decide) (by decide) rfl ?_
    refine z_xP zt246 3 8 [some (.ref 19), some (.int p1), some (.int b2), o3, o4, o5] [.ref 19, .ref 24, .int b2] rfl rfl ?_
    refine z_xgI zt246 4 rfl zo246 zzf12_242 X f19 (by decide) (by decide) rfl (fun (x2 : Int32) h1 (h3 : 0 ≤ x2.toInt) (h4 : x2.toInt ≤ 7) => ?_)
    have f24 : T[24]? = some (.inr (24, 0, 8, 0, 10)) := X.1.k rfl (by decide)
    refine z_xil zt246 5 rfl X f24 (by decide) (by omega) (by omega) (fun (x5 : Int32) h6 (h7 : 0 ≤ x5.toInt) (h8 : x5.toInt ≤ 10) => ?_)
    refine z_xJ zt246 6 rfl rfl (fun (h9 : x5.toInt ≤ b2.toInt) => ?_) (fun (h9 : b2.toInt < x5.toInt) => ?_)
    · skip
      exact z_xrv zt246 52 rfl zzr246 (kk M X)
    refine z_xP zt246 7 16 [some (.ref 19), some (.int p1), some (.int b2), o3, o4, o5] [.ref 19] rfl rfl ?_
    refine z_xgX (b := 42) zt246 8 rfl zo246 zzf12_76 X f19 (by decide) (by decide) rfl ?_
    refine z_xP zt246 9 20 [some (.ref 19), some (.int p1), some (.int b2), o3, o4, o5] [.int b2, .ref 42] rfl rfl ?_
    have f42 : T[42]? = some (.inr (42, 0, 10, 0, 9)) := X.1.k rfl (by decide)
    refine z_xil zt246 10 rfl X f42 (by decide) (by omega) (by omega) (fun (x10 : Int32) h11 (h12 : 0 ≤ x10.toInt) (h13 : x10.toInt ≤ 9) => ?_)
    refine z_xP zt246 11 24 [some (.ref 19), some (.int p1), some (.int b2), some (.int x10), o4, o5] [.ref 19, .ref 19] rfl rfl ?_
    refine z_xgv zt246 12 rfl zo246 zzf12_242 X f19 (by decide) h1 ?_
    refine z_xP zt246 13 28 [some (.ref 19), some (.int p1), some (.int b2), some (.int x10), o4, o5] [.ref 19, .int x2, .ref 19] rfl rfl ?_
    refine z_xgI zt246 14 rfl zo246 zzf12_275 X f19 (by decide) (by decide) rfl (fun (x15 : Int32) h14 (h16 : (-2147483648) ≤ x15.toInt) (h17 : x15.toInt ≤ 2147483647) => ?_)
    refine z_xP zt246 15 32 [some (.ref 19), some (.int p1), some (.int b2), some (.int x10), o4, o5] [.ref 19, .int x15, .int x2, .ref 19] rfl rfl ?_
    refine z_xgI zt246 16 rfl zo246 zzf12_278 X f19 (by decide) (by decide) rfl (fun (x19 : Int32) h18 (h20 : (-2147483648) ≤ x19.toInt) (h21 : x19.toInt ≤ 2147483647) => ?_)
    refine z_xP zt246 17 36 [some (.ref 19), some (.int p1), some (.int b2), some (.int x10), o4, o5] [.int x10, .int x19, .int x15, .int x2, .ref 19] rfl rfl ?_
    refine z_xcV (vs := [.ref 19, .int x2, .int x15, .int x19, .int x10]) (r := []) (L2 := [some (.ref 19), some (.int x2), some (.int x15), some (.int x19), some (.int x10), none, none, none, none]) zt246 18 rfl zo246 zzcV12_228 (Or.inl rfl) rfl X f19 rfl rfl rfl (Nat.le_of_ble_eq_true rfl) zzm219 (Nat.le_of_ble_eq_true rfl) rfl ?_
    refine zC219 X.1 (by omega) (fun x24 M22 X23 h25 h26 => ?_)
    have X27 := X.go X23 (z_sb (by decide))
    show z_ev (d + 2) 246 39 [some (.ref 19), some (.int p1), some (.int b2), some (.int x10), o4, o5] [.int x24] M22 _
    refine z_xP zt246 19 43 [some (.ref 19), some (.int p1), some (.int b2), some (.int x10), some (.int x24), o5] [.int x24] rfl rfl ?_
    refine z_xZ zt246 20 rfl rfl (fun (h29 : 0 ≤ x24.toInt) => ?_) (fun (h29 : x24.toInt < 0) => ?_)
    · skip
      refine z_xP zt246 24 56 [some (.ref 19), some (.int p1), some (.int b2), some (.int x10), some (.int x24), o5] [.int x24] rfl rfl ?_
      refine z_xP zt246 25 59 [some (.ref 19), some (.int p1), some (.int b2), some (.int x10), some (.int x24), o5] [.int p1] rfl rfl ?_
      refine z_xZ zt246 26 rfl rfl (fun (h30 : p1.toInt < 0) => ?_) (fun (h30 : 0 ≤ p1.toInt) => ?_)
      · skip
        refine z_xP zt246 44 97 [some (.ref 19), some (.int p1), some (.int b2), some (.int x10), some (.int x24), o5] [.int 0] rfl rfl ?_
        refine z_xP zt246 45 103 [some (.ref 19), some (.int p1), some (.int b2), some (.int x10), some (.int x24), some (.int 0)] [.int x24, .int x10, .ref 19] rfl rfl ?_
        refine z_xZ zt246 46 rfl rfl (fun (h31 : 0 ≤ x24.toInt) => ?_) (fun (h31 : x24.toInt < 0) => absurd h31 (by omega))
        refine z_xP zt246 48 113 [some (.ref 19), some (.int p1), some (.int b2), some (.int x10), some (.int x24), some (.int 0)] [.int x24, .int x10, .ref 19] rfl rfl ?_
        refine z_xcV (vs := [.ref 19, .int x10, .int x24]) (r := []) (L2 := [some (.ref 19), some (.int x10), some (.int x24)]) zt246 49 rfl zo246 zzcV12_284 (Or.inl rfl) rfl X27 f19 rfl rfl rfl (Nat.le_of_ble_eq_true rfl) zzm243 (Nat.le_of_ble_eq_true rfl) rfl ?_
        refine z_xP zt243 0 2 [some (.ref 19), some (.int x10), some (.int x24)] [.ref 19, .ref 19] rfl rfl ?_
        have h32 := (X23.2.f f19 (by decide) h14)
        refine z_xgv zt243 1 rfl zo243 zzf12_275 X27 f19 (by decide) h32 ?_
        refine z_xP zt243 2 7 [some (.ref 19), some (.int x10), some (.int x24)] [.int 1, .int x24, .int x15, .ref 19] rfl rfl ?_
        refine z_xJ zt243 3 rfl rfl (fun (h33 : x24.toInt ≠ 1) => ?_) (fun (h33 : x24.toInt = 1) => ?_)
        · skip
          refine z_xP zt243 7 17 [some (.ref 19), some (.int x10), some (.int x24)] [.int 0, .int x15, .ref 19] rfl rfl ?_
          refine z_xI zt243 8 rfl rfl (P := fun _ => True) (fun (x34 : Int32) _ => ?_) trivial
          refine z_xpf zt243 9 rfl zo243 zzf12_275 X27 f19 (by decide) (by decide) ⟨Int32.le_toInt _, Int32.toInt_le _⟩ rfl (by decide) zw12_34 (fun M36 X37 e38 h39 => ?_)
          refine z_xP zt243 10 23 [some (.ref 19), some (.int x10), some (.int x24)] [.ref 19, .ref 19] rfl rfl ?_
          have h40 := (e38.f f19 (by decide) (X23.2.f f19 (by decide) h18))
          refine z_xgv zt243 11 rfl zo243 zzf12_278 X37 f19 (by decide) h40 ?_
          refine z_xP zt243 12 27 [some (.ref 19), some (.int x10), some (.int x24)] [.int x24, .int x19, .ref 19] rfl rfl ?_
          refine z_xZ zt243 13 rfl rfl (fun (h41 : x24.toInt ≠ 0) => absurd h41 (by omega)) (fun (h41 : x24.toInt = 0) => ?_)
          refine z_xP zt243 14 32 [some (.ref 19), some (.int x10), some (.int x24)] [.int x10, .int 1, .int x19, .ref 19] rfl rfl ?_
          refine z_xI zt243 15 rfl rfl (fun (x42 : Int32) (h43 : 1 ≤ x42.toInt ∧ x42.toInt ≤ 512) => ?_) (z_pShlB (a := 1) (b := 9) (c := 512) (r := 512) rfl rfl (by omega) (by omega) (by omega) (by omega) (by decide) (by decide) (by decide) (by decide))
          refine z_xP zt243 16 37 [some (.ref 19), some (.int x10), some (.int x24)] [.int x42, .int x19, .ref 19] rfl rfl ?_
          refine z_xI zt243 18 rfl rfl (P := fun _ => True) (fun (x44 : Int32) _ => ?_) trivial
          refine z_xpf zt243 19 rfl zo243 zzf12_278 X37 f19 (by decide) (by decide) ⟨Int32.le_toInt _, Int32.toInt_le _⟩ rfl (by decide) zw12_35 (fun M46 X47 e48 h49 => ?_)
          refine z_xrv zt243 20 rfl zzr243 ?_
          show z_ev (d + 2) 246 116 [some (.ref 19), some (.int p1), some (.int b2), some (.int x10), some (.int x24), some (.int 0)] [] M46 _
          refine z_xN zt246 50 rfl rfl (fun (x50 : Int32) (h51 : x50.toInt = b2.toInt + 1) => ?_) (z_pAdd rfl rfl (by omega) (by omega))
          show z_ev (d + 2) 246 119 [some (.ref 19), some (.int p1), some (.int x50), some (.int x10), some (.int x24), some (.int 0)] [] M46 _
          refine z_xP zt246 51 2 [some (.ref 19), some (.int p1), some (.int x50), some (.int x10), some (.int x24), some (.int 0)] [] rfl rfl ?_
          have q0 : ((0 : Int32)).toInt = 0 := rfl
          exact ih M46 x50 (some (.int x10)) (some (.int x24)) (some (.int 0)) X47 ⟨by omega, by omega⟩ (by omega)
        refine z_xP zt243 4 12 [some (.ref 19), some (.int x10), some (.int x24)] [.int x10, .int 1, .int x15, .ref 19] rfl rfl ?_
        refine z_xI zt243 5 rfl rfl (fun (x52 : Int32) (h53 : 1 ≤ x52.toInt ∧ x52.toInt ≤ 512) => ?_) (z_pShlB (a := 1) (b := 9) (c := 512) (r := 512) rfl rfl (by omega) (by omega) (by omega) (by omega) (by decide) (by decide) (by decide) (by decide))
        refine z_xP zt243 6 17 [some (.ref 19), some (.int x10), some (.int x24)] [.int x52, .int x15, .ref 19] rfl rfl ?_
        refine z_xI zt243 8 rfl rfl (P := fun _ => True) (fun (x54 : Int32) _ => ?_) trivial
        refine z_xpf zt243 9 rfl zo243 zzf12_275 X27 f19 (by decide) (by decide) ⟨Int32.le_toInt _, Int32.toInt_le _⟩ rfl (by decide) zw12_34 (fun M56 X57 e58 h59 => ?_)
        refine z_xP zt243 10 23 [some (.ref 19), some (.int x10), some (.int x24)] [.ref 19, .ref 19] rfl rfl ?_
        have h60 := (e58.f f19 (by decide) (X23.2.f f19 (by decide) h18))
        refine z_xgv zt243 11 rfl zo243 zzf12_278 X57 f19 (by decide) h60 ?_
        refine z_xP zt243 12 27 [some (.ref 19), some (.int x10), some (.int x24)] [.int x24, .int x19, .ref 19] rfl rfl ?_
        refine z_xZ zt243 13 rfl rfl (fun (h61 : x24.toInt ≠ 0) => ?_) (fun (h61 : x24.toInt = 0) => absurd h61 (by omega))
        refine z_xP zt243 17 37 [some (.ref 19), some (.int x10), some (.int x24)] [.int 0, .int x19, .ref 19] rfl rfl ?_
        refine z_xI zt243 18 rfl rfl (P := fun _ => True) (fun (x62 : Int32) _ => ?_) trivial
        refine z_xpf zt243 19 rfl zo243 zzf12_278 X57 f19 (by decide) (by decide) ⟨Int32.le_toInt _, Int32.toInt_le _⟩ rfl (by decide) zw12_35 (fun M64 X65 e66 h67 => ?_)
        refine z_xrv zt243 20 rfl zzr243 ?_
        show z_ev (d + 2) 246 116 [some (.ref 19), some (.int p1), some (.int b2), some (.int x10), some (.int x24), some (.int 0)] [] M64 _
        refine z_xN zt246 50 rfl rfl (fun (x68 : Int32) (h69 : x68.toInt = b2.toInt + 1) => ?_) (z_pAdd rfl rfl (by omega) (by omega))
        show z_ev (d + 2) 246 119 [some (.ref 19), some (.int p1), some (.int x68), some (.int x10), some (.int x24), some (.int 0)] [] M64 _
        refine z_xP zt246 51 2 [some (.ref 19), some (.int p1), some (.int x68), some (.int x10), some (.int x24), some (.int 0)] [] rfl rfl ?_
        have q0 : ((0 : Int32)).toInt = 0 := rfl
        exact ih M64 x68 (some (.int x10)) (some (.int x24)) (some (.int 0)) X65 ⟨by omega, by omega⟩ (by omega)
      refine z_xP zt246 27 64 [some (.ref 19), some (.int p1), some (.int b2), some (.int x10), some (.int x24), o5] [.ref 19, .int p1] rfl rfl ?_
      refine z_xgI zt246 28 rfl zo246 zzf12_245 X27 f19 (by decide) (by decide) rfl (fun (x71 : Int32) h70 (h72 : 0 ≤ x71.toInt) (h73 : x71.toInt ≤ 9) => ?_)
      refine z_xJ zt246 29 rfl rfl (fun (h74 : x71.toInt ≤ p1.toInt) => ?_) (fun (h74 : p1.toInt < x71.toInt) => ?_)
      · skip
        refine z_xP zt246 44 97 [some (.ref 19), some (.int p1), some (.int b2), some (.int x10), some (.int x24), o5] [.int 0] rfl rfl ?_
        refine z_xP zt246 45 103 [some (.ref 19), some (.int p1), some (.int b2), some (.int x10), some (.int x24), some (.int 0)] [.int x24, .int x10, .ref 19] rfl rfl ?_
        refine z_xZ zt246 46 rfl rfl (fun (h75 : 0 ≤ x24.toInt) => ?_) (fun (h75 : x24.toInt < 0) => absurd h75 (by omega))
        refine z_xP zt246 48 113 [some (.ref 19), some (.int p1), some (.int b2), some (.int x10), some (.int x24), some (.int 0)] [.int x24, .int x10, .ref 19] rfl rfl ?_
        refine z_xcV (vs := [.ref 19, .int x10, .int x24]) (r := []) (L2 := [some (.ref 19), some (.int x10), some (.int x24)]) zt246 49 rfl zo246 zzcV12_284 (Or.inl rfl) rfl X27 f19 rfl rfl rfl (Nat.le_of_ble_eq_true rfl) zzm243 (Nat.le_of_ble_eq_true rfl) rfl ?_
        refine z_xP zt243 0 2 [some (.ref 19), some (.int x10), some (.int x24)] [.ref 19, .ref 19] rfl rfl ?_
        have h76 := (X23.2.f f19 (by decide) h14)
        refine z_xgv zt243 1 rfl zo243 zzf12_275 X27 f19 (by decide) h76 ?_
        refine z_xP zt243 2 7 [some (.ref 19), some (.int x10), some (.int x24)] [.int 1, .int x24, .int x15, .ref 19] rfl rfl ?_
        refine z_xJ zt243 3 rfl rfl (fun (h77 : x24.toInt ≠ 1) => ?_) (fun (h77 : x24.toInt = 1) => ?_)
        · skip
          refine z_xP zt243 7 17 [some (.ref 19), some (.int x10), some (.int x24)] [.int 0, .int x15, .ref 19] rfl rfl ?_
          refine z_xI zt243 8 rfl rfl (P := fun _ => True) (fun (x78 : Int32) _ => ?_) trivial
          refine z_xpf zt243 9 rfl zo243 zzf12_275 X27 f19 (by decide) (by decide) ⟨Int32.le_toInt _, Int32.toInt_le _⟩ rfl (by decide) zw12_34 (fun M80 X81 e82 h83 => ?_)
          refine z_xP zt243 10 23 [some (.ref 19), some (.int x10), some (.int x24)] [.ref 19, .ref 19] rfl rfl ?_
          have h84 := (e82.f f19 (by decide) (X23.2.f f19 (by decide) h18))
          refine z_xgv zt243 11 rfl zo243 zzf12_278 X81 f19 (by decide) h84 ?_
          refine z_xP zt243 12 27 [some (.ref 19), some (.int x10), some (.int x24)] [.int x24, .int x19, .ref 19] rfl rfl ?_
          refine z_xZ zt243 13 rfl rfl (fun (h85 : x24.toInt ≠ 0) => absurd h85 (by omega)) (fun (h85 : x24.toInt = 0) => ?_)
          refine z_xP zt243 14 32 [some (.ref 19), some (.int x10), some (.int x24)] [.int x10, .int 1, .int x19, .ref 19] rfl rfl ?_
          refine z_xI zt243 15 rfl rfl (fun (x86 : Int32) (h87 : 1 ≤ x86.toInt ∧ x86.toInt ≤ 512) => ?_) (z_pShlB (a := 1) (b := 9) (c := 512) (r := 512) rfl rfl (by omega) (by omega) (by omega) (by omega) (by decide) (by decide) (by decide) (by decide))
          refine z_xP zt243 16 37 [some (.ref 19), some (.int x10), some (.int x24)] [.int x86, .int x19, .ref 19] rfl rfl ?_
          refine z_xI zt243 18 rfl rfl (P := fun _ => True) (fun (x88 : Int32) _ => ?_) trivial
          refine z_xpf zt243 19 rfl zo243 zzf12_278 X81 f19 (by decide) (by decide) ⟨Int32.le_toInt _, Int32.toInt_le _⟩ rfl (by decide) zw12_35 (fun M90 X91 e92 h93 => ?_)
          refine z_xrv zt243 20 rfl zzr243 ?_
          show z_ev (d + 2) 246 116 [some (.ref 19), some (.int p1), some (.int b2), some (.int x10), some (.int x24), some (.int 0)] [] M90 _
          refine z_xN zt246 50 rfl rfl (fun (x94 : Int32) (h95 : x94.toInt = b2.toInt + 1) => ?_) (z_pAdd rfl rfl (by omega) (by omega))
          show z_ev (d + 2) 246 119 [some (.ref 19), some (.int p1), some (.int x94), some (.int x10), some (.int x24), some (.int 0)] [] M90 _
          refine z_xP zt246 51 2 [some (.ref 19), some (.int p1), some (.int x94), some (.int x10), some (.int x24), some (.int 0)] [] rfl rfl ?_
          have q0 : ((0 : Int32)).toInt = 0 := rfl
          exact ih M90 x94 (some (.int x10)) (some (.int x24)) (some (.int 0)) X91 ⟨by omega, by omega⟩ (by omega)
        refine z_xP zt243 4 12 [some (.ref 19), some (.int x10), some (.int x24)] [.int x10, .int 1, .int x15, .ref 19] rfl rfl ?_
        refine z_xI zt243 5 rfl rfl (fun (x96 : Int32) (h97 : 1 ≤ x96.toInt ∧ x96.toInt ≤ 512) => ?_) (z_pShlB (a := 1) (b := 9) (c := 512) (r := 512) rfl rfl (by omega) (by omega) (by omega) (by omega) (by decide) (by decide) (by decide) (by decide))
        refine z_xP zt243 6 17 [some (.ref 19), some (.int x10), some (.int x24)] [.int x96, .int x15, .ref 19] rfl rfl ?_
        refine z_xI zt243 8 rfl rfl (P := fun _ => True) (fun (x98 : Int32) _ => ?_) trivial
        refine z_xpf zt243 9 rfl zo243 zzf12_275 X27 f19 (by decide) (by decide) ⟨Int32.le_toInt _, Int32.toInt_le _⟩ rfl (by decide) zw12_34 (fun M100 X101 e102 h103 => ?_)
        refine z_xP zt243 10 23 [some (.ref 19), some (.int x10), some (.int x24)] [.ref 19, .ref 19] rfl rfl ?_
        have h104 := (e102.f f19 (by decide) (X23.2.f f19 (by decide) h18))
        refine z_xgv zt243 11 rfl zo243 zzf12_278 X101 f19 (by decide) h104 ?_
        refine z_xP zt243 12 27 [some (.ref 19), some (.int x10), some (.int x24)] [.int x24, .int x19, .ref 19] rfl rfl ?_
        refine z_xZ zt243 13 rfl rfl (fun (h105 : x24.toInt ≠ 0) => ?_) (fun (h105 : x24.toInt = 0) => absurd h105 (by omega))
        refine z_xP zt243 17 37 [some (.ref 19), some (.int x10), some (.int x24)] [.int 0, .int x19, .ref 19] rfl rfl ?_
        refine z_xI zt243 18 rfl rfl (P := fun _ => True) (fun (x106 : Int32) _ => ?_) trivial
        refine z_xpf zt243 19 rfl zo243 zzf12_278 X101 f19 (by decide) (by decide) ⟨Int32.le_toInt _, Int32.toInt_le _⟩ rfl (by decide) zw12_35 (fun M108 X109 e110 h111 => ?_)
        refine z_xrv zt243 20 rfl zzr243 ?_
        show z_ev (d + 2) 246 116 [some (.ref 19), some (.int p1), some (.int b2), some (.int x10), some (.int x24), some (.int 0)] [] M108 _
        refine z_xN zt246 50 rfl rfl (fun (x112 : Int32) (h113 : x112.toInt = b2.toInt + 1) => ?_) (z_pAdd rfl rfl (by omega) (by omega))
        show z_ev (d + 2) 246 119 [some (.ref 19), some (.int p1), some (.int x112), some (.int x10), some (.int x24), some (.int 0)] [] M108 _
        refine z_xP zt246 51 2 [some (.ref 19), some (.int p1), some (.int x112), some (.int x10), some (.int x24), some (.int 0)] [] rfl rfl ?_
        have q0 : ((0 : Int32)).toInt = 0 := rfl
        exact ih M108 x112 (some (.int x10)) (some (.int x24)) (some (.int 0)) X109 ⟨by omega, by omega⟩ (by omega)
      refine z_xP zt246 30 71 [some (.ref 19), some (.int p1), some (.int b2), some (.int x10), some (.int x24), o5] [.ref 19] rfl rfl ?_
      refine z_xgX (b := 40) zt246 31 rfl zo246 zzf12_70 X27 f19 (by decide) (by decide) rfl ?_
      refine z_xP zt246 32 75 [some (.ref 19), some (.int p1), some (.int b2), some (.int x10), some (.int x24), o5] [.int p1, .ref 40] rfl rfl ?_
      refine z_xZ zt246 33 rfl rfl (fun (h114 : p1.toInt < 0) => absurd h114 (by omega)) (fun (h114 : 0 ≤ p1.toInt) => ?_)
      refine z_xP zt246 34 83 [some (.ref 19), some (.int p1), some (.int b2), some (.int x10), some (.int x24), o5] [.int p1, .ref 40] rfl rfl ?_
      have f40 : T[40]? = some (.inr (40, 0, 9, (-2147483648), 2147483647)) := X27.1.k rfl (by decide)
      refine z_xil zt246 36 rfl X27 f40 (by decide) (by omega) (by omega) (fun (x115 : Int32) h116 (h117 : (-2147483648) ≤ x115.toInt) (h118 : x115.toInt ≤ 2147483647) => ?_)
      refine z_xP zt246 37 85 [some (.ref 19), some (.int p1), some (.int b2), some (.int x10), some (.int x24), o5] [.int x10, .int x115] rfl rfl ?_
      have h119 := z_b32 x115
      refine z_xI zt246 38 rfl rfl (P := fun _ => True) (fun (x120 : Int32) _ => ?_) trivial
      refine z_xP zt246 39 87 [some (.ref 19), some (.int p1), some (.int b2), some (.int x10), some (.int x24), o5] [.int 1, .int x120] rfl rfl ?_
      refine z_xI zt246 40 rfl rfl (fun (x122 : Int32) (h123 : 0 ≤ x122.toInt ∧ x122.toInt ≤ 1) => ?_) (z_pAnd rfl (by omega))
      refine z_xP zt246 41 89 [some (.ref 19), some (.int p1), some (.int b2), some (.int x10), some (.int x24), o5] [.int 1, .int x122] rfl rfl ?_
      refine z_xJ zt246 42 rfl rfl (fun (h124 : x122.toInt ≠ 1) => ?_) (fun (h124 : x122.toInt = 1) => ?_)
      · skip
        refine z_xP zt246 44 97 [some (.ref 19), some (.int p1), some (.int b2), some (.int x10), some (.int x24), o5] [.int 0] rfl rfl ?_
        refine z_xP zt246 45 103 [some (.ref 19), some (.int p1), some (.int b2), some (.int x10), some (.int x24), some (.int 0)] [.int x24, .int x10, .ref 19] rfl rfl ?_
        refine z_xZ zt246 46 rfl rfl (fun (h125 : 0 ≤ x24.toInt) => ?_) (fun (h125 : x24.toInt < 0) => absurd h125 (by omega))
        refine z_xP zt246 48 113 [some (.ref 19), some (.int p1), some (.int b2), some (.int x10), some (.int x24), some (.int 0)] [.int x24, .int x10, .ref 19] rfl rfl ?_
        refine z_xcV (vs := [.ref 19, .int x10, .int x24]) (r := []) (L2 := [some (.ref 19), some (.int x10), some (.int x24)]) zt246 49 rfl zo246 zzcV12_284 (Or.inl rfl) rfl X27 f19 rfl rfl rfl (Nat.le_of_ble_eq_true rfl) zzm243 (Nat.le_of_ble_eq_true rfl) rfl ?_
        refine z_xP zt243 0 2 [some (.ref 19), some (.int x10), some (.int x24)] [.ref 19, .ref 19] rfl rfl ?_
        have h126 := (X23.2.f f19 (by decide) h14)
        refine z_xgv zt243 1 rfl zo243 zzf12_275 X27 f19 (by decide) h126 ?_
        refine z_xP zt243 2 7 [some (.ref 19), some (.int x10), some (.int x24)] [.int 1, .int x24, .int x15, .ref 19] rfl rfl ?_
        refine z_xJ zt243 3 rfl rfl (fun (h127 : x24.toInt ≠ 1) => ?_) (fun (h127 : x24.toInt = 1) => ?_)
        · skip
          refine z_xP zt243 7 17 [some (.ref 19), some (.int x10), some (.int x24)] [.int 0, .int x15, .ref 19] rfl rfl ?_
          refine z_xI zt243 8 rfl rfl (P := fun _ => True) (fun (x128 : Int32) _ => ?_) trivial
          refine z_xpf zt243 9 rfl zo243 zzf12_275 X27 f19 (by decide) (by decide) ⟨Int32.le_toInt _, Int32.toInt_le _⟩ rfl (by decide) zw12_34 (fun M130 X131 e132 h133 => ?_)
          refine z_xP zt243 10 23 [some (.ref 19), some (.int x10), some (.int x24)] [.ref 19, .ref 19] rfl rfl ?_
          have h134 := (e132.f f19 (by decide) (X23.2.f f19 (by decide) h18))
          refine z_xgv zt243 11 rfl zo243 zzf12_278 X131 f19 (by decide) h134 ?_
          refine z_xP zt243 12 27 [some (.ref 19), some (.int x10), some (.int x24)] [.int x24, .int x19, .ref 19] rfl rfl ?_
          refine z_xZ zt243 13 rfl rfl (fun (h135 : x24.toInt ≠ 0) => absurd h135 (by omega)) (fun (h135 : x24.toInt = 0) => ?_)
          refine z_xP zt243 14 32 [some (.ref 19), some (.int x10), some (.int x24)] [.int x10, .int 1, .int x19, .ref 19] rfl rfl ?_
          refine z_xI zt243 15 rfl rfl (fun (x136 : Int32) (h137 : 1 ≤ x136.toInt ∧ x136.toInt ≤ 512) => ?_) (z_pShlB (a := 1) (b := 9) (c := 512) (r := 512) rfl rfl (by omega) (by omega) (by omega) (by omega) (by decide) (by decide) (by decide) (by decide))
          refine z_xP zt243 16 37 [some (.ref 19), some (.int x10), some (.int x24)] [.int x136, .int x19, .ref 19] rfl rfl ?_
          refine z_xI zt243 18 rfl rfl (P := fun _ => True) (fun (x138 : Int32) _ => ?_) trivial
          refine z_xpf zt243 19 rfl zo243 zzf12_278 X131 f19 (by decide) (by decide) ⟨Int32.le_toInt _, Int32.toInt_le _⟩ rfl (by decide) zw12_35 (fun M140 X141 e142 h143 => ?_)
          refine z_xrv zt243 20 rfl zzr243 ?_
          show z_ev (d + 2) 246 116 [some (.ref 19), some (.int p1), some (.int b2), some (.int x10), some (.int x24), some (.int 0)] [] M140 _
          refine z_xN zt246 50 rfl rfl (fun (x144 : Int32) (h145 : x144.toInt = b2.toInt + 1) => ?_) (z_pAdd rfl rfl (by omega) (by omega))
          show z_ev (d + 2) 246 119 [some (.ref 19), some (.int p1), some (.int x144), some (.int x10), some (.int x24), some (.int 0)] [] M140 _
          refine z_xP zt246 51 2 [some (.ref 19), some (.int p1), some (.int x144), some (.int x10), some (.int x24), some (.int 0)] [] rfl rfl ?_
          have q0 : ((0 : Int32)).toInt = 0 := rfl
          exact ih M140 x144 (some (.int x10)) (some (.int x24)) (some (.int 0)) X141 ⟨by omega, by omega⟩ (by omega)
        refine z_xP zt243 4 12 [some (.ref 19), some (.int x10), some (.int x24)] [.int x10, .int 1, .int x15, .ref 19] rfl rfl ?_
        refine z_xI zt243 5 rfl rfl (fun (x146 : Int32) (h147 : 1 ≤ x146.toInt ∧ x146.toInt ≤ 512) => ?_) (z_pShlB (a := 1) (b := 9) (c := 512) (r := 512) rfl rfl (by omega) (by omega) (by omega) (by omega) (by decide) (by decide) (by decide) (by decide))
        refine z_xP zt243 6 17 [some (.ref 19), some (.int x10), some (.int x24)] [.int x146, .int x15, .ref 19] rfl rfl ?_
        refine z_xI zt243 8 rfl rfl (P := fun _ => True) (fun (x148 : Int32) _ => ?_) trivial
        refine z_xpf zt243 9 rfl zo243 zzf12_275 X27 f19 (by decide) (by decide) ⟨Int32.le_toInt _, Int32.toInt_le _⟩ rfl (by decide) zw12_34 (fun M150 X151 e152 h153 => ?_)
        refine z_xP zt243 10 23 [some (.ref 19), some (.int x10), some (.int x24)] [.ref 19, .ref 19] rfl rfl ?_
        have h154 := (e152.f f19 (by decide) (X23.2.f f19 (by decide) h18))
        refine z_xgv zt243 11 rfl zo243 zzf12_278 X151 f19 (by decide) h154 ?_
        refine z_xP zt243 12 27 [some (.ref 19), some (.int x10), some (.int x24)] [.int x24, .int x19, .ref 19] rfl rfl ?_
        refine z_xZ zt243 13 rfl rfl (fun (h155 : x24.toInt ≠ 0) => ?_) (fun (h155 : x24.toInt = 0) => absurd h155 (by omega))
        refine z_xP zt243 17 37 [some (.ref 19), some (.int x10), some (.int x24)] [.int 0, .int x19, .ref 19] rfl rfl ?_
        refine z_xI zt243 18 rfl rfl (P := fun _ => True) (fun (x156 : Int32) _ => ?_) trivial
        refine z_xpf zt243 19 rfl zo243 zzf12_278 X151 f19 (by decide) (by decide) ⟨Int32.le_toInt _, Int32.toInt_le _⟩ rfl (by decide) zw12_35 (fun M158 X159 e160 h161 => ?_)
        refine z_xrv zt243 20 rfl zzr243 ?_
        show z_ev (d + 2) 246 116 [some (.ref 19), some (.int p1), some (.int b2), some (.int x10), some (.int x24), some (.int 0)] [] M158 _
        refine z_xN zt246 50 rfl rfl (fun (x162 : Int32) (h163 : x162.toInt = b2.toInt + 1) => ?_) (z_pAdd rfl rfl (by omega) (by omega))
        show z_ev (d + 2) 246 119 [some (.ref 19), some (.int p1), some (.int x162), some (.int x10), some (.int x24), some (.int 0)] [] M158 _
        refine z_xP zt246 51 2 [some (.ref 19), some (.int p1), some (.int x162), some (.int x10), some (.int x24), some (.int 0)] [] rfl rfl ?_
        have q0 : ((0 : Int32)).toInt = 0 := rfl
        exact ih M158 x162 (some (.int x10)) (some (.int x24)) (some (.int 0)) X159 ⟨by omega, by omega⟩ (by omega)
      refine z_xP zt246 43 97 [some (.ref 19), some (.int p1), some (.int b2), some (.int x10), some (.int x24), o5] [.int 1] rfl rfl ?_
      refine z_xP zt246 45 103 [some (.ref 19), some (.int p1), some (.int b2), some (.int x10), some (.int x24), some (.int 1)] [.int x24, .int x10, .ref 19] rfl rfl ?_
      refine z_xZ zt246 46 rfl rfl (fun (h164 : 0 ≤ x24.toInt) => ?_) (fun (h164 : x24.toInt < 0) => absurd h164 (by omega))
      refine z_xP zt246 48 113 [some (.ref 19), some (.int p1), some (.int b2), some (.int x10), some (.int x24), some (.int 1)] [.int x24, .int x10, .ref 19] rfl rfl ?_
      refine z_xcV (vs := [.ref 19, .int x10, .int x24]) (r := []) (L2 := [some (.ref 19), some (.int x10), some (.int x24)]) zt246 49 rfl zo246 zzcV12_284 (Or.inl rfl) rfl X27 f19 rfl rfl rfl (Nat.le_of_ble_eq_true rfl) zzm243 (Nat.le_of_ble_eq_true rfl) rfl ?_
      refine z_xP zt243 0 2 [some (.ref 19), some (.int x10), some (.int x24)] [.ref 19, .ref 19] rfl rfl ?_
      have h165 := (X23.2.f f19 (by decide) h14)
      refine z_xgv zt243 1 rfl zo243 zzf12_275 X27 f19 (by decide) h165 ?_
      refine z_xP zt243 2 7 [some (.ref 19), some (.int x10), some (.int x24)] [.int 1, .int x24, .int x15, .ref 19] rfl rfl ?_
      refine z_xJ zt243 3 rfl rfl (fun (h166 : x24.toInt ≠ 1) => ?_) (fun (h166 : x24.toInt = 1) => ?_)
      · skip
        refine z_xP zt243 7 17 [some (.ref 19), some (.int x10), some (.int x24)] [.int 0, .int x15, .ref 19] rfl rfl ?_
        refine z_xI zt243 8 rfl rfl (P := fun _ => True) (fun (x167 : Int32) _ => ?_) trivial
        refine z_xpf zt243 9 rfl zo243 zzf12_275 X27 f19 (by decide) (by decide) ⟨Int32.le_toInt _, Int32.toInt_le _⟩ rfl (by decide) zw12_34 (fun M169 X170 e171 h172 => ?_)
        refine z_xP zt243 10 23 [some (.ref 19), some (.int x10), some (.int x24)] [.ref 19, .ref 19] rfl rfl ?_
        have h173 := (e171.f f19 (by decide) (X23.2.f f19 (by decide) h18))
        refine z_xgv zt243 11 rfl zo243 zzf12_278 X170 f19 (by decide) h173 ?_
        refine z_xP zt243 12 27 [some (.ref 19), some (.int x10), some (.int x24)] [.int x24, .int x19, .ref 19] rfl rfl ?_
        refine z_xZ zt243 13 rfl rfl (fun (h174 : x24.toInt ≠ 0) => absurd h174 (by omega)) (fun (h174 : x24.toInt = 0) => ?_)
        refine z_xP zt243 14 32 [some (.ref 19), some (.int x10), some (.int x24)] [.int x10, .int 1, .int x19, .ref 19] rfl rfl ?_
        refine z_xI zt243 15 rfl rfl (fun (x175 : Int32) (h176 : 1 ≤ x175.toInt ∧ x175.toInt ≤ 512) => ?_) (z_pShlB (a := 1) (b := 9) (c := 512) (r := 512) rfl rfl (by omega) (by omega) (by omega) (by omega) (by decide) (by decide) (by decide) (by decide))
        refine z_xP zt243 16 37 [some (.ref 19), some (.int x10), some (.int x24)] [.int x175, .int x19, .ref 19] rfl rfl ?_
        refine z_xI zt243 18 rfl rfl (P := fun _ => True) (fun (x177 : Int32) _ => ?_) trivial
        refine z_xpf zt243 19 rfl zo243 zzf12_278 X170 f19 (by decide) (by decide) ⟨Int32.le_toInt _, Int32.toInt_le _⟩ rfl (by decide) zw12_35 (fun M179 X180 e181 h182 => ?_)
        refine z_xrv zt243 20 rfl zzr243 ?_
        show z_ev (d + 2) 246 116 [some (.ref 19), some (.int p1), some (.int b2), some (.int x10), some (.int x24), some (.int 1)] [] M179 _
        refine z_xN zt246 50 rfl rfl (fun (x183 : Int32) (h184 : x183.toInt = b2.toInt + 1) => ?_) (z_pAdd rfl rfl (by omega) (by omega))
        show z_ev (d + 2) 246 119 [some (.ref 19), some (.int p1), some (.int x183), some (.int x10), some (.int x24), some (.int 1)] [] M179 _
        refine z_xP zt246 51 2 [some (.ref 19), some (.int p1), some (.int x183), some (.int x10), some (.int x24), some (.int 1)] [] rfl rfl ?_
        have q1 : ((1 : Int32)).toInt = 1 := rfl
        exact ih M179 x183 (some (.int x10)) (some (.int x24)) (some (.int 1)) X180 ⟨by omega, by omega⟩ (by omega)
      refine z_xP zt243 4 12 [some (.ref 19), some (.int x10), some (.int x24)] [.int x10, .int 1, .int x15, .ref 19] rfl rfl ?_
      refine z_xI zt243 5 rfl rfl (fun (x185 : Int32) (h186 : 1 ≤ x185.toInt ∧ x185.toInt ≤ 512) => ?_) (z_pShlB (a := 1) (b := 9) (c := 512) (r := 512) rfl rfl (by omega) (by omega) (by omega) (by omega) (by decide) (by decide) (by decide) (by decide))
      refine z_xP zt243 6 17 [some (.ref 19), some (.int x10), some (.int x24)] [.int x185, .int x15, .ref 19] rfl rfl ?_
      refine z_xI zt243 8 rfl rfl (P := fun _ => True) (fun (x187 : Int32) _ => ?_) trivial
      refine z_xpf zt243 9 rfl zo243 zzf12_275 X27 f19 (by decide) (by decide) ⟨Int32.le_toInt _, Int32.toInt_le _⟩ rfl (by decide) zw12_34 (fun M189 X190 e191 h192 => ?_)
      refine z_xP zt243 10 23 [some (.ref 19), some (.int x10), some (.int x24)] [.ref 19, .ref 19] rfl rfl ?_
      have h193 := (e191.f f19 (by decide) (X23.2.f f19 (by decide) h18))
      refine z_xgv zt243 11 rfl zo243 zzf12_278 X190 f19 (by decide) h193 ?_
      refine z_xP zt243 12 27 [some (.ref 19), some (.int x10), some (.int x24)] [.int x24, .int x19, .ref 19] rfl rfl ?_
      refine z_xZ zt243 13 rfl rfl (fun (h194 : x24.toInt ≠ 0) => ?_) (fun (h194 : x24.toInt = 0) => absurd h194 (by omega))
      refine z_xP zt243 17 37 [some (.ref 19), some (.int x10), some (.int x24)] [.int 0, .int x19, .ref 19] rfl rfl ?_
      refine z_xI zt243 18 rfl rfl (P := fun _ => True) (fun (x195 : Int32) _ => ?_) trivial
      refine z_xpf zt243 19 rfl zo243 zzf12_278 X190 f19 (by decide) (by decide) ⟨Int32.le_toInt _, Int32.toInt_le _⟩ rfl (by decide) zw12_35 (fun M197 X198 e199 h200 => ?_)
      refine z_xrv zt243 20 rfl zzr243 ?_
      show z_ev (d + 2) 246 116 [some (.ref 19), some (.int p1), some (.int b2), some (.int x10), some (.int x24), some (.int 1)] [] M197 _
      refine z_xN zt246 50 rfl rfl (fun (x201 : Int32) (h202 : x201.toInt = b2.toInt + 1) => ?_) (z_pAdd rfl rfl (by omega) (by omega))
      show z_ev (d + 2) 246 119 [some (.ref 19), some (.int p1), some (.int x201), some (.int x10), some (.int x24), some (.int 1)] [] M197 _
      refine z_xP zt246 51 2 [some (.ref 19), some (.int p1), some (.int x201), some (.int x10), some (.int x24), some (.int 1)] [] rfl rfl ?_
      have q1 : ((1 : Int32)).toInt = 1 := rfl
      exact ih M197 x201 (some (.int x10)) (some (.int x24)) (some (.int 1)) X198 ⟨by omega, by omega⟩ (by omega)
    refine z_xP zt246 21 48 [some (.ref 19), some (.int p1), some (.int b2), some (.int x10), some (.int x24), o5] [.int x10, .ref 19] rfl rfl ?_
    refine z_xcV (vs := [.ref 19, .int x10]) (r := []) (L2 := [some (.ref 19), some (.int x10), none, none]) zt246 22 rfl zo246 zzcV12_281 (Or.inl rfl) rfl X27 f19 rfl rfl rfl (Nat.le_of_ble_eq_true rfl) zzm242 (Nat.le_of_ble_eq_true rfl) rfl ?_
    refine z_xP zt242 0 3 [some (.ref 19), some (.int x10), none, none] [.int 0, .int x10, .ref 19] rfl rfl ?_
    refine z_xcV (vs := [.ref 19, .int x10, .int 0]) (r := []) (L2 := [some (.ref 19), some (.int x10), some (.int 0), none, none]) zt242 1 rfl zo242 zzcV12_251 (Or.inl rfl) rfl X27 f19 rfl rfl rfl (Nat.le_of_ble_eq_true rfl) zzm230 (Nat.le_of_ble_eq_true rfl) rfl ?_
    have q0 : ((0 : Int32)).toInt = 0 := rfl
    have q0 : ((0 : Int32)).toInt = 0 := rfl
    refine zC230 X27.1 (by decide) (fun x205 M203 X204  => ?_)
    have X206 := X27.go X204 (z_sb (by decide))
    show z_ev (d + 1) 242 6 [some (.ref 19), some (.int x10), none, none] [.int x205] M203 _
    refine z_xP zt242 2 10 [some (.ref 19), some (.int x10), some (.int x205), none] [.int 1, .int x10, .ref 19] rfl rfl ?_
    refine z_xcV (vs := [.ref 19, .int x10, .int 1]) (r := []) (L2 := [some (.ref 19), some (.int x10), some (.int 1), none, none]) zt242 3 rfl zo242 zzcV12_251 (Or.inl rfl) rfl X206 f19 rfl rfl rfl (Nat.le_of_ble_eq_true rfl) zzm230 (Nat.le_of_ble_eq_true rfl) rfl ?_
    have q1 : ((1 : Int32)).toInt = 1 := rfl
    have q1 : ((1 : Int32)).toInt = 1 := rfl
    refine zC230 X206.1 (by decide) (fun x210 M208 X209  => ?_)
    have X211 := X206.go X209 (z_sb (by decide))
    show z_ev (d + 1) 242 13 [some (.ref 19), some (.int x10), some (.int x205), none] [.int x210] M208 _
    refine z_xP zt242 4 16 [some (.ref 19), some (.int x10), some (.int x205), some (.int x210)] [.int x210, .int x205] rfl rfl ?_
    have h213 := z_b32 x205
    have h214 := z_b32 x210
    refine z_xJ zt242 5 rfl rfl (fun (h215 : x205.toInt ≤ x210.toInt) => ?_) (fun (h215 : x210.toInt < x205.toInt) => ?_)
    · skip
      refine z_xP zt242 7 25 [some (.ref 19), some (.int x10), some (.int x205), some (.int x210)] [.int x210, .int x205] rfl rfl ?_
      refine z_xJ zt242 8 rfl rfl (fun (h216 : x210.toInt ≤ x205.toInt) => ?_) (fun (h216 : x205.toInt < x210.toInt) => ?_)
      · skip
        refine z_xP zt242 10 33 [some (.ref 19), some (.int x10), some (.int x205), some (.int x210)] [.int (-1)] rfl rfl ?_
        refine z_xri zt242 11 rfl zzr242 ?_
        show z_ev (d + 2) 246 51 [some (.ref 19), some (.int p1), some (.int b2), some (.int x10), some (.int x24), o5] [.int (-1)] M208 _
        refine z_xP zt246 23 56 [some (.ref 19), some (.int p1), some (.int b2), some (.int x10), some (.int x24), o5] [.int (-1)] rfl rfl ?_
        refine z_xP zt246 25 59 [some (.ref 19), some (.int p1), some (.int b2), some (.int x10), some (.int (-1)), o5] [.int p1] rfl rfl ?_
        refine z_xZ zt246 26 rfl rfl (fun (h217 : p1.toInt < 0) => ?_) (fun (h217 : 0 ≤ p1.toInt) => ?_)
        · skip
          refine z_xP zt246 44 97 [some (.ref 19), some (.int p1), some (.int b2), some (.int x10), some (.int (-1)), o5] [.int 0] rfl rfl ?_
          refine z_xP zt246 45 103 [some (.ref 19), some (.int p1), some (.int b2), some (.int x10), some (.int (-1)), some (.int 0)] [.int (-1), .int x10, .ref 19] rfl rfl ?_
          refine z_xZ zt246 46 rfl rfl (fun (h218 : 0 ≤ ((-1) : Int)) => absurd h218 (by omega)) (fun (h218 : ((-1) : Int) < 0) => ?_)
          refine z_xP zt246 47 113 [some (.ref 19), some (.int p1), some (.int b2), some (.int x10), some (.int (-1)), some (.int 0)] [.int 0, .int x10, .ref 19] rfl rfl ?_
          refine z_xcV (vs := [.ref 19, .int x10, .int 0]) (r := []) (L2 := [some (.ref 19), some (.int x10), some (.int 0)]) zt246 49 rfl zo246 zzcV12_284 (Or.inl rfl) rfl X211 f19 rfl rfl rfl (Nat.le_of_ble_eq_true rfl) zzm243 (Nat.le_of_ble_eq_true rfl) rfl ?_
          refine z_xP zt243 0 2 [some (.ref 19), some (.int x10), some (.int 0)] [.ref 19, .ref 19] rfl rfl ?_
          have h219 := (X209.2.f f19 (by decide) (X204.2.f f19 (by decide) (X23.2.f f19 (by decide) h14)))
          refine z_xgv zt243 1 rfl zo243 zzf12_275 X211 f19 (by decide) h219 ?_
          refine z_xP zt243 2 7 [some (.ref 19), some (.int x10), some (.int 0)] [.int 1, .int 0, .int x15, .ref 19] rfl rfl ?_
          refine z_xJ zt243 3 rfl rfl (fun (h220 : (0 : Int) ≠ 1) => ?_) (fun (h220 : (0 : Int) = 1) => absurd h220 (by omega))
          refine z_xP zt243 7 17 [some (.ref 19), some (.int x10), some (.int 0)] [.int 0, .int x15, .ref 19] rfl rfl ?_
          refine z_xI zt243 8 rfl rfl (P := fun _ => True) (fun (x221 : Int32) _ => ?_) trivial
          refine z_xpf zt243 9 rfl zo243 zzf12_275 X211 f19 (by decide) (by decide) ⟨Int32.le_toInt _, Int32.toInt_le _⟩ rfl (by decide) zw12_34 (fun M223 X224 e225 h226 => ?_)
          refine z_xP zt243 10 23 [some (.ref 19), some (.int x10), some (.int 0)] [.ref 19, .ref 19] rfl rfl ?_
          have h227 := (e225.f f19 (by decide) (X209.2.f f19 (by decide) (X204.2.f f19 (by decide) (X23.2.f f19 (by decide) h18))))
          refine z_xgv zt243 11 rfl zo243 zzf12_278 X224 f19 (by decide) h227 ?_
          refine z_xP zt243 12 27 [some (.ref 19), some (.int x10), some (.int 0)] [.int 0, .int x19, .ref 19] rfl rfl ?_
          refine z_xZ zt243 13 rfl rfl (fun (h228 : (0 : Int) ≠ 0) => absurd h228 (by omega)) (fun (h228 : (0 : Int) = 0) => ?_)
          refine z_xP zt243 14 32 [some (.ref 19), some (.int x10), some (.int 0)] [.int x10, .int 1, .int x19, .ref 19] rfl rfl ?_
          refine z_xI zt243 15 rfl rfl (fun (x229 : Int32) (h230 : 1 ≤ x229.toInt ∧ x229.toInt ≤ 512) => ?_) (z_pShlB (a := 1) (b := 9) (c := 512) (r := 512) rfl rfl (by omega) (by omega) (by omega) (by omega) (by decide) (by decide) (by decide) (by decide))
          refine z_xP zt243 16 37 [some (.ref 19), some (.int x10), some (.int 0)] [.int x229, .int x19, .ref 19] rfl rfl ?_
          refine z_xI zt243 18 rfl rfl (P := fun _ => True) (fun (x231 : Int32) _ => ?_) trivial
          refine z_xpf zt243 19 rfl zo243 zzf12_278 X224 f19 (by decide) (by decide) ⟨Int32.le_toInt _, Int32.toInt_le _⟩ rfl (by decide) zw12_35 (fun M233 X234 e235 h236 => ?_)
          refine z_xrv zt243 20 rfl zzr243 ?_
          show z_ev (d + 2) 246 116 [some (.ref 19), some (.int p1), some (.int b2), some (.int x10), some (.int (-1)), some (.int 0)] [] M233 _
          refine z_xN zt246 50 rfl rfl (fun (x237 : Int32) (h238 : x237.toInt = b2.toInt + 1) => ?_) (z_pAdd rfl rfl (by omega) (by omega))
          show z_ev (d + 2) 246 119 [some (.ref 19), some (.int p1), some (.int x237), some (.int x10), some (.int (-1)), some (.int 0)] [] M233 _
          refine z_xP zt246 51 2 [some (.ref 19), some (.int p1), some (.int x237), some (.int x10), some (.int (-1)), some (.int 0)] [] rfl rfl ?_
          have qm1 : (((-1) : Int32)).toInt = (-1) := rfl
          have q0 : ((0 : Int32)).toInt = 0 := rfl
          exact ih M233 x237 (some (.int x10)) (some (.int (-1))) (some (.int 0)) X234 ⟨by omega, by omega⟩ (by omega)
        refine z_xP zt246 27 64 [some (.ref 19), some (.int p1), some (.int b2), some (.int x10), some (.int (-1)), o5] [.ref 19, .int p1] rfl rfl ?_
        refine z_xgI zt246 28 rfl zo246 zzf12_245 X211 f19 (by decide) (by decide) rfl (fun (x240 : Int32) h239 (h241 : 0 ≤ x240.toInt) (h242 : x240.toInt ≤ 9) => ?_)
        refine z_xJ zt246 29 rfl rfl (fun (h243 : x240.toInt ≤ p1.toInt) => ?_) (fun (h243 : p1.toInt < x240.toInt) => ?_)
        · skip
          refine z_xP zt246 44 97 [some (.ref 19), some (.int p1), some (.int b2), some (.int x10), some (.int (-1)), o5] [.int 0] rfl rfl ?_
          refine z_xP zt246 45 103 [some (.ref 19), some (.int p1), some (.int b2), some (.int x10), some (.int (-1)), some (.int 0)] [.int (-1), .int x10, .ref 19] rfl rfl ?_
          refine z_xZ zt246 46 rfl rfl (fun (h244 : 0 ≤ ((-1) : Int)) => absurd h244 (by omega)) (fun (h244 : ((-1) : Int) < 0) => ?_)
          refine z_xP zt246 47 113 [some (.ref 19), some (.int p1), some (.int b2), some (.int x10), some (.int (-1)), some (.int 0)] [.int 0, .int x10, .ref 19] rfl rfl ?_
          refine z_xcV (vs := [.ref 19, .int x10, .int 0]) (r := []) (L2 := [some (.ref 19), some (.int x10), some (.int 0)]) zt246 49 rfl zo246 zzcV12_284 (Or.inl rfl) rfl X211 f19 rfl rfl rfl (Nat.le_of_ble_eq_true rfl) zzm243 (Nat.le_of_ble_eq_true rfl) rfl ?_
          refine z_xP zt243 0 2 [some (.ref 19), some (.int x10), some (.int 0)] [.ref 19, .ref 19] rfl rfl ?_
          have h245 := (X209.2.f f19 (by decide) (X204.2.f f19 (by decide) (X23.2.f f19 (by decide) h14)))
          refine z_xgv zt243 1 rfl zo243 zzf12_275 X211 f19 (by decide) h245 ?_
          refine z_xP zt243 2 7 [some (.ref 19), some (.int x10), some (.int 0)] [.int 1, .int 0, .int x15, .ref 19] rfl rfl ?_
          refine z_xJ zt243 3 rfl rfl (fun (h246 : (0 : Int) ≠ 1) => ?_) (fun (h246 : (0 : Int) = 1) => absurd h246 (by omega))
          refine z_xP zt243 7 17 [some (.ref 19), some (.int x10), some (.int 0)] [.int 0, .int x15, .ref 19] rfl rfl ?_
          refine z_xI zt243 8 rfl rfl (P := fun _ => True) (fun (x247 : Int32) _ => ?_) trivial
          refine z_xpf zt243 9 rfl zo243 zzf12_275 X211 f19 (by decide) (by decide) ⟨Int32.le_toInt _, Int32.toInt_le _⟩ rfl (by decide) zw12_34 (fun M249 X250 e251 h252 => ?_)
          refine z_xP zt243 10 23 [some (.ref 19), some (.int x10), some (.int 0)] [.ref 19, .ref 19] rfl rfl ?_
          have h253 := (e251.f f19 (by decide) (X209.2.f f19 (by decide) (X204.2.f f19 (by decide) (X23.2.f f19 (by decide) h18))))
          refine z_xgv zt243 11 rfl zo243 zzf12_278 X250 f19 (by decide) h253 ?_
          refine z_xP zt243 12 27 [some (.ref 19), some (.int x10), some (.int 0)] [.int 0, .int x19, .ref 19] rfl rfl ?_
          refine z_xZ zt243 13 rfl rfl (fun (h254 : (0 : Int) ≠ 0) => absurd h254 (by omega)) (fun (h254 : (0 : Int) = 0) => ?_)
          refine z_xP zt243 14 32 [some (.ref 19), some (.int x10), some (.int 0)] [.int x10, .int 1, .int x19, .ref 19] rfl rfl ?_
          refine z_xI zt243 15 rfl rfl (fun (x255 : Int32) (h256 : 1 ≤ x255.toInt ∧ x255.toInt ≤ 512) => ?_) (z_pShlB (a := 1) (b := 9) (c := 512) (r := 512) rfl rfl (by omega) (by omega) (by omega) (by omega) (by decide) (by decide) (by decide) (by decide))
          refine z_xP zt243 16 37 [some (.ref 19), some (.int x10), some (.int 0)] [.int x255, .int x19, .ref 19] rfl rfl ?_
          refine z_xI zt243 18 rfl rfl (P := fun _ => True) (fun (x257 : Int32) _ => ?_) trivial
          refine z_xpf zt243 19 rfl zo243 zzf12_278 X250 f19 (by decide) (by decide) ⟨Int32.le_toInt _, Int32.toInt_le _⟩ rfl (by decide) zw12_35 (fun M259 X260 e261 h262 => ?_)
          refine z_xrv zt243 20 rfl zzr243 ?_
          show z_ev (d + 2) 246 116 [some (.ref 19), some (.int p1), some (.int b2), some (.int x10), some (.int (-1)), some (.int 0)] [] M259 _
          refine z_xN zt246 50 rfl rfl (fun (x263 : Int32) (h264 : x263.toInt = b2.toInt + 1) => ?_) (z_pAdd rfl rfl (by omega) (by omega))
          show z_ev (d + 2) 246 119 [some (.ref 19), some (.int p1), some (.int x263), some (.int x10), some (.int (-1)), some (.int 0)] [] M259 _
          refine z_xP zt246 51 2 [some (.ref 19), some (.int p1), some (.int x263), some (.int x10), some (.int (-1)), some (.int 0)] [] rfl rfl ?_
          have qm1 : (((-1) : Int32)).toInt = (-1) := rfl
          have q0 : ((0 : Int32)).toInt = 0 := rfl
          exact ih M259 x263 (some (.int x10)) (some (.int (-1))) (some (.int 0)) X260 ⟨by omega, by omega⟩ (by omega)
        refine z_xP zt246 30 71 [some (.ref 19), some (.int p1), some (.int b2), some (.int x10), some (.int (-1)), o5] [.ref 19] rfl rfl ?_
        refine z_xgX (b := 40) zt246 31 rfl zo246 zzf12_70 X211 f19 (by decide) (by decide) rfl ?_
        refine z_xP zt246 32 75 [some (.ref 19), some (.int p1), some (.int b2), some (.int x10), some (.int (-1)), o5] [.int p1, .ref 40] rfl rfl ?_
        refine z_xZ zt246 33 rfl rfl (fun (h265 : p1.toInt < 0) => absurd h265 (by omega)) (fun (h265 : 0 ≤ p1.toInt) => ?_)
        refine z_xP zt246 34 83 [some (.ref 19), some (.int p1), some (.int b2), some (.int x10), some (.int (-1)), o5] [.int p1, .ref 40] rfl rfl ?_
        have f40 : T[40]? = some (.inr (40, 0, 9, (-2147483648), 2147483647)) := X211.1.k rfl (by decide)
        refine z_xil zt246 36 rfl X211 f40 (by decide) (by omega) (by omega) (fun (x266 : Int32) h267 (h268 : (-2147483648) ≤ x266.toInt) (h269 : x266.toInt ≤ 2147483647) => ?_)
        refine z_xP zt246 37 85 [some (.ref 19), some (.int p1), some (.int b2), some (.int x10), some (.int (-1)), o5] [.int x10, .int x266] rfl rfl ?_
        have h270 := z_b32 x266
        refine z_xI zt246 38 rfl rfl (P := fun _ => True) (fun (x271 : Int32) _ => ?_) trivial
        refine z_xP zt246 39 87 [some (.ref 19), some (.int p1), some (.int b2), some (.int x10), some (.int (-1)), o5] [.int 1, .int x271] rfl rfl ?_
        refine z_xI zt246 40 rfl rfl (fun (x273 : Int32) (h274 : 0 ≤ x273.toInt ∧ x273.toInt ≤ 1) => ?_) (z_pAnd rfl (by omega))
        refine z_xP zt246 41 89 [some (.ref 19), some (.int p1), some (.int b2), some (.int x10), some (.int (-1)), o5] [.int 1, .int x273] rfl rfl ?_
        refine z_xJ zt246 42 rfl rfl (fun (h275 : x273.toInt ≠ 1) => ?_) (fun (h275 : x273.toInt = 1) => ?_)
        · skip
          refine z_xP zt246 44 97 [some (.ref 19), some (.int p1), some (.int b2), some (.int x10), some (.int (-1)), o5] [.int 0] rfl rfl ?_
          refine z_xP zt246 45 103 [some (.ref 19), some (.int p1), some (.int b2), some (.int x10), some (.int (-1)), some (.int 0)] [.int (-1), .int x10, .ref 19] rfl rfl ?_
          refine z_xZ zt246 46 rfl rfl (fun (h276 : 0 ≤ ((-1) : Int)) => absurd h276 (by omega)) (fun (h276 : ((-1) : Int) < 0) => ?_)
          refine z_xP zt246 47 113 [some (.ref 19), some (.int p1), some (.int b2), some (.int x10), some (.int (-1)), some (.int 0)] [.int 0, .int x10, .ref 19] rfl rfl ?_
          refine z_xcV (vs := [.ref 19, .int x10, .int 0]) (r := []) (L2 := [some (.ref 19), some (.int x10), some (.int 0)]) zt246 49 rfl zo246 zzcV12_284 (Or.inl rfl) rfl X211 f19 rfl rfl rfl (Nat.le_of_ble_eq_true rfl) zzm243 (Nat.le_of_ble_eq_true rfl) rfl ?_
          refine z_xP zt243 0 2 [some (.ref 19), some (.int x10), some (.int 0)] [.ref 19, .ref 19] rfl rfl ?_
          have h277 := (X209.2.f f19 (by decide) (X204.2.f f19 (by decide) (X23.2.f f19 (by decide) h14)))
          refine z_xgv zt243 1 rfl zo243 zzf12_275 X211 f19 (by decide) h277 ?_
          refine z_xP zt243 2 7 [some (.ref 19), some (.int x10), some (.int 0)] [.int 1, .int 0, .int x15, .ref 19] rfl rfl ?_
          refine z_xJ zt243 3 rfl rfl (fun (h278 : (0 : Int) ≠ 1) => ?_) (fun (h278 : (0 : Int) = 1) => absurd h278 (by omega))
          refine z_xP zt243 7 17 [some (.ref 19), some (.int x10), some (.int 0)] [.int 0, .int x15, .ref 19] rfl rfl ?_
          refine z_xI zt243 8 rfl rfl (P := fun _ => True) (fun (x279 : Int32) _ => ?_) trivial
          refine z_xpf zt243 9 rfl zo243 zzf12_275 X211 f19 (by decide) (by decide) ⟨Int32.le_toInt _, Int32.toInt_le _⟩ rfl (by decide) zw12_34 (fun M281 X282 e283 h284 => ?_)
          refine z_xP zt243 10 23 [some (.ref 19), some (.int x10), some (.int 0)] [.ref 19, .ref 19] rfl rfl ?_
          have h285 := (e283.f f19 (by decide) (X209.2.f f19 (by decide) (X204.2.f f19 (by decide) (X23.2.f f19 (by decide) h18))))
          refine z_xgv zt243 11 rfl zo243 zzf12_278 X282 f19 (by decide) h285 ?_
          refine z_xP zt243 12 27 [some (.ref 19), some (.int x10), some (.int 0)] [.int 0, .int x19, .ref 19] rfl rfl ?_
          refine z_xZ zt243 13 rfl rfl (fun (h286 : (0 : Int) ≠ 0) => absurd h286 (by omega)) (fun (h286 : (0 : Int) = 0) => ?_)
          refine z_xP zt243 14 32 [some (.ref 19), some (.int x10), some (.int 0)] [.int x10, .int 1, .int x19, .ref 19] rfl rfl ?_
          refine z_xI zt243 15 rfl rfl (fun (x287 : Int32) (h288 : 1 ≤ x287.toInt ∧ x287.toInt ≤ 512) => ?_) (z_pShlB (a := 1) (b := 9) (c := 512) (r := 512) rfl rfl (by omega) (by omega) (by omega) (by omega) (by decide) (by decide) (by decide) (by decide))
          refine z_xP zt243 16 37 [some (.ref 19), some (.int x10), some (.int 0)] [.int x287, .int x19, .ref 19] rfl rfl ?_
          refine z_xI zt243 18 rfl rfl (P := fun _ => True) (fun (x289 : Int32) _ => ?_) trivial
          refine z_xpf zt243 19 rfl zo243 zzf12_278 X282 f19 (by decide) (by decide) ⟨Int32.le_toInt _, Int32.toInt_le _⟩ rfl (by decide) zw12_35 (fun M291 X292 e293 h294 => ?_)
          refine z_xrv zt243 20 rfl zzr243 ?_
          show z_ev (d + 2) 246 116 [some (.ref 19), some (.int p1), some (.int b2), some (.int x10), some (.int (-1)), some (.int 0)] [] M291 _
          refine z_xN zt246 50 rfl rfl (fun (x295 : Int32) (h296 : x295.toInt = b2.toInt + 1) => ?_) (z_pAdd rfl rfl (by omega) (by omega))
          show z_ev (d + 2) 246 119 [some (.ref 19), some (.int p1), some (.int x295), some (.int x10), some (.int (-1)), some (.int 0)] [] M291 _
          refine z_xP zt246 51 2 [some (.ref 19), some (.int p1), some (.int x295), some (.int x10), some (.int (-1)), some (.int 0)] [] rfl rfl ?_
          have qm1 : (((-1) : Int32)).toInt = (-1) := rfl
          have q0 : ((0 : Int32)).toInt = 0 := rfl
          exact ih M291 x295 (some (.int x10)) (some (.int (-1))) (some (.int 0)) X292 ⟨by omega, by omega⟩ (by omega)
        refine z_xP zt246 43 97 [some (.ref 19), some (.int p1), some (.int b2), some (.int x10), some (.int (-1)), o5] [.int 1] rfl rfl ?_
        refine z_xP zt246 45 103 [some (.ref 19), some (.int p1), some (.int b2), some (.int x10), some (.int (-1)), some (.int 1)] [.int (-1), .int x10, .ref 19] rfl rfl ?_
        refine z_xZ zt246 46 rfl rfl (fun (h297 : 0 ≤ ((-1) : Int)) => absurd h297 (by omega)) (fun (h297 : ((-1) : Int) < 0) => ?_)
        refine z_xP zt246 47 113 [some (.ref 19), some (.int p1), some (.int b2), some (.int x10), some (.int (-1)), some (.int 1)] [.int 1, .int x10, .ref 19] rfl rfl ?_
        refine z_xcV (vs := [.ref 19, .int x10, .int 1]) (r := []) (L2 := [some (.ref 19), some (.int x10), some (.int 1)]) zt246 49 rfl zo246 zzcV12_284 (Or.inl rfl) rfl X211 f19 rfl rfl rfl (Nat.le_of_ble_eq_true rfl) zzm243 (Nat.le_of_ble_eq_true rfl) rfl ?_
        refine z_xP zt243 0 2 [some (.ref 19), some (.int x10), some (.int 1)] [.ref 19, .ref 19] rfl rfl ?_
        have h298 := (X209.2.f f19 (by decide) (X204.2.f f19 (by decide) (X23.2.f f19 (by decide) h14)))
        refine z_xgv zt243 1 rfl zo243 zzf12_275 X211 f19 (by decide) h298 ?_
        refine z_xP zt243 2 7 [some (.ref 19), some (.int x10), some (.int 1)] [.int 1, .int 1, .int x15, .ref 19] rfl rfl ?_
        refine z_xJ zt243 3 rfl rfl (fun (h299 : (1 : Int) ≠ 1) => absurd h299 (by omega)) (fun (h299 : (1 : Int) = 1) => ?_)
        refine z_xP zt243 4 12 [some (.ref 19), some (.int x10), some (.int 1)] [.int x10, .int 1, .int x15, .ref 19] rfl rfl ?_
        refine z_xI zt243 5 rfl rfl (fun (x300 : Int32) (h301 : 1 ≤ x300.toInt ∧ x300.toInt ≤ 512) => ?_) (z_pShlB (a := 1) (b := 9) (c := 512) (r := 512) rfl rfl (by omega) (by omega) (by omega) (by omega) (by decide) (by decide) (by decide) (by decide))
        refine z_xP zt243 6 17 [some (.ref 19), some (.int x10), some (.int 1)] [.int x300, .int x15, .ref 19] rfl rfl ?_
        refine z_xI zt243 8 rfl rfl (P := fun _ => True) (fun (x302 : Int32) _ => ?_) trivial
        refine z_xpf zt243 9 rfl zo243 zzf12_275 X211 f19 (by decide) (by decide) ⟨Int32.le_toInt _, Int32.toInt_le _⟩ rfl (by decide) zw12_34 (fun M304 X305 e306 h307 => ?_)
        refine z_xP zt243 10 23 [some (.ref 19), some (.int x10), some (.int 1)] [.ref 19, .ref 19] rfl rfl ?_
        have h308 := (e306.f f19 (by decide) (X209.2.f f19 (by decide) (X204.2.f f19 (by decide) (X23.2.f f19 (by decide) h18))))
        refine z_xgv zt243 11 rfl zo243 zzf12_278 X305 f19 (by decide) h308 ?_
        refine z_xP zt243 12 27 [some (.ref 19), some (.int x10), some (.int 1)] [.int 1, .int x19, .ref 19] rfl rfl ?_
        refine z_xZ zt243 13 rfl rfl (fun (h309 : (1 : Int) ≠ 0) => ?_) (fun (h309 : (1 : Int) = 0) => absurd h309 (by omega))
        refine z_xP zt243 17 37 [some (.ref 19), some (.int x10), some (.int 1)] [.int 0, .int x19, .ref 19] rfl rfl ?_
        refine z_xI zt243 18 rfl rfl (P := fun _ => True) (fun (x310 : Int32) _ => ?_) trivial
        refine z_xpf zt243 19 rfl zo243 zzf12_278 X305 f19 (by decide) (by decide) ⟨Int32.le_toInt _, Int32.toInt_le _⟩ rfl (by decide) zw12_35 (fun M312 X313 e314 h315 => ?_)
        refine z_xrv zt243 20 rfl zzr243 ?_
        show z_ev (d + 2) 246 116 [some (.ref 19), some (.int p1), some (.int b2), some (.int x10), some (.int (-1)), some (.int 1)] [] M312 _
        refine z_xN zt246 50 rfl rfl (fun (x316 : Int32) (h317 : x316.toInt = b2.toInt + 1) => ?_) (z_pAdd rfl rfl (by omega) (by omega))
        show z_ev (d + 2) 246 119 [some (.ref 19), some (.int p1), some (.int x316), some (.int x10), some (.int (-1)), some (.int 1)] [] M312 _
        refine z_xP zt246 51 2 [some (.ref 19), some (.int p1), some (.int x316), some (.int x10), some (.int (-1)), some (.int 1)] [] rfl rfl ?_
        have qm1 : (((-1) : Int32)).toInt = (-1) := rfl
        have q1 : ((1 : Int32)).toInt = 1 := rfl
        exact ih M312 x316 (some (.int x10)) (some (.int (-1))) (some (.int 1)) X313 ⟨by omega, by omega⟩ (by omega)
      refine z_xP zt242 9 33 [some (.ref 19), some (.int x10), some (.int x205), some (.int x210)] [.int 0] rfl rfl ?_
      refine z_xri zt242 11 rfl zzr242 ?_
      show z_ev (d + 2) 246 51 [some (.ref 19), some (.int p1), some (.int b2), some (.int x10), some (.int x24), o5] [.int 0] M208 _
      refine z_xP zt246 23 56 [some (.ref 19), some (.int p1), some (.int b2), some (.int x10), some (.int x24), o5] [.int 0] rfl rfl ?_
      refine z_xP zt246 25 59 [some (.ref 19), some (.int p1), some (.int b2), some (.int x10), some (.int 0), o5] [.int p1] rfl rfl ?_
      refine z_xZ zt246 26 rfl rfl (fun (h318 : p1.toInt < 0) => ?_) (fun (h318 : 0 ≤ p1.toInt) => ?_)
      · skip
        refine z_xP zt246 44 97 [some (.ref 19), some (.int p1), some (.int b2), some (.int x10), some (.int 0), o5] [.int 0] rfl rfl ?_
        refine z_xP zt246 45 103 [some (.ref 19), some (.int p1), some (.int b2), some (.int x10), some (.int 0), some (.int 0)] [.int 0, .int x10, .ref 19] rfl rfl ?_
        refine z_xZ zt246 46 rfl rfl (fun (h319 : 0 ≤ (0 : Int)) => ?_) (fun (h319 : (0 : Int) < 0) => absurd h319 (by omega))
        refine z_xP zt246 48 113 [some (.ref 19), some (.int p1), some (.int b2), some (.int x10), some (.int 0), some (.int 0)] [.int 0, .int x10, .ref 19] rfl rfl ?_
        refine z_xcV (vs := [.ref 19, .int x10, .int 0]) (r := []) (L2 := [some (.ref 19), some (.int x10), some (.int 0)]) zt246 49 rfl zo246 zzcV12_284 (Or.inl rfl) rfl X211 f19 rfl rfl rfl (Nat.le_of_ble_eq_true rfl) zzm243 (Nat.le_of_ble_eq_true rfl) rfl ?_
        refine z_xP zt243 0 2 [some (.ref 19), some (.int x10), some (.int 0)] [.ref 19, .ref 19] rfl rfl ?_
        have h320 := (X209.2.f f19 (by decide) (X204.2.f f19 (by decide) (X23.2.f f19 (by decide) h14)))
        refine z_xgv zt243 1 rfl zo243 zzf12_275 X211 f19 (by decide) h320 ?_
        refine z_xP zt243 2 7 [some (.ref 19), some (.int x10), some (.int 0)] [.int 1, .int 0, .int x15, .ref 19] rfl rfl ?_
        refine z_xJ zt243 3 rfl rfl (fun (h321 : (0 : Int) ≠ 1) => ?_) (fun (h321 : (0 : Int) = 1) => absurd h321 (by omega))
        refine z_xP zt243 7 17 [some (.ref 19), some (.int x10), some (.int 0)] [.int 0, .int x15, .ref 19] rfl rfl ?_
        refine z_xI zt243 8 rfl rfl (P := fun _ => True) (fun (x322 : Int32) _ => ?_) trivial
        refine z_xpf zt243 9 rfl zo243 zzf12_275 X211 f19 (by decide) (by decide) ⟨Int32.le_toInt _, Int32.toInt_le _⟩ rfl (by decide) zw12_34 (fun M324 X325 e326 h327 => ?_)
        refine z_xP zt243 10 23 [some (.ref 19), some (.int x10), some (.int 0)] [.ref 19, .ref 19] rfl rfl ?_
        have h328 := (e326.f f19 (by decide) (X209.2.f f19 (by decide) (X204.2.f f19 (by decide) (X23.2.f f19 (by decide) h18))))
        refine z_xgv zt243 11 rfl zo243 zzf12_278 X325 f19 (by decide) h328 ?_
        refine z_xP zt243 12 27 [some (.ref 19), some (.int x10), some (.int 0)] [.int 0, .int x19, .ref 19] rfl rfl ?_
        refine z_xZ zt243 13 rfl rfl (fun (h329 : (0 : Int) ≠ 0) => absurd h329 (by omega)) (fun (h329 : (0 : Int) = 0) => ?_)
        refine z_xP zt243 14 32 [some (.ref 19), some (.int x10), some (.int 0)] [.int x10, .int 1, .int x19, .ref 19] rfl rfl ?_
        refine z_xI zt243 15 rfl rfl (fun (x330 : Int32) (h331 : 1 ≤ x330.toInt ∧ x330.toInt ≤ 512) => ?_) (z_pShlB (a := 1) (b := 9) (c := 512) (r := 512) rfl rfl (by omega) (by omega) (by omega) (by omega) (by decide) (by decide) (by decide) (by decide))
        refine z_xP zt243 16 37 [some (.ref 19), some (.int x10), some (.int 0)] [.int x330, .int x19, .ref 19] rfl rfl ?_
        refine z_xI zt243 18 rfl rfl (P := fun _ => True) (fun (x332 : Int32) _ => ?_) trivial
        refine z_xpf zt243 19 rfl zo243 zzf12_278 X325 f19 (by decide) (by decide) ⟨Int32.le_toInt _, Int32.toInt_le _⟩ rfl (by decide) zw12_35 (fun M334 X335 e336 h337 => ?_)
        refine z_xrv zt243 20 rfl zzr243 ?_
        show z_ev (d + 2) 246 116 [some (.ref 19), some (.int p1), some (.int b2), some (.int x10), some (.int 0), some (.int 0)] [] M334 _
        refine z_xN zt246 50 rfl rfl (fun (x338 : Int32) (h339 : x338.toInt = b2.toInt + 1) => ?_) (z_pAdd rfl rfl (by omega) (by omega))
        show z_ev (d + 2) 246 119 [some (.ref 19), some (.int p1), some (.int x338), some (.int x10), some (.int 0), some (.int 0)] [] M334 _
        refine z_xP zt246 51 2 [some (.ref 19), some (.int p1), some (.int x338), some (.int x10), some (.int 0), some (.int 0)] [] rfl rfl ?_
        have q0 : ((0 : Int32)).toInt = 0 := rfl
        exact ih M334 x338 (some (.int x10)) (some (.int 0)) (some (.int 0)) X335 ⟨by omega, by omega⟩ (by omega)
      refine z_xP zt246 27 64 [some (.ref 19), some (.int p1), some (.int b2), some (.int x10), some (.int 0), o5] [.ref 19, .int p1] rfl rfl ?_
      refine z_xgI zt246 28 rfl zo246 zzf12_245 X211 f19 (by decide) (by decide) rfl (fun (x341 : Int32) h340 (h342 : 0 ≤ x341.toInt) (h343 : x341.toInt ≤ 9) => ?_)
      refine z_xJ zt246 29 rfl rfl (fun (h344 : x341.toInt ≤ p1.toInt) => ?_) (fun (h344 : p1.toInt < x341.toInt) => ?_)
      · skip
        refine z_xP zt246 44 97 [some (.ref 19), some (.int p1), some (.int b2), some (.int x10), some (.int 0), o5] [.int 0] rfl rfl ?_
        refine z_xP zt246 45 103 [some (.ref 19), some (.int p1), some (.int b2), some (.int x10), some (.int 0), some (.int 0)] [.int 0, .int x10, .ref 19] rfl rfl ?_
        refine z_xZ zt246 46 rfl rfl (fun (h345 : 0 ≤ (0 : Int)) => ?_) (fun (h345 : (0 : Int) < 0) => absurd h345 (by omega))
        refine z_xP zt246 48 113 [some (.ref 19), some (.int p1), some (.int b2), some (.int x10), some (.int 0), some (.int 0)] [.int 0, .int x10, .ref 19] rfl rfl ?_
        refine z_xcV (vs := [.ref 19, .int x10, .int 0]) (r := []) (L2 := [some (.ref 19), some (.int x10), some (.int 0)]) zt246 49 rfl zo246 zzcV12_284 (Or.inl rfl) rfl X211 f19 rfl rfl rfl (Nat.le_of_ble_eq_true rfl) zzm243 (Nat.le_of_ble_eq_true rfl) rfl ?_
        refine z_xP zt243 0 2 [some (.ref 19), some (.int x10), some (.int 0)] [.ref 19, .ref 19] rfl rfl ?_
        have h346 := (X209.2.f f19 (by decide) (X204.2.f f19 (by decide) (X23.2.f f19 (by decide) h14)))
        refine z_xgv zt243 1 rfl zo243 zzf12_275 X211 f19 (by decide) h346 ?_
        refine z_xP zt243 2 7 [some (.ref 19), some (.int x10), some (.int 0)] [.int 1, .int 0, .int x15, .ref 19] rfl rfl ?_
        refine z_xJ zt243 3 rfl rfl (fun (h347 : (0 : Int) ≠ 1) => ?_) (fun (h347 : (0 : Int) = 1) => absurd h347 (by omega))
        refine z_xP zt243 7 17 [some (.ref 19), some (.int x10), some (.int 0)] [.int 0, .int x15, .ref 19] rfl rfl ?_
        refine z_xI zt243 8 rfl rfl (P := fun _ => True) (fun (x348 : Int32) _ => ?_) trivial
        refine z_xpf zt243 9 rfl zo243 zzf12_275 X211 f19 (by decide) (by decide) ⟨Int32.le_toInt _, Int32.toInt_le _⟩ rfl (by decide) zw12_34 (fun M350 X351 e352 h353 => ?_)
        refine z_xP zt243 10 23 [some (.ref 19), some (.int x10), some (.int 0)] [.ref 19, .ref 19] rfl rfl ?_
        have h354 := (e352.f f19 (by decide) (X209.2.f f19 (by decide) (X204.2.f f19 (by decide) (X23.2.f f19 (by decide) h18))))
        refine z_xgv zt243 11 rfl zo243 zzf12_278 X351 f19 (by decide) h354 ?_
        refine z_xP zt243 12 27 [some (.ref 19), some (.int x10), some (.int 0)] [.int 0, .int x19, .ref 19] rfl rfl ?_
        refine z_xZ zt243 13 rfl rfl (fun (h355 : (0 : Int) ≠ 0) => absurd h355 (by omega)) (fun (h355 : (0 : Int) = 0) => ?_)
        refine z_xP zt243 14 32 [some (.ref 19), some (.int x10), some (.int 0)] [.int x10, .int 1, .int x19, .ref 19] rfl rfl ?_
        refine z_xI zt243 15 rfl rfl (fun (x356 : Int32) (h357 : 1 ≤ x356.toInt ∧ x356.toInt ≤ 512) => ?_) (z_pShlB (a := 1) (b := 9) (c := 512) (r := 512) rfl rfl (by omega) (by omega) (by omega) (by omega) (by decide) (by decide) (by decide) (by decide))
        refine z_xP zt243 16 37 [some (.ref 19), some (.int x10), some (.int 0)] [.int x356, .int x19, .ref 19] rfl rfl ?_
        refine z_xI zt243 18 rfl rfl (P := fun _ => True) (fun (x358 : Int32) _ => ?_) trivial
        refine z_xpf zt243 19 rfl zo243 zzf12_278 X351 f19 (by decide) (by decide) ⟨Int32.le_toInt _, Int32.toInt_le _⟩ rfl (by decide) zw12_35 (fun M360 X361 e362 h363 => ?_)
        refine z_xrv zt243 20 rfl zzr243 ?_
        show z_ev (d + 2) 246 116 [some (.ref 19), some (.int p1), some (.int b2), some (.int x10), some (.int 0), some (.int 0)] [] M360 _
        refine z_xN zt246 50 rfl rfl (fun (x364 : Int32) (h365 : x364.toInt = b2.toInt + 1) => ?_) (z_pAdd rfl rfl (by omega) (by omega))
        show z_ev (d + 2) 246 119 [some (.ref 19), some (.int p1), some (.int x364), some (.int x10), some (.int 0), some (.int 0)] [] M360 _
        refine z_xP zt246 51 2 [some (.ref 19), some (.int p1), some (.int x364), some (.int x10), some (.int 0), some (.int 0)] [] rfl rfl ?_
        have q0 : ((0 : Int32)).toInt = 0 := rfl
        exact ih M360 x364 (some (.int x10)) (some (.int 0)) (some (.int 0)) X361 ⟨by omega, by omega⟩ (by omega)
      refine z_xP zt246 30 71 [some (.ref 19), some (.int p1), some (.int b2), some (.int x10), some (.int 0), o5] [.ref 19] rfl rfl ?_
      refine z_xgX (b := 40) zt246 31 rfl zo246 zzf12_70 X211 f19 (by decide) (by decide) rfl ?_
      refine z_xP zt246 32 75 [some (.ref 19), some (.int p1), some (.int b2), some (.int x10), some (.int 0), o5] [.int p1, .ref 40] rfl rfl ?_
      refine z_xZ zt246 33 rfl rfl (fun (h366 : p1.toInt < 0) => absurd h366 (by omega)) (fun (h366 : 0 ≤ p1.toInt) => ?_)
      refine z_xP zt246 34 83 [some (.ref 19), some (.int p1), some (.int b2), some (.int x10), some (.int 0), o5] [.int p1, .ref 40] rfl rfl ?_
      have f40 : T[40]? = some (.inr (40, 0, 9, (-2147483648), 2147483647)) := X211.1.k rfl (by decide)
      refine z_xil zt246 36 rfl X211 f40 (by decide) (by omega) (by omega) (fun (x367 : Int32) h368 (h369 : (-2147483648) ≤ x367.toInt) (h370 : x367.toInt ≤ 2147483647) => ?_)
      refine z_xP zt246 37 85 [some (.ref 19), some (.int p1), some (.int b2), some (.int x10), some (.int 0), o5] [.int x10, .int x367] rfl rfl ?_
      have h371 := z_b32 x367
      refine z_xI zt246 38 rfl rfl (P := fun _ => True) (fun (x372 : Int32) _ => ?_) trivial
      refine z_xP zt246 39 87 [some (.ref 19), some (.int p1), some (.int b2), some (.int x10), some (.int 0), o5] [.int 1, .int x372] rfl rfl ?_
      refine z_xI zt246 40 rfl rfl (fun (x374 : Int32) (h375 : 0 ≤ x374.toInt ∧ x374.toInt ≤ 1) => ?_) (z_pAnd rfl (by omega))
      refine z_xP zt246 41 89 [some (.ref 19), some (.int p1), some (.int b2), some (.int x10), some (.int 0), o5] [.int 1, .int x374] rfl rfl ?_
      refine z_xJ zt246 42 rfl rfl (fun (h376 : x374.toInt ≠ 1) => ?_) (fun (h376 : x374.toInt = 1) => ?_)
      · skip
        refine z_xP zt246 44 97 [some (.ref 19), some (.int p1), some (.int b2), some (.int x10), some (.int 0), o5] [.int 0] rfl rfl ?_
        refine z_xP zt246 45 103 [some (.ref 19), some (.int p1), some (.int b2), some (.int x10), some (.int 0), some (.int 0)] [.int 0, .int x10, .ref 19] rfl rfl ?_
        refine z_xZ zt246 46 rfl rfl (fun (h377 : 0 ≤ (0 : Int)) => ?_) (fun (h377 : (0 : Int) < 0) => absurd h377 (by omega))
        refine z_xP zt246 48 113 [some (.ref 19), some (.int p1), some (.int b2), some (.int x10), some (.int 0), some (.int 0)] [.int 0, .int x10, .ref 19] rfl rfl ?_
        refine z_xcV (vs := [.ref 19, .int x10, .int 0]) (r := []) (L2 := [some (.ref 19), some (.int x10), some (.int 0)]) zt246 49 rfl zo246 zzcV12_284 (Or.inl rfl) rfl X211 f19 rfl rfl rfl (Nat.le_of_ble_eq_true rfl) zzm243 (Nat.le_of_ble_eq_true rfl) rfl ?_
        refine z_xP zt243 0 2 [some (.ref 19), some (.int x10), some (.int 0)] [.ref 19, .ref 19] rfl rfl ?_
        have h378 := (X209.2.f f19 (by decide) (X204.2.f f19 (by decide) (X23.2.f f19 (by decide) h14)))
        refine z_xgv zt243 1 rfl zo243 zzf12_275 X211 f19 (by decide) h378 ?_
        refine z_xP zt243 2 7 [some (.ref 19), some (.int x10), some (.int 0)] [.int 1, .int 0, .int x15, .ref 19] rfl rfl ?_
        refine z_xJ zt243 3 rfl rfl (fun (h379 : (0 : Int) ≠ 1) => ?_) (fun (h379 : (0 : Int) = 1) => absurd h379 (by omega))
        refine z_xP zt243 7 17 [some (.ref 19), some (.int x10), some (.int 0)] [.int 0, .int x15, .ref 19] rfl rfl ?_
        refine z_xI zt243 8 rfl rfl (P := fun _ => True) (fun (x380 : Int32) _ => ?_) trivial
        refine z_xpf zt243 9 rfl zo243 zzf12_275 X211 f19 (by decide) (by decide) ⟨Int32.le_toInt _, Int32.toInt_le _⟩ rfl (by decide) zw12_34 (fun M382 X383 e384 h385 => ?_)
        refine z_xP zt243 10 23 [some (.ref 19), some (.int x10), some (.int 0)] [.ref 19, .ref 19] rfl rfl ?_
        have h386 := (e384.f f19 (by decide) (X209.2.f f19 (by decide) (X204.2.f f19 (by decide) (X23.2.f f19 (by decide) h18))))
        refine z_xgv zt243 11 rfl zo243 zzf12_278 X383 f19 (by decide) h386 ?_
        refine z_xP zt243 12 27 [some (.ref 19), some (.int x10), some (.int 0)] [.int 0, .int x19, .ref 19] rfl rfl ?_
        refine z_xZ zt243 13 rfl rfl (fun (h387 : (0 : Int) ≠ 0) => absurd h387 (by omega)) (fun (h387 : (0 : Int) = 0) => ?_)
        refine z_xP zt243 14 32 [some (.ref 19), some (.int x10), some (.int 0)] [.int x10, .int 1, .int x19, .ref 19] rfl rfl ?_
        refine z_xI zt243 15 rfl rfl (fun (x388 : Int32) (h389 : 1 ≤ x388.toInt ∧ x388.toInt ≤ 512) => ?_) (z_pShlB (a := 1) (b := 9) (c := 512) (r := 512) rfl rfl (by omega) (by omega) (by omega) (by omega) (by decide) (by decide) (by decide) (by decide))
        refine z_xP zt243 16 37 [some (.ref 19), some (.int x10), some (.int 0)] [.int x388, .int x19, .ref 19] rfl rfl ?_
        refine z_xI zt243 18 rfl rfl (P := fun _ => True) (fun (x390 : Int32) _ => ?_) trivial
        refine z_xpf zt243 19 rfl zo243 zzf12_278 X383 f19 (by decide) (by decide) ⟨Int32.le_toInt _, Int32.toInt_le _⟩ rfl (by decide) zw12_35 (fun M392 X393 e394 h395 => ?_)
        refine z_xrv zt243 20 rfl zzr243 ?_
        show z_ev (d + 2) 246 116 [some (.ref 19), some (.int p1), some (.int b2), some (.int x10), some (.int 0), some (.int 0)] [] M392 _
        refine z_xN zt246 50 rfl rfl (fun (x396 : Int32) (h397 : x396.toInt = b2.toInt + 1) => ?_) (z_pAdd rfl rfl (by omega) (by omega))
        show z_ev (d + 2) 246 119 [some (.ref 19), some (.int p1), some (.int x396), some (.int x10), some (.int 0), some (.int 0)] [] M392 _
        refine z_xP zt246 51 2 [some (.ref 19), some (.int p1), some (.int x396), some (.int x10), some (.int 0), some (.int 0)] [] rfl rfl ?_
        have q0 : ((0 : Int32)).toInt = 0 := rfl
        exact ih M392 x396 (some (.int x10)) (some (.int 0)) (some (.int 0)) X393 ⟨by omega, by omega⟩ (by omega)
      refine z_xP zt246 43 97 [some (.ref 19), some (.int p1), some (.int b2), some (.int x10), some (.int 0), o5] [.int 1] rfl rfl ?_
      refine z_xP zt246 45 103 [some (.ref 19), some (.int p1), some (.int b2), some (.int x10), some (.int 0), some (.int 1)] [.int 0, .int x10, .ref 19] rfl rfl ?_
      refine z_xZ zt246 46 rfl rfl (fun (h398 : 0 ≤ (0 : Int)) => ?_) (fun (h398 : (0 : Int) < 0) => absurd h398 (by omega))
      refine z_xP zt246 48 113 [some (.ref 19), some (.int p1), some (.int b2), some (.int x10), some (.int 0), some (.int 1)] [.int 0, .int x10, .ref 19] rfl rfl ?_
      refine z_xcV (vs := [.ref 19, .int x10, .int 0]) (r := []) (L2 := [some (.ref 19), some (.int x10), some (.int 0)]) zt246 49 rfl zo246 zzcV12_284 (Or.inl rfl) rfl X211 f19 rfl rfl rfl (Nat.le_of_ble_eq_true rfl) zzm243 (Nat.le_of_ble_eq_true rfl) rfl ?_
      refine z_xP zt243 0 2 [some (.ref 19), some (.int x10), some (.int 0)] [.ref 19, .ref 19] rfl rfl ?_
      have h399 := (X209.2.f f19 (by decide) (X204.2.f f19 (by decide) (X23.2.f f19 (by decide) h14)))
      refine z_xgv zt243 1 rfl zo243 zzf12_275 X211 f19 (by decide) h399 ?_
      refine z_xP zt243 2 7 [some (.ref 19), some (.int x10), some (.int 0)] [.int 1, .int 0, .int x15, .ref 19] rfl rfl ?_
      refine z_xJ zt243 3 rfl rfl (fun (h400 : (0 : Int) ≠ 1) => ?_) (fun (h400 : (0 : Int) = 1) => absurd h400 (by omega))
      refine z_xP zt243 7 17 [some (.ref 19), some (.int x10), some (.int 0)] [.int 0, .int x15, .ref 19] rfl rfl ?_
      refine z_xI zt243 8 rfl rfl (P := fun _ => True) (fun (x401 : Int32) _ => ?_) trivial
      refine z_xpf zt243 9 rfl zo243 zzf12_275 X211 f19 (by decide) (by decide) ⟨Int32.le_toInt _, Int32.toInt_le _⟩ rfl (by decide) zw12_34 (fun M403 X404 e405 h406 => ?_)
      refine z_xP zt243 10 23 [some (.ref 19), some (.int x10), some (.int 0)] [.ref 19, .ref 19] rfl rfl ?_
      have h407 := (e405.f f19 (by decide) (X209.2.f f19 (by decide) (X204.2.f f19 (by decide) (X23.2.f f19 (by decide) h18))))
      refine z_xgv zt243 11 rfl zo243 zzf12_278 X404 f19 (by decide) h407 ?_
      refine z_xP zt243 12 27 [some (.ref 19), some (.int x10), some (.int 0)] [.int 0, .int x19, .ref 19] rfl rfl ?_
      refine z_xZ zt243 13 rfl rfl (fun (h408 : (0 : Int) ≠ 0) => absurd h408 (by omega)) (fun (h408 : (0 : Int) = 0) => ?_)
      refine z_xP zt243 14 32 [some (.ref 19), some (.int x10), some (.int 0)] [.int x10, .int 1, .int x19, .ref 19] rfl rfl ?_
      refine z_xI zt243 15 rfl rfl (fun (x409 : Int32) (h410 : 1 ≤ x409.toInt ∧ x409.toInt ≤ 512) => ?_) (z_pShlB (a := 1) (b := 9) (c := 512) (r := 512) rfl rfl (by omega) (by omega) (by omega) (by omega) (by decide) (by decide) (by decide) (by decide))
      refine z_xP zt243 16 37 [some (.ref 19), some (.int x10), some (.int 0)] [.int x409, .int x19, .ref 19] rfl rfl ?_
      refine z_xI zt243 18 rfl rfl (P := fun _ => True) (fun (x411 : Int32) _ => ?_) trivial
      refine z_xpf zt243 19 rfl zo243 zzf12_278 X404 f19 (by decide) (by decide) ⟨Int32.le_toInt _, Int32.toInt_le _⟩ rfl (by decide) zw12_35 (fun M413 X414 e415 h416 => ?_)
      refine z_xrv zt243 20 rfl zzr243 ?_
      show z_ev (d + 2) 246 116 [some (.ref 19), some (.int p1), some (.int b2), some (.int x10), some (.int 0), some (.int 1)] [] M413 _
      refine z_xN zt246 50 rfl rfl (fun (x417 : Int32) (h418 : x417.toInt = b2.toInt + 1) => ?_) (z_pAdd rfl rfl (by omega) (by omega))
      show z_ev (d + 2) 246 119 [some (.ref 19), some (.int p1), some (.int x417), some (.int x10), some (.int 0), some (.int 1)] [] M413 _
      refine z_xP zt246 51 2 [some (.ref 19), some (.int p1), some (.int x417), some (.int x10), some (.int 0), some (.int 1)] [] rfl rfl ?_
      have q0 : ((0 : Int32)).toInt = 0 := rfl
      have q1 : ((1 : Int32)).toInt = 1 := rfl
      exact ih M413 x417 (some (.int x10)) (some (.int 0)) (some (.int 1)) X414 ⟨by omega, by omega⟩ (by omega)
    refine z_xP zt242 6 33 [some (.ref 19), some (.int x10), some (.int x205), some (.int x210)] [.int 1] rfl rfl ?_
    refine z_xri zt242 11 rfl zzr242 ?_
    show z_ev (d + 2) 246 51 [some (.ref 19), some (.int p1), some (.int b2), some (.int x10), some (.int x24), o5] [.int 1] M208 _
    refine z_xP zt246 23 56 [some (.ref 19), some (.int p1), some (.int b2), some (.int x10), some (.int x24), o5] [.int 1] rfl rfl ?_
    refine z_xP zt246 25 59 [some (.ref 19), some (.int p1), some (.int b2), some (.int x10), some (.int 1), o5] [.int p1] rfl rfl ?_
    refine z_xZ zt246 26 rfl rfl (fun (h419 : p1.toInt < 0) => ?_) (fun (h419 : 0 ≤ p1.toInt) => ?_)
    · skip
      refine z_xP zt246 44 97 [some (.ref 19), some (.int p1), some (.int b2), some (.int x10), some (.int 1), o5] [.int 0] rfl rfl ?_
      refine z_xP zt246 45 103 [some (.ref 19), some (.int p1), some (.int b2), some (.int x10), some (.int 1), some (.int 0)] [.int 1, .int x10, .ref 19] rfl rfl ?_
      refine z_xZ zt246 46 rfl rfl (fun (h420 : 0 ≤ (1 : Int)) => ?_) (fun (h420 : (1 : Int) < 0) => absurd h420 (by omega))
      refine z_xP zt246 48 113 [some (.ref 19), some (.int p1), some (.int b2), some (.int x10), some (.int 1), some (.int 0)] [.int 1, .int x10, .ref 19] rfl rfl ?_
      refine z_xcV (vs := [.ref 19, .int x10, .int 1]) (r := []) (L2 := [some (.ref 19), some (.int x10), some (.int 1)]) zt246 49 rfl zo246 zzcV12_284 (Or.inl rfl) rfl X211 f19 rfl rfl rfl (Nat.le_of_ble_eq_true rfl) zzm243 (Nat.le_of_ble_eq_true rfl) rfl ?_
      refine z_xP zt243 0 2 [some (.ref 19), some (.int x10), some (.int 1)] [.ref 19, .ref 19] rfl rfl ?_
      have h421 := (X209.2.f f19 (by decide) (X204.2.f f19 (by decide) (X23.2.f f19 (by decide) h14)))
      refine z_xgv zt243 1 rfl zo243 zzf12_275 X211 f19 (by decide) h421 ?_
      refine z_xP zt243 2 7 [some (.ref 19), some (.int x10), some (.int 1)] [.int 1, .int 1, .int x15, .ref 19] rfl rfl ?_
      refine z_xJ zt243 3 rfl rfl (fun (h422 : (1 : Int) ≠ 1) => absurd h422 (by omega)) (fun (h422 : (1 : Int) = 1) => ?_)
      refine z_xP zt243 4 12 [some (.ref 19), some (.int x10), some (.int 1)] [.int x10, .int 1, .int x15, .ref 19] rfl rfl ?_
      refine z_xI zt243 5 rfl rfl (fun (x423 : Int32) (h424 : 1 ≤ x423.toInt ∧ x423.toInt ≤ 512) => ?_) (z_pShlB (a := 1) (b := 9) (c := 512) (r := 512) rfl rfl (by omega) (by omega) (by omega) (by omega) (by decide) (by decide) (by decide) (by decide))
      refine z_xP zt243 6 17 [some (.ref 19), some (.int x10), some (.int 1)] [.int x423, .int x15, .ref 19] rfl rfl ?_
      refine z_xI zt243 8 rfl rfl (P := fun _ => True) (fun (x425 : Int32) _ => ?_) trivial
      refine z_xpf zt243 9 rfl zo243 zzf12_275 X211 f19 (by decide) (by decide) ⟨Int32.le_toInt _, Int32.toInt_le _⟩ rfl (by decide) zw12_34 (fun M427 X428 e429 h430 => ?_)
      refine z_xP zt243 10 23 [some (.ref 19), some (.int x10), some (.int 1)] [.ref 19, .ref 19] rfl rfl ?_
      have h431 := (e429.f f19 (by decide) (X209.2.f f19 (by decide) (X204.2.f f19 (by decide) (X23.2.f f19 (by decide) h18))))
      refine z_xgv zt243 11 rfl zo243 zzf12_278 X428 f19 (by decide) h431 ?_
      refine z_xP zt243 12 27 [some (.ref 19), some (.int x10), some (.int 1)] [.int 1, .int x19, .ref 19] rfl rfl ?_
      refine z_xZ zt243 13 rfl rfl (fun (h432 : (1 : Int) ≠ 0) => ?_) (fun (h432 : (1 : Int) = 0) => absurd h432 (by omega))
      refine z_xP zt243 17 37 [some (.ref 19), some (.int x10), some (.int 1)] [.int 0, .int x19, .ref 19] rfl rfl ?_
      refine z_xI zt243 18 rfl rfl (P := fun _ => True) (fun (x433 : Int32) _ => ?_) trivial
      refine z_xpf zt243 19 rfl zo243 zzf12_278 X428 f19 (by decide) (by decide) ⟨Int32.le_toInt _, Int32.toInt_le _⟩ rfl (by decide) zw12_35 (fun M435 X436 e437 h438 => ?_)
      refine z_xrv zt243 20 rfl zzr243 ?_
      show z_ev (d + 2) 246 116 [some (.ref 19), some (.int p1), some (.int b2), some (.int x10), some (.int 1), some (.int 0)] [] M435 _
      refine z_xN zt246 50 rfl rfl (fun (x439 : Int32) (h440 : x439.toInt = b2.toInt + 1) => ?_) (z_pAdd rfl rfl (by omega) (by omega))
      show z_ev (d + 2) 246 119 [some (.ref 19), some (.int p1), some (.int x439), some (.int x10), some (.int 1), some (.int 0)] [] M435 _
      refine z_xP zt246 51 2 [some (.ref 19), some (.int p1), some (.int x439), some (.int x10), some (.int 1), some (.int 0)] [] rfl rfl ?_
      have q0 : ((0 : Int32)).toInt = 0 := rfl
      have q1 : ((1 : Int32)).toInt = 1 := rfl
      exact ih M435 x439 (some (.int x10)) (some (.int 1)) (some (.int 0)) X436 ⟨by omega, by omega⟩ (by omega)
    refine z_xP zt246 27 64 [some (.ref 19), some (.int p1), some (.int b2), some (.int x10), some (.int 1), o5] [.ref 19, .int p1] rfl rfl ?_
    refine z_xgI zt246 28 rfl zo246 zzf12_245 X211 f19 (by decide) (by decide) rfl (fun (x442 : Int32) h441 (h443 : 0 ≤ x442.toInt) (h444 : x442.toInt ≤ 9) => ?_)
    refine z_xJ zt246 29 rfl rfl (fun (h445 : x442.toInt ≤ p1.toInt) => ?_) (fun (h445 : p1.toInt < x442.toInt) => ?_)
    · skip
      refine z_xP zt246 44 97 [some (.ref 19), some (.int p1), some (.int b2), some (.int x10), some (.int 1), o5] [.int 0] rfl rfl ?_
      refine z_xP zt246 45 103 [some (.ref 19), some (.int p1), some (.int b2), some (.int x10), some (.int 1), some (.int 0)] [.int 1, .int x10, .ref 19] rfl rfl ?_
      refine z_xZ zt246 46 rfl rfl (fun (h446 : 0 ≤ (1 : Int)) => ?_) (fun (h446 : (1 : Int) < 0) => absurd h446 (by omega))
      refine z_xP zt246 48 113 [some (.ref 19), some (.int p1), some (.int b2), some (.int x10), some (.int 1), some (.int 0)] [.int 1, .int x10, .ref 19] rfl rfl ?_
      refine z_xcV (vs := [.ref 19, .int x10, .int 1]) (r := []) (L2 := [some (.ref 19), some (.int x10), some (.int 1)]) zt246 49 rfl zo246 zzcV12_284 (Or.inl rfl) rfl X211 f19 rfl rfl rfl (Nat.le_of_ble_eq_true rfl) zzm243 (Nat.le_of_ble_eq_true rfl) rfl ?_
      refine z_xP zt243 0 2 [some (.ref 19), some (.int x10), some (.int 1)] [.ref 19, .ref 19] rfl rfl ?_
      have h447 := (X209.2.f f19 (by decide) (X204.2.f f19 (by decide) (X23.2.f f19 (by decide) h14)))
      refine z_xgv zt243 1 rfl zo243 zzf12_275 X211 f19 (by decide) h447 ?_
      refine z_xP zt243 2 7 [some (.ref 19), some (.int x10), some (.int 1)] [.int 1, .int 1, .int x15, .ref 19] rfl rfl ?_
      refine z_xJ zt243 3 rfl rfl (fun (h448 : (1 : Int) ≠ 1) => absurd h448 (by omega)) (fun (h448 : (1 : Int) = 1) => ?_)
      refine z_xP zt243 4 12 [some (.ref 19), some (.int x10), some (.int 1)] [.int x10, .int 1, .int x15, .ref 19] rfl rfl ?_
      refine z_xI zt243 5 rfl rfl (fun (x449 : Int32) (h450 : 1 ≤ x449.toInt ∧ x449.toInt ≤ 512) => ?_) (z_pShlB (a := 1) (b := 9) (c := 512) (r := 512) rfl rfl (by omega) (by omega) (by omega) (by omega) (by decide) (by decide) (by decide) (by decide))
      refine z_xP zt243 6 17 [some (.ref 19), some (.int x10), some (.int 1)] [.int x449, .int x15, .ref 19] rfl rfl ?_
      refine z_xI zt243 8 rfl rfl (P := fun _ => True) (fun (x451 : Int32) _ => ?_) trivial
      refine z_xpf zt243 9 rfl zo243 zzf12_275 X211 f19 (by decide) (by decide) ⟨Int32.le_toInt _, Int32.toInt_le _⟩ rfl (by decide) zw12_34 (fun M453 X454 e455 h456 => ?_)
      refine z_xP zt243 10 23 [some (.ref 19), some (.int x10), some (.int 1)] [.ref 19, .ref 19] rfl rfl ?_
      have h457 := (e455.f f19 (by decide) (X209.2.f f19 (by decide) (X204.2.f f19 (by decide) (X23.2.f f19 (by decide) h18))))
      refine z_xgv zt243 11 rfl zo243 zzf12_278 X454 f19 (by decide) h457 ?_
      refine z_xP zt243 12 27 [some (.ref 19), some (.int x10), some (.int 1)] [.int 1, .int x19, .ref 19] rfl rfl ?_
      refine z_xZ zt243 13 rfl rfl (fun (h458 : (1 : Int) ≠ 0) => ?_) (fun (h458 : (1 : Int) = 0) => absurd h458 (by omega))
      refine z_xP zt243 17 37 [some (.ref 19), some (.int x10), some (.int 1)] [.int 0, .int x19, .ref 19] rfl rfl ?_
      refine z_xI zt243 18 rfl rfl (P := fun _ => True) (fun (x459 : Int32) _ => ?_) trivial
      refine z_xpf zt243 19 rfl zo243 zzf12_278 X454 f19 (by decide) (by decide) ⟨Int32.le_toInt _, Int32.toInt_le _⟩ rfl (by decide) zw12_35 (fun M461 X462 e463 h464 => ?_)
      refine z_xrv zt243 20 rfl zzr243 ?_
      show z_ev (d + 2) 246 116 [some (.ref 19), some (.int p1), some (.int b2), some (.int x10), some (.int 1), some (.int 0)] [] M461 _
      refine z_xN zt246 50 rfl rfl (fun (x465 : Int32) (h466 : x465.toInt = b2.toInt + 1) => ?_) (z_pAdd rfl rfl (by omega) (by omega))
      show z_ev (d + 2) 246 119 [some (.ref 19), some (.int p1), some (.int x465), some (.int x10), some (.int 1), some (.int 0)] [] M461 _
      refine z_xP zt246 51 2 [some (.ref 19), some (.int p1), some (.int x465), some (.int x10), some (.int 1), some (.int 0)] [] rfl rfl ?_
      have q0 : ((0 : Int32)).toInt = 0 := rfl
      have q1 : ((1 : Int32)).toInt = 1 := rfl
      exact ih M461 x465 (some (.int x10)) (some (.int 1)) (some (.int 0)) X462 ⟨by omega, by omega⟩ (by omega)
    refine z_xP zt246 30 71 [some (.ref 19), some (.int p1), some (.int b2), some (.int x10), some (.int 1), o5] [.ref 19] rfl rfl ?_
    refine z_xgX (b := 40) zt246 31 rfl zo246 zzf12_70 X211 f19 (by decide) (by decide) rfl ?_
    refine z_xP zt246 32 75 [some (.ref 19), some (.int p1), some (.int b2), some (.int x10), some (.int 1), o5] [.int p1, .ref 40] rfl rfl ?_
    refine z_xZ zt246 33 rfl rfl (fun (h467 : p1.toInt < 0) => absurd h467 (by omega)) (fun (h467 : 0 ≤ p1.toInt) => ?_)
    refine z_xP zt246 34 83 [some (.ref 19), some (.int p1), some (.int b2), some (.int x10), some (.int 1), o5] [.int p1, .ref 40] rfl rfl ?_
    have f40 : T[40]? = some (.inr (40, 0, 9, (-2147483648), 2147483647)) := X211.1.k rfl (by decide)
    refine z_xil zt246 36 rfl X211 f40 (by decide) (by omega) (by omega) (fun (x468 : Int32) h469 (h470 : (-2147483648) ≤ x468.toInt) (h471 : x468.toInt ≤ 2147483647) => ?_)
    refine z_xP zt246 37 85 [some (.ref 19), some (.int p1), some (.int b2), some (.int x10), some (.int 1), o5] [.int x10, .int x468] rfl rfl ?_
    have h472 := z_b32 x468
    refine z_xI zt246 38 rfl rfl (P := fun _ => True) (fun (x473 : Int32) _ => ?_) trivial
    refine z_xP zt246 39 87 [some (.ref 19), some (.int p1), some (.int b2), some (.int x10), some (.int 1), o5] [.int 1, .int x473] rfl rfl ?_
    refine z_xI zt246 40 rfl rfl (fun (x475 : Int32) (h476 : 0 ≤ x475.toInt ∧ x475.toInt ≤ 1) => ?_) (z_pAnd rfl (by omega))
    refine z_xP zt246 41 89 [some (.ref 19), some (.int p1), some (.int b2), some (.int x10), some (.int 1), o5] [.int 1, .int x475] rfl rfl ?_
    refine z_xJ zt246 42 rfl rfl (fun (h477 : x475.toInt ≠ 1) => ?_) (fun (h477 : x475.toInt = 1) => ?_)
    · skip
      refine z_xP zt246 44 97 [some (.ref 19), some (.int p1), some (.int b2), some (.int x10), some (.int 1), o5] [.int 0] rfl rfl ?_
      refine z_xP zt246 45 103 [some (.ref 19), some (.int p1), some (.int b2), some (.int x10), some (.int 1), some (.int 0)] [.int 1, .int x10, .ref 19] rfl rfl ?_
      refine z_xZ zt246 46 rfl rfl (fun (h478 : 0 ≤ (1 : Int)) => ?_) (fun (h478 : (1 : Int) < 0) => absurd h478 (by omega))
      refine z_xP zt246 48 113 [some (.ref 19), some (.int p1), some (.int b2), some (.int x10), some (.int 1), some (.int 0)] [.int 1, .int x10, .ref 19] rfl rfl ?_
      refine z_xcV (vs := [.ref 19, .int x10, .int 1]) (r := []) (L2 := [some (.ref 19), some (.int x10), some (.int 1)]) zt246 49 rfl zo246 zzcV12_284 (Or.inl rfl) rfl X211 f19 rfl rfl rfl (Nat.le_of_ble_eq_true rfl) zzm243 (Nat.le_of_ble_eq_true rfl) rfl ?_
      refine z_xP zt243 0 2 [some (.ref 19), some (.int x10), some (.int 1)] [.ref 19, .ref 19] rfl rfl ?_
      have h479 := (X209.2.f f19 (by decide) (X204.2.f f19 (by decide) (X23.2.f f19 (by decide) h14)))
      refine z_xgv zt243 1 rfl zo243 zzf12_275 X211 f19 (by decide) h479 ?_
      refine z_xP zt243 2 7 [some (.ref 19), some (.int x10), some (.int 1)] [.int 1, .int 1, .int x15, .ref 19] rfl rfl ?_
      refine z_xJ zt243 3 rfl rfl (fun (h480 : (1 : Int) ≠ 1) => absurd h480 (by omega)) (fun (h480 : (1 : Int) = 1) => ?_)
      refine z_xP zt243 4 12 [some (.ref 19), some (.int x10), some (.int 1)] [.int x10, .int 1, .int x15, .ref 19] rfl rfl ?_
      refine z_xI zt243 5 rfl rfl (fun (x481 : Int32) (h482 : 1 ≤ x481.toInt ∧ x481.toInt ≤ 512) => ?_) (z_pShlB (a := 1) (b := 9) (c := 512) (r := 512) rfl rfl (by omega) (by omega) (by omega) (by omega) (by decide) (by decide) (by decide) (by decide))
      refine z_xP zt243 6 17 [some (.ref 19), some (.int x10), some (.int 1)] [.int x481, .int x15, .ref 19] rfl rfl ?_
      refine z_xI zt243 8 rfl rfl (P := fun _ => True) (fun (x483 : Int32) _ => ?_) trivial
      refine z_xpf zt243 9 rfl zo243 zzf12_275 X211 f19 (by decide) (by decide) ⟨Int32.le_toInt _, Int32.toInt_le _⟩ rfl (by decide) zw12_34 (fun M485 X486 e487 h488 => ?_)
      refine z_xP zt243 10 23 [some (.ref 19), some (.int x10), some (.int 1)] [.ref 19, .ref 19] rfl rfl ?_
      have h489 := (e487.f f19 (by decide) (X209.2.f f19 (by decide) (X204.2.f f19 (by decide) (X23.2.f f19 (by decide) h18))))
      refine z_xgv zt243 11 rfl zo243 zzf12_278 X486 f19 (by decide) h489 ?_
      refine z_xP zt243 12 27 [some (.ref 19), some (.int x10), some (.int 1)] [.int 1, .int x19, .ref 19] rfl rfl ?_
      refine z_xZ zt243 13 rfl rfl (fun (h490 : (1 : Int) ≠ 0) => ?_) (fun (h490 : (1 : Int) = 0) => absurd h490 (by omega))
      refine z_xP zt243 17 37 [some (.ref 19), some (.int x10), some (.int 1)] [.int 0, .int x19, .ref 19] rfl rfl ?_
      refine z_xI zt243 18 rfl rfl (P := fun _ => True) (fun (x491 : Int32) _ => ?_) trivial
      refine z_xpf zt243 19 rfl zo243 zzf12_278 X486 f19 (by decide) (by decide) ⟨Int32.le_toInt _, Int32.toInt_le _⟩ rfl (by decide) zw12_35 (fun M493 X494 e495 h496 => ?_)
      refine z_xrv zt243 20 rfl zzr243 ?_
      show z_ev (d + 2) 246 116 [some (.ref 19), some (.int p1), some (.int b2), some (.int x10), some (.int 1), some (.int 0)] [] M493 _
      refine z_xN zt246 50 rfl rfl (fun (x497 : Int32) (h498 : x497.toInt = b2.toInt + 1) => ?_) (z_pAdd rfl rfl (by omega) (by omega))
      show z_ev (d + 2) 246 119 [some (.ref 19), some (.int p1), some (.int x497), some (.int x10), some (.int 1), some (.int 0)] [] M493 _
      refine z_xP zt246 51 2 [some (.ref 19), some (.int p1), some (.int x497), some (.int x10), some (.int 1), some (.int 0)] [] rfl rfl ?_
      have q0 : ((0 : Int32)).toInt = 0 := rfl
      have q1 : ((1 : Int32)).toInt = 1 := rfl
      exact ih M493 x497 (some (.int x10)) (some (.int 1)) (some (.int 0)) X494 ⟨by omega, by omega⟩ (by omega)
    refine z_xP zt246 43 97 [some (.ref 19), some (.int p1), some (.int b2), some (.int x10), some (.int 1), o5] [.int 1] rfl rfl ?_
    refine z_xP zt246 45 103 [some (.ref 19), some (.int p1), some (.int b2), some (.int x10), some (.int 1), some (.int 1)] [.int 1, .int x10, .ref 19] rfl rfl ?_
    refine z_xZ zt246 46 rfl rfl (fun (h499 : 0 ≤ (1 : Int)) => ?_) (fun (h499 : (1 : Int) < 0) => absurd h499 (by omega))
    refine z_xP zt246 48 113 [some (.ref 19), some (.int p1), some (.int b2), some (.int x10), some (.int 1), some (.int 1)] [.int 1, .int x10, .ref 19] rfl rfl ?_
    refine z_xcV (vs := [.ref 19, .int x10, .int 1]) (r := []) (L2 := [some (.ref 19), some (.int x10), some (.int 1)]) zt246 49 rfl zo246 zzcV12_284 (Or.inl rfl) rfl X211 f19 rfl rfl rfl (Nat.le_of_ble_eq_true rfl) zzm243 (Nat.le_of_ble_eq_true rfl) rfl ?_
    refine z_xP zt243 0 2 [some (.ref 19), some (.int x10), some (.int 1)] [.ref 19, .ref 19] rfl rfl ?_
    have h500 := (X209.2.f f19 (by decide) (X204.2.f f19 (by decide) (X23.2.f f19 (by decide) h14)))
    refine z_xgv zt243 1 rfl zo243 zzf12_275 X211 f19 (by decide) h500 ?_
    refine z_xP zt243 2 7 [some (.ref 19), some (.int x10), some (.int 1)] [.int 1, .int 1, .int x15, .ref 19] rfl rfl ?_
    refine z_xJ zt243 3 rfl rfl (fun (h501 : (1 : Int) ≠ 1) => absurd h501 (by omega)) (fun (h501 : (1 : Int) = 1) => ?_)
    refine z_xP zt243 4 12 [some (.ref 19), some (.int x10), some (.int 1)] [.int x10, .int 1, .int x15, .ref 19] rfl rfl ?_
    refine z_xI zt243 5 rfl rfl (fun (x502 : Int32) (h503 : 1 ≤ x502.toInt ∧ x502.toInt ≤ 512) => ?_) (z_pShlB (a := 1) (b := 9) (c := 512) (r := 512) rfl rfl (by omega) (by omega) (by omega) (by omega) (by decide) (by decide) (by decide) (by decide))
    refine z_xP zt243 6 17 [some (.ref 19), some (.int x10), some (.int 1)] [.int x502, .int x15, .ref 19] rfl rfl ?_
    refine z_xI zt243 8 rfl rfl (P := fun _ => True) (fun (x504 : Int32) _ => ?_) trivial
    refine z_xpf zt243 9 rfl zo243 zzf12_275 X211 f19 (by decide) (by decide) ⟨Int32.le_toInt _, Int32.toInt_le _⟩ rfl (by decide) zw12_34 (fun M506 X507 e508 h509 => ?_)
    refine z_xP zt243 10 23 [some (.ref 19), some (.int x10), some (.int 1)] [.ref 19, .ref 19] rfl rfl ?_
    have h510 := (e508.f f19 (by decide) (X209.2.f f19 (by decide) (X204.2.f f19 (by decide) (X23.2.f f19 (by decide) h18))))
    refine z_xgv zt243 11 rfl zo243 zzf12_278 X507 f19 (by decide) h510 ?_
    refine z_xP zt243 12 27 [some (.ref 19), some (.int x10), some (.int 1)] [.int 1, .int x19, .ref 19] rfl rfl ?_
    refine z_xZ zt243 13 rfl rfl (fun (h511 : (1 : Int) ≠ 0) => ?_) (fun (h511 : (1 : Int) = 0) => absurd h511 (by omega))
    refine z_xP zt243 17 37 [some (.ref 19), some (.int x10), some (.int 1)] [.int 0, .int x19, .ref 19] rfl rfl ?_
    refine z_xI zt243 18 rfl rfl (P := fun _ => True) (fun (x512 : Int32) _ => ?_) trivial
    refine z_xpf zt243 19 rfl zo243 zzf12_278 X507 f19 (by decide) (by decide) ⟨Int32.le_toInt _, Int32.toInt_le _⟩ rfl (by decide) zw12_35 (fun M514 X515 e516 h517 => ?_)
    refine z_xrv zt243 20 rfl zzr243 ?_
    show z_ev (d + 2) 246 116 [some (.ref 19), some (.int p1), some (.int b2), some (.int x10), some (.int 1), some (.int 1)] [] M514 _
    refine z_xN zt246 50 rfl rfl (fun (x518 : Int32) (h519 : x518.toInt = b2.toInt + 1) => ?_) (z_pAdd rfl rfl (by omega) (by omega))
    show z_ev (d + 2) 246 119 [some (.ref 19), some (.int p1), some (.int x518), some (.int x10), some (.int 1), some (.int 1)] [] M514 _
    refine z_xP zt246 51 2 [some (.ref 19), some (.int p1), some (.int x518), some (.int x10), some (.int 1), some (.int 1)] [] rfl rfl ?_
    have q1 : ((1 : Int32)).toInt = 1 := rfl
    exact ih M514 x518 (some (.int x10)) (some (.int 1)) (some (.int 1)) X515 ⟨by omega, by omega⟩ (by omega)
theorem zC246 {T : List zK} {d : Nat} {K : Option Value → zH → Prop} {p1 : Int32} {M0 : zH} (hW : z_W M0 T) (u1 : (-1) ≤ p1.toInt ∧ p1.toInt ≤ 8) (kk : ∀ (M1 : zH), z_X T zw246 M0 M1 → K none M1) : z_ev (d + 2) 246 0 [some (.ref 19), some (.int p1), none, none, none, none] [] M0 K := by
  have X : z_X T zw246 M0 M0 := .refl hW
  refine z_xP zt246 0 2 [some (.ref 19), some (.int p1), some (.int 0), none, none, none] [] rfl rfl ?_
  have q0 : ((0 : Int32)).toInt = 0 := rfl
  exact (zB246 u1 kk 22) M0 (0) none none none X (by decide) (by omega)
def zw247 : List Nat := [2234, 2235]
theorem zB247 {T : List zK} {d : Nat} {K : Option Value → zH → Prop} {p1 : Int32} {M0 : zH} (u1 : 0 ≤ p1.toInt ∧ p1.toInt ≤ 8) (kk : ∀ (M1 : zH), z_X T zw247 M0 M1 → K none M1) : ∀ n : Nat, (∀ (M : zH) (b2 : Int32), z_X T zw247 M0 M → 0 ≤ b2.toInt ∧ b2.toInt ≤ 10 → ((0) * 2 + 0) * 11 + (10 - b2.toInt) < (n : Int) → z_ev (d + 2) 247 31 [some (.ref 19), some (.int p1), some (.int b2)] [] M K) := by
  intro n
  induction n with
  | zero => exact by intros; exfalso; omega
  | succ n ih =>
    intro M b2 X hh0 hE
    refine z_xP zt247 15 33 [some (.ref 19), some (.int p1), some (.int b2)] [.ref 19, .int b2] rfl rfl ?_
    have f19 : T[19]? = some (.inl (12, 0, 0, 0, 0)) := X.1.k rfl (by decide)
    refine z_xgX (b := 24) zt247 16 rfl zo247 zzf12_22 X f19 (by decide) (by decide) rfl ?_
    refine z_xP zt247 17 37 [some (.ref 19), some (.int p1), some (.int b2)] [.ref 19, .ref 24, .int b2] rfl rfl ?_
    refine z_xgI zt247 18 rfl zo247 zzf12_242 X f19 (by decide) (by decide) rfl (fun (x2 : Int32) h1 (h3 : 0 ≤ x2.toInt) (h4 : x2.toInt ≤ 7) => ?_)
    have f24 : T[24]? = some (.inr (24, 0, 8, 0, 10)) := X.1.k rfl (by decide)
    refine z_xil zt247 19 rfl X f24 (by decide) (by omega) (by omega) (fun (x5 : Int32) h6 (h7 : 0 ≤ x5.toInt) (h8 : x5.toInt ≤ 10) => ?_)
    refine z_xJ zt247 20 rfl rfl (fun (h9 : x5.toInt ≤ b2.toInt) => ?_) (fun (h9 : b2.toInt < x5.toInt) => ?_)
    · skip
      exact z_xrv zt247 50 rfl zzr247 (kk M X)
    refine z_xP zt247 21 45 [some (.ref 19), some (.int p1), some (.int b2)] [.ref 19] rfl rfl ?_
    refine z_xgX (b := 40) zt247 22 rfl zo247 zzf12_70 X f19 (by decide) (by decide) rfl ?_
    refine z_xP zt247 23 49 [some (.ref 19), some (.int p1), some (.int b2)] [.int p1, .ref 40] rfl rfl ?_
    have f40 : T[40]? = some (.inr (40, 0, 9, (-2147483648), 2147483647)) := X.1.k rfl (by decide)
    refine z_xil zt247 24 rfl X f40 (by decide) (by omega) (by omega) (fun (x10 : Int32) h11 (h12 : (-2147483648) ≤ x10.toInt) (h13 : x10.toInt ≤ 2147483647) => ?_)
    refine z_xP zt247 25 51 [some (.ref 19), some (.int p1), some (.int b2)] [.ref 19, .int x10] rfl rfl ?_
    refine z_xgX (b := 41) zt247 26 rfl zo247 zzf12_73 X f19 (by decide) (by decide) rfl ?_
    refine z_xP zt247 27 55 [some (.ref 19), some (.int p1), some (.int b2)] [.int p1, .ref 41, .int x10] rfl rfl ?_
    have f41 : T[41]? = some (.inr (41, 0, 9, (-2147483648), 2147483647)) := X.1.k rfl (by decide)
    refine z_xil zt247 28 rfl X f41 (by decide) (by omega) (by omega) (fun (x14 : Int32) h15 (h16 : (-2147483648) ≤ x14.toInt) (h17 : x14.toInt ≤ 2147483647) => ?_)
    refine z_xI zt247 29 rfl rfl (P := fun _ => True) (fun (x18 : Int32) _ => ?_) trivial
    refine z_xP zt247 30 58 [some (.ref 19), some (.int p1), some (.int b2)] [.int b2, .int x18] rfl rfl ?_
    have h20 := z_b32 x18
    refine z_xI zt247 31 rfl rfl (P := fun _ => True) (fun (x21 : Int32) _ => ?_) trivial
    refine z_xP zt247 32 60 [some (.ref 19), some (.int p1), some (.int b2)] [.int 1, .int x21] rfl rfl ?_
    refine z_xI zt247 33 rfl rfl (fun (x23 : Int32) (h24 : 0 ≤ x23.toInt ∧ x23.toInt ≤ 1) => ?_) (z_pAnd rfl (by omega))
    refine z_xZ zt247 34 rfl rfl (fun (h25 : x23.toInt ≠ 0) => ?_) (fun (h25 : x23.toInt = 0) => ?_)
    · skip
      refine z_xN zt247 48 rfl rfl (fun (x26 : Int32) (h27 : x26.toInt = b2.toInt + 1) => ?_) (z_pAdd rfl rfl (by omega) (by omega))
      show z_ev (d + 2) 247 93 [some (.ref 19), some (.int p1), some (.int x26)] [] M _
      refine z_xP zt247 49 31 [some (.ref 19), some (.int p1), some (.int x26)] [] rfl rfl ?_
      exact ih M x26 X ⟨by omega, by omega⟩ (by omega)
    refine z_xP zt247 35 68 [some (.ref 19), some (.int p1), some (.int b2)] [.ref 19, .ref 19, .int b2, .ref 19] rfl rfl ?_
    refine z_xgv zt247 36 rfl zo247 zzf12_242 X f19 (by decide) h1 ?_
    refine z_xP zt247 37 72 [some (.ref 19), some (.int p1), some (.int b2)] [.ref 19, .int x2, .ref 19, .int b2, .ref 19] rfl rfl ?_
    refine z_xgX (b := 40) zt247 38 rfl zo247 zzf12_70 X f19 (by decide) (by decide) rfl ?_
    refine z_xP zt247 39 76 [some (.ref 19), some (.int p1), some (.int b2)] [.int p1, .ref 40, .int x2, .ref 19, .int b2, .ref 19] rfl rfl ?_
    refine z_xil zt247 40 rfl X f40 (by decide) (by omega) (by omega) (fun (x28 : Int32) h29 (h30 : (-2147483648) ≤ x28.toInt) (h31 : x28.toInt ≤ 2147483647) => ?_)
    have h32 := congrArg Int32.toInt (h29.symm.trans h11)
    refine z_xP zt247 41 78 [some (.ref 19), some (.int p1), some (.int b2)] [.ref 19, .int x28, .int x2, .ref 19, .int b2, .ref 19] rfl rfl ?_
    refine z_xgX (b := 41) zt247 42 rfl zo247 zzf12_73 X f19 (by decide) (by decide) rfl ?_
    refine z_xP zt247 43 82 [some (.ref 19), some (.int p1), some (.int b2)] [.int p1, .ref 41, .int x28, .int x2, .ref 19, .int b2, .ref 19] rfl rfl ?_
    refine z_xil zt247 44 rfl X f41 (by decide) (by omega) (by omega) (fun (x33 : Int32) h34 (h35 : (-2147483648) ≤ x33.toInt) (h36 : x33.toInt ≤ 2147483647) => ?_)
    have h37 := congrArg Int32.toInt (h34.symm.trans h15)
    refine z_xP zt247 45 84 [some (.ref 19), some (.int p1), some (.int b2)] [.int b2, .int x33, .int x28, .int x2, .ref 19, .int b2, .ref 19] rfl rfl ?_
    refine z_xcV (vs := [.ref 19, .int x2, .int x28, .int x33, .int b2]) (r := [.int b2, .ref 19]) (L2 := [some (.ref 19), some (.int x2), some (.int x28), some (.int x33), some (.int b2), none, none, none, none]) zt247 46 rfl zo247 zzcV12_228 (Or.inl rfl) rfl X f19 rfl rfl rfl (Nat.le_of_ble_eq_true rfl) zzm219 (Nat.le_of_ble_eq_true rfl) rfl ?_
    refine zC219 X.1 (by omega) (fun x40 M38 X39 h41 h42 => ?_)
    have X43 := X.go X39 (z_sb (by decide))
    show z_ev (d + 2) 247 87 [some (.ref 19), some (.int p1), some (.int b2)] [.int x40, .int b2, .ref 19] M38 _
    refine z_xcV (vs := [.ref 19, .int b2, .int x40]) (r := []) (L2 := [some (.ref 19), some (.int b2), some (.int x40)]) zt247 47 rfl zo247 zzcV12_284 (Or.inl rfl) rfl X43 f19 rfl rfl rfl (Nat.le_of_ble_eq_true rfl) zzm243 (Nat.le_of_ble_eq_true rfl) rfl ?_
    refine z_xP zt243 0 2 [some (.ref 19), some (.int b2), some (.int x40)] [.ref 19, .ref 19] rfl rfl ?_
    refine z_xgI zt243 1 rfl zo243 zzf12_275 X43 f19 (by decide) (by decide) rfl (fun (x46 : Int32) h45 (h47 : (-2147483648) ≤ x46.toInt) (h48 : x46.toInt ≤ 2147483647) => ?_)
    refine z_xP zt243 2 7 [some (.ref 19), some (.int b2), some (.int x40)] [.int 1, .int x40, .int x46, .ref 19] rfl rfl ?_
    refine z_xJ zt243 3 rfl rfl (fun (h49 : x40.toInt ≠ 1) => ?_) (fun (h49 : x40.toInt = 1) => ?_)
    · skip
      refine z_xP zt243 7 17 [some (.ref 19), some (.int b2), some (.int x40)] [.int 0, .int x46, .ref 19] rfl rfl ?_
      refine z_xI zt243 8 rfl rfl (P := fun _ => True) (fun (x50 : Int32) _ => ?_) trivial
      refine z_xpf zt243 9 rfl zo243 zzf12_275 X43 f19 (by decide) (by decide) ⟨Int32.le_toInt _, Int32.toInt_le _⟩ rfl (by decide) zw12_34 (fun M52 X53 e54 h55 => ?_)
      refine z_xP zt243 10 23 [some (.ref 19), some (.int b2), some (.int x40)] [.ref 19, .ref 19] rfl rfl ?_
      refine z_xgI zt243 11 rfl zo243 zzf12_278 X53 f19 (by decide) (by decide) rfl (fun (x57 : Int32) h56 (h58 : (-2147483648) ≤ x57.toInt) (h59 : x57.toInt ≤ 2147483647) => ?_)
      refine z_xP zt243 12 27 [some (.ref 19), some (.int b2), some (.int x40)] [.int x40, .int x57, .ref 19] rfl rfl ?_
      refine z_xZ zt243 13 rfl rfl (fun (h60 : x40.toInt ≠ 0) => ?_) (fun (h60 : x40.toInt = 0) => ?_)
      · skip
        refine z_xP zt243 17 37 [some (.ref 19), some (.int b2), some (.int x40)] [.int 0, .int x57, .ref 19] rfl rfl ?_
        refine z_xI zt243 18 rfl rfl (P := fun _ => True) (fun (x61 : Int32) _ => ?_) trivial
        refine z_xpf zt243 19 rfl zo243 zzf12_278 X53 f19 (by decide) (by decide) ⟨Int32.le_toInt _, Int32.toInt_le _⟩ rfl (by decide) zw12_35 (fun M63 X64 e65 h66 => ?_)
        refine z_xrv zt243 20 rfl zzr243 ?_
        show z_ev (d + 2) 247 90 [some (.ref 19), some (.int p1), some (.int b2)] [] M63 _
        refine z_xN zt247 48 rfl rfl (fun (x67 : Int32) (h68 : x67.toInt = b2.toInt + 1) => ?_) (z_pAdd rfl rfl (by omega) (by omega))
        show z_ev (d + 2) 247 93 [some (.ref 19), some (.int p1), some (.int x67)] [] M63 _
        refine z_xP zt247 49 31 [some (.ref 19), some (.int p1), some (.int x67)] [] rfl rfl ?_
        exact ih M63 x67 X64 ⟨by omega, by omega⟩ (by omega)
      refine z_xP zt243 14 32 [some (.ref 19), some (.int b2), some (.int x40)] [.int b2, .int 1, .int x57, .ref 19] rfl rfl ?_
      refine z_xI zt243 15 rfl rfl (fun (x69 : Int32) (h70 : 1 ≤ x69.toInt ∧ x69.toInt ≤ 512) => ?_) (z_pShlB (a := 1) (b := 9) (c := 512) (r := 512) rfl rfl (by omega) (by omega) (by omega) (by omega) (by decide) (by decide) (by decide) (by decide))
      refine z_xP zt243 16 37 [some (.ref 19), some (.int b2), some (.int x40)] [.int x69, .int x57, .ref 19] rfl rfl ?_
      refine z_xI zt243 18 rfl rfl (P := fun _ => True) (fun (x71 : Int32) _ => ?_) trivial
      refine z_xpf zt243 19 rfl zo243 zzf12_278 X53 f19 (by decide) (by decide) ⟨Int32.le_toInt _, Int32.toInt_le _⟩ rfl (by decide) zw12_35 (fun M73 X74 e75 h76 => ?_)
      refine z_xrv zt243 20 rfl zzr243 ?_
      show z_ev (d + 2) 247 90 [some (.ref 19), some (.int p1), some (.int b2)] [] M73 _
      refine z_xN zt247 48 rfl rfl (fun (x77 : Int32) (h78 : x77.toInt = b2.toInt + 1) => ?_) (z_pAdd rfl rfl (by omega) (by omega))
      show z_ev (d + 2) 247 93 [some (.ref 19), some (.int p1), some (.int x77)] [] M73 _
      refine z_xP zt247 49 31 [some (.ref 19), some (.int p1), some (.int x77)] [] rfl rfl ?_
      exact ih M73 x77 X74 ⟨by omega, by omega⟩ (by omega)
    refine z_xP zt243 4 12 [some (.ref 19), some (.int b2), some (.int x40)] [.int b2, .int 1, .int x46, .ref 19] rfl rfl ?_
    refine z_xI zt243 5 rfl rfl (fun (x79 : Int32) (h80 : 1 ≤ x79.toInt ∧ x79.toInt ≤ 512) => ?_) (z_pShlB (a := 1) (b := 9) (c := 512) (r := 512) rfl rfl (by omega) (by omega) (by omega) (by omega) (by decide) (by decide) (by decide) (by decide))
    refine z_xP zt243 6 17 [some (.ref 19), some (.int b2), some (.int x40)] [.int x79, .int x46, .ref 19] rfl rfl ?_
    refine z_xI zt243 8 rfl rfl (P := fun _ => True) (fun (x81 : Int32) _ => ?_) trivial
    refine z_xpf zt243 9 rfl zo243 zzf12_275 X43 f19 (by decide) (by decide) ⟨Int32.le_toInt _, Int32.toInt_le _⟩ rfl (by decide) zw12_34 (fun M83 X84 e85 h86 => ?_)
    refine z_xP zt243 10 23 [some (.ref 19), some (.int b2), some (.int x40)] [.ref 19, .ref 19] rfl rfl ?_
    refine z_xgI zt243 11 rfl zo243 zzf12_278 X84 f19 (by decide) (by decide) rfl (fun (x88 : Int32) h87 (h89 : (-2147483648) ≤ x88.toInt) (h90 : x88.toInt ≤ 2147483647) => ?_)
    refine z_xP zt243 12 27 [some (.ref 19), some (.int b2), some (.int x40)] [.int x40, .int x88, .ref 19] rfl rfl ?_
    refine z_xZ zt243 13 rfl rfl (fun (h91 : x40.toInt ≠ 0) => ?_) (fun (h91 : x40.toInt = 0) => absurd h91 (by omega))
    refine z_xP zt243 17 37 [some (.ref 19), some (.int b2), some (.int x40)] [.int 0, .int x88, .ref 19] rfl rfl ?_
    refine z_xI zt243 18 rfl rfl (P := fun _ => True) (fun (x92 : Int32) _ => ?_) trivial
    refine z_xpf zt243 19 rfl zo243 zzf12_278 X84 f19 (by decide) (by decide) ⟨Int32.le_toInt _, Int32.toInt_le _⟩ rfl (by decide) zw12_35 (fun M94 X95 e96 h97 => ?_)
    refine z_xrv zt243 20 rfl zzr243 ?_
    show z_ev (d + 2) 247 90 [some (.ref 19), some (.int p1), some (.int b2)] [] M94 _
    refine z_xN zt247 48 rfl rfl (fun (x98 : Int32) (h99 : x98.toInt = b2.toInt + 1) => ?_) (z_pAdd rfl rfl (by omega) (by omega))
    show z_ev (d + 2) 247 93 [some (.ref 19), some (.int p1), some (.int x98)] [] M94 _
    refine z_xP zt247 49 31 [some (.ref 19), some (.int p1), some (.int x98)] [] rfl rfl ?_
    exact ih M94 x98 X95 ⟨by omega, by omega⟩ (by omega)
theorem zC247 {T : List zK} {d : Nat} {K : Option Value → zH → Prop} {p1 : Int32} {M0 : zH} (hW : z_W M0 T) (u1 : 0 ≤ p1.toInt ∧ p1.toInt ≤ 8) (kk : ∀ (M1 : zH), z_X T zw247 M0 M1 → K none M1) : z_ev (d + 2) 247 0 [some (.ref 19), some (.int p1), none] [] M0 K := by
  have X : z_X T zw247 M0 M0 := .refl hW
  refine z_xP zt247 0 2 [some (.ref 19), some (.int p1), none] [.ref 19, .int p1] rfl rfl ?_
  have f19 : T[19]? = some (.inl (12, 0, 0, 0, 0)) := X.1.k rfl (by decide)
  refine z_xgI zt247 1 rfl zo247 zzf12_245 X f19 (by decide) (by decide) rfl (fun (x2 : Int32) h1 (h3 : 0 ≤ x2.toInt) (h4 : x2.toInt ≤ 9) => ?_)
  refine z_xJ zt247 2 rfl rfl (fun (h5 : p1.toInt < x2.toInt) => ?_) (fun (h5 : x2.toInt ≤ p1.toInt) => ?_)
  · skip
    refine z_xP zt247 4 11 [some (.ref 19), some (.int p1), none] [.ref 19, .ref 19] rfl rfl ?_
    refine z_xgX (b := 40) zt247 5 rfl zo247 zzf12_70 X f19 (by decide) (by decide) rfl ?_
    refine z_xP zt247 6 15 [some (.ref 19), some (.int p1), none] [.int p1, .ref 40, .ref 19] rfl rfl ?_
    have f40 : T[40]? = some (.inr (40, 0, 9, (-2147483648), 2147483647)) := X.1.k rfl (by decide)
    refine z_xil zt247 7 rfl X f40 (by decide) (by omega) (by omega) (fun (x6 : Int32) h7 (h8 : (-2147483648) ≤ x6.toInt) (h9 : x6.toInt ≤ 2147483647) => ?_)
    refine z_xpf zt247 8 rfl zo247 zzf12_275 X f19 (by decide) (by decide) ⟨Int32.le_toInt _, Int32.toInt_le _⟩ rfl (by decide) zw12_34 (fun M10 X11 e12 h13 => ?_)
    refine z_xP zt247 9 21 [some (.ref 19), some (.int p1), none] [.ref 19, .ref 19] rfl rfl ?_
    refine z_xgX (b := 41) zt247 10 rfl zo247 zzf12_73 X11 f19 (by decide) (by decide) rfl ?_
    refine z_xP zt247 11 25 [some (.ref 19), some (.int p1), none] [.int p1, .ref 41, .ref 19] rfl rfl ?_
    have f41 : T[41]? = some (.inr (41, 0, 9, (-2147483648), 2147483647)) := X11.1.k rfl (by decide)
    refine z_xil zt247 12 rfl X11 f41 (by decide) (by omega) (by omega) (fun (x14 : Int32) h15 (h16 : (-2147483648) ≤ x14.toInt) (h17 : x14.toInt ≤ 2147483647) => ?_)
    refine z_xpf zt247 13 rfl zo247 zzf12_278 X11 f19 (by decide) (by decide) ⟨Int32.le_toInt _, Int32.toInt_le _⟩ rfl (by decide) zw12_35 (fun M18 X19 e20 h21 => ?_)
    refine z_xP zt247 14 31 [some (.ref 19), some (.int p1), some (.int 0)] [] rfl rfl ?_
    have q0 : ((0 : Int32)).toInt = 0 := rfl
    exact (zB247 u1 kk 22) M18 (0) X19 (by decide) (by omega)
  exact z_xrv zt247 3 rfl zzr247 (kk M0 X)
def zw239 : List Nat := [42, 2234, 2235]
theorem zB239 {T : List zK} {d : Nat} {K : Option Value → zH → Prop} {p1 : Int32} {M0 : zH} (u1 : 0 ≤ p1.toInt ∧ p1.toInt ≤ 19) (kk : ∀ (M1 : zH), z_X T zw239 M0 M1 → K none M1) : ∀ n : Nat, (∀ (M : zH) (b2 : Int32), z_X T zw239 M0 M → 0 ≤ b2.toInt ∧ b2.toInt ≤ 10 → ((0) * 2 + 0) * 11 + (10 - b2.toInt) < (n : Int) → z_ev (d + 4) 239 115 [some (.ref 19), some (.int p1), some (.int b2)] [] M K) := by
  intro n
  induction n with
  | zero => exact by intros; exfalso; omega
  | succ n ih =>
    intro M b2 X hh0 hE
    refine z_xP zt239 32 117 [some (.ref 19), some (.int p1), some (.int b2)] [.ref 19, .int b2] rfl rfl ?_
    have f19 : T[19]? = some (.inl (12, 0, 0, 0, 0)) := X.1.k rfl (by decide)
    refine z_xgX (b := 24) zt239 33 rfl zo239 zzf12_22 X f19 (by decide) (by decide) rfl ?_
    refine z_xP zt239 34 121 [some (.ref 19), some (.int p1), some (.int b2)] [.ref 19, .ref 24, .int b2] rfl rfl ?_
    refine z_xgI zt239 35 rfl zo239 zzf12_242 X f19 (by decide) (by decide) rfl (fun (x2 : Int32) h1 (h3 : 0 ≤ x2.toInt) (h4 : x2.toInt ≤ 7) => ?_)
    have f24 : T[24]? = some (.inr (24, 0, 8, 0, 10)) := X.1.k rfl (by decide)
    refine z_xil zt239 36 rfl X f24 (by decide) (by omega) (by omega) (fun (x5 : Int32) h6 (h7 : 0 ≤ x5.toInt) (h8 : x5.toInt ≤ 10) => ?_)
    refine z_xJ zt239 37 rfl rfl (fun (h9 : x5.toInt ≤ b2.toInt) => ?_) (fun (h9 : b2.toInt < x5.toInt) => ?_)
    · skip
      refine z_xP zt239 55 160 [some (.ref 19), some (.int p1), some (.int b2)] [.ref 19, .ref 19] rfl rfl ?_
      refine z_xgX (b := 36) zt239 56 rfl zo239 zzf12_58 X f19 (by decide) (by decide) rfl ?_
      refine z_xP zt239 57 164 [some (.ref 19), some (.int p1), some (.int b2)] [.int p1, .ref 36, .ref 19] rfl rfl ?_
      have f36 : T[36]? = some (.inr (36, 0, 20, 0, 7)) := X.1.k rfl (by decide)
      refine z_xil zt239 58 rfl X f36 (by decide) (by omega) (by omega) (fun (x10 : Int32) h11 (h12 : 0 ≤ x10.toInt) (h13 : x10.toInt ≤ 7) => ?_)
      refine z_xP zt239 59 167 [some (.ref 19), some (.int p1), some (.int b2)] [.int 6, .int x10, .ref 19] rfl rfl ?_
      refine z_xJ zt239 60 rfl rfl (fun (h14 : x10.toInt ≠ 6) => ?_) (fun (h14 : x10.toInt = 6) => ?_)
      · skip
        refine z_xP zt239 66 180 [some (.ref 19), some (.int p1), some (.int b2)] [.int (-1), .ref 19] rfl rfl ?_
        refine z_xcV (vs := [.ref 19, .int (-1)]) (r := []) (L2 := [some (.ref 19), some (.int (-1)), none, none, none, none]) zt239 67 rfl zo239 zzcV12_297 (Or.inl rfl) rfl X f19 rfl rfl rfl (Nat.le_of_ble_eq_true rfl) zzm246 (Nat.le_of_ble_eq_true rfl) rfl ?_
        have qm1 : (((-1) : Int32)).toInt = (-1) := rfl
        have qm1 : (((-1) : Int32)).toInt = (-1) := rfl
        refine zC246 X.1 (by decide) (fun M15 X16  => ?_)
        have X17 := X.go X16 (z_sb (by decide))
        show z_ev (d + 4) 239 183 [some (.ref 19), some (.int p1), some (.int b2)] [] M15 _
        refine z_xP zt239 68 199 [some (.ref 19), some (.int p1), some (.int b2)] [] rfl rfl ?_
        exact z_xrv zt239 75 rfl zzr239 (kk M15 X17)
      refine z_xP zt239 61 171 [some (.ref 19), some (.int p1), some (.int b2)] [.ref 19, .ref 19] rfl rfl ?_
      refine z_xgX (b := 38) zt239 62 rfl zo239 zzf12_64 X f19 (by decide) (by decide) rfl ?_
      refine z_xP zt239 63 175 [some (.ref 19), some (.int p1), some (.int b2)] [.int p1, .ref 38, .ref 19] rfl rfl ?_
      have f38 : T[38]? = some (.inr (38, 0, 20, 0, 8)) := X.1.k rfl (by decide)
      refine z_xil zt239 64 rfl X f38 (by decide) (by omega) (by omega) (fun (x19 : Int32) h20 (h21 : 0 ≤ x19.toInt) (h22 : x19.toInt ≤ 8) => ?_)
      refine z_xP zt239 65 180 [some (.ref 19), some (.int p1), some (.int b2)] [.int x19, .ref 19] rfl rfl ?_
      refine z_xcV (vs := [.ref 19, .int x19]) (r := []) (L2 := [some (.ref 19), some (.int x19), none, none, none, none]) zt239 67 rfl zo239 zzcV12_297 (Or.inl rfl) rfl X f19 rfl rfl rfl (Nat.le_of_ble_eq_true rfl) zzm246 (Nat.le_of_ble_eq_true rfl) rfl ?_
      refine zC246 X.1 (by omega) (fun M23 X24  => ?_)
      have X25 := X.go X24 (z_sb (by decide))
      show z_ev (d + 4) 239 183 [some (.ref 19), some (.int p1), some (.int b2)] [] M23 _
      refine z_xP zt239 68 199 [some (.ref 19), some (.int p1), some (.int b2)] [] rfl rfl ?_
      exact z_xrv zt239 75 rfl zzr239 (kk M23 X25)
    refine z_xP zt239 38 129 [some (.ref 19), some (.int p1), some (.int b2)] [.ref 19] rfl rfl ?_
    refine z_xgX (b := 42) zt239 39 rfl zo239 zzf12_76 X f19 (by decide) (by decide) rfl ?_
    refine z_xP zt239 40 134 [some (.ref 19), some (.int p1), some (.int b2)] [.ref 19, .int b2, .ref 42] rfl rfl ?_
    refine z_xgX (b := 37) zt239 41 rfl zo239 zzf12_61 X f19 (by decide) (by decide) rfl ?_
    refine z_xP zt239 42 138 [some (.ref 19), some (.int p1), some (.int b2)] [.int p1, .ref 37, .int b2, .ref 42] rfl rfl ?_
    have f37 : T[37]? = some (.inr (37, 0, 20, 0, 9)) := X.1.k rfl (by decide)
    refine z_xil zt239 43 rfl X f37 (by decide) (by omega) (by omega) (fun (x27 : Int32) h28 (h29 : 0 ≤ x27.toInt) (h30 : x27.toInt ≤ 9) => ?_)
    refine z_xP zt239 44 140 [some (.ref 19), some (.int p1), some (.int b2)] [.int b2, .int x27, .int b2, .ref 42] rfl rfl ?_
    refine z_xI zt239 45 rfl rfl (fun (x31 : Int32) (h32 : x31.toInt = x27.toInt + b2.toInt) => ?_) (z_pAdd rfl rfl (by omega) (by omega))
    refine z_xP zt239 46 142 [some (.ref 19), some (.int p1), some (.int b2)] [.ref 19, .int x31, .int b2, .ref 42] rfl rfl ?_
    refine z_xgX (b := 24) zt239 47 rfl zo239 zzf12_22 X f19 (by decide) (by decide) rfl ?_
    refine z_xP zt239 48 146 [some (.ref 19), some (.int p1), some (.int b2)] [.ref 19, .ref 24, .int x31, .int b2, .ref 42] rfl rfl ?_
    refine z_xgv zt239 49 rfl zo239 zzf12_242 X f19 (by decide) h1 ?_
    refine z_xil zt239 50 rfl X f24 (by decide) (by omega) (by omega) (fun (x33 : Int32) h34 (h35 : 0 ≤ x33.toInt) (h36 : x33.toInt ≤ 10) => ?_)
    have h37 := congrArg Int32.toInt (h34.symm.trans h6)
    refine z_xM zt239 51 rfl (by omega) (fun (x38 : Int32) (h39 : 0 ≤ x38.toInt ∧ x38.toInt < x33.toInt ∧ x38.toInt ≤ x31.toInt) => ?_) ((z_pRem rfl rfl (by omega) (by omega)).2)
    have f42 : T[42]? = some (.inr (42, 0, 10, 0, 9)) := X.1.k rfl (by decide)
    refine z_xis zt239 52 rfl X f42 (by decide) (by decide) (by omega) (by omega) (by omega) (by omega) (by decide) (fun M40 X41 e42 h43 => ?_)
    refine z_xN zt239 53 rfl rfl (fun (x44 : Int32) (h45 : x44.toInt = b2.toInt + 1) => ?_) (z_pAdd rfl rfl (by omega) (by omega))
    show z_ev (d + 4) 239 155 [some (.ref 19), some (.int p1), some (.int x44)] [] M40 _
    refine z_xP zt239 54 115 [some (.ref 19), some (.int p1), some (.int x44)] [] rfl rfl ?_
    exact ih M40 x44 X41 ⟨by omega, by omega⟩ (by omega)
theorem zC239 {T : List zK} {d : Nat} {K : Option Value → zH → Prop} {p1 : Int32} {M0 : zH} (hW : z_W M0 T) (u1 : 0 ≤ p1.toInt ∧ p1.toInt ≤ 19) (kk : ∀ (M1 : zH), z_X T zw239 M0 M1 → K none M1) : z_ev (d + 4) 239 0 [some (.ref 19), some (.int p1), none] [] M0 K := by
  have X : z_X T zw239 M0 M0 := .refl hW
  refine z_xP zt239 0 2 [some (.ref 19), some (.int p1), none] [.int 0, .ref 19] rfl rfl ?_
  have f19 : T[19]? = some (.inl (12, 0, 0, 0, 0)) := X.1.k rfl (by decide)
  have q0 : ((0 : Int32)).toInt = 0 := rfl
  refine z_xpf zt239 1 rfl zo239 zzf12_275 X f19 (by decide) (by decide) ⟨by omega, by omega⟩ rfl (by decide) zw12_34 (fun M1 X2 e3 h4 => ?_)
  refine z_xP zt239 2 7 [some (.ref 19), some (.int p1), none] [.int 0, .ref 19] rfl rfl ?_
  have q0 : ((0 : Int32)).toInt = 0 := rfl
  refine z_xpf zt239 3 rfl zo239 zzf12_278 X2 f19 (by decide) (by decide) ⟨by omega, by omega⟩ rfl (by decide) zw12_35 (fun M5 X6 e7 h8 => ?_)
  refine z_xP zt239 4 11 [some (.ref 19), some (.int p1), none] [.ref 19] rfl rfl ?_
  refine z_xgX (b := 36) zt239 5 rfl zo239 zzf12_58 X6 f19 (by decide) (by decide) rfl ?_
  refine z_xP zt239 6 15 [some (.ref 19), some (.int p1), none] [.int p1, .ref 36] rfl rfl ?_
  have f36 : T[36]? = some (.inr (36, 0, 20, 0, 7)) := X6.1.k rfl (by decide)
  refine z_xil zt239 7 rfl X6 f36 (by decide) (by omega) (by omega) (fun (x9 : Int32) h10 (h11 : 0 ≤ x9.toInt) (h12 : x9.toInt ≤ 7) => ?_)
  by_cases h13 : x9.toInt = 1
  · refine z_xSC zt239 8 (z_sub (k := 1) h13 rfl) 60 rfl rfl ?_
    refine z_xP zt239 9 62 [some (.ref 19), some (.int p1), none] [.ref 19, .ref 19] rfl rfl ?_
    refine z_xcV (vs := [.ref 19]) (r := [.ref 19]) (L2 := [some (.ref 19)]) zt239 10 rfl zo239 zzcV12_248 (Or.inl rfl) rfl X6 f19 rfl rfl rfl (Nat.le_of_ble_eq_true rfl) zzm240 (Nat.le_of_ble_eq_true rfl) rfl ?_
    refine z_xP zt240 0 2 [some (.ref 19)] [.ref 19, .int 1] rfl rfl ?_
    refine z_xgX (b := 24) zt240 1 rfl zo240 zzf12_22 X6 f19 (by decide) (by decide) rfl ?_
    refine z_xP zt240 2 6 [some (.ref 19)] [.ref 19, .ref 24, .int 1] rfl rfl ?_
    refine z_xgI zt240 3 rfl zo240 zzf12_242 X6 f19 (by decide) (by decide) rfl (fun (x15 : Int32) h14 (h16 : 0 ≤ x15.toInt) (h17 : x15.toInt ≤ 7) => ?_)
    have f24 : T[24]? = some (.inr (24, 0, 8, 0, 10)) := X6.1.k rfl (by decide)
    refine z_xil zt240 4 rfl X6 f24 (by decide) (by omega) (by omega) (fun (x18 : Int32) h19 (h20 : 0 ≤ x18.toInt) (h21 : x18.toInt ≤ 10) => ?_)
    refine z_xI zt240 5 rfl rfl (fun (x22 : Int32) (h23 : 1 ≤ x22.toInt ∧ x22.toInt ≤ 1024) => ?_) (z_pShlB (a := 1) (b := 10) (c := 1024) (r := 1024) rfl rfl (by omega) (by omega) (by omega) (by omega) (by decide) (by decide) (by decide) (by decide))
    refine z_xP zt240 6 12 [some (.ref 19)] [.int 1, .int x22] rfl rfl ?_
    refine z_xI zt240 7 rfl rfl (fun (x24 : Int32) (h25 : x24.toInt = x22.toInt - 1) => ?_) (z_pSub rfl rfl (by omega) (by omega))
    refine z_xri zt240 8 rfl zzr240 ?_
    show z_ev (d + 4) 239 65 [some (.ref 19), some (.int p1), none] [.int x24, .ref 19] M5 _
    refine z_xcV (vs := [.ref 19, .int x24]) (r := []) (L2 := [some (.ref 19), some (.int x24), none]) zt239 11 rfl zo239 zzcV12_288 (Or.inl rfl) rfl X6 f19 rfl rfl rfl (Nat.le_of_ble_eq_true rfl) zzm241 (Nat.le_of_ble_eq_true rfl) rfl ?_
    refine zC241 X6.1 (fun M26 X27  => ?_)
    have X28 := X6.go X27 (z_sb (by decide))
    show z_ev (d + 4) 239 68 [some (.ref 19), some (.int p1), none] [] M26 _
    refine z_xP zt239 12 199 [some (.ref 19), some (.int p1), none] [] rfl rfl ?_
    exact z_xrv zt239 75 rfl zzr239 (kk M26 X28)
  by_cases h30 : x9.toInt = 2
  · refine z_xSC zt239 8 (z_sub (k := 2) h30 rfl) 71 rfl rfl ?_
    refine z_xP zt239 13 72 [some (.ref 19), some (.int p1), none] [.ref 19] rfl rfl ?_
    refine z_xcV (vs := [.ref 19]) (r := []) (L2 := [some (.ref 19), none, none, none]) zt239 14 rfl zo239 zzcV12_291 (Or.inl rfl) rfl X6 f19 rfl rfl rfl (Nat.le_of_ble_eq_true rfl) zzm244 (Nat.le_of_ble_eq_true rfl) rfl ?_
    refine zC244 X6.1 (fun M31 X32  => ?_)
    have X33 := X6.go X32 (z_sb (by decide))
    show z_ev (d + 4) 239 75 [some (.ref 19), some (.int p1), none] [] M31 _
    refine z_xP zt239 15 199 [some (.ref 19), some (.int p1), none] [] rfl rfl ?_
    exact z_xrv zt239 75 rfl zzr239 (kk M31 X33)
  by_cases h35 : x9.toInt = 3
  · refine z_xSC zt239 8 (z_sub (k := 3) h35 rfl) 78 rfl rfl ?_
    refine z_xP zt239 16 79 [some (.ref 19), some (.int p1), none] [.ref 19] rfl rfl ?_
    refine z_xcV (vs := [.ref 19]) (r := []) (L2 := [some (.ref 19), none, none]) zt239 17 rfl zo239 zzcV12_294 (Or.inl rfl) rfl X6 f19 rfl rfl rfl (Nat.le_of_ble_eq_true rfl) zzm245 (Nat.le_of_ble_eq_true rfl) rfl ?_
    refine zC245 X6.1 (fun M36 X37  => ?_)
    have X38 := X6.go X37 (z_sb (by decide))
    show z_ev (d + 4) 239 82 [some (.ref 19), some (.int p1), none] [] M36 _
    refine z_xP zt239 18 199 [some (.ref 19), some (.int p1), none] [] rfl rfl ?_
    exact z_xrv zt239 75 rfl zzr239 (kk M36 X38)
  by_cases h40 : x9.toInt = 4
  · refine z_xSC zt239 8 (z_sub (k := 4) h40 rfl) 85 rfl rfl ?_
    refine z_xP zt239 19 89 [some (.ref 19), some (.int p1), none] [.int 0, .int 0, .ref 19, .ref 19] rfl rfl ?_
    refine z_xcV (vs := [.ref 19, .int 0, .int 0]) (r := [.ref 19]) (L2 := [some (.ref 19), some (.int 0), some (.int 0), none, none, none]) zt239 20 rfl zo239 zzcV12_262 (Or.inl rfl) rfl X6 f19 rfl rfl rfl (Nat.le_of_ble_eq_true rfl) zzm234 (Nat.le_of_ble_eq_true rfl) rfl ?_
    have q0 : ((0 : Int32)).toInt = 0 := rfl
    have q0 : ((0 : Int32)).toInt = 0 := rfl
    refine zC234 X6.1 (fun x43 M41 X42 h44 h45 => ?_)
    have X46 := X6.go X42 (z_sb (by decide))
    show z_ev (d + 4) 239 92 [some (.ref 19), some (.int p1), none] [.int x43, .ref 19] M41 _
    refine z_xpf zt239 21 rfl zo239 zzf12_275 X46 f19 (by decide) (by decide) ⟨Int32.le_toInt _, Int32.toInt_le _⟩ rfl (by decide) zw12_34 (fun M48 X49 e50 h51 => ?_)
    refine z_xP zt239 22 97 [some (.ref 19), some (.int p1), none] [.ref 19, .ref 19] rfl rfl ?_
    refine z_xcV (vs := [.ref 19]) (r := [.ref 19]) (L2 := [some (.ref 19)]) zt239 23 rfl zo239 zzcV12_248 (Or.inl rfl) rfl X49 f19 rfl rfl rfl (Nat.le_of_ble_eq_true rfl) zzm240 (Nat.le_of_ble_eq_true rfl) rfl ?_
    refine z_xP zt240 0 2 [some (.ref 19)] [.ref 19, .int 1] rfl rfl ?_
    refine z_xgX (b := 24) zt240 1 rfl zo240 zzf12_22 X49 f19 (by decide) (by decide) rfl ?_
    refine z_xP zt240 2 6 [some (.ref 19)] [.ref 19, .ref 24, .int 1] rfl rfl ?_
    refine z_xgI zt240 3 rfl zo240 zzf12_242 X49 f19 (by decide) (by decide) rfl (fun (x53 : Int32) h52 (h54 : 0 ≤ x53.toInt) (h55 : x53.toInt ≤ 7) => ?_)
    have f24 : T[24]? = some (.inr (24, 0, 8, 0, 10)) := X49.1.k rfl (by decide)
    refine z_xil zt240 4 rfl X49 f24 (by decide) (by omega) (by omega) (fun (x56 : Int32) h57 (h58 : 0 ≤ x56.toInt) (h59 : x56.toInt ≤ 10) => ?_)
    refine z_xI zt240 5 rfl rfl (fun (x60 : Int32) (h61 : 1 ≤ x60.toInt ∧ x60.toInt ≤ 1024) => ?_) (z_pShlB (a := 1) (b := 10) (c := 1024) (r := 1024) rfl rfl (by omega) (by omega) (by omega) (by omega) (by decide) (by decide) (by decide) (by decide))
    refine z_xP zt240 6 12 [some (.ref 19)] [.int 1, .int x60] rfl rfl ?_
    refine z_xI zt240 7 rfl rfl (fun (x62 : Int32) (h63 : x62.toInt = x60.toInt - 1) => ?_) (z_pSub rfl rfl (by omega) (by omega))
    refine z_xri zt240 8 rfl zzr240 ?_
    show z_ev (d + 4) 239 100 [some (.ref 19), some (.int p1), none] [.int x62, .ref 19] M48 _
    refine z_xP zt239 24 101 [some (.ref 19), some (.int p1), none] [.ref 19, .int x62, .ref 19] rfl rfl ?_
    refine z_xgv zt239 25 rfl zo239 zzf12_275 X49 f19 (by decide) h51 ?_
    refine z_xP zt239 26 105 [some (.ref 19), some (.int p1), none] [.int (-1), .int x43, .int x62, .ref 19] rfl rfl ?_
    refine z_xI zt239 27 rfl rfl (P := fun _ => True) (fun (x64 : Int32) _ => ?_) trivial
    refine z_xI zt239 28 rfl rfl (fun (x66 : Int32) (h67 : 0 ≤ x66.toInt ∧ x66.toInt ≤ x62.toInt) => ?_) (z_pAndL rfl (by omega))
    refine z_xpf zt239 29 rfl zo239 zzf12_278 X49 f19 (by decide) (by decide) ⟨Int32.le_toInt _, Int32.toInt_le _⟩ rfl (by decide) zw12_35 (fun M68 X69 e70 h71 => ?_)
    refine z_xP zt239 30 199 [some (.ref 19), some (.int p1), none] [] rfl rfl ?_
    exact z_xrv zt239 75 rfl zzr239 (kk M68 X69)
  by_cases h72 : x9.toInt = 5
  · refine z_xSC zt239 8 (z_sub (k := 5) h72 rfl) 113 rfl rfl ?_
    refine z_xP zt239 31 115 [some (.ref 19), some (.int p1), some (.int 0)] [] rfl rfl ?_
    have q0 : ((0 : Int32)).toInt = 0 := rfl
    exact (zB239 u1 kk 22) M5 (0) X6 (by decide) (by omega)
  by_cases h73 : x9.toInt = 6
  · refine z_xSC zt239 8 (z_sub (k := 6) h73 rfl) 113 rfl rfl ?_
    refine z_xP zt239 31 115 [some (.ref 19), some (.int p1), some (.int 0)] [] rfl rfl ?_
    have q0 : ((0 : Int32)).toInt = 0 := rfl
    exact (zB239 u1 kk 22) M5 (0) X6 (by decide) (by omega)
  by_cases h74 : x9.toInt = 7
  · refine z_xSC zt239 8 (z_sub (k := 7) h74 rfl) 186 rfl rfl ?_
    refine z_xP zt239 69 188 [some (.ref 19), some (.int p1), none] [.ref 19, .ref 19] rfl rfl ?_
    refine z_xgX (b := 38) zt239 70 rfl zo239 zzf12_64 X6 f19 (by decide) (by decide) rfl ?_
    refine z_xP zt239 71 192 [some (.ref 19), some (.int p1), none] [.int p1, .ref 38, .ref 19] rfl rfl ?_
    have f38 : T[38]? = some (.inr (38, 0, 20, 0, 8)) := X6.1.k rfl (by decide)
    refine z_xil zt239 72 rfl X6 f38 (by decide) (by omega) (by omega) (fun (x75 : Int32) h76 (h77 : 0 ≤ x75.toInt) (h78 : x75.toInt ≤ 8) => ?_)
    refine z_xcV (vs := [.ref 19, .int x75]) (r := []) (L2 := [some (.ref 19), some (.int x75), none]) zt239 73 rfl zo239 zzcV12_300 (Or.inl rfl) rfl X6 f19 rfl rfl rfl (Nat.le_of_ble_eq_true rfl) zzm247 (Nat.le_of_ble_eq_true rfl) rfl ?_
    refine zC247 X6.1 (by omega) (fun M79 X80  => ?_)
    have X81 := X6.go X80 (z_sb (by decide))
    show z_ev (d + 4) 239 196 [some (.ref 19), some (.int p1), none] [] M79 _
    refine z_xP zt239 74 199 [some (.ref 19), some (.int p1), none] [] rfl rfl ?_
    exact z_xrv zt239 75 rfl zzr239 (kk M79 X81)
  refine z_xSD zt239 8 rfl rfl (by omega) ?_
  exact z_xrv zt239 75 rfl zzr239 (kk M5 X6)
