/-! the reference reads a tie -/
def zw193 : List Nat := []
def zw194 : List Nat := [2226]
def zw192 : List Nat := [2224]
def zw203 : List Nat := [2224, 2226, 2227]
theorem zYC193 {T : List zK} {d : Nat} {K : Option Value → zH → Prop} {zp0 : Int32} {bb : Nat → Int} {nn : Nat} {nu : Int → Int} {SS : Nat} {M0 : zH} (hW : z_W M0 T) (hz0 : z_F M0 19 24 = some (.int zp0)) (bz0 : 0 ≤ zp0.toInt ∧ zp0.toInt ≤ 160) (hT : y_TR M0 bb nn nu SS) (kk : ∀ (x : Int32) (M1 : zH), z_X T zw193 M0 M1 → x.toInt = y_by bb nn M0 → M1 = M0 → (x.toInt ≠ 0 → zp0.toInt < 160) → ∀ (w0 : Int32), z_F M1 19 24 = some (.int w0) → 0 ≤ w0.toInt ∧ w0.toInt ≤ 160 → w0.toInt = zp0.toInt → K (some (.int x)) M1) : z_ev d 193 0 [some (.ref 19)] [] M0 K := by
  have X : z_X T zw193 M0 M0 := .refl hW
  refine z_xP zt193 0 1 [some (.ref 19)] [.ref 19] rfl rfl ?_
  have f19 : T[19]? = some (.inl (12, 0, 0, 0, 0)) := X.1.k rfl (by decide)
  refine z_xgv zt193 1 rfl zo193 zzf12_123 X f19 (by decide) hz0 ?_
  refine z_xP zt193 2 5 [some (.ref 19)] [.ref 19, .int zp0] rfl rfl ?_
  refine z_xgI zt193 3 rfl zo193 zzf12_126 X f19 (by decide) (by decide) rfl (fun (x2 : Int32) h1 (h3 : 0 ≤ x2.toInt) (h4 : x2.toInt ≤ 160) => ?_)
  refine z_xJ zt193 4 rfl rfl (fun (h5 : x2.toInt ≤ zp0.toInt) => ?_) (fun (h5 : zp0.toInt < x2.toInt) => ?_)
  · skip
    refine z_xP zt193 24 52 [some (.ref 19)] [.int 0] rfl rfl ?_
    have q0 : ((0 : Int32)).toInt = 0 := rfl
    have q0 : ((0 : Int32)).toInt = 0 := rfl
    exact z_xri zt193 25 rfl zzr193 (kk 0 M0 X (y_byA hT hz0 h1 (by omega)) rfl (fun hx => by omega) zp0 hz0 ⟨by omega, by omega⟩ (by omega))
  refine z_xP zt193 5 12 [some (.ref 19)] [.ref 19] rfl rfl ?_
  refine z_xgI zt193 6 rfl zo193 zzf12_129 X f19 (by decide) (by decide) rfl (fun (x7 : Int32) h6 (h8 : 0 ≤ x7.toInt) (h9 : x7.toInt ≤ 1) => ?_)
  refine z_xZ zt193 7 rfl rfl (fun (h10 : x7.toInt = 0) => ?_) (fun (h10 : x7.toInt ≠ 0) => ?_)
  · skip
    refine z_xP zt193 14 31 [some (.ref 19)] [.ref 19] rfl rfl ?_
    refine z_xgX (b := 21) zt193 15 rfl zo193 zzf12_13 X f19 (by decide) (by decide) rfl ?_
    refine z_xP zt193 16 38 [some (.ref 19)] [.ref 19, .int 160, .ref 21] rfl rfl ?_
    refine z_xgI zt193 17 rfl zo193 zzf12_133 X f19 (by decide) (by decide) rfl (fun (x12 : Int32) h11 (h13 : 0 ≤ x12.toInt) (h14 : x12.toInt ≤ 7) => ?_)
    refine z_xI zt193 18 rfl rfl (fun (x15 : Int32) (h16 : x15.toInt = 160 * x12.toInt) => ?_) (z_pMul rfl rfl (by omega) (by omega))
    refine z_xP zt193 19 43 [some (.ref 19)] [.ref 19, .int x15, .ref 21] rfl rfl ?_
    refine z_xgv zt193 20 rfl zo193 zzf12_123 X f19 (by decide) hz0 ?_
    refine z_xI zt193 21 rfl rfl (fun (x17 : Int32) (h18 : x17.toInt = x15.toInt + zp0.toInt) => ?_) (z_pAdd rfl rfl (by omega) (by omega))
    have f21 : T[21]? = some (.inr (21, 0, 1280, (-2147483648), 2147483647)) := X.1.k rfl (by decide)
    refine z_xil zt193 22 rfl X f21 (by decide) (by omega) (by omega) (fun (x19 : Int32) h20 (h21 : (-2147483648) ≤ x19.toInt) (h22 : x19.toInt ≤ 2147483647) => ?_)
    refine z_xP zt193 23 52 [some (.ref 19)] [.int x19] rfl rfl ?_
    exact z_xri zt193 25 rfl zzr193 (kk x19 M0 X (y_byC hT hz0 h1 ⟨by omega, by omega⟩ h6 (by omega) h11 ⟨by omega, by omega⟩ h20) rfl (fun hx => by omega) zp0 hz0 ⟨by omega, by omega⟩ (by omega))
  refine z_xP zt193 8 19 [some (.ref 19)] [.ref 19] rfl rfl ?_
  refine z_xgX (b := 20) zt193 9 rfl zo193 zzf12_9 X f19 (by decide) (by decide) rfl ?_
  refine z_xP zt193 10 23 [some (.ref 19)] [.ref 19, .ref 20] rfl rfl ?_
  refine z_xgv zt193 11 rfl zo193 zzf12_123 X f19 (by decide) hz0 ?_
  have f20 : T[20]? = some (.inr (20, 0, 160, (-2147483648), 2147483647)) := X.1.k rfl (by decide)
  refine z_xil zt193 12 rfl X f20 (by decide) (by omega) (by omega) (fun (x23 : Int32) h24 (h25 : (-2147483648) ≤ x23.toInt) (h26 : x23.toInt ≤ 2147483647) => ?_)
  refine z_xP zt193 13 52 [some (.ref 19)] [.int x23] rfl rfl ?_
  exact z_xri zt193 25 rfl zzr193 (kk x23 M0 X (y_byB hT hz0 h1 ⟨by omega, by omega⟩ h6 (by omega) h24) rfl (fun hx => by omega) zp0 hz0 ⟨by omega, by omega⟩ (by omega))
theorem zYC194 {T : List zK} {d : Nat} {K : Option Value → zH → Prop}  {M0 : zH} (hW : z_W M0 T)  (kk : ∀ (x : Int32) (M1 : zH), z_X T zw194 M0 M1 → 0 ≤ x.toInt → x.toInt ≤ 1 → ¬ y_ok M1 → x.toInt = 0 → K (some (.int x)) M1) : z_ev d 194 0 [some (.ref 19)] [] M0 K := by
  have X : z_X T zw194 M0 M0 := .refl hW
  refine z_xP zt194 0 2 [some (.ref 19)] [.ref 19, .ref 19] rfl rfl ?_
  have f19 : T[19]? = some (.inl (12, 0, 0, 0, 0)) := X.1.k rfl (by decide)
  refine z_xgI zt194 1 rfl zo194 zzf12_136 X f19 (by decide) (by decide) rfl (fun (x2 : Int32) h1 (h3 : (-2147483648) ≤ x2.toInt) (h4 : x2.toInt ≤ 2147483647) => ?_)
  refine z_xZ zt194 2 rfl rfl (fun (h5 : 0 ≤ x2.toInt) => ?_) (fun (h5 : x2.toInt < 0) => ?_)
  · skip
    refine z_xP zt194 6 16 [some (.ref 19)] [.ref 19, .ref 19] rfl rfl ?_
    refine z_xgv zt194 7 rfl zo194 zzf12_136 X f19 (by decide) h1 ?_
    refine z_xpf zt194 8 rfl zo194 zzf12_136 X f19 (by decide) (by decide) ⟨Int32.le_toInt _, Int32.toInt_le _⟩ rfl (by decide) zw12_26 (fun M6 X7 e8 h9 => ?_)
    refine z_xP zt194 9 23 [some (.ref 19)] [.int 0] rfl rfl ?_
    have q0 : ((0 : Int32)).toInt = 0 := rfl
    have q0 : ((0 : Int32)).toInt = 0 := rfl
    exact z_xrz zt194 10 rfl zzr194 (by decide) (by decide) (kk 0 M6 X7 (by omega) (by omega) (y_okN h9 (by omega)) (by omega))
  refine z_xP zt194 3 9 [some (.ref 19)] [.ref 19, .ref 19] rfl rfl ?_
  refine z_xgI zt194 4 rfl zo194 zzf12_123 X f19 (by decide) (by decide) rfl (fun (x11 : Int32) h10 (h12 : 0 ≤ x11.toInt) (h13 : x11.toInt ≤ 160) => ?_)
  refine z_xP zt194 5 19 [some (.ref 19)] [.int x11, .ref 19] rfl rfl ?_
  refine z_xpf zt194 8 rfl zo194 zzf12_136 X f19 (by decide) (by decide) ⟨Int32.le_toInt _, Int32.toInt_le _⟩ rfl (by decide) zw12_26 (fun M14 X15 e16 h17 => ?_)
  refine z_xP zt194 9 23 [some (.ref 19)] [.int 0] rfl rfl ?_
  have q0 : ((0 : Int32)).toInt = 0 := rfl
  have q0 : ((0 : Int32)).toInt = 0 := rfl
  exact z_xrz zt194 10 rfl zzr194 (by decide) (by decide) (kk 0 M14 X15 (by omega) (by omega) (y_okN h17 (by omega)) (by omega))
theorem zYC192 {T : List zK} {d : Nat} {K : Option Value → zH → Prop} {p1 : Int32} {zp0 : Int32} {bb : Nat → Int} {nn : Nat} {nu : Int → Int} {SS : Nat} {M0 : zH} (hW : z_W M0 T) (hz0 : z_F M0 19 24 = some (.int zp0)) (bz0 : 0 ≤ zp0.toInt ∧ zp0.toInt ≤ 160) (hT : y_TR M0 bb nn nu SS) (hc : 0 < p1.toInt) (kk : ∀ (x : Int32) (M1 : zH), z_X T zw192 M0 M1 → 0 ≤ x.toInt → x.toInt ≤ 1 → y_PS bb nn M0 M1 p1.toInt x.toInt → ∀ (w0 : Int32), z_F M1 19 24 = some (.int w0) → 0 ≤ w0.toInt ∧ w0.toInt ≤ 160 → (x.toInt = 1 → w0.toInt = zp0.toInt + 1) → (x.toInt = 0 → w0.toInt = zp0.toInt) → K (some (.int x)) M1) : z_ev (d + 1) 192 0 [some (.ref 19), some (.int p1)] [] M0 K := by
  have X : z_X T zw192 M0 M0 := .refl hW
  refine z_xP zt192 0 1 [some (.ref 19), some (.int p1)] [.ref 19] rfl rfl ?_
  have f19 : T[19]? = some (.inl (12, 0, 0, 0, 0)) := X.1.k rfl (by decide)
  refine z_xgI zt192 1 rfl zo192 zzf12_136 X f19 (by decide) (by decide) rfl (fun (x2 : Int32) h1 (h3 : (-2147483648) ≤ x2.toInt) (h4 : x2.toInt ≤ 2147483647) => ?_)
  refine z_xZ zt192 2 rfl rfl (fun (h5 : 0 ≤ x2.toInt) => ?_) (fun (h5 : x2.toInt < 0) => ?_)
  · skip
    refine z_xP zt192 7 16 [some (.ref 19), some (.int p1)] [.int 0] rfl rfl ?_
    have q0 : ((0 : Int32)).toInt = 0 := rfl
    have q0 : ((0 : Int32)).toInt = 0 := rfl
    exact z_xrz zt192 8 rfl zzr192 (by decide) (by decide) (kk 0 M0 X (by omega) (by omega) (y_PSa h1 (by omega)) zp0 hz0 ⟨by omega, by omega⟩ (by omega) (by omega))
  refine z_xP zt192 3 8 [some (.ref 19), some (.int p1)] [.ref 19] rfl rfl ?_
  refine z_xcV (vs := [.ref 19]) (r := []) (L2 := [some (.ref 19)]) zt192 4 rfl zo192 zzcV12_139 (Or.inl rfl) rfl X f19 rfl rfl rfl (Nat.le_of_ble_eq_true rfl) zzm193 (Nat.le_of_ble_eq_true rfl) rfl ?_
  refine zYC193 X.1 hz0 ⟨by omega, by omega⟩ (hT.go X.1 X rfl) (fun x15 M6 X7 h8 h9 h10 z11 h12 h13 h14 => ?_)
  have X16 := X.go X7 (z_sb (by decide))
  show z_ev (d + 1) 192 11 [some (.ref 19), some (.int p1)] [.int x15] M6 _
  have h18 := h9.symm
  subst h18
  refine z_xP zt192 5 12 [some (.ref 19), some (.int p1)] [.int p1, .int x15] rfl rfl ?_
  have h19 := z_b32 x15
  have h20 := z_b32 p1
  refine z_xJ zt192 6 rfl rfl (fun (h21 : x15.toInt = p1.toInt) => ?_) (fun (h21 : x15.toInt ≠ p1.toInt) => ?_)
  · skip
    refine z_xP zt192 9 19 [some (.ref 19), some (.int p1)] [.ref 19, .ref 19] rfl rfl ?_
    have h22 := (X7.2.f f19 (by decide) hz0)
    refine z_xgv zt192 10 rfl zo192 zzf12_123 X16 f19 (by decide) h22 ?_
    refine z_xP zt192 11 23 [some (.ref 19), some (.int p1)] [.int 1, .int zp0, .ref 19] rfl rfl ?_
    refine z_xI zt192 12 rfl rfl (fun (x23 : Int32) (h24 : x23.toInt = zp0.toInt + 1) => ?_) (z_pAdd rfl rfl (by omega) (by omega))
    refine z_xpf zt192 13 rfl zo192 zzf12_123 X16 f19 (by decide) (by decide) ⟨by omega, by omega⟩ rfl (by decide) zw12_24 (fun M25 X26 e27 h28 => ?_)
    refine z_xP zt192 14 28 [some (.ref 19), some (.int p1)] [.int 1] rfl rfl ?_
    have q1 : ((1 : Int32)).toInt = 1 := rfl
    have q1 : ((1 : Int32)).toInt = 1 := rfl
    exact z_xrz zt192 15 rfl zzr192 (by decide) (by decide) (kk 1 M25 X26 (by omega) (by omega) (y_PSd h1 (by omega) h8 ⟨by omega, by omega⟩ hz0 h28 ⟨by omega, by omega⟩ ((e27.1 19 12 0 0 0 0 26 f19 (by decide)).trans (X7.2.1 19 12 0 0 0 0 26 f19 (by decide))) ((e27.1 19 12 0 0 0 0 27 f19 (by decide)).trans (X7.2.1 19 12 0 0 0 0 27 f19 (by decide)))) x23 h28 ⟨by omega, by omega⟩ (by omega) (by omega))
  refine z_xP zt192 7 16 [some (.ref 19), some (.int p1)] [.int 0] rfl rfl ?_
  have q0 : ((0 : Int32)).toInt = 0 := rfl
  have h29 := (X7.2.f f19 (by decide) hz0)
  have q0 : ((0 : Int32)).toInt = 0 := rfl
  exact z_xrz zt192 8 rfl zzr192 (by decide) (by decide) (kk 0 M0 X16 (by omega) (by omega) (y_PSc h8 (by omega)) zp0 h29 ⟨by omega, by omega⟩ (by omega) (by omega))
theorem zYC203 {T : List zK} {d : Nat} {K : Option Value → zH → Prop} {zp0 : Int32} {M0 : zH} (hW : z_W M0 T) (hz0 : z_F M0 19 24 = some (.int zp0)) (bz0 : 0 ≤ zp0.toInt ∧ zp0.toInt ≤ 159) (kk : ∀ (x : Int32) (M1 : zH), z_X T zw203 M0 M1 → 0 ≤ x.toInt → x.toInt ≤ 1 → y_OP M0 M1 x.toInt → ∀ (w0 : Int32), z_F M1 19 24 = some (.int w0) → 0 ≤ w0.toInt ∧ w0.toInt ≤ 160 → (x.toInt = 1 → w0.toInt = zp0.toInt + 1) → (x.toInt = 0 → w0.toInt = zp0.toInt) → K (some (.int x)) M1) : z_ev (d + 1) 203 0 [some (.ref 19)] [] M0 K := by
  have X : z_X T zw203 M0 M0 := .refl hW
  refine z_xP zt203 0 1 [some (.ref 19)] [.ref 19] rfl rfl ?_
  have f19 : T[19]? = some (.inl (12, 0, 0, 0, 0)) := X.1.k rfl (by decide)
  refine z_xgI zt203 1 rfl zo203 zzf12_160 X f19 (by decide) (by decide) rfl (fun (x2 : Int32) h1 (h3 : (-2147483648) ≤ x2.toInt) (h4 : x2.toInt ≤ 2147483647) => ?_)
  refine z_xP zt203 2 6 [some (.ref 19)] [.int 6, .int x2] rfl rfl ?_
  refine z_xJ zt203 3 rfl rfl (fun (h5 : x2.toInt ≠ 6) => ?_) (fun (h5 : x2.toInt = 6) => ?_)
  · skip
    refine z_xP zt203 7 16 [some (.ref 19)] [.ref 19, .ref 19] rfl rfl ?_
    refine z_xgv zt203 8 rfl zo203 zzf12_160 X f19 (by decide) h1 ?_
    refine z_xP zt203 9 20 [some (.ref 19)] [.int 1, .int x2, .ref 19] rfl rfl ?_
    have h6 := z_b32 x2
    refine z_xI zt203 10 rfl rfl (fun (x7 : Int32) (h8 : x7 = x2 + 1) => ?_) (rfl)
    refine z_xpf zt203 11 rfl zo203 zzf12_160 X f19 (by decide) (by decide) ⟨Int32.le_toInt _, Int32.toInt_le _⟩ rfl (by decide) zw12_27 (fun M9 X10 e11 h12 => ?_)
    refine z_xP zt203 12 26 [some (.ref 19)] [.ref 19, .ref 19] rfl rfl ?_
    have h13 := (e11.f f19 (by decide) hz0)
    refine z_xgv zt203 13 rfl zo203 zzf12_123 X10 f19 (by decide) h13 ?_
    refine z_xP zt203 14 30 [some (.ref 19)] [.int 1, .int zp0, .ref 19] rfl rfl ?_
    refine z_xI zt203 15 rfl rfl (fun (x14 : Int32) (h15 : x14.toInt = zp0.toInt + 1) => ?_) (z_pAdd rfl rfl (by omega) (by omega))
    refine z_xpf zt203 16 rfl zo203 zzf12_123 X10 f19 (by decide) (by decide) ⟨by omega, by omega⟩ rfl (by decide) zw12_24 (fun M16 X17 e18 h19 => ?_)
    refine z_xP zt203 17 35 [some (.ref 19)] [.int 1] rfl rfl ?_
    have q1 : ((1 : Int32)).toInt = 1 := rfl
    have h20 := (e18.f f19 (by decide) h12)
    have q1 : ((1 : Int32)).toInt = 1 := rfl
    exact z_xrz zt203 18 rfl zzr203 (by decide) (by decide) (kk 1 M16 X17 (by omega) (by omega) (y_OPy h1 (by omega) h20 h8 hz0 h19 ⟨by omega, by omega⟩ ((e18.1 19 12 0 0 0 0 26 f19 (by decide)).trans (e11.1 19 12 0 0 0 0 26 f19 (by decide)))) x14 h19 ⟨by omega, by omega⟩ (by omega) (by omega))
  refine z_xP zt203 4 10 [some (.ref 19)] [.ref 19] rfl rfl ?_
  refine z_xcV (vs := [.ref 19]) (r := []) (L2 := [some (.ref 19)]) zt203 5 rfl zo203 zzcV12_163 (Or.inl rfl) rfl X f19 rfl rfl rfl (Nat.le_of_ble_eq_true rfl) zzm194 (Nat.le_of_ble_eq_true rfl) rfl ?_
  refine zYC194 X.1 (fun x25 M21 X22 h26 h27 h23 h24 => ?_)
  have X28 := X.go X22 (z_sb (by decide))
  show z_ev (d + 1) 203 13 [some (.ref 19)] [.int x25] M21 _
  have h30 := (X22.2.f f19 (by decide) hz0)
  exact z_xrz zt203 6 rfl zzr203 (by omega) (by omega) (kk x25 M21 X28 (by omega) (by omega) (y_OPn h1 (by omega) h23 (by omega)) zp0 h30 ⟨by omega, by omega⟩ (by omega) (by omega))
theorem zYB195 {T : List zK} {d : Nat} {K : Option Value → zH → Prop} {p1 : Int32} {zp0 : Int32} {M0 : zH} (hz0 : z_F M0 19 22 = some (.int zp0)) (bz0 : 0 ≤ zp0.toInt ∧ zp0.toInt ≤ 7) (hL : z_GL M0) (kk : ∀ (x : Int32) (M1 : zH), z_X T zw195 M0 M1 → (-1) ≤ x.toInt → x.toInt ≤ 9 → (x.toInt < 0 ∨ (p1.toInt ≠ 0 ∧ x.toInt < 10)) → (x.toInt < 0 → z_NQ M0 zp0 p1 (z_Ar M0 24 zp0.toNatClampNeg).toInt) → (0 ≤ x.toInt → x.toInt < (z_Ar M0 24 zp0.toNatClampNeg).toInt ∧ z_Ar M0 23 (10 * zp0.toInt.toNat + x.toInt.toNat) = p1) → M1 = M0 → ∀ (w0 : Int32), z_F M1 19 22 = some (.int w0) → 0 ≤ w0.toInt ∧ w0.toInt ≤ 7 → w0.toInt = zp0.toInt → K (some (.int x)) M1) : ∀ n : Nat, (∀ (M : zH) (b2 : Int32) (z0 : Int32) (z1 : Int32), z_X T zw195 M0 M → 0 ≤ b2.toInt ∧ b2.toInt ≤ 10 → z_F M 19 22 = some (.int z0) → 0 ≤ z0.toInt ∧ z0.toInt ≤ 7 → z_Ar M 24 z0.toNatClampNeg = z1 → 0 ≤ z1.toInt ∧ z1.toInt ≤ 10 → z0.toInt = zp0.toInt → 0 ≤ b2.toInt → z_NQ M z0 p1 b2.toInt → M = M0 → ((0) * 2 + 0) * 11 + (10 - b2.toInt) < (n : Int) → z_ev d 195 2 [some (.ref 19), some (.int p1), some (.int b2)] [] M K) := by
  intro n
  induction n with
  | zero => exact by intros; exfalso; omega
  | succ n ih =>
    intro M b2 z0 z1 X hh0 hp0 hh2 hp1 hh4 hh5 hh6 hq hM hE
    refine z_xP zt195 1 4 [some (.ref 19), some (.int p1), some (.int b2)] [.ref 19, .int b2] rfl rfl ?_
    have f19 : T[19]? = some (.inl (12, 0, 0, 0, 0)) := X.1.k rfl (by decide)
    refine z_xgX (b := 24) zt195 2 rfl zo195 zzf12_22 X f19 (by decide) (by decide) rfl ?_
    refine z_xP zt195 3 8 [some (.ref 19), some (.int p1), some (.int b2)] [.ref 19, .ref 24, .int b2] rfl rfl ?_
    refine z_xgv zt195 4 rfl zo195 zzf12_133 X f19 (by decide) hp0 ?_
    have f24 : T[24]? = some (.inr (24, 0, 8, 0, 10)) := X.1.k rfl (by decide)
    refine z_xil zt195 5 rfl X f24 (by decide) (by omega) (by omega) (fun (x1 : Int32) h2 (h3 : 0 ≤ x1.toInt) (h4 : x1.toInt ≤ 10) => ?_)
    have h5 := congrArg Int32.toInt (h2.symm.trans hp1)
    refine z_xJ zt195 6 rfl rfl (fun (h6 : x1.toInt ≤ b2.toInt) => ?_) (fun (h6 : b2.toInt < x1.toInt) => ?_)
    · skip
      refine z_xP zt195 21 42 [some (.ref 19), some (.int p1), some (.int b2)] [.int (-1)] rfl rfl ?_
      have f23 : T[23]? = some (.inr (23, 0, 80, (-2147483648), 2147483647)) := X.1.k rfl (by decide)
      obtain rfl : z0 = zp0 := z_sub (c := zp0.toInt) (by omega) rfl
      have h7 : (z_Ar M0 24 z0.toNatClampNeg).toInt = z1.toInt := by rw [← X.2.a f24 (by decide)]; exact congrArg Int32.toInt hp1
      have qm1 : (((-1) : Int32)).toInt = (-1) := rfl
      have qm1 : (((-1) : Int32)).toInt = (-1) := rfl
      exact z_xri zt195 22 rfl zzr195 (kk (-1) M X (by omega) (by omega) (by omega) (fun _ => z_NQm hq (X.2.a f23 (by decide)).symm (by omega)) (fun hx => absurd hx (by omega)) hM z0 hp0 ⟨by omega, by omega⟩ (by omega))
    refine z_xP zt195 7 16 [some (.ref 19), some (.int p1), some (.int b2)] [.ref 19] rfl rfl ?_
    refine z_xgX (b := 23) zt195 8 rfl zo195 zzf12_19 X f19 (by decide) (by decide) rfl ?_
    refine z_xP zt195 9 22 [some (.ref 19), some (.int p1), some (.int b2)] [.ref 19, .int 10, .ref 23] rfl rfl ?_
    refine z_xgv zt195 10 rfl zo195 zzf12_133 X f19 (by decide) hp0 ?_
    refine z_xI zt195 11 rfl rfl (fun (x9 : Int32) (h10 : x9.toInt = 10 * z0.toInt) => ?_) (z_pMul rfl rfl (by omega) (by omega))
    refine z_xP zt195 12 27 [some (.ref 19), some (.int p1), some (.int b2)] [.int b2, .int x9, .ref 23] rfl rfl ?_
    refine z_xI zt195 13 rfl rfl (fun (x11 : Int32) (h12 : x11.toInt = x9.toInt + b2.toInt) => ?_) (z_pAdd rfl rfl (by omega) (by omega))
    have f23 : T[23]? = some (.inr (23, 0, 80, (-2147483648), 2147483647)) := X.1.k rfl (by decide)
    refine z_xil zt195 14 rfl X f23 (by decide) (by omega) (by omega) (fun (x13 : Int32) h14 (h15 : (-2147483648) ≤ x13.toInt) (h16 : x13.toInt ≤ 2147483647) => ?_)
    have h17 := z_GLu (z_GL.go hL X (by decide)) (r := z0) (q := b2) (i := x11) hp1 (by omega) (by omega) (by omega) (by omega) (by omega) h14
    refine z_xP zt195 15 30 [some (.ref 19), some (.int p1), some (.int b2)] [.int p1, .int x13] rfl rfl ?_
    have h18 := z_b32 x13
    have h19 := z_b32 p1
    refine z_xJ zt195 16 rfl rfl (fun (h20 : x13.toInt ≠ p1.toInt) => ?_) (fun (h20 : x13.toInt = p1.toInt) => ?_)
    · skip
      refine z_xN zt195 19 rfl rfl (fun (x21 : Int32) (h22 : x21.toInt = b2.toInt + 1) => ?_) (z_pAdd rfl rfl (by omega) (by omega))
      show z_ev d 195 38 [some (.ref 19), some (.int p1), some (.int x21)] [] M _
      refine z_xP zt195 20 2 [some (.ref 19), some (.int p1), some (.int x21)] [] rfl rfl ?_
      exact ih M x21 z0 z1 X ⟨by omega, by omega⟩ hp0 ⟨by omega, by omega⟩ hp1 ⟨by omega, by omega⟩ (by omega) (by omega) (z_NQs hq h14 (by omega) (by omega) (by omega) (by omega) (by omega)) hM (by omega)
    refine z_xP zt195 17 34 [some (.ref 19), some (.int p1), some (.int b2)] [.int b2] rfl rfl ?_
    have h23 : (z_Ar M0 24 zp0.toNatClampNeg).toInt = z1.toInt := by rw [← X.2.a f24 (by decide), ← (z_sub (c := zp0.toInt) (by omega) rfl : z0 = zp0)]; exact congrArg Int32.toInt hp1
    exact z_xri zt195 18 rfl zzr195 (kk b2 M X (by omega) (by omega) (by omega) (fun hx => absurd hx (by omega)) (fun _ => ⟨by omega, y_let (X.2.a f23 (by decide)) h14 (by omega) (by omega)⟩) hM z0 hp0 ⟨by omega, by omega⟩ (by omega))
theorem zYC195 {T : List zK} {d : Nat} {K : Option Value → zH → Prop} {p1 : Int32} {zp0 : Int32} {M0 : zH} (hW : z_W M0 T) (hz0 : z_F M0 19 22 = some (.int zp0)) (bz0 : 0 ≤ zp0.toInt ∧ zp0.toInt ≤ 7) (hL : z_GL M0) (kk : ∀ (x : Int32) (M1 : zH), z_X T zw195 M0 M1 → (-1) ≤ x.toInt → x.toInt ≤ 9 → (x.toInt < 0 ∨ (p1.toInt ≠ 0 ∧ x.toInt < 10)) → (x.toInt < 0 → z_NQ M0 zp0 p1 (z_Ar M0 24 zp0.toNatClampNeg).toInt) → (0 ≤ x.toInt → x.toInt < (z_Ar M0 24 zp0.toNatClampNeg).toInt ∧ z_Ar M0 23 (10 * zp0.toInt.toNat + x.toInt.toNat) = p1) → M1 = M0 → ∀ (w0 : Int32), z_F M1 19 22 = some (.int w0) → 0 ≤ w0.toInt ∧ w0.toInt ≤ 7 → w0.toInt = zp0.toInt → K (some (.int x)) M1) : z_ev d 195 0 [some (.ref 19), some (.int p1), none] [] M0 K := by
  have X : z_X T zw195 M0 M0 := .refl hW
  refine z_xP zt195 0 2 [some (.ref 19), some (.int p1), some (.int 0)] [] rfl rfl ?_
  have f19 : T[19]? = some (.inl (12, 0, 0, 0, 0)) := X.1.k rfl (by decide)
  have f24 : T[24]? = some (.inr (24, 0, 8, 0, 10)) := X.1.k rfl (by decide)
  obtain ⟨x1, h2, h3, h4⟩ := z_W.ae (x := zp0) X.1 f24 (by decide) (by omega) (by omega)
  have q0 : ((0 : Int32)).toInt = 0 := rfl
  exact (zYB195 hz0 bz0 hL kk 22) M0 (0) zp0 x1 X (by decide) hz0 ⟨by omega, by omega⟩ h2 ⟨by omega, by omega⟩ (by omega) (by omega) (z_NQ0 (by omega)) rfl (by omega)
def zYQ198 (T : List zK) (N : Nat) : Prop := ∀ {d : Nat} {K : Option Value → zH → Prop} {zp0 : Int32} {bb : Nat → Int} {nn : Nat} {nu : Int → Int} {SS : Nat}  {M0 : zH} (hW : z_W M0 T) (hz0 : z_F M0 19 24 = some (.int zp0)) (bz0 : 0 ≤ zp0.toInt ∧ zp0.toInt ≤ 160) (hL : z_GL M0) (hT : y_TR M0 bb nn nu SS) (hm : 6 * (160 - zp0.toInt) + 5 < (N : Int)) (hd : 6 * (160 - zp0.toInt) + 5 ≤ (d : Int)) (kk : ∀ (x : Int32) (M1 : zH), z_X T zw198 M0 M1 → 0 ≤ x.toInt → x.toInt ≤ 1 → y_PC nn M0 M1 (z_ti bb nn (z_one bb nn nu (6 - (y_op M0).toNat)) (y_at M0)) (fun f => y_bv x.toInt f SS) → ∀ (w0 : Int32), z_F M1 19 24 = some (.int w0) → 0 ≤ w0.toInt ∧ w0.toInt ≤ 160 → zp0.toInt ≤ w0.toInt → K (some (.int x)) M1), z_ev (d + 6) 198 0 [some (.ref 19), none, none] [] M0 K
def zYQ199 (T : List zK) (N : Nat) : Prop := ∀ {d : Nat} {K : Option Value → zH → Prop} {zp0 : Int32} {bb : Nat → Int} {nn : Nat} {nu : Int → Int} {SS : Nat}  {M0 : zH} (hW : z_W M0 T) (hz0 : z_F M0 19 24 = some (.int zp0)) (bz0 : 0 ≤ zp0.toInt ∧ zp0.toInt ≤ 160) (hL : z_GL M0) (hT : y_TR M0 bb nn nu SS) (hm : 6 * (160 - zp0.toInt) + 4 < (N : Int)) (hd : 6 * (160 - zp0.toInt) + 4 ≤ (d : Int)) (kk : ∀ (x : Int32) (M1 : zH), z_X T zw199 M0 M1 → 0 ≤ x.toInt → x.toInt ≤ 1 → y_PC nn M0 M1 (z_im bb nn (z_one bb nn nu (6 - (y_op M0).toNat)) (y_at M0)) (fun f => y_bv x.toInt f SS) → ∀ (w0 : Int32), z_F M1 19 24 = some (.int w0) → 0 ≤ w0.toInt ∧ w0.toInt ≤ 160 → zp0.toInt ≤ w0.toInt → K (some (.int x)) M1), z_ev (d + 6) 199 0 [some (.ref 19), none, none] [] M0 K
def zYQ200 (T : List zK) (N : Nat) : Prop := ∀ {d : Nat} {K : Option Value → zH → Prop} {zp0 : Int32} {bb : Nat → Int} {nn : Nat} {nu : Int → Int} {SS : Nat}  {M0 : zH} (hW : z_W M0 T) (hz0 : z_F M0 19 24 = some (.int zp0)) (bz0 : 0 ≤ zp0.toInt ∧ zp0.toInt ≤ 160) (hL : z_GL M0) (hT : y_TR M0 bb nn nu SS) (hm : 6 * (160 - zp0.toInt) + 3 < (N : Int)) (hd : 6 * (160 - zp0.toInt) + 3 ≤ (d : Int)) (kk : ∀ (x : Int32) (M1 : zH), z_X T zw200 M0 M1 → 0 ≤ x.toInt → x.toInt ≤ 1 → y_PC nn M0 M1 (z_ei bb nn (z_one bb nn nu (6 - (y_op M0).toNat)) (y_at M0)) (fun f => y_bv x.toInt f SS) → ∀ (w0 : Int32), z_F M1 19 24 = some (.int w0) → 0 ≤ w0.toInt ∧ w0.toInt ≤ 160 → zp0.toInt ≤ w0.toInt → K (some (.int x)) M1), z_ev (d + 6) 200 0 [some (.ref 19), none, none] [] M0 K
def zYQ201 (T : List zK) (N : Nat) : Prop := ∀ {d : Nat} {K : Option Value → zH → Prop} {zp0 : Int32} {bb : Nat → Int} {nn : Nat} {nu : Int → Int} {SS : Nat}  {M0 : zH} (hW : z_W M0 T) (hz0 : z_F M0 19 24 = some (.int zp0)) (bz0 : 0 ≤ zp0.toInt ∧ zp0.toInt ≤ 160) (hL : z_GL M0) (hT : y_TR M0 bb nn nu SS) (hm : 6 * (160 - zp0.toInt) + 2 < (N : Int)) (hd : 6 * (160 - zp0.toInt) + 2 ≤ (d : Int)) (kk : ∀ (x : Int32) (M1 : zH), z_X T zw201 M0 M1 → 0 ≤ x.toInt → x.toInt ≤ 1 → y_PC nn M0 M1 (z_bo bb nn (z_one bb nn nu (6 - (y_op M0).toNat)) (y_at M0)) (fun f => y_bv x.toInt f SS) → ∀ (w0 : Int32), z_F M1 19 24 = some (.int w0) → 0 ≤ w0.toInt ∧ w0.toInt ≤ 160 → zp0.toInt ≤ w0.toInt → K (some (.int x)) M1), z_ev (d + 6) 201 0 [some (.ref 19), none, none] [] M0 K
def zYQ202 (T : List zK) (N : Nat) : Prop := ∀ {d : Nat} {K : Option Value → zH → Prop} {zp0 : Int32} {bb : Nat → Int} {nn : Nat} {nu : Int → Int} {SS : Nat}  {M0 : zH} (hW : z_W M0 T) (hz0 : z_F M0 19 24 = some (.int zp0)) (bz0 : 0 ≤ zp0.toInt ∧ zp0.toInt ≤ 160) (hL : z_GL M0) (hT : y_TR M0 bb nn nu SS) (hm : 6 * (160 - zp0.toInt) + 1 < (N : Int)) (hd : 6 * (160 - zp0.toInt) + 1 ≤ (d : Int)) (kk : ∀ (x : Int32) (M1 : zH), z_X T zw202 M0 M1 → 0 ≤ x.toInt → x.toInt ≤ 1 → y_PC nn M0 M1 (z_one bb nn nu (6 - (y_op M0).toNat) (y_at M0)) (fun f => y_bv x.toInt f SS) → ∀ (w0 : Int32), z_F M1 19 24 = some (.int w0) → 0 ≤ w0.toInt ∧ w0.toInt ≤ 160 → zp0.toInt ≤ w0.toInt → K (some (.int x)) M1), z_ev (d + 6) 202 0 [some (.ref 19), none, none] [] M0 K
def zYQ204 (T : List zK) (N : Nat) : Prop := ∀ {d : Nat} {K : Option Value → zH → Prop} {p1 : Int32} {zp0 : Int32} {bb : Nat → Int} {nn : Nat} {nu : Int → Int} {SS : Nat}  {M0 : zH} (hW : z_W M0 T) (u1 : 1 ≤ p1.toInt ∧ p1.toInt ≤ 9) (hz0 : z_F M0 19 24 = some (.int zp0)) (bz0 : 0 ≤ zp0.toInt ∧ zp0.toInt ≤ 159) (hL : z_GL M0) (hT : y_TR M0 bb nn nu SS) (hm : 6 * (160 - zp0.toInt) + 0 < (N : Int)) (hd : 6 * (160 - zp0.toInt) + 0 ≤ (d : Int)) (kk : ∀ (x : Int32) (M1 : zH), z_X T zw204 M0 M1 → 0 ≤ x.toInt → x.toInt ≤ 1 → y_PC nn M0 M1 (y_lea bb nn nu M0 p1.toInt) (fun f => y_bv x.toInt f SS) → ∀ (w0 : Int32), z_F M1 19 24 = some (.int w0) → 0 ≤ w0.toInt ∧ w0.toInt ≤ 160 → zp0.toInt ≤ w0.toInt → K (some (.int x)) M1), z_ev (d + 6) 204 0 [some (.ref 19), some (.int p1), none, none] [] M0 K
theorem zYB198 {T : List zK} {d : Nat} {K : Option Value → zH → Prop} {zp0 : Int32} {bb : Nat → Int} {nn : Nat} {nu : Int → Int} {SS : Nat} {N : Nat} {M0 : zH} (hz0 : z_F M0 19 24 = some (.int zp0)) (bz0 : 0 ≤ zp0.toInt ∧ zp0.toInt ≤ 160) (hL : z_GL M0) (hT : y_TR M0 bb nn nu SS) (ih198 : zYQ198 T N) (ih199 : zYQ199 T N) (ih200 : zYQ200 T N) (ih201 : zYQ201 T N) (ih202 : zYQ202 T N) (ih204 : zYQ204 T N) (hm : 6 * (160 - zp0.toInt) + 5 < (N : Int) + 1) (hd : 6 * (160 - zp0.toInt) + 5 ≤ (d : Int)) (kk : ∀ (x : Int32) (M1 : zH), z_X T zw198 M0 M1 → 0 ≤ x.toInt → x.toInt ≤ 1 → y_PC nn M0 M1 (z_ti bb nn (z_one bb nn nu (6 - (y_op M0).toNat)) (y_at M0)) (fun f => y_bv x.toInt f SS) → ∀ (w0 : Int32), z_F M1 19 24 = some (.int w0) → 0 ≤ w0.toInt ∧ w0.toInt ≤ 160 → zp0.toInt ≤ w0.toInt → K (some (.int x)) M1) : ∀ n : Nat, (∀ (M : zH) (b1 : Int32) (o2 : Option Value) (z0 : Int32), z_X T zw198 M0 M → 0 ≤ b1.toInt ∧ b1.toInt ≤ 1 → z_F M 19 24 = some (.int z0) → 0 ≤ z0.toInt ∧ z0.toInt ≤ 160 → zp0.toInt ≤ z0.toInt → y_AI bb nn nu SS M0 M b1.toInt → ((0) * 2 + 0) * 161 + (160 - z0.toInt) < (n : Int) → z_ev (d + 6) 198 5 [some (.ref 19), some (.int b1), o2] [] M K) := by
  intro n
  induction n with
  | zero => exact by intros; exfalso; omega
  | succ n ih =>
    intro M b1 o2 z0 X hh0 hp0 hh2 hh3 hI hE
    refine z_xP zt198 3 8 [some (.ref 19), some (.int b1), o2] [.int 61, .ref 19] rfl rfl ?_
    have f19 : T[19]? = some (.inl (12, 0, 0, 0, 0)) := X.1.k rfl (by decide)
    refine z_xcV (vs := [.ref 19, .int 61]) (r := []) (L2 := [some (.ref 19), some (.int 61)]) zt198 4 rfl zo198 zzcV12_147 (Or.inl rfl) rfl X f19 rfl rfl rfl (Nat.le_of_ble_eq_true rfl) zzm192 (Nat.le_of_ble_eq_true rfl) rfl ?_
    have q61 : ((61 : Int32)).toInt = 61 := rfl
    have q61 : ((61 : Int32)).toInt = 61 := rfl
    have q61 : ((61 : Int32)).toInt = 61 := rfl
    refine zYC192 X.1 hp0 ⟨by omega, by omega⟩ (hT.go X.1 X rfl) (by omega) (fun x9 M1 X2 h10 h11 h3 z4 h5 h6 h7 h8 => ?_)
    have X12 := X.go X2 (z_sb (by decide))
    show z_ev (d + 6) 198 11 [some (.ref 19), some (.int b1), o2] [.int x9] M1 _
    refine z_xZ zt198 5 rfl rfl (fun (h14 : x9.toInt = 0) => ?_) (fun (h14 : x9.toInt ≠ 0) => ?_)
    · skip
      refine z_xP zt198 13 34 [some (.ref 19), some (.int b1), o2] [.int b1] rfl rfl ?_
      exact z_xrz zt198 14 rfl zzr198 (by omega) (by omega) (kk b1 M1 X12 (by omega) (by omega) (y_AIe hI h3 (by omega)) z4 h5 ⟨by omega, by omega⟩ (by omega))
    refine z_xP zt198 6 15 [some (.ref 19), some (.int b1), o2] [.ref 19] rfl rfl ?_
    obtain ⟨d15, hdd15⟩ : ∃ e, d = e + 1 := ⟨d - 1, by omega⟩
    subst hdd15
    refine z_xcV (vs := [.ref 19]) (r := []) (L2 := [some (.ref 19), none, none]) zt198 7 rfl zo198 zzcV12_143 (Or.inl rfl) rfl X12 f19 rfl rfl rfl (Nat.le_of_ble_eq_true rfl) zzm199 (Nat.le_of_ble_eq_true rfl) rfl ?_
    refine ih199 X12.1 h5 ⟨by omega, by omega⟩ (z_GL.go hL X12 (by decide)) (hT.go X12.1 X12 rfl) (by omega) (by omega) (fun x23 M16 X17 h24 h25 h18 z19 h20 h21 h22 => ?_)
    have X26 := X12.go X17 (z_sb (by decide))
    show z_ev (d15 + 1 + 6) 198 18 [some (.ref 19), some (.int b1), o2] [.int x23] M16 _
    refine z_xP zt198 8 21 [some (.ref 19), some (.int b1), some (.int x23)] [.int x23, .int b1] rfl rfl ?_
    refine z_xJ zt198 9 rfl rfl (fun (h28 : b1.toInt ≠ x23.toInt) => ?_) (fun (h28 : b1.toInt = x23.toInt) => ?_)
    · skip
      refine z_xP zt198 11 29 [some (.ref 19), some (.int b1), some (.int x23)] [.int 0] rfl rfl ?_
      refine z_xP zt198 12 5 [some (.ref 19), some (.int 0), some (.int x23)] [] rfl rfl ?_
      have q0 : ((0 : Int32)).toInt = 0 := rfl
      have q0 : ((0 : Int32)).toInt = 0 := rfl
      exact ih M16 (0) (some (.int x23)) z19 X26 (by decide) h20 ⟨by omega, by omega⟩ (by omega) (y_AIs hI h3 (by omega) h18 (by omega)) (by omega)
    refine z_xP zt198 10 29 [some (.ref 19), some (.int b1), some (.int x23)] [.int 1] rfl rfl ?_
    refine z_xP zt198 12 5 [some (.ref 19), some (.int 1), some (.int x23)] [] rfl rfl ?_
    have q1 : ((1 : Int32)).toInt = 1 := rfl
    have q1 : ((1 : Int32)).toInt = 1 := rfl
    exact ih M16 (1) (some (.int x23)) z19 X26 (by decide) h20 ⟨by omega, by omega⟩ (by omega) (y_AIs hI h3 (by omega) h18 (by omega)) (by omega)
theorem zYC198r {T : List zK} {d : Nat} {K : Option Value → zH → Prop} {zp0 : Int32} {bb : Nat → Int} {nn : Nat} {nu : Int → Int} {SS : Nat} {N : Nat} {M0 : zH} (hW : z_W M0 T) (hz0 : z_F M0 19 24 = some (.int zp0)) (bz0 : 0 ≤ zp0.toInt ∧ zp0.toInt ≤ 160) (hL : z_GL M0) (hT : y_TR M0 bb nn nu SS) (ih198 : zYQ198 T N) (ih199 : zYQ199 T N) (ih200 : zYQ200 T N) (ih201 : zYQ201 T N) (ih202 : zYQ202 T N) (ih204 : zYQ204 T N) (hm : 6 * (160 - zp0.toInt) + 5 < (N : Int) + 1) (hd : 6 * (160 - zp0.toInt) + 5 ≤ (d : Int)) (kk : ∀ (x : Int32) (M1 : zH), z_X T zw198 M0 M1 → 0 ≤ x.toInt → x.toInt ≤ 1 → y_PC nn M0 M1 (z_ti bb nn (z_one bb nn nu (6 - (y_op M0).toNat)) (y_at M0)) (fun f => y_bv x.toInt f SS) → ∀ (w0 : Int32), z_F M1 19 24 = some (.int w0) → 0 ≤ w0.toInt ∧ w0.toInt ≤ 160 → zp0.toInt ≤ w0.toInt → K (some (.int x)) M1) : z_ev (d + 6) 198 0 [some (.ref 19), none, none] [] M0 K := by
  have X : z_X T zw198 M0 M0 := .refl hW
  refine z_xP zt198 0 1 [some (.ref 19), none, none] [.ref 19] rfl rfl ?_
  have f19 : T[19]? = some (.inl (12, 0, 0, 0, 0)) := X.1.k rfl (by decide)
  obtain ⟨d1, hdd1⟩ : ∃ e, d = e + 1 := ⟨d - 1, by omega⟩
  subst hdd1
  refine z_xcV (vs := [.ref 19]) (r := []) (L2 := [some (.ref 19), none, none]) zt198 1 rfl zo198 zzcV12_143 (Or.inl rfl) rfl X f19 rfl rfl rfl (Nat.le_of_ble_eq_true rfl) zzm199 (Nat.le_of_ble_eq_true rfl) rfl ?_
  refine ih199 X.1 hz0 ⟨by omega, by omega⟩ (z_GL.go hL X (by decide)) (hT.go X.1 X rfl) (by omega) (by omega) (fun x9 M2 X3 h10 h11 h4 z5 h6 h7 h8 => ?_)
  have X12 := X.go X3 (z_sb (by decide))
  show z_ev (d1 + 1 + 6) 198 4 [some (.ref 19), none, none] [.int x9] M2 _
  refine z_xP zt198 2 5 [some (.ref 19), some (.int x9), none] [] rfl rfl ?_
  exact (zYB198 hz0 bz0 hL hT ih198 ih199 ih200 ih201 ih202 ih204 hm hd kk 322) M2 x9 none z5 X12 ⟨by omega, by omega⟩ h6 ⟨by omega, by omega⟩ (by omega) (y_AI0 h4) (by omega)
theorem zYC199r {T : List zK} {d : Nat} {K : Option Value → zH → Prop} {zp0 : Int32} {bb : Nat → Int} {nn : Nat} {nu : Int → Int} {SS : Nat} {N : Nat} {M0 : zH} (hW : z_W M0 T) (hz0 : z_F M0 19 24 = some (.int zp0)) (bz0 : 0 ≤ zp0.toInt ∧ zp0.toInt ≤ 160) (hL : z_GL M0) (hT : y_TR M0 bb nn nu SS) (ih198 : zYQ198 T N) (ih199 : zYQ199 T N) (ih200 : zYQ200 T N) (ih201 : zYQ201 T N) (ih202 : zYQ202 T N) (ih204 : zYQ204 T N) (hm : 6 * (160 - zp0.toInt) + 4 < (N : Int) + 1) (hd : 6 * (160 - zp0.toInt) + 4 ≤ (d : Int)) (kk : ∀ (x : Int32) (M1 : zH), z_X T zw199 M0 M1 → 0 ≤ x.toInt → x.toInt ≤ 1 → y_PC nn M0 M1 (z_im bb nn (z_one bb nn nu (6 - (y_op M0).toNat)) (y_at M0)) (fun f => y_bv x.toInt f SS) → ∀ (w0 : Int32), z_F M1 19 24 = some (.int w0) → 0 ≤ w0.toInt ∧ w0.toInt ≤ 160 → zp0.toInt ≤ w0.toInt → K (some (.int x)) M1) : z_ev (d + 6) 199 0 [some (.ref 19), none, none] [] M0 K := by
  have X : z_X T zw199 M0 M0 := .refl hW
  refine z_xP zt199 0 1 [some (.ref 19), none, none] [.ref 19] rfl rfl ?_
  have f19 : T[19]? = some (.inl (12, 0, 0, 0, 0)) := X.1.k rfl (by decide)
  obtain ⟨d1, hdd1⟩ : ∃ e, d = e + 1 := ⟨d - 1, by omega⟩
  subst hdd1
  refine z_xcV (vs := [.ref 19]) (r := []) (L2 := [some (.ref 19), none, none]) zt199 1 rfl zo199 zzcV12_151 (Or.inl rfl) rfl X f19 rfl rfl rfl (Nat.le_of_ble_eq_true rfl) zzm200 (Nat.le_of_ble_eq_true rfl) rfl ?_
  refine ih200 X.1 hz0 ⟨by omega, by omega⟩ (z_GL.go hL X (by decide)) (hT.go X.1 X rfl) (by omega) (by omega) (fun x9 M2 X3 h10 h11 h4 z5 h6 h7 h8 => ?_)
  have X12 := X.go X3 (z_sb (by decide))
  show z_ev (d1 + 1 + 6) 199 4 [some (.ref 19), none, none] [.int x9] M2 _
  refine z_xP zt199 2 8 [some (.ref 19), some (.int x9), none] [.int 62, .ref 19] rfl rfl ?_
  refine z_xcV (vs := [.ref 19, .int 62]) (r := []) (L2 := [some (.ref 19), some (.int 62)]) zt199 3 rfl zo199 zzcV12_147 (Or.inl rfl) rfl X12 f19 rfl rfl rfl (Nat.le_of_ble_eq_true rfl) zzm192 (Nat.le_of_ble_eq_true rfl) rfl ?_
  have q62 : ((62 : Int32)).toInt = 62 := rfl
  have q62 : ((62 : Int32)).toInt = 62 := rfl
  have q62 : ((62 : Int32)).toInt = 62 := rfl
  refine zYC192 X12.1 h6 ⟨by omega, by omega⟩ (hT.go X12.1 X12 rfl) (by omega) (fun x22 M14 X15 h23 h24 h16 z17 h18 h19 h20 h21 => ?_)
  have X25 := X12.go X15 (z_sb (by decide))
  show z_ev (d1 + 1 + 6) 199 11 [some (.ref 19), some (.int x9), none] [.int x22] M14 _
  refine z_xZ zt199 4 rfl rfl (fun (h27 : x22.toInt = 0) => ?_) (fun (h27 : x22.toInt ≠ 0) => ?_)
  · skip
    refine z_xP zt199 14 34 [some (.ref 19), some (.int x9), none] [.int x9] rfl rfl ?_
    exact z_xrz zt199 15 rfl zzr199 (by omega) (by omega) (kk x9 M14 X25 (by omega) (by omega) (y_imA h4 h16 (by omega)) z17 h18 ⟨by omega, by omega⟩ (by omega))
  refine z_xP zt199 5 15 [some (.ref 19), some (.int x9), none] [.ref 19] rfl rfl ?_
  refine z_xcV (vs := [.ref 19]) (r := []) (L2 := [some (.ref 19), none, none]) zt199 6 rfl zo199 zzcV12_151 (Or.inl rfl) rfl X25 f19 rfl rfl rfl (Nat.le_of_ble_eq_true rfl) zzm200 (Nat.le_of_ble_eq_true rfl) rfl ?_
  refine ih200 X25.1 h18 ⟨by omega, by omega⟩ (z_GL.go hL X25 (by decide)) (hT.go X25.1 X25 rfl) (by omega) (by omega) (fun x35 M28 X29 h36 h37 h30 z31 h32 h33 h34 => ?_)
  have X38 := X25.go X29 (z_sb (by decide))
  show z_ev (d1 + 1 + 6) 199 18 [some (.ref 19), some (.int x9), none] [.int x35] M28 _
  refine z_xP zt199 7 20 [some (.ref 19), some (.int x9), some (.int x35)] [.int x9] rfl rfl ?_
  refine z_xZ zt199 8 rfl rfl (fun (h40 : x9.toInt = 0) => ?_) (fun (h40 : x9.toInt ≠ 0) => ?_)
  · skip
    refine z_xP zt199 11 32 [some (.ref 19), some (.int x9), some (.int x35)] [.int 1] rfl rfl ?_
    have q1 : ((1 : Int32)).toInt = 1 := rfl
    have q1 : ((1 : Int32)).toInt = 1 := rfl
    exact z_xrz zt199 13 rfl zzr199 (by decide) (by decide) (kk 1 M28 X38 (by omega) (by omega) (y_imB h4 h16 (by omega) h30 (by omega)) z31 h32 ⟨by omega, by omega⟩ (by omega))
  refine z_xP zt199 9 24 [some (.ref 19), some (.int x9), some (.int x35)] [.int x35] rfl rfl ?_
  refine z_xZ zt199 10 rfl rfl (fun (h41 : x35.toInt = 0) => ?_) (fun (h41 : x35.toInt ≠ 0) => ?_)
  · skip
    refine z_xP zt199 12 32 [some (.ref 19), some (.int x9), some (.int x35)] [.int 0] rfl rfl ?_
    have q0 : ((0 : Int32)).toInt = 0 := rfl
    have q0 : ((0 : Int32)).toInt = 0 := rfl
    exact z_xrz zt199 13 rfl zzr199 (by decide) (by decide) (kk 0 M28 X38 (by omega) (by omega) (y_imB h4 h16 (by omega) h30 (by omega)) z31 h32 ⟨by omega, by omega⟩ (by omega))
  refine z_xP zt199 11 32 [some (.ref 19), some (.int x9), some (.int x35)] [.int 1] rfl rfl ?_
  have q1 : ((1 : Int32)).toInt = 1 := rfl
  have q1 : ((1 : Int32)).toInt = 1 := rfl
  exact z_xrz zt199 13 rfl zzr199 (by decide) (by decide) (kk 1 M28 X38 (by omega) (by omega) (y_imB h4 h16 (by omega) h30 (by omega)) z31 h32 ⟨by omega, by omega⟩ (by omega))
theorem zYB200 {T : List zK} {d : Nat} {K : Option Value → zH → Prop} {zp0 : Int32} {bb : Nat → Int} {nn : Nat} {nu : Int → Int} {SS : Nat} {N : Nat} {M0 : zH} (hz0 : z_F M0 19 24 = some (.int zp0)) (bz0 : 0 ≤ zp0.toInt ∧ zp0.toInt ≤ 160) (hL : z_GL M0) (hT : y_TR M0 bb nn nu SS) (ih198 : zYQ198 T N) (ih199 : zYQ199 T N) (ih200 : zYQ200 T N) (ih201 : zYQ201 T N) (ih202 : zYQ202 T N) (ih204 : zYQ204 T N) (hm : 6 * (160 - zp0.toInt) + 3 < (N : Int) + 1) (hd : 6 * (160 - zp0.toInt) + 3 ≤ (d : Int)) (kk : ∀ (x : Int32) (M1 : zH), z_X T zw200 M0 M1 → 0 ≤ x.toInt → x.toInt ≤ 1 → y_PC nn M0 M1 (z_ei bb nn (z_one bb nn nu (6 - (y_op M0).toNat)) (y_at M0)) (fun f => y_bv x.toInt f SS) → ∀ (w0 : Int32), z_F M1 19 24 = some (.int w0) → 0 ≤ w0.toInt ∧ w0.toInt ≤ 160 → zp0.toInt ≤ w0.toInt → K (some (.int x)) M1) : ∀ n : Nat, (∀ (M : zH) (b1 : Int32) (o2 : Option Value) (z0 : Int32), z_X T zw200 M0 M → 0 ≤ b1.toInt ∧ b1.toInt ≤ 1 → z_F M 19 24 = some (.int z0) → 0 ≤ z0.toInt ∧ z0.toInt ≤ 160 → zp0.toInt ≤ z0.toInt → y_HI bb nn nu SS M0 M b1.toInt → ((0) * 2 + 0) * 161 + (160 - z0.toInt) < (n : Int) → z_ev (d + 6) 200 5 [some (.ref 19), some (.int b1), o2] [] M K) := by
  intro n
  induction n with
  | zero => exact by intros; exfalso; omega
  | succ n ih =>
    intro M b1 o2 z0 X hh0 hp0 hh2 hh3 hI hE
    refine z_xP zt200 3 8 [some (.ref 19), some (.int b1), o2] [.int 124, .ref 19] rfl rfl ?_
    have f19 : T[19]? = some (.inl (12, 0, 0, 0, 0)) := X.1.k rfl (by decide)
    refine z_xcV (vs := [.ref 19, .int 124]) (r := []) (L2 := [some (.ref 19), some (.int 124)]) zt200 4 rfl zo200 zzcV12_147 (Or.inl rfl) rfl X f19 rfl rfl rfl (Nat.le_of_ble_eq_true rfl) zzm192 (Nat.le_of_ble_eq_true rfl) rfl ?_
    have q124 : ((124 : Int32)).toInt = 124 := rfl
    have q124 : ((124 : Int32)).toInt = 124 := rfl
    have q124 : ((124 : Int32)).toInt = 124 := rfl
    refine zYC192 X.1 hp0 ⟨by omega, by omega⟩ (hT.go X.1 X rfl) (by omega) (fun x9 M1 X2 h10 h11 h3 z4 h5 h6 h7 h8 => ?_)
    have X12 := X.go X2 (z_sb (by decide))
    show z_ev (d + 6) 200 11 [some (.ref 19), some (.int b1), o2] [.int x9] M1 _
    refine z_xZ zt200 5 rfl rfl (fun (h14 : x9.toInt = 0) => ?_) (fun (h14 : x9.toInt ≠ 0) => ?_)
    · skip
      refine z_xP zt200 15 37 [some (.ref 19), some (.int b1), o2] [.int b1] rfl rfl ?_
      exact z_xrz zt200 16 rfl zzr200 (by omega) (by omega) (kk b1 M1 X12 (by omega) (by omega) (y_HIe hI h3 (by omega)) z4 h5 ⟨by omega, by omega⟩ (by omega))
    refine z_xP zt200 6 15 [some (.ref 19), some (.int b1), o2] [.ref 19] rfl rfl ?_
    obtain ⟨d15, hdd15⟩ : ∃ e, d = e + 1 := ⟨d - 1, by omega⟩
    subst hdd15
    refine z_xcV (vs := [.ref 19]) (r := []) (L2 := [some (.ref 19), none, none]) zt200 7 rfl zo200 zzcV12_154 (Or.inl rfl) rfl X12 f19 rfl rfl rfl (Nat.le_of_ble_eq_true rfl) zzm201 (Nat.le_of_ble_eq_true rfl) rfl ?_
    refine ih201 X12.1 h5 ⟨by omega, by omega⟩ (z_GL.go hL X12 (by decide)) (hT.go X12.1 X12 rfl) (by omega) (by omega) (fun x23 M16 X17 h24 h25 h18 z19 h20 h21 h22 => ?_)
    have X26 := X12.go X17 (z_sb (by decide))
    show z_ev (d15 + 1 + 6) 200 18 [some (.ref 19), some (.int b1), o2] [.int x23] M16 _
    refine z_xP zt200 8 20 [some (.ref 19), some (.int b1), some (.int x23)] [.int b1] rfl rfl ?_
    refine z_xZ zt200 9 rfl rfl (fun (h28 : b1.toInt ≠ 0) => ?_) (fun (h28 : b1.toInt = 0) => ?_)
    · skip
      refine z_xP zt200 12 32 [some (.ref 19), some (.int b1), some (.int x23)] [.int 1] rfl rfl ?_
      refine z_xP zt200 14 5 [some (.ref 19), some (.int 1), some (.int x23)] [] rfl rfl ?_
      have q1 : ((1 : Int32)).toInt = 1 := rfl
      have q1 : ((1 : Int32)).toInt = 1 := rfl
      exact ih M16 (1) (some (.int x23)) z19 X26 (by decide) h20 ⟨by omega, by omega⟩ (by omega) (y_HIs hI h3 (by omega) h18 (by omega)) (by omega)
    refine z_xP zt200 10 24 [some (.ref 19), some (.int b1), some (.int x23)] [.int x23] rfl rfl ?_
    refine z_xZ zt200 11 rfl rfl (fun (h29 : x23.toInt = 0) => ?_) (fun (h29 : x23.toInt ≠ 0) => ?_)
    · skip
      refine z_xP zt200 13 32 [some (.ref 19), some (.int b1), some (.int x23)] [.int 0] rfl rfl ?_
      refine z_xP zt200 14 5 [some (.ref 19), some (.int 0), some (.int x23)] [] rfl rfl ?_
      have q0 : ((0 : Int32)).toInt = 0 := rfl
      have q0 : ((0 : Int32)).toInt = 0 := rfl
      exact ih M16 (0) (some (.int x23)) z19 X26 (by decide) h20 ⟨by omega, by omega⟩ (by omega) (y_HIs hI h3 (by omega) h18 (by omega)) (by omega)
    refine z_xP zt200 12 32 [some (.ref 19), some (.int b1), some (.int x23)] [.int 1] rfl rfl ?_
    refine z_xP zt200 14 5 [some (.ref 19), some (.int 1), some (.int x23)] [] rfl rfl ?_
    have q1 : ((1 : Int32)).toInt = 1 := rfl
    have q1 : ((1 : Int32)).toInt = 1 := rfl
    exact ih M16 (1) (some (.int x23)) z19 X26 (by decide) h20 ⟨by omega, by omega⟩ (by omega) (y_HIs hI h3 (by omega) h18 (by omega)) (by omega)
theorem zYC200r {T : List zK} {d : Nat} {K : Option Value → zH → Prop} {zp0 : Int32} {bb : Nat → Int} {nn : Nat} {nu : Int → Int} {SS : Nat} {N : Nat} {M0 : zH} (hW : z_W M0 T) (hz0 : z_F M0 19 24 = some (.int zp0)) (bz0 : 0 ≤ zp0.toInt ∧ zp0.toInt ≤ 160) (hL : z_GL M0) (hT : y_TR M0 bb nn nu SS) (ih198 : zYQ198 T N) (ih199 : zYQ199 T N) (ih200 : zYQ200 T N) (ih201 : zYQ201 T N) (ih202 : zYQ202 T N) (ih204 : zYQ204 T N) (hm : 6 * (160 - zp0.toInt) + 3 < (N : Int) + 1) (hd : 6 * (160 - zp0.toInt) + 3 ≤ (d : Int)) (kk : ∀ (x : Int32) (M1 : zH), z_X T zw200 M0 M1 → 0 ≤ x.toInt → x.toInt ≤ 1 → y_PC nn M0 M1 (z_ei bb nn (z_one bb nn nu (6 - (y_op M0).toNat)) (y_at M0)) (fun f => y_bv x.toInt f SS) → ∀ (w0 : Int32), z_F M1 19 24 = some (.int w0) → 0 ≤ w0.toInt ∧ w0.toInt ≤ 160 → zp0.toInt ≤ w0.toInt → K (some (.int x)) M1) : z_ev (d + 6) 200 0 [some (.ref 19), none, none] [] M0 K := by
  have X : z_X T zw200 M0 M0 := .refl hW
  refine z_xP zt200 0 1 [some (.ref 19), none, none] [.ref 19] rfl rfl ?_
  have f19 : T[19]? = some (.inl (12, 0, 0, 0, 0)) := X.1.k rfl (by decide)
  obtain ⟨d1, hdd1⟩ : ∃ e, d = e + 1 := ⟨d - 1, by omega⟩
  subst hdd1
  refine z_xcV (vs := [.ref 19]) (r := []) (L2 := [some (.ref 19), none, none]) zt200 1 rfl zo200 zzcV12_154 (Or.inl rfl) rfl X f19 rfl rfl rfl (Nat.le_of_ble_eq_true rfl) zzm201 (Nat.le_of_ble_eq_true rfl) rfl ?_
  refine ih201 X.1 hz0 ⟨by omega, by omega⟩ (z_GL.go hL X (by decide)) (hT.go X.1 X rfl) (by omega) (by omega) (fun x9 M2 X3 h10 h11 h4 z5 h6 h7 h8 => ?_)
  have X12 := X.go X3 (z_sb (by decide))
  show z_ev (d1 + 1 + 6) 200 4 [some (.ref 19), none, none] [.int x9] M2 _
  refine z_xP zt200 2 5 [some (.ref 19), some (.int x9), none] [] rfl rfl ?_
  exact (zYB200 hz0 bz0 hL hT ih198 ih199 ih200 ih201 ih202 ih204 hm hd kk 322) M2 x9 none z5 X12 ⟨by omega, by omega⟩ h6 ⟨by omega, by omega⟩ (by omega) (y_HI0 h4) (by omega)
theorem zYB201 {T : List zK} {d : Nat} {K : Option Value → zH → Prop} {zp0 : Int32} {bb : Nat → Int} {nn : Nat} {nu : Int → Int} {SS : Nat} {N : Nat} {M0 : zH} (hz0 : z_F M0 19 24 = some (.int zp0)) (bz0 : 0 ≤ zp0.toInt ∧ zp0.toInt ≤ 160) (hL : z_GL M0) (hT : y_TR M0 bb nn nu SS) (ih198 : zYQ198 T N) (ih199 : zYQ199 T N) (ih200 : zYQ200 T N) (ih201 : zYQ201 T N) (ih202 : zYQ202 T N) (ih204 : zYQ204 T N) (hm : 6 * (160 - zp0.toInt) + 2 < (N : Int) + 1) (hd : 6 * (160 - zp0.toInt) + 2 ≤ (d : Int)) (kk : ∀ (x : Int32) (M1 : zH), z_X T zw201 M0 M1 → 0 ≤ x.toInt → x.toInt ≤ 1 → y_PC nn M0 M1 (z_bo bb nn (z_one bb nn nu (6 - (y_op M0).toNat)) (y_at M0)) (fun f => y_bv x.toInt f SS) → ∀ (w0 : Int32), z_F M1 19 24 = some (.int w0) → 0 ≤ w0.toInt ∧ w0.toInt ≤ 160 → zp0.toInt ≤ w0.toInt → K (some (.int x)) M1) : ∀ n : Nat, (∀ (M : zH) (b1 : Int32) (o2 : Option Value) (z0 : Int32), z_X T zw201 M0 M → 0 ≤ b1.toInt ∧ b1.toInt ≤ 1 → z_F M 19 24 = some (.int z0) → 0 ≤ z0.toInt ∧ z0.toInt ≤ 160 → zp0.toInt ≤ z0.toInt → y_BI bb nn nu SS M0 M b1.toInt → ((0) * 2 + 0) * 161 + (160 - z0.toInt) < (n : Int) → z_ev (d + 6) 201 5 [some (.ref 19), some (.int b1), o2] [] M K) := by
  intro n
  induction n with
  | zero => exact by intros; exfalso; omega
  | succ n ih =>
    intro M b1 o2 z0 X hh0 hp0 hh2 hh3 hI hE
    refine z_xP zt201 3 8 [some (.ref 19), some (.int b1), o2] [.int 38, .ref 19] rfl rfl ?_
    have f19 : T[19]? = some (.inl (12, 0, 0, 0, 0)) := X.1.k rfl (by decide)
    refine z_xcV (vs := [.ref 19, .int 38]) (r := []) (L2 := [some (.ref 19), some (.int 38)]) zt201 4 rfl zo201 zzcV12_147 (Or.inl rfl) rfl X f19 rfl rfl rfl (Nat.le_of_ble_eq_true rfl) zzm192 (Nat.le_of_ble_eq_true rfl) rfl ?_
    have q38 : ((38 : Int32)).toInt = 38 := rfl
    have q38 : ((38 : Int32)).toInt = 38 := rfl
    have q38 : ((38 : Int32)).toInt = 38 := rfl
    refine zYC192 X.1 hp0 ⟨by omega, by omega⟩ (hT.go X.1 X rfl) (by omega) (fun x9 M1 X2 h10 h11 h3 z4 h5 h6 h7 h8 => ?_)
    have X12 := X.go X2 (z_sb (by decide))
    show z_ev (d + 6) 201 11 [some (.ref 19), some (.int b1), o2] [.int x9] M1 _
    refine z_xZ zt201 5 rfl rfl (fun (h14 : x9.toInt = 0) => ?_) (fun (h14 : x9.toInt ≠ 0) => ?_)
    · skip
      refine z_xP zt201 15 37 [some (.ref 19), some (.int b1), o2] [.int b1] rfl rfl ?_
      exact z_xrz zt201 16 rfl zzr201 (by omega) (by omega) (kk b1 M1 X12 (by omega) (by omega) (y_BIe hI h3 (by omega)) z4 h5 ⟨by omega, by omega⟩ (by omega))
    refine z_xP zt201 6 15 [some (.ref 19), some (.int b1), o2] [.ref 19] rfl rfl ?_
    obtain ⟨d15, hdd15⟩ : ∃ e, d = e + 1 := ⟨d - 1, by omega⟩
    subst hdd15
    refine z_xcV (vs := [.ref 19]) (r := []) (L2 := [some (.ref 19), none, none]) zt201 7 rfl zo201 zzcV12_157 (Or.inl rfl) rfl X12 f19 rfl rfl rfl (Nat.le_of_ble_eq_true rfl) zzm202 (Nat.le_of_ble_eq_true rfl) rfl ?_
    refine ih202 X12.1 h5 ⟨by omega, by omega⟩ (z_GL.go hL X12 (by decide)) (hT.go X12.1 X12 rfl) (by omega) (by omega) (fun x23 M16 X17 h24 h25 h18 z19 h20 h21 h22 => ?_)
    have X26 := X12.go X17 (z_sb (by decide))
    show z_ev (d15 + 1 + 6) 201 18 [some (.ref 19), some (.int b1), o2] [.int x23] M16 _
    refine z_xP zt201 8 20 [some (.ref 19), some (.int b1), some (.int x23)] [.int b1] rfl rfl ?_
    refine z_xZ zt201 9 rfl rfl (fun (h28 : b1.toInt = 0) => ?_) (fun (h28 : b1.toInt ≠ 0) => ?_)
    · skip
      refine z_xP zt201 13 32 [some (.ref 19), some (.int b1), some (.int x23)] [.int 0] rfl rfl ?_
      refine z_xP zt201 14 5 [some (.ref 19), some (.int 0), some (.int x23)] [] rfl rfl ?_
      have q0 : ((0 : Int32)).toInt = 0 := rfl
      have q0 : ((0 : Int32)).toInt = 0 := rfl
      exact ih M16 (0) (some (.int x23)) z19 X26 (by decide) h20 ⟨by omega, by omega⟩ (by omega) (y_BIs hI h3 (by omega) h18 (by omega)) (by omega)
    refine z_xP zt201 10 24 [some (.ref 19), some (.int b1), some (.int x23)] [.int x23] rfl rfl ?_
    refine z_xZ zt201 11 rfl rfl (fun (h29 : x23.toInt = 0) => ?_) (fun (h29 : x23.toInt ≠ 0) => ?_)
    · skip
      refine z_xP zt201 13 32 [some (.ref 19), some (.int b1), some (.int x23)] [.int 0] rfl rfl ?_
      refine z_xP zt201 14 5 [some (.ref 19), some (.int 0), some (.int x23)] [] rfl rfl ?_
      have q0 : ((0 : Int32)).toInt = 0 := rfl
      have q0 : ((0 : Int32)).toInt = 0 := rfl
      exact ih M16 (0) (some (.int x23)) z19 X26 (by decide) h20 ⟨by omega, by omega⟩ (by omega) (y_BIs hI h3 (by omega) h18 (by omega)) (by omega)
    refine z_xP zt201 12 32 [some (.ref 19), some (.int b1), some (.int x23)] [.int 1] rfl rfl ?_
    refine z_xP zt201 14 5 [some (.ref 19), some (.int 1), some (.int x23)] [] rfl rfl ?_
    have q1 : ((1 : Int32)).toInt = 1 := rfl
    have q1 : ((1 : Int32)).toInt = 1 := rfl
    exact ih M16 (1) (some (.int x23)) z19 X26 (by decide) h20 ⟨by omega, by omega⟩ (by omega) (y_BIs hI h3 (by omega) h18 (by omega)) (by omega)
theorem zYC201r {T : List zK} {d : Nat} {K : Option Value → zH → Prop} {zp0 : Int32} {bb : Nat → Int} {nn : Nat} {nu : Int → Int} {SS : Nat} {N : Nat} {M0 : zH} (hW : z_W M0 T) (hz0 : z_F M0 19 24 = some (.int zp0)) (bz0 : 0 ≤ zp0.toInt ∧ zp0.toInt ≤ 160) (hL : z_GL M0) (hT : y_TR M0 bb nn nu SS) (ih198 : zYQ198 T N) (ih199 : zYQ199 T N) (ih200 : zYQ200 T N) (ih201 : zYQ201 T N) (ih202 : zYQ202 T N) (ih204 : zYQ204 T N) (hm : 6 * (160 - zp0.toInt) + 2 < (N : Int) + 1) (hd : 6 * (160 - zp0.toInt) + 2 ≤ (d : Int)) (kk : ∀ (x : Int32) (M1 : zH), z_X T zw201 M0 M1 → 0 ≤ x.toInt → x.toInt ≤ 1 → y_PC nn M0 M1 (z_bo bb nn (z_one bb nn nu (6 - (y_op M0).toNat)) (y_at M0)) (fun f => y_bv x.toInt f SS) → ∀ (w0 : Int32), z_F M1 19 24 = some (.int w0) → 0 ≤ w0.toInt ∧ w0.toInt ≤ 160 → zp0.toInt ≤ w0.toInt → K (some (.int x)) M1) : z_ev (d + 6) 201 0 [some (.ref 19), none, none] [] M0 K := by
  have X : z_X T zw201 M0 M0 := .refl hW
  refine z_xP zt201 0 1 [some (.ref 19), none, none] [.ref 19] rfl rfl ?_
  have f19 : T[19]? = some (.inl (12, 0, 0, 0, 0)) := X.1.k rfl (by decide)
  obtain ⟨d1, hdd1⟩ : ∃ e, d = e + 1 := ⟨d - 1, by omega⟩
  subst hdd1
  refine z_xcV (vs := [.ref 19]) (r := []) (L2 := [some (.ref 19), none, none]) zt201 1 rfl zo201 zzcV12_157 (Or.inl rfl) rfl X f19 rfl rfl rfl (Nat.le_of_ble_eq_true rfl) zzm202 (Nat.le_of_ble_eq_true rfl) rfl ?_
  refine ih202 X.1 hz0 ⟨by omega, by omega⟩ (z_GL.go hL X (by decide)) (hT.go X.1 X rfl) (by omega) (by omega) (fun x9 M2 X3 h10 h11 h4 z5 h6 h7 h8 => ?_)
  have X12 := X.go X3 (z_sb (by decide))
  show z_ev (d1 + 1 + 6) 201 4 [some (.ref 19), none, none] [.int x9] M2 _
  refine z_xP zt201 2 5 [some (.ref 19), some (.int x9), none] [] rfl rfl ?_
  exact (zYB201 hz0 bz0 hL hT ih198 ih199 ih200 ih201 ih202 ih204 hm hd kk 322) M2 x9 none z5 X12 ⟨by omega, by omega⟩ h6 ⟨by omega, by omega⟩ (by omega) (y_BI0 h4) (by omega)
theorem zYC202r {T : List zK} {d : Nat} {K : Option Value → zH → Prop} {zp0 : Int32} {bb : Nat → Int} {nn : Nat} {nu : Int → Int} {SS : Nat} {N : Nat} {M0 : zH} (hW : z_W M0 T) (hz0 : z_F M0 19 24 = some (.int zp0)) (bz0 : 0 ≤ zp0.toInt ∧ zp0.toInt ≤ 160) (hL : z_GL M0) (hT : y_TR M0 bb nn nu SS) (ih198 : zYQ198 T N) (ih199 : zYQ199 T N) (ih200 : zYQ200 T N) (ih201 : zYQ201 T N) (ih202 : zYQ202 T N) (ih204 : zYQ204 T N) (hm : 6 * (160 - zp0.toInt) + 1 < (N : Int) + 1) (hd : 6 * (160 - zp0.toInt) + 1 ≤ (d : Int)) (kk : ∀ (x : Int32) (M1 : zH), z_X T zw202 M0 M1 → 0 ≤ x.toInt → x.toInt ≤ 1 → y_PC nn M0 M1 (z_one bb nn nu (6 - (y_op M0).toNat) (y_at M0)) (fun f => y_bv x.toInt f SS) → ∀ (w0 : Int32), z_F M1 19 24 = some (.int w0) → 0 ≤ w0.toInt ∧ w0.toInt ≤ 160 → zp0.toInt ≤ w0.toInt → K (some (.int x)) M1) : z_ev (d + 6) 202 0 [some (.ref 19), none, none] [] M0 K := by
  have X : z_X T zw202 M0 M0 := .refl hW
  refine z_xP zt202 0 1 [some (.ref 19), none, none] [.ref 19] rfl rfl ?_
  have f19 : T[19]? = some (.inl (12, 0, 0, 0, 0)) := X.1.k rfl (by decide)
  refine z_xgI zt202 1 rfl zo202 zzf12_136 X f19 (by decide) (by decide) rfl (fun (x2 : Int32) h1 (h3 : (-2147483648) ≤ x2.toInt) (h4 : x2.toInt ≤ 2147483647) => ?_)
  refine z_xZ zt202 2 rfl rfl (fun (h5 : x2.toInt < 0) => ?_) (fun (h5 : 0 ≤ x2.toInt) => ?_)
  · skip
    refine z_xP zt202 5 10 [some (.ref 19), none, none] [.ref 19] rfl rfl ?_
    refine z_xcV (vs := [.ref 19]) (r := []) (L2 := [some (.ref 19)]) zt202 6 rfl zo202 zzcV12_139 (Or.inl rfl) rfl X f19 rfl rfl rfl (Nat.le_of_ble_eq_true rfl) zzm193 (Nat.le_of_ble_eq_true rfl) rfl ?_
    refine zYC193 X.1 hz0 ⟨by omega, by omega⟩ (hT.go X.1 X rfl) (fun x15 M6 X7 h8 h9 h10 z11 h12 h13 h14 => ?_)
    have X16 := X.go X7 (z_sb (by decide))
    show z_ev (d + 6) 202 13 [some (.ref 19), none, none] [.int x15] M6 _
    have h18 := h9.symm
    subst h18
    refine z_xP zt202 7 17 [some (.ref 19), some (.int x15), none] [.int 33, .int x15] rfl rfl ?_
    refine z_xJ zt202 8 rfl rfl (fun (h19 : x15.toInt ≠ 33) => ?_) (fun (h19 : x15.toInt = 33) => ?_)
    · skip
      refine z_xP zt202 26 57 [some (.ref 19), some (.int x15), none] [.int 40, .int x15] rfl rfl ?_
      refine z_xJ zt202 27 rfl rfl (fun (h20 : x15.toInt ≠ 40) => ?_) (fun (h20 : x15.toInt = 40) => ?_)
      · skip
        refine z_xP zt202 48 101 [some (.ref 19), some (.int x15), none] [.int x15] rfl rfl ?_
        have h21 := z_b32 x15
        refine z_xL zt202 49 rfl rfl (fun (y22 : Int64) (h23 : y22.toInt = x15.toInt) => ?_) (z_qI2L rfl)
        refine z_xl2 zt202 50 rfl zo202 zkl12_172 ?_
        refine z_xl2 zt202 51 rfl zo202 zkl12_174 ?_
        refine z_xcS (vs := [.long y22, .long 49, .long 57]) (r := []) (L2 := [some (.long y22), none, some (.long 49), none, some (.long 57), none]) zt202 52 rfl zo202 zzcS12_116 (Or.inl rfl) (Nat.le_of_ble_eq_true rfl) rfl rfl (Nat.le_of_ble_eq_true rfl) zzm189 (Nat.le_of_ble_eq_true rfl) rfl ?_
        refine z_xP zt189 0 2 [some (.long y22), none, some (.long 49), none, some (.long 57), none] [.long 49, .long y22] rfl rfl ?_
        refine z_xI zt189 1 rfl rfl (fun (x24 : Int32) (h25 : (x24.toInt < 0 ∧ y22.toInt < 49) ∨ (x24.toInt = 0 ∧ y22.toInt = 49) ∨ (0 < x24.toInt ∧ 49 < y22.toInt)) => ?_) (z_qCmp rfl rfl)
        refine z_xZ zt189 2 rfl rfl (fun (h26 : x24.toInt < 0) => ?_) (fun (h26 : 0 ≤ x24.toInt) => ?_)
        · skip
          refine z_xP zt189 7 18 [some (.long y22), none, some (.long 49), none, some (.long 57), none] [.int 0] rfl rfl ?_
          refine z_xrz zt189 8 rfl zzr189 (by decide) (by decide) ?_
          show z_ev (d + 6) 202 111 [some (.ref 19), some (.int x15), none] [.int 0] M0 _
          refine z_xZ zt202 53 rfl rfl (fun (h27 : (0 : Int) = 0) => ?_) (fun (h27 : (0 : Int) ≠ 0) => absurd h27 (by omega))
          refine z_xP zt202 58 125 [some (.ref 19), some (.int x15), none] [.int x15, .ref 19] rfl rfl ?_
          refine z_xcV (vs := [.ref 19, .int x15]) (r := []) (L2 := [some (.ref 19), some (.int x15), none]) zt202 59 rfl zo202 zzcV12_179 (Or.inl rfl) rfl X16 f19 rfl rfl rfl (Nat.le_of_ble_eq_true rfl) zzm195 (Nat.le_of_ble_eq_true rfl) rfl ?_
          obtain ⟨x28, h29, h30, h31⟩ := z_W.fi X16.1 f19 (k := 22) (lo := 0) (hi := 7) (by decide) rfl
          refine zYC195 X16.1 h29 ⟨by omega, by omega⟩ (z_GL.go hL X16 (by decide)) (fun x42 M32 X33 h43 h44 h34 h35 h36 h37 z38 h39 h40 h41 => ?_)
          have X45 := X16.go X33 (z_sb (by decide))
          show z_ev (d + 6) 202 128 [some (.ref 19), some (.int x15), none] [.int x42] M32 _
          have h47 := h37.symm
          subst h47
          refine z_xP zt202 60 130 [some (.ref 19), some (.int x15), some (.int x42)] [.int x42] rfl rfl ?_
          refine z_xZ zt202 61 rfl rfl (fun (h48 : 0 ≤ x42.toInt) => ?_) (fun (h48 : x42.toInt < 0) => ?_)
          · skip
            refine z_xP zt202 65 140 [some (.ref 19), some (.int x15), some (.int x42)] [.ref 19, .ref 19] rfl rfl ?_
            have h49 := (X33.2.f f19 (by decide) (X7.2.f f19 (by decide) hz0))
            refine z_xgv zt202 66 rfl zo202 zzf12_123 X45 f19 (by decide) h49 ?_
            refine z_xP zt202 67 144 [some (.ref 19), some (.int x15), some (.int x42)] [.int 1, .int zp0, .ref 19] rfl rfl ?_
            refine z_xI zt202 68 rfl rfl (fun (x50 : Int32) (h51 : x50.toInt = zp0.toInt + 1) => ?_) (z_pAdd rfl rfl (by omega) (by omega))
            refine z_xpf zt202 69 rfl zo202 zzf12_123 X45 f19 (by decide) (by decide) ⟨by omega, by omega⟩ rfl (by decide) zw12_24 (fun M52 X53 e54 h55 => ?_)
            refine z_xP zt202 70 149 [some (.ref 19), some (.int x15), some (.int x42)] [.ref 19] rfl rfl ?_
            refine z_xgI zt202 71 rfl zo202 zzf12_183 X53 f19 (by decide) (by decide) rfl (fun (x57 : Int32) h56 (h58 : (-2147483648) ≤ x57.toInt) (h59 : x57.toInt ≤ 2147483647) => ?_)
            refine z_xP zt202 72 153 [some (.ref 19), some (.int x15), some (.int x42)] [.int x42, .int x57] rfl rfl ?_
            have h60 := z_b32 x57
            refine z_xI zt202 73 rfl rfl (fun (x61 : Int32) (h62 : x61 = x57 >>> (x42 &&& 31)) => ?_) (rfl)
            refine z_xP zt202 74 155 [some (.ref 19), some (.int x15), some (.int x42)] [.int 1, .int x61] rfl rfl ?_
            refine z_xI zt202 75 rfl rfl (fun (x63 : Int32) (h64 : x63 = x61 &&& 1 ∧ 0 ≤ x63.toInt ∧ x63.toInt ≤ 1) => ?_) (⟨rfl, z_pAnd rfl (by omega)⟩)
            refine z_xP zt202 76 157 [some (.ref 19), some (.int x15), some (.int x42)] [.int 1, .int x63] rfl rfl ?_
            refine z_xJ zt202 77 rfl rfl (fun (h65 : x63.toInt ≠ 1) => ?_) (fun (h65 : x63.toInt = 1) => ?_)
            · skip
              refine z_xP zt202 79 165 [some (.ref 19), some (.int x15), some (.int x42)] [.int 0] rfl rfl ?_
              have q0 : ((0 : Int32)).toInt = 0 := rfl
              have q0 : ((0 : Int32)).toInt = 0 := rfl
              exact z_xrz zt202 80 rfl zzr202 (by decide) (by decide) (kk 0 M52 X53 (by omega) (by omega) (y_oneQ hT h1 (by omega) h8 (by omega) (y_quY hT h29 (by omega) (by omega) (h36 (by omega))) ⟨by omega, by omega⟩ hz0 h55 ⟨by omega, by omega⟩ ((e54.1 19 12 0 0 0 0 26 f19 (by decide)).trans ((X33.2.1 19 12 0 0 0 0 26 f19 (by decide)).trans (X7.2.1 19 12 0 0 0 0 26 f19 (by decide)))) ((e54.1 19 12 0 0 0 0 27 f19 (by decide)).trans ((X33.2.1 19 12 0 0 0 0 27 f19 (by decide)).trans (X7.2.1 19 12 0 0 0 0 27 f19 (by decide)))) h56 ((e54.1 19 12 0 0 0 0 28 f19 (by decide)).trans ((X33.2.1 19 12 0 0 0 0 28 f19 (by decide)).trans (X7.2.1 19 12 0 0 0 0 28 f19 (by decide)))) h62 h64.1 (by omega)) x50 h55 ⟨by omega, by omega⟩ (by omega))
            refine z_xP zt202 78 165 [some (.ref 19), some (.int x15), some (.int x42)] [.int 1] rfl rfl ?_
            have q1 : ((1 : Int32)).toInt = 1 := rfl
            have q1 : ((1 : Int32)).toInt = 1 := rfl
            exact z_xrz zt202 80 rfl zzr202 (by decide) (by decide) (kk 1 M52 X53 (by omega) (by omega) (y_oneQ hT h1 (by omega) h8 (by omega) (y_quY hT h29 (by omega) (by omega) (h36 (by omega))) ⟨by omega, by omega⟩ hz0 h55 ⟨by omega, by omega⟩ ((e54.1 19 12 0 0 0 0 26 f19 (by decide)).trans ((X33.2.1 19 12 0 0 0 0 26 f19 (by decide)).trans (X7.2.1 19 12 0 0 0 0 26 f19 (by decide)))) ((e54.1 19 12 0 0 0 0 27 f19 (by decide)).trans ((X33.2.1 19 12 0 0 0 0 27 f19 (by decide)).trans (X7.2.1 19 12 0 0 0 0 27 f19 (by decide)))) h56 ((e54.1 19 12 0 0 0 0 28 f19 (by decide)).trans ((X33.2.1 19 12 0 0 0 0 28 f19 (by decide)).trans (X7.2.1 19 12 0 0 0 0 28 f19 (by decide)))) h62 h64.1 (by omega)) x50 h55 ⟨by omega, by omega⟩ (by omega))
          refine z_xP zt202 62 134 [some (.ref 19), some (.int x15), some (.int x42)] [.ref 19] rfl rfl ?_
          refine z_xcV (vs := [.ref 19]) (r := []) (L2 := [some (.ref 19)]) zt202 63 rfl zo202 zzcV12_163 (Or.inl rfl) rfl X45 f19 rfl rfl rfl (Nat.le_of_ble_eq_true rfl) zzm194 (Nat.le_of_ble_eq_true rfl) rfl ?_
          refine zYC194 X45.1 (fun x70 M66 X67 h71 h72 h68 h69 => ?_)
          have X73 := X45.go X67 (z_sb (by decide))
          show z_ev (d + 6) 202 137 [some (.ref 19), some (.int x15), some (.int x42)] [.int x70] M66 _
          have h75 := (X67.2.f f19 (by decide) (X33.2.f f19 (by decide) (X7.2.f f19 (by decide) hz0)))
          exact z_xrz zt202 64 rfl zzr202 (by omega) (by omega) (kk x70 M66 X73 (by omega) (by omega) (y_oneW h8 ⟨by omega, by omega, by omega⟩ (y_quN hT h29 (h35 (by omega))) h68) zp0 h75 ⟨by omega, by omega⟩ (by omega))
        refine z_xP zt189 3 9 [some (.long y22), none, some (.long 49), none, some (.long 57), none] [.long 57, .long y22] rfl rfl ?_
        refine z_xI zt189 4 rfl rfl (fun (x76 : Int32) (h77 : (x76.toInt < 0 ∧ y22.toInt < 57) ∨ (x76.toInt = 0 ∧ y22.toInt = 57) ∨ (0 < x76.toInt ∧ 57 < y22.toInt)) => ?_) (z_qCmp rfl rfl)
        refine z_xZ zt189 5 rfl rfl (fun (h78 : 0 < x76.toInt) => ?_) (fun (h78 : x76.toInt ≤ 0) => ?_)
        · skip
          refine z_xP zt189 7 18 [some (.long y22), none, some (.long 49), none, some (.long 57), none] [.int 0] rfl rfl ?_
          refine z_xrz zt189 8 rfl zzr189 (by decide) (by decide) ?_
          show z_ev (d + 6) 202 111 [some (.ref 19), some (.int x15), none] [.int 0] M0 _
          refine z_xZ zt202 53 rfl rfl (fun (h79 : (0 : Int) = 0) => ?_) (fun (h79 : (0 : Int) ≠ 0) => absurd h79 (by omega))
          refine z_xP zt202 58 125 [some (.ref 19), some (.int x15), none] [.int x15, .ref 19] rfl rfl ?_
          refine z_xcV (vs := [.ref 19, .int x15]) (r := []) (L2 := [some (.ref 19), some (.int x15), none]) zt202 59 rfl zo202 zzcV12_179 (Or.inl rfl) rfl X16 f19 rfl rfl rfl (Nat.le_of_ble_eq_true rfl) zzm195 (Nat.le_of_ble_eq_true rfl) rfl ?_
          obtain ⟨x80, h81, h82, h83⟩ := z_W.fi X16.1 f19 (k := 22) (lo := 0) (hi := 7) (by decide) rfl
          refine zYC195 X16.1 h81 ⟨by omega, by omega⟩ (z_GL.go hL X16 (by decide)) (fun x94 M84 X85 h95 h96 h86 h87 h88 h89 z90 h91 h92 h93 => ?_)
          have X97 := X16.go X85 (z_sb (by decide))
          show z_ev (d + 6) 202 128 [some (.ref 19), some (.int x15), none] [.int x94] M84 _
          have h99 := h89.symm
          subst h99
          refine z_xP zt202 60 130 [some (.ref 19), some (.int x15), some (.int x94)] [.int x94] rfl rfl ?_
          refine z_xZ zt202 61 rfl rfl (fun (h100 : 0 ≤ x94.toInt) => ?_) (fun (h100 : x94.toInt < 0) => ?_)
          · skip
            refine z_xP zt202 65 140 [some (.ref 19), some (.int x15), some (.int x94)] [.ref 19, .ref 19] rfl rfl ?_
            have h101 := (X85.2.f f19 (by decide) (X7.2.f f19 (by decide) hz0))
            refine z_xgv zt202 66 rfl zo202 zzf12_123 X97 f19 (by decide) h101 ?_
            refine z_xP zt202 67 144 [some (.ref 19), some (.int x15), some (.int x94)] [.int 1, .int zp0, .ref 19] rfl rfl ?_
            refine z_xI zt202 68 rfl rfl (fun (x102 : Int32) (h103 : x102.toInt = zp0.toInt + 1) => ?_) (z_pAdd rfl rfl (by omega) (by omega))
            refine z_xpf zt202 69 rfl zo202 zzf12_123 X97 f19 (by decide) (by decide) ⟨by omega, by omega⟩ rfl (by decide) zw12_24 (fun M104 X105 e106 h107 => ?_)
            refine z_xP zt202 70 149 [some (.ref 19), some (.int x15), some (.int x94)] [.ref 19] rfl rfl ?_
            refine z_xgI zt202 71 rfl zo202 zzf12_183 X105 f19 (by decide) (by decide) rfl (fun (x109 : Int32) h108 (h110 : (-2147483648) ≤ x109.toInt) (h111 : x109.toInt ≤ 2147483647) => ?_)
            refine z_xP zt202 72 153 [some (.ref 19), some (.int x15), some (.int x94)] [.int x94, .int x109] rfl rfl ?_
            have h112 := z_b32 x109
            refine z_xI zt202 73 rfl rfl (fun (x113 : Int32) (h114 : x113 = x109 >>> (x94 &&& 31)) => ?_) (rfl)
            refine z_xP zt202 74 155 [some (.ref 19), some (.int x15), some (.int x94)] [.int 1, .int x113] rfl rfl ?_
            refine z_xI zt202 75 rfl rfl (fun (x115 : Int32) (h116 : x115 = x113 &&& 1 ∧ 0 ≤ x115.toInt ∧ x115.toInt ≤ 1) => ?_) (⟨rfl, z_pAnd rfl (by omega)⟩)
            refine z_xP zt202 76 157 [some (.ref 19), some (.int x15), some (.int x94)] [.int 1, .int x115] rfl rfl ?_
            refine z_xJ zt202 77 rfl rfl (fun (h117 : x115.toInt ≠ 1) => ?_) (fun (h117 : x115.toInt = 1) => ?_)
            · skip
              refine z_xP zt202 79 165 [some (.ref 19), some (.int x15), some (.int x94)] [.int 0] rfl rfl ?_
              have q0 : ((0 : Int32)).toInt = 0 := rfl
              have q0 : ((0 : Int32)).toInt = 0 := rfl
              exact z_xrz zt202 80 rfl zzr202 (by decide) (by decide) (kk 0 M104 X105 (by omega) (by omega) (y_oneQ hT h1 (by omega) h8 (by omega) (y_quY hT h81 (by omega) (by omega) (h88 (by omega))) ⟨by omega, by omega⟩ hz0 h107 ⟨by omega, by omega⟩ ((e106.1 19 12 0 0 0 0 26 f19 (by decide)).trans ((X85.2.1 19 12 0 0 0 0 26 f19 (by decide)).trans (X7.2.1 19 12 0 0 0 0 26 f19 (by decide)))) ((e106.1 19 12 0 0 0 0 27 f19 (by decide)).trans ((X85.2.1 19 12 0 0 0 0 27 f19 (by decide)).trans (X7.2.1 19 12 0 0 0 0 27 f19 (by decide)))) h108 ((e106.1 19 12 0 0 0 0 28 f19 (by decide)).trans ((X85.2.1 19 12 0 0 0 0 28 f19 (by decide)).trans (X7.2.1 19 12 0 0 0 0 28 f19 (by decide)))) h114 h116.1 (by omega)) x102 h107 ⟨by omega, by omega⟩ (by omega))
            refine z_xP zt202 78 165 [some (.ref 19), some (.int x15), some (.int x94)] [.int 1] rfl rfl ?_
            have q1 : ((1 : Int32)).toInt = 1 := rfl
            have q1 : ((1 : Int32)).toInt = 1 := rfl
            exact z_xrz zt202 80 rfl zzr202 (by decide) (by decide) (kk 1 M104 X105 (by omega) (by omega) (y_oneQ hT h1 (by omega) h8 (by omega) (y_quY hT h81 (by omega) (by omega) (h88 (by omega))) ⟨by omega, by omega⟩ hz0 h107 ⟨by omega, by omega⟩ ((e106.1 19 12 0 0 0 0 26 f19 (by decide)).trans ((X85.2.1 19 12 0 0 0 0 26 f19 (by decide)).trans (X7.2.1 19 12 0 0 0 0 26 f19 (by decide)))) ((e106.1 19 12 0 0 0 0 27 f19 (by decide)).trans ((X85.2.1 19 12 0 0 0 0 27 f19 (by decide)).trans (X7.2.1 19 12 0 0 0 0 27 f19 (by decide)))) h108 ((e106.1 19 12 0 0 0 0 28 f19 (by decide)).trans ((X85.2.1 19 12 0 0 0 0 28 f19 (by decide)).trans (X7.2.1 19 12 0 0 0 0 28 f19 (by decide)))) h114 h116.1 (by omega)) x102 h107 ⟨by omega, by omega⟩ (by omega))
          refine z_xP zt202 62 134 [some (.ref 19), some (.int x15), some (.int x94)] [.ref 19] rfl rfl ?_
          refine z_xcV (vs := [.ref 19]) (r := []) (L2 := [some (.ref 19)]) zt202 63 rfl zo202 zzcV12_163 (Or.inl rfl) rfl X97 f19 rfl rfl rfl (Nat.le_of_ble_eq_true rfl) zzm194 (Nat.le_of_ble_eq_true rfl) rfl ?_
          refine zYC194 X97.1 (fun x122 M118 X119 h123 h124 h120 h121 => ?_)
          have X125 := X97.go X119 (z_sb (by decide))
          show z_ev (d + 6) 202 137 [some (.ref 19), some (.int x15), some (.int x94)] [.int x122] M118 _
          have h127 := (X119.2.f f19 (by decide) (X85.2.f f19 (by decide) (X7.2.f f19 (by decide) hz0)))
          exact z_xrz zt202 64 rfl zzr202 (by omega) (by omega) (kk x122 M118 X125 (by omega) (by omega) (y_oneW h8 ⟨by omega, by omega, by omega⟩ (y_quN hT h81 (h87 (by omega))) h120) zp0 h127 ⟨by omega, by omega⟩ (by omega))
        refine z_xP zt189 6 18 [some (.long y22), none, some (.long 49), none, some (.long 57), none] [.int 1] rfl rfl ?_
        refine z_xrz zt189 8 rfl zzr189 (by decide) (by decide) ?_
        show z_ev (d + 6) 202 111 [some (.ref 19), some (.int x15), none] [.int 1] M0 _
        refine z_xZ zt202 53 rfl rfl (fun (h128 : (1 : Int) = 0) => absurd h128 (by omega)) (fun (h128 : (1 : Int) ≠ 0) => ?_)
        refine z_xP zt202 54 118 [some (.ref 19), some (.int x15), none] [.int 48, .int x15, .ref 19] rfl rfl ?_
        refine z_xI zt202 55 rfl rfl (fun (x129 : Int32) (h130 : x129.toInt = x15.toInt - 48) => ?_) (z_pSub rfl rfl (by omega) (by omega))
        obtain ⟨d131, hdd131⟩ : ∃ e, d = e + 1 := ⟨d - 1, by omega⟩
        subst hdd131
        refine z_xcV (vs := [.ref 19, .int x129]) (r := []) (L2 := [some (.ref 19), some (.int x129), none, none]) zt202 56 rfl zo202 zzcV12_176 (Or.inl rfl) rfl X16 f19 rfl rfl rfl (Nat.le_of_ble_eq_true rfl) zzm204 (Nat.le_of_ble_eq_true rfl) rfl ?_
        have h132 := (X7.2.f f19 (by decide) hz0)
        refine ih204 X16.1 (by omega) h132 ⟨by omega, by omega⟩ (z_GL.go hL X16 (by decide)) (hT.go X16.1 X16 rfl) (by omega) (by omega) (fun x140 M133 X134 h141 h142 h135 z136 h137 h138 h139 => ?_)
        have X143 := X16.go X134 (z_sb (by decide))
        show z_ev (d131 + 1 + 6) 202 122 [some (.ref 19), some (.int x15), none] [.int x140] M133 _
        exact z_xrz zt202 57 rfl zzr202 (by omega) (by omega) (kk x140 M133 X143 (by omega) (by omega) (y_oneL hT h8 ⟨by omega, by omega⟩ (by omega) h135) z136 h137 ⟨by omega, by omega⟩ (by omega))
      refine z_xP zt202 28 61 [some (.ref 19), some (.int x15), none] [.ref 19] rfl rfl ?_
      refine z_xcV (vs := [.ref 19]) (r := []) (L2 := [some (.ref 19)]) zt202 29 rfl zo202 zzcV12_166 (Or.inl rfl) rfl X16 f19 rfl rfl rfl (Nat.le_of_ble_eq_true rfl) zzm203 (Nat.le_of_ble_eq_true rfl) rfl ?_
      have h145 := (X7.2.f f19 (by decide) hz0)
      refine zYC203 X16.1 h145 ⟨by omega, by omega⟩ (fun x154 M146 X147 h155 h156 h148 z149 h150 h151 h152 h153 => ?_)
      have X157 := X16.go X147 (z_sb (by decide))
      show z_ev (d + 6) 202 64 [some (.ref 19), some (.int x15), none] [.int x154] M146 _
      refine z_xZ zt202 30 rfl rfl (fun (h159 : x154.toInt ≠ 0) => ?_) (fun (h159 : x154.toInt = 0) => ?_)
      · skip
        refine z_xP zt202 33 70 [some (.ref 19), some (.int x15), none] [.ref 19] rfl rfl ?_
        obtain ⟨d160, hdd160⟩ : ∃ e, d = e + 1 := ⟨d - 1, by omega⟩
        subst hdd160
        refine z_xcV (vs := [.ref 19]) (r := []) (L2 := [some (.ref 19), none, none]) zt202 34 rfl zo202 zzcV12_169 (Or.inl rfl) rfl X157 f19 rfl rfl rfl (Nat.le_of_ble_eq_true rfl) zzm198 (Nat.le_of_ble_eq_true rfl) rfl ?_
        refine ih198 X157.1 h150 ⟨by omega, by omega⟩ (z_GL.go hL X157 (by decide)) (hT.go X157.1 X157 rfl) (by omega) (by omega) (fun x168 M161 X162 h169 h170 h163 z164 h165 h166 h167 => ?_)
        have X171 := X157.go X162 (z_sb (by decide))
        show z_ev (d160 + 1 + 6) 202 73 [some (.ref 19), some (.int x15), none] [.int x168] M161 _
        refine z_xP zt202 35 77 [some (.ref 19), some (.int x15), some (.int x168)] [.int 41, .ref 19] rfl rfl ?_
        refine z_xcV (vs := [.ref 19, .int 41]) (r := []) (L2 := [some (.ref 19), some (.int 41)]) zt202 36 rfl zo202 zzcV12_147 (Or.inl rfl) rfl X171 f19 rfl rfl rfl (Nat.le_of_ble_eq_true rfl) zzm192 (Nat.le_of_ble_eq_true rfl) rfl ?_
        have q41 : ((41 : Int32)).toInt = 41 := rfl
        have q41 : ((41 : Int32)).toInt = 41 := rfl
        have q41 : ((41 : Int32)).toInt = 41 := rfl
        refine zYC192 X171.1 h165 ⟨by omega, by omega⟩ (hT.go X171.1 X171 rfl) (by omega) (fun x181 M173 X174 h182 h183 h175 z176 h177 h178 h179 h180 => ?_)
        have X184 := X171.go X174 (z_sb (by decide))
        show z_ev (d160 + 1 + 6) 202 80 [some (.ref 19), some (.int x15), some (.int x168)] [.int x181] M173 _
        refine z_xZ zt202 37 rfl rfl (fun (h186 : x181.toInt ≠ 0) => ?_) (fun (h186 : x181.toInt = 0) => ?_)
        · skip
          refine z_xP zt202 41 90 [some (.ref 19), some (.int x15), some (.int x168)] [.ref 19, .ref 19] rfl rfl ?_
          refine z_xgI zt202 42 rfl zo202 zzf12_160 X184 f19 (by decide) (by decide) rfl (fun (x188 : Int32) h187 (h189 : (-2147483648) ≤ x188.toInt) (h190 : x188.toInt ≤ 2147483647) => ?_)
          refine z_xP zt202 43 94 [some (.ref 19), some (.int x15), some (.int x168)] [.int 1, .int x188, .ref 19] rfl rfl ?_
          have h191 := z_b32 x188
          refine z_xI zt202 44 rfl rfl (fun (x192 : Int32) (h193 : x192 = x188 - 1) => ?_) (rfl)
          refine z_xpf zt202 45 rfl zo202 zzf12_160 X184 f19 (by decide) (by decide) ⟨Int32.le_toInt _, Int32.toInt_le _⟩ rfl (by decide) zw12_27 (fun M194 X195 e196 h197 => ?_)
          refine z_xP zt202 46 99 [some (.ref 19), some (.int x15), some (.int x168)] [.int x168] rfl rfl ?_
          have h198 := (e196.f f19 (by decide) h177)
          exact z_xrz zt202 47 rfl zzr202 (by omega) (by omega) (kk x168 M194 X195 (by omega) (by omega) (y_oneP hT h8 (by omega) h148 (by omega) h163 h175 (by omega) h187 h197 h193 (e196.1 19 12 0 0 0 0 26 f19 (by decide)) (e196.1 19 12 0 0 0 0 24 f19 (by decide))) z176 h198 ⟨by omega, by omega⟩ (by omega))
        refine z_xP zt202 38 84 [some (.ref 19), some (.int x15), some (.int x168)] [.ref 19] rfl rfl ?_
        refine z_xcV (vs := [.ref 19]) (r := []) (L2 := [some (.ref 19)]) zt202 39 rfl zo202 zzcV12_163 (Or.inl rfl) rfl X184 f19 rfl rfl rfl (Nat.le_of_ble_eq_true rfl) zzm194 (Nat.le_of_ble_eq_true rfl) rfl ?_
        refine zYC194 X184.1 (fun x203 M199 X200 h204 h205 h201 h202 => ?_)
        have X206 := X184.go X200 (z_sb (by decide))
        show z_ev (d160 + 1 + 6) 202 87 [some (.ref 19), some (.int x15), some (.int x168)] [.int x203] M199 _
        have h208 := (X200.2.f f19 (by decide) h177)
        exact z_xrz zt202 40 rfl zzr202 (by omega) (by omega) (kk x203 M199 X206 (by omega) (by omega) (y_onePf hT h8 (by omega) h148 (by omega) h163 h175 (by omega) h201) z176 h208 ⟨by omega, by omega⟩ (by omega))
      refine z_xP zt202 31 68 [some (.ref 19), some (.int x15), none] [.int 0] rfl rfl ?_
      have q0 : ((0 : Int32)).toInt = 0 := rfl
      have q0 : ((0 : Int32)).toInt = 0 := rfl
      exact z_xrz zt202 32 rfl zzr202 (by decide) (by decide) (kk 0 M146 X157 (by omega) (by omega) (y_oneF hT h8 ⟨by omega, by omega⟩ h148 (by omega)) z149 h150 ⟨by omega, by omega⟩ (by omega))
    refine z_xP zt202 9 21 [some (.ref 19), some (.int x15), none] [.ref 19] rfl rfl ?_
    refine z_xcV (vs := [.ref 19]) (r := []) (L2 := [some (.ref 19)]) zt202 10 rfl zo202 zzcV12_166 (Or.inl rfl) rfl X16 f19 rfl rfl rfl (Nat.le_of_ble_eq_true rfl) zzm203 (Nat.le_of_ble_eq_true rfl) rfl ?_
    have h209 := (X7.2.f f19 (by decide) hz0)
    refine zYC203 X16.1 h209 ⟨by omega, by omega⟩ (fun x218 M210 X211 h219 h220 h212 z213 h214 h215 h216 h217 => ?_)
    have X221 := X16.go X211 (z_sb (by decide))
    show z_ev (d + 6) 202 24 [some (.ref 19), some (.int x15), none] [.int x218] M210 _
    refine z_xZ zt202 11 rfl rfl (fun (h223 : x218.toInt ≠ 0) => ?_) (fun (h223 : x218.toInt = 0) => ?_)
    · skip
      refine z_xP zt202 14 30 [some (.ref 19), some (.int x15), none] [.ref 19] rfl rfl ?_
      obtain ⟨d224, hdd224⟩ : ∃ e, d = e + 1 := ⟨d - 1, by omega⟩
      subst hdd224
      refine z_xcV (vs := [.ref 19]) (r := []) (L2 := [some (.ref 19), none, none]) zt202 15 rfl zo202 zzcV12_157 (Or.inl rfl) rfl X221 f19 rfl rfl rfl (Nat.le_of_ble_eq_true rfl) zzm202 (Nat.le_of_ble_eq_true rfl) rfl ?_
      refine ih202 X221.1 h214 ⟨by omega, by omega⟩ (z_GL.go hL X221 (by decide)) (hT.go X221.1 X221 rfl) (by omega) (by omega) (fun x232 M225 X226 h233 h234 h227 z228 h229 h230 h231 => ?_)
      have X235 := X221.go X226 (z_sb (by decide))
      show z_ev (d224 + 1 + 6) 202 33 [some (.ref 19), some (.int x15), none] [.int x232] M225 _
      refine z_xP zt202 16 36 [some (.ref 19), some (.int x15), some (.int x232)] [.ref 19, .ref 19] rfl rfl ?_
      refine z_xgI zt202 17 rfl zo202 zzf12_160 X235 f19 (by decide) (by decide) rfl (fun (x238 : Int32) h237 (h239 : (-2147483648) ≤ x238.toInt) (h240 : x238.toInt ≤ 2147483647) => ?_)
      refine z_xP zt202 18 40 [some (.ref 19), some (.int x15), some (.int x232)] [.int 1, .int x238, .ref 19] rfl rfl ?_
      have h241 := z_b32 x238
      refine z_xI zt202 19 rfl rfl (fun (x242 : Int32) (h243 : x242 = x238 - 1) => ?_) (rfl)
      refine z_xpf zt202 20 rfl zo202 zzf12_160 X235 f19 (by decide) (by decide) ⟨Int32.le_toInt _, Int32.toInt_le _⟩ rfl (by decide) zw12_27 (fun M244 X245 e246 h247 => ?_)
      refine z_xP zt202 21 45 [some (.ref 19), some (.int x15), some (.int x232)] [.int x232] rfl rfl ?_
      refine z_xZ zt202 22 rfl rfl (fun (h248 : x232.toInt ≠ 0) => ?_) (fun (h248 : x232.toInt = 0) => ?_)
      · skip
        refine z_xP zt202 24 53 [some (.ref 19), some (.int x15), some (.int x232)] [.int 0] rfl rfl ?_
        have q0 : ((0 : Int32)).toInt = 0 := rfl
        have h249 := (e246.f f19 (by decide) h229)
        have q0 : ((0 : Int32)).toInt = 0 := rfl
        exact z_xrz zt202 25 rfl zzr202 (by decide) (by decide) (kk 0 M244 X245 (by omega) (by omega) (y_oneN hT h8 (by omega) h212 (by omega) h227 h237 h247 h243 (e246.1 19 12 0 0 0 0 26 f19 (by decide)) (e246.1 19 12 0 0 0 0 24 f19 (by decide)) (by omega)) z228 h249 ⟨by omega, by omega⟩ (by omega))
      refine z_xP zt202 23 53 [some (.ref 19), some (.int x15), some (.int x232)] [.int 1] rfl rfl ?_
      have q1 : ((1 : Int32)).toInt = 1 := rfl
      have h250 := (e246.f f19 (by decide) h229)
      have q1 : ((1 : Int32)).toInt = 1 := rfl
      exact z_xrz zt202 25 rfl zzr202 (by decide) (by decide) (kk 1 M244 X245 (by omega) (by omega) (y_oneN hT h8 (by omega) h212 (by omega) h227 h237 h247 h243 (e246.1 19 12 0 0 0 0 26 f19 (by decide)) (e246.1 19 12 0 0 0 0 24 f19 (by decide)) (by omega)) z228 h250 ⟨by omega, by omega⟩ (by omega))
    refine z_xP zt202 12 28 [some (.ref 19), some (.int x15), none] [.int 0] rfl rfl ?_
    have q0 : ((0 : Int32)).toInt = 0 := rfl
    have q0 : ((0 : Int32)).toInt = 0 := rfl
    exact z_xrz zt202 13 rfl zzr202 (by decide) (by decide) (kk 0 M210 X221 (by omega) (by omega) (y_oneF hT h8 ⟨by omega, by omega⟩ h212 (by omega)) z213 h214 ⟨by omega, by omega⟩ (by omega))
  refine z_xP zt202 3 8 [some (.ref 19), none, none] [.int 0] rfl rfl ?_
  have q0 : ((0 : Int32)).toInt = 0 := rfl
  have q0 : ((0 : Int32)).toInt = 0 := rfl
  exact z_xrz zt202 4 rfl zzr202 (by decide) (by decide) (kk 0 M0 X (by omega) (by omega) (y_oneA h1 (by omega)) zp0 hz0 ⟨by omega, by omega⟩ (by omega))
theorem zYB204 {T : List zK} {d : Nat} {K : Option Value → zH → Prop} {p1 : Int32} {zp0 : Int32} {bb : Nat → Int} {nn : Nat} {nu : Int → Int} {SS : Nat} {N : Nat} {M0 : zH} (u1 : 1 ≤ p1.toInt ∧ p1.toInt ≤ 9) (hz0 : z_F M0 19 24 = some (.int zp0)) (bz0 : 0 ≤ zp0.toInt ∧ zp0.toInt ≤ 159) (hL : z_GL M0) (hT : y_TR M0 bb nn nu SS) (ih198 : zYQ198 T N) (ih199 : zYQ199 T N) (ih200 : zYQ200 T N) (ih201 : zYQ201 T N) (ih202 : zYQ202 T N) (ih204 : zYQ204 T N) (hm : 6 * (160 - zp0.toInt) + 0 < (N : Int) + 1) (hd : 6 * (160 - zp0.toInt) + 0 ≤ (d : Int)) (kk : ∀ (x : Int32) (M1 : zH), z_X T zw204 M0 M1 → 0 ≤ x.toInt → x.toInt ≤ 1 → y_PC nn M0 M1 (y_lea bb nn nu M0 p1.toInt) (fun f => y_bv x.toInt f SS) → ∀ (w0 : Int32), z_F M1 19 24 = some (.int w0) → 0 ≤ w0.toInt ∧ w0.toInt ≤ 160 → zp0.toInt ≤ w0.toInt → K (some (.int x)) M1) : ∀ n : Nat, (∀ (M : zH) (b2 : Int32) (b3 : Int32) (z0 : Int32), z_X T zw204 M0 M → 0 ≤ b2.toInt ∧ b2.toInt ≤ 161 → 0 ≤ b3.toInt ∧ b3.toInt ≤ 1 → z_F M 19 24 = some (.int z0) → 0 ≤ z0.toInt ∧ z0.toInt ≤ 160 → zp0.toInt + 1 ≤ z0.toInt → 0 ≤ b2.toInt → b2.toInt + b3.toInt ≤ z0.toInt + 1 → y_LI bb nn nu SS M0 M p1.toInt b2.toInt b3.toInt → ((0) * 2 + 0) * 323 + (2 * (160 - z0.toInt) + b3.toInt) < (n : Int) → z_ev (d + 6) 204 37 [some (.ref 19), some (.int p1), some (.int b2), some (.int b3)] [] M K) := by
  intro n
  induction n with
  | zero => exact by intros; exfalso; omega
  | succ n ih =>
    intro M b2 b3 z0 X hh0 hh1 hp0 hh3 hh4 hh5 hh6 hI hE
    refine z_xP zt204 18 38 [some (.ref 19), some (.int p1), some (.int b2), some (.int b3)] [.int b3] rfl rfl ?_
    refine z_xZ zt204 19 rfl rfl (fun (h1 : b3.toInt = 0) => ?_) (fun (h1 : b3.toInt ≠ 0) => ?_)
    · skip
      refine z_xP zt204 29 69 [some (.ref 19), some (.int p1), some (.int b2), some (.int b3)] [.int 125, .ref 19] rfl rfl ?_
      have f19 : T[19]? = some (.inl (12, 0, 0, 0, 0)) := X.1.k rfl (by decide)
      refine z_xcV (vs := [.ref 19, .int 125]) (r := []) (L2 := [some (.ref 19), some (.int 125)]) zt204 30 rfl zo204 zzcV12_147 (Or.inl rfl) rfl X f19 rfl rfl rfl (Nat.le_of_ble_eq_true rfl) zzm192 (Nat.le_of_ble_eq_true rfl) rfl ?_
      have q125 : ((125 : Int32)).toInt = 125 := rfl
      have q125 : ((125 : Int32)).toInt = 125 := rfl
      have q125 : ((125 : Int32)).toInt = 125 := rfl
      refine zYC192 X.1 hp0 ⟨by omega, by omega⟩ (hT.go X.1 X rfl) (by omega) (fun x10 M2 X3 h11 h12 h4 z5 h6 h7 h8 h9 => ?_)
      have X13 := X.go X3 (z_sb (by decide))
      show z_ev (d + 6) 204 72 [some (.ref 19), some (.int p1), some (.int b2), some (.int b3)] [.int x10] M2 _
      refine z_xZ zt204 31 rfl rfl (fun (h15 : x10.toInt ≠ 0) => ?_) (fun (h15 : x10.toInt = 0) => ?_)
      · skip
        refine z_xP zt204 35 82 [some (.ref 19), some (.int p1), some (.int b2), some (.int b3)] [.ref 19, .ref 19] rfl rfl ?_
        refine z_xgI zt204 36 rfl zo204 zzf12_160 X13 f19 (by decide) (by decide) rfl (fun (x17 : Int32) h16 (h18 : (-2147483648) ≤ x17.toInt) (h19 : x17.toInt ≤ 2147483647) => ?_)
        refine z_xP zt204 37 86 [some (.ref 19), some (.int p1), some (.int b2), some (.int b3)] [.int 1, .int x17, .ref 19] rfl rfl ?_
        have h20 := z_b32 x17
        refine z_xI zt204 38 rfl rfl (fun (x21 : Int32) (h22 : x21 = x17 - 1) => ?_) (rfl)
        refine z_xpf zt204 39 rfl zo204 zzf12_160 X13 f19 (by decide) (by decide) ⟨Int32.le_toInt _, Int32.toInt_le _⟩ rfl (by decide) zw12_27 (fun M23 X24 e25 h26 => ?_)
        refine z_xP zt204 40 92 [some (.ref 19), some (.int p1), some (.int b2), some (.int b3)] [.int p1, .int b2] rfl rfl ?_
        refine z_xJ zt204 41 rfl rfl (fun (h27 : b2.toInt < p1.toInt) => ?_) (fun (h27 : p1.toInt ≤ b2.toInt) => ?_)
        · skip
          refine z_xP zt204 43 100 [some (.ref 19), some (.int p1), some (.int b2), some (.int b3)] [.int 0] rfl rfl ?_
          have q0 : ((0 : Int32)).toInt = 0 := rfl
          have h28 := (e25.f f19 (by decide) h6)
          have q0 : ((0 : Int32)).toInt = 0 := rfl
          exact z_xrz zt204 44 rfl zzr204 (by decide) (by decide) (kk 0 M23 X24 (by omega) (by omega) (y_LIe hI (by omega) h4 (by omega) h16 h26 h22 (e25.1 19 12 0 0 0 0 26 f19 (by decide)) (e25.1 19 12 0 0 0 0 24 f19 (by decide)) (by omega)) z5 h28 ⟨by omega, by omega⟩ (by omega))
        refine z_xP zt204 42 100 [some (.ref 19), some (.int p1), some (.int b2), some (.int b3)] [.int 1] rfl rfl ?_
        have q1 : ((1 : Int32)).toInt = 1 := rfl
        have h29 := (e25.f f19 (by decide) h6)
        have q1 : ((1 : Int32)).toInt = 1 := rfl
        exact z_xrz zt204 44 rfl zzr204 (by decide) (by decide) (kk 1 M23 X24 (by omega) (by omega) (y_LIe hI (by omega) h4 (by omega) h16 h26 h22 (e25.1 19 12 0 0 0 0 26 f19 (by decide)) (e25.1 19 12 0 0 0 0 24 f19 (by decide)) (by omega)) z5 h29 ⟨by omega, by omega⟩ (by omega))
      refine z_xP zt204 32 76 [some (.ref 19), some (.int p1), some (.int b2), some (.int b3)] [.ref 19] rfl rfl ?_
      refine z_xcV (vs := [.ref 19]) (r := []) (L2 := [some (.ref 19)]) zt204 33 rfl zo204 zzcV12_163 (Or.inl rfl) rfl X13 f19 rfl rfl rfl (Nat.le_of_ble_eq_true rfl) zzm194 (Nat.le_of_ble_eq_true rfl) rfl ?_
      refine zYC194 X13.1 (fun x34 M30 X31 h35 h36 h32 h33 => ?_)
      have X37 := X13.go X31 (z_sb (by decide))
      show z_ev (d + 6) 204 79 [some (.ref 19), some (.int p1), some (.int b2), some (.int b3)] [.int x34] M30 _
      have h39 := (X31.2.f f19 (by decide) h6)
      exact z_xrz zt204 34 rfl zzr204 (by omega) (by omega) (kk x34 M30 X37 (by omega) (by omega) (y_LIf hI (by omega) h4 (by omega) h32) z5 h39 ⟨by omega, by omega⟩ (by omega))
    refine z_xP zt204 20 43 [some (.ref 19), some (.int p1), some (.int b2), some (.int b3)] [.ref 19, .int b2] rfl rfl ?_
    have f19 : T[19]? = some (.inl (12, 0, 0, 0, 0)) := X.1.k rfl (by decide)
    obtain ⟨d40, hdd40⟩ : ∃ e, d = e + 1 := ⟨d - 1, by omega⟩
    subst hdd40
    refine z_xcV (vs := [.ref 19]) (r := [.int b2]) (L2 := [some (.ref 19), none, none]) zt204 21 rfl zo204 zzcV12_169 (Or.inl rfl) rfl X f19 rfl rfl rfl (Nat.le_of_ble_eq_true rfl) zzm198 (Nat.le_of_ble_eq_true rfl) rfl ?_
    refine ih198 X.1 hp0 ⟨by omega, by omega⟩ (z_GL.go hL X (by decide)) (hT.go X.1 X rfl) (by omega) (by omega) (fun x48 M41 X42 h49 h50 h43 z44 h45 h46 h47 => ?_)
    have X51 := X.go X42 (z_sb (by decide))
    show z_ev (d40 + 1 + 6) 204 46 [some (.ref 19), some (.int p1), some (.int b2), some (.int b3)] [.int x48, .int b2] M41 _
    refine z_xZ zt204 22 rfl rfl (fun (h53 : x48.toInt = 0) => ?_) (fun (h53 : x48.toInt ≠ 0) => ?_)
    · skip
      refine z_xP zt204 24 54 [some (.ref 19), some (.int p1), some (.int b2), some (.int b3)] [.int 0, .int b2] rfl rfl ?_
      refine z_xI zt204 25 rfl rfl (fun (x54 : Int32) (h55 : x54.toInt = b2.toInt + 0) => ?_) (z_pAdd rfl rfl (by omega) (by omega))
      refine z_xP zt204 26 59 [some (.ref 19), some (.int p1), some (.int x54), some (.int b3)] [.int 44, .ref 19] rfl rfl ?_
      refine z_xcV (vs := [.ref 19, .int 44]) (r := []) (L2 := [some (.ref 19), some (.int 44)]) zt204 27 rfl zo204 zzcV12_147 (Or.inl rfl) rfl X51 f19 rfl rfl rfl (Nat.le_of_ble_eq_true rfl) zzm192 (Nat.le_of_ble_eq_true rfl) rfl ?_
      have q44 : ((44 : Int32)).toInt = 44 := rfl
      have q44 : ((44 : Int32)).toInt = 44 := rfl
      have q44 : ((44 : Int32)).toInt = 44 := rfl
      refine zYC192 X51.1 h45 ⟨by omega, by omega⟩ (hT.go X51.1 X51 rfl) (by omega) (fun x64 M56 X57 h65 h66 h58 z59 h60 h61 h62 h63 => ?_)
      have X67 := X51.go X57 (z_sb (by decide))
      show z_ev (d40 + 1 + 6) 204 62 [some (.ref 19), some (.int p1), some (.int x54), some (.int b3)] [.int x64] M56 _
      refine z_xP zt204 28 37 [some (.ref 19), some (.int p1), some (.int x54), some (.int x64)] [] rfl rfl ?_
      exact ih M56 x54 x64 z59 X67 ⟨by omega, by omega⟩ ⟨by omega, by omega⟩ h60 ⟨by omega, by omega⟩ (by omega) (by omega) (by omega) (y_LIs (y_LIc hI (by omega)) h43 (by omega) h58 _ rfl) (by omega)
    refine z_xP zt204 23 54 [some (.ref 19), some (.int p1), some (.int b2), some (.int b3)] [.int 1, .int b2] rfl rfl ?_
    refine z_xI zt204 25 rfl rfl (fun (x69 : Int32) (h70 : x69.toInt = b2.toInt + 1) => ?_) (z_pAdd rfl rfl (by omega) (by omega))
    refine z_xP zt204 26 59 [some (.ref 19), some (.int p1), some (.int x69), some (.int b3)] [.int 44, .ref 19] rfl rfl ?_
    refine z_xcV (vs := [.ref 19, .int 44]) (r := []) (L2 := [some (.ref 19), some (.int 44)]) zt204 27 rfl zo204 zzcV12_147 (Or.inl rfl) rfl X51 f19 rfl rfl rfl (Nat.le_of_ble_eq_true rfl) zzm192 (Nat.le_of_ble_eq_true rfl) rfl ?_
    have q44 : ((44 : Int32)).toInt = 44 := rfl
    have q44 : ((44 : Int32)).toInt = 44 := rfl
    have q44 : ((44 : Int32)).toInt = 44 := rfl
    refine zYC192 X51.1 h45 ⟨by omega, by omega⟩ (hT.go X51.1 X51 rfl) (by omega) (fun x79 M71 X72 h80 h81 h73 z74 h75 h76 h77 h78 => ?_)
    have X82 := X51.go X72 (z_sb (by decide))
    show z_ev (d40 + 1 + 6) 204 62 [some (.ref 19), some (.int p1), some (.int x69), some (.int b3)] [.int x79] M71 _
    refine z_xP zt204 28 37 [some (.ref 19), some (.int p1), some (.int x69), some (.int x79)] [] rfl rfl ?_
    exact ih M71 x69 x79 z74 X82 ⟨by omega, by omega⟩ ⟨by omega, by omega⟩ h75 ⟨by omega, by omega⟩ (by omega) (by omega) (by omega) (y_LIs (y_LIc hI (by omega)) h43 (by omega) h73 _ rfl) (by omega)
theorem zYC204r {T : List zK} {d : Nat} {K : Option Value → zH → Prop} {p1 : Int32} {zp0 : Int32} {bb : Nat → Int} {nn : Nat} {nu : Int → Int} {SS : Nat} {N : Nat} {M0 : zH} (hW : z_W M0 T) (u1 : 1 ≤ p1.toInt ∧ p1.toInt ≤ 9) (hz0 : z_F M0 19 24 = some (.int zp0)) (bz0 : 0 ≤ zp0.toInt ∧ zp0.toInt ≤ 159) (hL : z_GL M0) (hT : y_TR M0 bb nn nu SS) (ih198 : zYQ198 T N) (ih199 : zYQ199 T N) (ih200 : zYQ200 T N) (ih201 : zYQ201 T N) (ih202 : zYQ202 T N) (ih204 : zYQ204 T N) (hm : 6 * (160 - zp0.toInt) + 0 < (N : Int) + 1) (hd : 6 * (160 - zp0.toInt) + 0 ≤ (d : Int)) (kk : ∀ (x : Int32) (M1 : zH), z_X T zw204 M0 M1 → 0 ≤ x.toInt → x.toInt ≤ 1 → y_PC nn M0 M1 (y_lea bb nn nu M0 p1.toInt) (fun f => y_bv x.toInt f SS) → ∀ (w0 : Int32), z_F M1 19 24 = some (.int w0) → 0 ≤ w0.toInt ∧ w0.toInt ≤ 160 → zp0.toInt ≤ w0.toInt → K (some (.int x)) M1) : z_ev (d + 6) 204 0 [some (.ref 19), some (.int p1), none, none] [] M0 K := by
  have X : z_X T zw204 M0 M0 := .refl hW
  refine z_xP zt204 0 2 [some (.ref 19), some (.int p1), none, none] [.ref 19, .ref 19] rfl rfl ?_
  have f19 : T[19]? = some (.inl (12, 0, 0, 0, 0)) := X.1.k rfl (by decide)
  refine z_xgv zt204 1 rfl zo204 zzf12_123 X f19 (by decide) hz0 ?_
  refine z_xP zt204 2 6 [some (.ref 19), some (.int p1), none, none] [.int 1, .int zp0, .ref 19] rfl rfl ?_
  refine z_xI zt204 3 rfl rfl (fun (x1 : Int32) (h2 : x1.toInt = zp0.toInt + 1) => ?_) (z_pAdd rfl rfl (by omega) (by omega))
  refine z_xpf zt204 4 rfl zo204 zzf12_123 X f19 (by decide) (by decide) ⟨by omega, by omega⟩ rfl (by decide) zw12_24 (fun M3 X4 e5 h6 => ?_)
  refine z_xP zt204 5 11 [some (.ref 19), some (.int p1), none, none] [.ref 19] rfl rfl ?_
  refine z_xcV (vs := [.ref 19]) (r := []) (L2 := [some (.ref 19)]) zt204 6 rfl zo204 zzcV12_139 (Or.inl rfl) rfl X4 f19 rfl rfl rfl (Nat.le_of_ble_eq_true rfl) zzm193 (Nat.le_of_ble_eq_true rfl) rfl ?_
  refine zYC193 X4.1 h6 ⟨by omega, by omega⟩ (hT.go X4.1 X4 rfl) (fun x16 M7 X8 h9 h10 h11 z12 h13 h14 h15 => ?_)
  have X17 := X4.go X8 (z_sb (by decide))
  show z_ev (d + 6) 204 14 [some (.ref 19), some (.int p1), none, none] [.int x16] M7 _
  have h19 := h10.symm
  subst h19
  refine z_xP zt204 7 16 [some (.ref 19), some (.int p1), none, none] [.int 123, .int x16] rfl rfl ?_
  refine z_xJ zt204 8 rfl rfl (fun (h20 : x16.toInt = 123) => ?_) (fun (h20 : x16.toInt ≠ 123) => ?_)
  · skip
    refine z_xP zt204 12 25 [some (.ref 19), some (.int p1), none, none] [.ref 19] rfl rfl ?_
    refine z_xcV (vs := [.ref 19]) (r := []) (L2 := [some (.ref 19)]) zt204 13 rfl zo204 zzcV12_166 (Or.inl rfl) rfl X17 f19 rfl rfl rfl (Nat.le_of_ble_eq_true rfl) zzm203 (Nat.le_of_ble_eq_true rfl) rfl ?_
    have h21 := (X8.2.f f19 (by decide) h6)
    refine zYC203 X17.1 h21 ⟨by omega, by omega⟩ (fun x30 M22 X23 h31 h32 h24 z25 h26 h27 h28 h29 => ?_)
    have X33 := X17.go X23 (z_sb (by decide))
    show z_ev (d + 6) 204 28 [some (.ref 19), some (.int p1), none, none] [.int x30] M22 _
    refine z_xZ zt204 14 rfl rfl (fun (h35 : x30.toInt ≠ 0) => ?_) (fun (h35 : x30.toInt = 0) => ?_)
    · skip
      refine z_xP zt204 17 37 [some (.ref 19), some (.int p1), some (.int 0), some (.int 1)] [] rfl rfl ?_
      have q0 : ((0 : Int32)).toInt = 0 := rfl
      have q1 : ((1 : Int32)).toInt = 1 := rfl
      have q0 : ((0 : Int32)).toInt = 0 := rfl
      have q1 : ((1 : Int32)).toInt = 1 := rfl
      exact (zYB204 u1 hz0 bz0 hL hT ih198 ih199 ih200 ih201 ih202 ih204 hm hd kk 646) M22 (0) (1) z25 X33 (by decide) (by decide) h26 ⟨by omega, by omega⟩ (by omega) (by omega) (by omega) (y_LI0 hz0 h6 ⟨by omega, by omega⟩ (e5.1 19 12 0 0 0 0 27 f19 (by decide)) (e5.1 19 12 0 0 0 0 26 f19 (by decide)) h9 (by omega) h24 (by omega)) (by omega)
    refine z_xP zt204 15 32 [some (.ref 19), some (.int p1), none, none] [.int 0] rfl rfl ?_
    have q0 : ((0 : Int32)).toInt = 0 := rfl
    have q0 : ((0 : Int32)).toInt = 0 := rfl
    exact z_xrz zt204 16 rfl zzr204 (by decide) (by decide) (kk 0 M22 X33 (by omega) (by omega) (y_leaF (e5.1 19 12 0 0 0 0 27 f19 (by decide)) h24 (by omega)) z25 h26 ⟨by omega, by omega⟩ (by omega))
  refine z_xP zt204 9 20 [some (.ref 19), some (.int p1), none, none] [.ref 19] rfl rfl ?_
  refine z_xcV (vs := [.ref 19]) (r := []) (L2 := [some (.ref 19)]) zt204 10 rfl zo204 zzcV12_163 (Or.inl rfl) rfl X17 f19 rfl rfl rfl (Nat.le_of_ble_eq_true rfl) zzm194 (Nat.le_of_ble_eq_true rfl) rfl ?_
  refine zYC194 X17.1 (fun x40 M36 X37 h41 h42 h38 h39 => ?_)
  have X43 := X17.go X37 (z_sb (by decide))
  show z_ev (d + 6) 204 23 [some (.ref 19), some (.int p1), none, none] [.int x40] M36 _
  have h45 := (X37.2.f f19 (by decide) (X8.2.f f19 (by decide) h6))
  exact z_xrz zt204 11 rfl zzr204 (by omega) (by omega) (kk x40 M36 X43 (by omega) (by omega) (y_leaN hz0 h6 ⟨by omega, by omega⟩ h9 (by omega) h38) x1 h45 ⟨by omega, by omega⟩ (by omega))
theorem zYR198 {T : List zK} : ∀ N : Nat, zYQ198 T N ∧ zYQ199 T N ∧ zYQ200 T N ∧ zYQ201 T N ∧ zYQ202 T N ∧ zYQ204 T N := by
  intro N
  induction N with
  | zero => exact ⟨(by unfold zYQ198; intros; exfalso; omega), (by unfold zYQ199; intros; exfalso; omega), (by unfold zYQ200; intros; exfalso; omega), (by unfold zYQ201; intros; exfalso; omega), (by unfold zYQ202; intros; exfalso; omega), (by unfold zYQ204; intros; exfalso; omega)⟩
  | succ N ih =>
    refine ⟨?_, ?_, ?_, ?_, ?_, ?_⟩
    · skip
      intro d K zp0 bb nn nu SS M0 hW hz0 bz0 hL hT hm hd kk
      exact zYC198r hW hz0 bz0 hL hT ih.1 ih.2.1 ih.2.2.1 ih.2.2.2.1 ih.2.2.2.2.1 ih.2.2.2.2.2 (by omega) hd kk
    · skip
      intro d K zp0 bb nn nu SS M0 hW hz0 bz0 hL hT hm hd kk
      exact zYC199r hW hz0 bz0 hL hT ih.1 ih.2.1 ih.2.2.1 ih.2.2.2.1 ih.2.2.2.2.1 ih.2.2.2.2.2 (by omega) hd kk
    · skip
      intro d K zp0 bb nn nu SS M0 hW hz0 bz0 hL hT hm hd kk
      exact zYC200r hW hz0 bz0 hL hT ih.1 ih.2.1 ih.2.2.1 ih.2.2.2.1 ih.2.2.2.2.1 ih.2.2.2.2.2 (by omega) hd kk
    · skip
      intro d K zp0 bb nn nu SS M0 hW hz0 bz0 hL hT hm hd kk
      exact zYC201r hW hz0 bz0 hL hT ih.1 ih.2.1 ih.2.2.1 ih.2.2.2.1 ih.2.2.2.2.1 ih.2.2.2.2.2 (by omega) hd kk
    · skip
      intro d K zp0 bb nn nu SS M0 hW hz0 bz0 hL hT hm hd kk
      exact zYC202r hW hz0 bz0 hL hT ih.1 ih.2.1 ih.2.2.1 ih.2.2.2.1 ih.2.2.2.2.1 ih.2.2.2.2.2 (by omega) hd kk
    · skip
      intro d K p1 zp0 bb nn nu SS M0 hW u1 hz0 bz0 hL hT hm hd kk
      exact zYC204r hW u1 hz0 bz0 hL hT ih.1 ih.2.1 ih.2.2.1 ih.2.2.2.1 ih.2.2.2.2.1 ih.2.2.2.2.2 (by omega) hd kk
theorem zYC198 {T : List zK} {d : Nat} {K : Option Value → zH → Prop} {zp0 : Int32} {bb : Nat → Int} {nn : Nat} {nu : Int → Int} {SS : Nat} {M0 : zH} (hW : z_W M0 T) (hz0 : z_F M0 19 24 = some (.int zp0)) (bz0 : 0 ≤ zp0.toInt ∧ zp0.toInt ≤ 160) (hL : z_GL M0) (hT : y_TR M0 bb nn nu SS) (kk : ∀ (x : Int32) (M1 : zH), z_X T zw198 M0 M1 → 0 ≤ x.toInt → x.toInt ≤ 1 → y_PC nn M0 M1 (z_ti bb nn (z_one bb nn nu (6 - (y_op M0).toNat)) (y_at M0)) (fun f => y_bv x.toInt f SS) → ∀ (w0 : Int32), z_F M1 19 24 = some (.int w0) → 0 ≤ w0.toInt ∧ w0.toInt ≤ 160 → zp0.toInt ≤ w0.toInt → K (some (.int x)) M1) : z_ev (d + 971) 198 0 [some (.ref 19), none, none] [] M0 K := by
  exact (zYR198 966).1 (d := d + 965) (K := K) hW hz0 bz0 hL hT (by omega) (by omega) kk
