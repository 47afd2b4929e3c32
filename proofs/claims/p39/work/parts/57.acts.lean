/-! act of both sides, told by kind -/
theorem zNC161 {T : List zK} {d : Nat} {K : Option Value → zH → Prop} {a0 : Nat} {ci : Nat} {p1 : Int32} {M0 : zH} (hW : z_W M0 T) (w0 : 4 ≤ ci ∧ ci ≤ 11) (k0 : T[a0]? = some (.inl (ci, 0, 0, 0, 0))) (hn : 0 ≤ (z_Ar M0 13 0).toInt ∧ (z_Ar M0 13 0).toInt ≤ 1000000) (kk : ∀ (M1 : zH), z_X T zw161 M0 M1 → (z_Ar M0 13 0).toInt ≤ (z_Ar M1 13 0).toInt ∧ (z_Ar M1 13 0).toInt ≤ (z_Ar M0 13 0).toInt + 1 → z_Ar M1 13 = z_nt (z_Ar M0 13) p1 → K none M1) : z_ev d 161 0 [some (.ref a0), some (.int p1)] [] M0 K := by
  have X : z_X T zw161 M0 M0 := .refl hW
  refine z_xP zt161 0 1 [some (.ref a0), some (.int p1)] [.ref a0] rfl rfl ?_
  refine z_xgX (b := 13) zt161 1 rfl zo161 zzf4_18 X k0 (z_w8 (fun c => c ∈ ([4, 5, 6, 7, 8, 9, 10, 11] : List Nat)) (by decide) (by decide) (by decide) (by decide) (by decide) (by decide) (by decide) (by decide) w0) (z_nf8 w0 (by decide)) (z_fs8 w0) ?_
  refine z_xP zt161 2 6 [some (.ref a0), some (.int p1)] [.int 0, .ref 13, .int 0, .ref 13] rfl rfl ?_
  have f13 : T[13]? = some (.inr (13, 0, 25, (-2147483648), 2147483647)) := X.1.k rfl (by decide)
  refine z_xil zt161 3 rfl X f13 (by decide) (by decide) (by decide) (fun (x1 : Int32) h2 (h3 : (-2147483648) ≤ x1.toInt) (h4 : x1.toInt ≤ 2147483647) => ?_)
  have q0 : ((0 : Int32)).toInt = 0 := rfl
  have h5 := z_r0 h2 (by omega)
  refine z_xP zt161 4 8 [some (.ref a0), some (.int p1)] [.int 1, .int x1, .int 0, .ref 13] rfl rfl ?_
  have h6 := z_b32 x1
  refine z_xI zt161 5 rfl rfl (fun (x7 : Int32) (h8 : x7 = x1 + 1 ∧ x7.toInt = x1.toInt + 1) => ?_) (⟨rfl, z_pAdd rfl rfl (by omega) (by omega)⟩)
  have q0 : ((0 : Int32)).toInt = 0 := rfl
  refine z_xis zt161 6 rfl X f13 (by decide) (by decide) (by decide) (by decide) (Int32.le_toInt _) (Int32.toInt_le _) (by decide) (fun M9 X10 e11 h12 => ?_)
  have q0 : ((0 : Int32)).toInt = 0 := rfl
  have h13 := z_u0 h12 (by omega)
  refine z_xP zt161 7 11 [some (.ref a0), some (.int p1)] [.ref a0] rfl rfl ?_
  refine z_xgX (b := 13) zt161 8 rfl zo161 zzf4_18 X10 k0 (z_w8 (fun c => c ∈ ([4, 5, 6, 7, 8, 9, 10, 11] : List Nat)) (by decide) (by decide) (by decide) (by decide) (by decide) (by decide) (by decide) (by decide) w0) (z_nf8 w0 (by decide)) (z_fs8 w0) ?_
  refine z_xP zt161 9 15 [some (.ref a0), some (.int p1)] [.int 0, .ref 13] rfl rfl ?_
  refine z_xil zt161 10 rfl X10 f13 (by decide) (by decide) (by decide) (fun (x14 : Int32) h15 (h16 : (-2147483648) ≤ x14.toInt) (h17 : x14.toInt ≤ 2147483647) => ?_)
  have h18 := congrArg Int32.toInt (h15.symm.trans (z_upe h12))
  have q0 : ((0 : Int32)).toInt = 0 := rfl
  have h19 := z_r0 h15 (by omega)
  refine z_xP zt161 11 17 [some (.ref a0), some (.int p1)] [.ref a0, .int x14] rfl rfl ?_
  refine z_xgX (b := 13) zt161 12 rfl zo161 zzf4_18 X10 k0 (z_w8 (fun c => c ∈ ([4, 5, 6, 7, 8, 9, 10, 11] : List Nat)) (by decide) (by decide) (by decide) (by decide) (by decide) (by decide) (by decide) (by decide) w0) (z_nf8 w0 (by decide)) (z_fs8 w0) ?_
  refine z_xln zt161 13 rfl X10 f13 (by decide) (by decide) (fun (x20 : Int32) (h21 : x20.toInt = ((25 : Nat) : Int)) => ?_)
  refine z_xJ zt161 14 rfl rfl (fun (h22 : x20.toInt ≤ x14.toInt) => ?_) (fun (h22 : x14.toInt < x20.toInt) => ?_)
  · skip
    exact z_xrv zt161 23 rfl zzr161 (kk M9 X10 ⟨by omega, by omega⟩ (z_ntN h2 h8.1 h12 (by omega)))
  refine z_xP zt161 15 25 [some (.ref a0), some (.int p1)] [.ref a0] rfl rfl ?_
  refine z_xgX (b := 13) zt161 16 rfl zo161 zzf4_18 X10 k0 (z_w8 (fun c => c ∈ ([4, 5, 6, 7, 8, 9, 10, 11] : List Nat)) (by decide) (by decide) (by decide) (by decide) (by decide) (by decide) (by decide) (by decide) w0) (z_nf8 w0 (by decide)) (z_fs8 w0) ?_
  refine z_xP zt161 17 29 [some (.ref a0), some (.int p1)] [.ref a0, .ref 13] rfl rfl ?_
  refine z_xgX (b := 13) zt161 18 rfl zo161 zzf4_18 X10 k0 (z_w8 (fun c => c ∈ ([4, 5, 6, 7, 8, 9, 10, 11] : List Nat)) (by decide) (by decide) (by decide) (by decide) (by decide) (by decide) (by decide) (by decide) w0) (z_nf8 w0 (by decide)) (z_fs8 w0) ?_
  refine z_xP zt161 19 33 [some (.ref a0), some (.int p1)] [.int 0, .ref 13, .ref 13] rfl rfl ?_
  refine z_xil zt161 20 rfl X10 f13 (by decide) (by decide) (by decide) (fun (x23 : Int32) h24 (h25 : (-2147483648) ≤ x23.toInt) (h26 : x23.toInt ≤ 2147483647) => ?_)
  have h27 := congrArg Int32.toInt (h24.symm.trans (z_upe h12))
  have q0 : ((0 : Int32)).toInt = 0 := rfl
  have h28 := z_r0 h24 (by omega)
  refine z_xP zt161 21 35 [some (.ref a0), some (.int p1)] [.int p1, .int x23, .ref 13] rfl rfl ?_
  refine z_xis zt161 22 rfl X10 f13 (by decide) (by decide) (by omega) (by omega) (Int32.le_toInt _) (Int32.toInt_le _) (by decide) (fun M29 X30 e31 h32 => ?_)
  have h33 := z_u0 h32 (by omega)
  exact z_xrv zt161 23 rfl zzr161 (kk M29 X30 ⟨by omega, by omega⟩ (z_ntY h2 h8.1 h12 h32 (by unfold Int32.toNatClampNeg <;> omega) (by omega)))
theorem zNC278 {T : List zK} {d : Nat} {K : Option Value → zH → Prop} {p1 : Int32} {zp0 : Int32} {M0 : zH} (hW : z_W M0 T) (hz0 : z_F M0 19 47 = some (.int zp0)) (bz0 : 0 ≤ zp0.toInt ∧ zp0.toInt ≤ 1000000) (kk : ∀ (M1 : zH), z_X T zw278 M0 M1 → z_Ar M1 48 = z_nr (z_Ar M0 48) zp0.toInt.toNat p1 → ∀ (w0 : Int32), z_F M1 19 47 = some (.int w0) → 0 ≤ w0.toInt ∧ w0.toInt ≤ 1000001 → w0.toInt = zp0.toInt + 1 → K none M1) : z_ev d 278 0 [some (.ref 19), some (.int p1)] [] M0 K := by
  have X : z_X T zw278 M0 M0 := .refl hW
  refine z_xP zt278 0 1 [some (.ref 19), some (.int p1)] [.ref 19] rfl rfl ?_
  have f19 : T[19]? = some (.inl (12, 0, 0, 0, 0)) := X.1.k rfl (by decide)
  refine z_xgv zt278 1 rfl zo278 zzf12_381 X f19 (by decide) hz0 ?_
  refine z_xP zt278 2 6 [some (.ref 19), some (.int p1)] [.int 24, .int zp0] rfl rfl ?_
  refine z_xJ zt278 3 rfl rfl (fun (h1 : 24 ≤ zp0.toInt) => ?_) (fun (h1 : zp0.toInt < 24) => ?_)
  · skip
    refine z_xP zt278 10 21 [some (.ref 19), some (.int p1)] [.ref 19, .ref 19] rfl rfl ?_
    refine z_xgv zt278 11 rfl zo278 zzf12_381 X f19 (by decide) hz0 ?_
    refine z_xP zt278 12 25 [some (.ref 19), some (.int p1)] [.int 1, .int zp0, .ref 19] rfl rfl ?_
    refine z_xI zt278 13 rfl rfl (fun (x2 : Int32) (h3 : x2.toInt = zp0.toInt + 1) => ?_) (z_pAdd rfl rfl (by omega) (by omega))
    refine z_xpf zt278 14 rfl zo278 zzf12_381 X f19 (by decide) (by decide) ⟨Int32.le_toInt _, Int32.toInt_le _⟩ rfl (by decide) zw12_47 (fun M4 X5 e6 h7 => ?_)
    have f48 : T[48]? = some (.inr (48, 0, 24, (-2147483648), 2147483647)) := X5.1.k rfl (by decide)
    exact z_xrv zt278 15 rfl zzr278 (kk M4 X5 (z_nrN (e6.a f48 (by decide)) (by omega)) x2 h7 ⟨by omega, by omega⟩ (by omega))
  refine z_xP zt278 4 10 [some (.ref 19), some (.int p1)] [.ref 19] rfl rfl ?_
  refine z_xgX (b := 48) zt278 5 rfl zo278 zzf12_94 X f19 (by decide) (by decide) rfl ?_
  refine z_xP zt278 6 14 [some (.ref 19), some (.int p1)] [.ref 19, .ref 48] rfl rfl ?_
  refine z_xgv zt278 7 rfl zo278 zzf12_381 X f19 (by decide) hz0 ?_
  refine z_xP zt278 8 18 [some (.ref 19), some (.int p1)] [.int p1, .int zp0, .ref 48] rfl rfl ?_
  have f48 : T[48]? = some (.inr (48, 0, 24, (-2147483648), 2147483647)) := X.1.k rfl (by decide)
  refine z_xis zt278 9 rfl X f48 (by decide) (by decide) (by omega) (by omega) (Int32.le_toInt _) (Int32.toInt_le _) (by decide) (fun M8 X9 e10 h11 => ?_)
  refine z_xP zt278 10 21 [some (.ref 19), some (.int p1)] [.ref 19, .ref 19] rfl rfl ?_
  have h12 := (e10.f f19 (by decide) hz0)
  refine z_xgv zt278 11 rfl zo278 zzf12_381 X9 f19 (by decide) h12 ?_
  refine z_xP zt278 12 25 [some (.ref 19), some (.int p1)] [.int 1, .int zp0, .ref 19] rfl rfl ?_
  refine z_xI zt278 13 rfl rfl (fun (x13 : Int32) (h14 : x13.toInt = zp0.toInt + 1) => ?_) (z_pAdd rfl rfl (by omega) (by omega))
  refine z_xpf zt278 14 rfl zo278 zzf12_381 X9 f19 (by decide) (by decide) ⟨Int32.le_toInt _, Int32.toInt_le _⟩ rfl (by decide) zw12_47 (fun M15 X16 e17 h18 => ?_)
  exact z_xrv zt278 15 rfl zzr278 (kk M15 X16 (z_nrY ((e17.a f48 (by decide)).trans h11) (by unfold Int32.toNatClampNeg <;> omega) (by omega)) x13 h18 ⟨by omega, by omega⟩ (by omega))
theorem zNC159_0 {T : List zK} {d : Nat} {K : Option Value → zH → Prop} {p1 : Int32} {p2 : Int32} {p3 : Int32} {ww : Int32} {bb : Nat} {nn sh jd : Int32} {M0 : zH} (hW : z_W M0 T) (hww : z_F M0 4 5 = some (.int ww)) (hwr : 0 ≤ p1.toInt ∧ p1.toInt < ww.toInt ∧ ww.toInt ≤ 20) (hbb : z_O M0 12 p1.toNatClampNeg = some bb) (kbb : T[bb]? = some (.inl (4, 0, 0, 0, 0))) (hf1 : z_F M0 bb 1 = some (.int sh)) (hf2 : z_F M0 bb 2 = some (.int jd)) (hf3 : z_F M0 bb 3 = some (.int nn)) (hG : z_GG T M0) (kk : ∀ (x : Int32) (M1 : zH), z_X T zw159 M0 M1 → (p2.toInt = 0 → x = (p3 + nn) ∧ z_Ar M1 13 = z_nts [1] (upd (z_Ar M0 13) 0 0)) → (p2.toInt = 1 → x = ((p3 + nn) * 2) ∧ z_Ar M1 13 = z_nts [10, 1] (upd (z_Ar M0 13) 0 0)) → (p2.toInt = 2 → x = (p3 ^^^ nn) ∧ z_Ar M1 13 = z_nts [11] (upd (z_Ar M0 13) 0 0)) → (p2.toInt = 3 → x = (((p3 + nn) * 2) - (1 ^^^ nn)) ∧ z_Ar M1 13 = z_nts [2, 10, 1, 11] (upd (z_Ar M0 13) 0 0)) → (p2.toInt < 0 ∨ 3 < p2.toInt → x = 0 ∧ z_Ar M1 13 = upd (z_Ar M0 13) 0 0) → K (some (.int x)) M1) : z_ev (d + 8) 159 0 [some (.ref 4), some (.int p1), some (.int p2), some (.int p3), none] [] M0 K := by
  have X : z_X T zw159 M0 M0 := .refl hW
  refine z_xP zt159 0 1 [some (.ref 4), some (.int p1), some (.int p2), some (.int p3), none] [.ref 4] rfl rfl ?_
  have f4 : T[4]? = some (.inl (0, 0, 0, 0, 0)) := X.1.k rfl (by decide)
  refine z_xgX (b := 13) zt159 1 rfl zo159 zzf0_31 X f4 (by decide) (by decide) rfl ?_
  refine z_xP zt159 2 6 [some (.ref 4), some (.int p1), some (.int p2), some (.int p3), none] [.int 0, .int 0, .ref 13] rfl rfl ?_
  have f13 : T[13]? = some (.inr (13, 0, 25, (-2147483648), 2147483647)) := X.1.k rfl (by decide)
  have q0 : ((0 : Int32)).toInt = 0 := rfl
  refine z_xis zt159 3 rfl X f13 (by decide) (by decide) (by decide) (by decide) (by omega) (by omega) (by decide) (fun M1 X2 e3 h4 => ?_)
  have q0 : ((0 : Int32)).toInt = 0 := rfl
  have h5 := z_u0 h4 (by omega)
  have n6 : z_Ar M1 13 = upd (z_Ar M0 13) 0 0 := h4
  refine z_xP zt159 4 9 [some (.ref 4), some (.int p1), some (.int p2), some (.int p3), none] [.int p1, .ref 4] rfl rfl ?_
  refine z_xcV (vs := [.ref 4, .int p1]) (r := []) (L2 := [some (.ref 4), some (.int p1)]) zt159 5 rfl zo159 zzcV0_221 (Or.inl rfl) rfl X2 f4 rfl rfl rfl (Nat.le_of_ble_eq_true rfl) zzm84 (Nat.le_of_ble_eq_true rfl) rfl ?_
  refine z_xP zt84 0 1 [some (.ref 4), some (.int p1)] [.int p1] rfl rfl ?_
  refine z_xZ zt84 1 rfl rfl (fun (h7 : p1.toInt < 0) => absurd h7 (by omega)) (fun (h7 : 0 ≤ p1.toInt) => ?_)
  refine z_xP zt84 2 6 [some (.ref 4), some (.int p1)] [.ref 4, .int p1] rfl rfl ?_
  have h8 := (e3.f f4 (by decide) hww)
  refine z_xgv zt84 3 rfl zo84 zzf0_188 X2 f4 (by decide) h8 ?_
  refine z_xJ zt84 4 rfl rfl (fun (h9 : p1.toInt < ww.toInt) => ?_) (fun (h9 : ww.toInt ≤ p1.toInt) => ?_)
  · skip
    refine z_xP zt84 6 17 [some (.ref 4), some (.int p1)] [.ref 4] rfl rfl ?_
    refine z_xgX (b := 12) zt84 7 rfl zo84 zzf0_27 X2 f4 (by decide) (by decide) rfl ?_
    refine z_xP zt84 8 21 [some (.ref 4), some (.int p1)] [.int p1, .ref 12] rfl rfl ?_
    have f12 : T[12]? = some (.inr (12, 3, 20, 0, 0)) := X2.1.k rfl (by decide)
    refine z_xalv zt84 9 rfl X2 f12 (by decide) (by decide) (by decide) (by omega) (by omega) ((congrFun (e3.o f12 (by decide)) _).trans hbb) ?_
    refine z_xra zt84 10 rfl zzr84 ?_
    show z_ev (d + 8) 159 12 [some (.ref 4), some (.int p1), some (.int p2), some (.int p3), none] [.ref bb] M1 _
    refine z_xP zt159 6 21 [some (.ref 4), some (.int p1), some (.int p2), some (.int p3), some (.ref bb)] [] rfl rfl ?_
    refine z_xP zt159 9 22 [some (.ref 4), some (.int p1), some (.int p2), some (.int p3), some (.ref bb)] [.int p2] rfl rfl ?_
    by_cases h10 : p2.toInt = 0
    · refine z_xSC zt159 10 (z_sub (k := 0) h10 rfl) 52 rfl rfl ?_
      refine z_xP zt159 11 55 [some (.ref 4), some (.int p1), some (.int p2), some (.int p3), some (.ref bb)] [.int p3, .ref bb] rfl rfl ?_
      refine z_xcV (vs := [.ref bb, .int p3]) (r := []) (L2 := [some (.ref bb), some (.int p3)]) zt159 12 rfl zo159 zzcV0_295 (Or.inr rfl) rfl X2 kbb rfl rfl rfl (Nat.le_of_ble_eq_true rfl) zzm163 (Nat.le_of_ble_eq_true rfl) rfl ?_
      refine z_xP zt163 0 2 [some (.ref bb), some (.int p3)] [.int 1, .ref bb] rfl rfl ?_
      refine z_xcV (vs := [.ref bb, .int 1]) (r := []) (L2 := [some (.ref bb), some (.int 1)]) zt163 1 rfl zo163 zzcV4_31 (Or.inr rfl) rfl X2 kbb rfl rfl rfl (Nat.le_of_ble_eq_true rfl) zzm161 (Nat.le_of_ble_eq_true rfl) rfl ?_
      have q1 : ((1 : Int32)).toInt = 1 := rfl
      have q1 : ((1 : Int32)).toInt = 1 := rfl
      refine zNC161 X2.1 (by decide) kbb ⟨by omega, by omega⟩ (fun M11 X12 h13 h14 => ?_)
      have X15 := X2.go X12 (z_sb (by decide))
      show z_ev (d + 7) 163 5 [some (.ref bb), some (.int p3)] [] M11 _
      have n17 : z_Ar M11 13 = z_nts [1] (upd (z_Ar M0 13) 0 0) := z_ntsS [] n6 h14
      refine z_xP zt163 2 7 [some (.ref bb), some (.int p3)] [.ref bb, .int p3] rfl rfl ?_
      have h18 := (X12.2.f kbb (by decide) (e3.f kbb (by decide) hf3))
      refine z_xgv zt163 3 rfl zo163 zzf4_15 X15 kbb (by decide) h18 ?_
      have h19 := z_b32 p3
      have h20 := z_b32 nn
      refine z_xI zt163 4 rfl rfl (fun (x21 : Int32) (h22 : x21 = p3 + nn) => ?_) (rfl)
      refine z_xri zt163 5 rfl zzr163 ?_
      show z_ev (d + 8) 159 58 [some (.ref 4), some (.int p1), some (.int p2), some (.int p3), some (.ref bb)] [.int x21] M11 _
      exact z_xri zt159 13 rfl zzr159 (kk x21 M11 X15 (fun _ => ⟨(by rw [h22]), n17⟩) (fun hq => by exfalso; omega) (fun hq => by exfalso; omega) (fun hq => by exfalso; omega) (fun hq => by exfalso; omega))
    by_cases h23 : p2.toInt = 1
    · refine z_xSC zt159 10 (z_sub (k := 1) h23 rfl) 59 rfl rfl ?_
      refine z_xP zt159 14 62 [some (.ref 4), some (.int p1), some (.int p2), some (.int p3), some (.ref bb)] [.int p3, .ref bb] rfl rfl ?_
      refine z_xcV (vs := [.ref bb, .int p3]) (r := []) (L2 := [some (.ref bb), some (.int p3)]) zt159 15 rfl zo159 zzcV0_298 (Or.inr rfl) rfl X2 kbb rfl rfl rfl (Nat.le_of_ble_eq_true rfl) zzm167 (Nat.le_of_ble_eq_true rfl) rfl ?_
      refine z_xP zt167 0 3 [some (.ref bb), some (.int p3)] [.int 10, .ref bb] rfl rfl ?_
      refine z_xcV (vs := [.ref bb, .int 10]) (r := []) (L2 := [some (.ref bb), some (.int 10)]) zt167 1 rfl zo167 zzcV4_31 (Or.inr rfl) rfl X2 kbb rfl rfl rfl (Nat.le_of_ble_eq_true rfl) zzm161 (Nat.le_of_ble_eq_true rfl) rfl ?_
      have q10 : ((10 : Int32)).toInt = 10 := rfl
      have q10 : ((10 : Int32)).toInt = 10 := rfl
      refine zNC161 X2.1 (by decide) kbb ⟨by omega, by omega⟩ (fun M24 X25 h26 h27 => ?_)
      have X28 := X2.go X25 (z_sb (by decide))
      show z_ev (d + 7) 167 6 [some (.ref bb), some (.int p3)] [] M24 _
      have n30 : z_Ar M24 13 = z_nts [10] (upd (z_Ar M0 13) 0 0) := z_ntsS [] n6 h27
      refine z_xP zt167 2 8 [some (.ref bb), some (.int p3)] [.int p3, .ref bb] rfl rfl ?_
      refine z_xcV (vs := [.ref bb, .int p3]) (r := []) (L2 := [some (.ref bb), some (.int p3)]) zt167 3 rfl zo167 zzcV4_35 (Or.inr rfl) rfl X28 kbb rfl rfl rfl (Nat.le_of_ble_eq_true rfl) zzm163 (Nat.le_of_ble_eq_true rfl) rfl ?_
      refine z_xP zt163 0 2 [some (.ref bb), some (.int p3)] [.int 1, .ref bb] rfl rfl ?_
      refine z_xcV (vs := [.ref bb, .int 1]) (r := []) (L2 := [some (.ref bb), some (.int 1)]) zt163 1 rfl zo163 zzcV4_31 (Or.inr rfl) rfl X28 kbb rfl rfl rfl (Nat.le_of_ble_eq_true rfl) zzm161 (Nat.le_of_ble_eq_true rfl) rfl ?_
      have q1 : ((1 : Int32)).toInt = 1 := rfl
      have q1 : ((1 : Int32)).toInt = 1 := rfl
      refine zNC161 X28.1 (by decide) kbb ⟨by omega, by omega⟩ (fun M31 X32 h33 h34 => ?_)
      have X35 := X28.go X32 (z_sb (by decide))
      show z_ev (d + 6) 163 5 [some (.ref bb), some (.int p3)] [] M31 _
      have n37 : z_Ar M31 13 = z_nts [10, 1] (upd (z_Ar M0 13) 0 0) := z_ntsS [10] n30 h34
      refine z_xP zt163 2 7 [some (.ref bb), some (.int p3)] [.ref bb, .int p3] rfl rfl ?_
      have h38 := (X32.2.f kbb (by decide) (X25.2.f kbb (by decide) (e3.f kbb (by decide) hf3)))
      refine z_xgv zt163 3 rfl zo163 zzf4_15 X35 kbb (by decide) h38 ?_
      have h39 := z_b32 p3
      have h40 := z_b32 nn
      refine z_xI zt163 4 rfl rfl (fun (x41 : Int32) (h42 : x41 = p3 + nn) => ?_) (rfl)
      refine z_xri zt163 5 rfl zzr163 ?_
      show z_ev (d + 7) 167 11 [some (.ref bb), some (.int p3)] [.int x41] M31 _
      refine z_xP zt167 4 12 [some (.ref bb), some (.int p3)] [.int 2, .int x41] rfl rfl ?_
      have h43 := z_b32 x41
      refine z_xI zt167 5 rfl rfl (fun (x44 : Int32) (h45 : x44 = x41 * 2) => ?_) (rfl)
      refine z_xri zt167 6 rfl zzr167 ?_
      show z_ev (d + 8) 159 65 [some (.ref 4), some (.int p1), some (.int p2), some (.int p3), some (.ref bb)] [.int x44] M31 _
      exact z_xri zt159 16 rfl zzr159 (kk x44 M31 X35 (fun hq => by exfalso; omega) (fun _ => ⟨(by rw [h45, h42]), n37⟩) (fun hq => by exfalso; omega) (fun hq => by exfalso; omega) (fun hq => by exfalso; omega))
    by_cases h46 : p2.toInt = 2
    · refine z_xSC zt159 10 (z_sub (k := 2) h46 rfl) 66 rfl rfl ?_
      refine z_xP zt159 17 69 [some (.ref 4), some (.int p1), some (.int p2), some (.int p3), some (.ref bb)] [.int p3, .ref bb] rfl rfl ?_
      refine z_xcV (vs := [.ref bb, .int p3]) (r := []) (L2 := [some (.ref bb), some (.int p3)]) zt159 18 rfl zo159 zzcV0_301 (Or.inr rfl) rfl X2 kbb rfl rfl rfl (Nat.le_of_ble_eq_true rfl) zzm170 (Nat.le_of_ble_eq_true rfl) rfl ?_
      refine z_xP zt170 0 3 [some (.ref bb), some (.int p3)] [.int 11, .ref bb] rfl rfl ?_
      refine z_xcV (vs := [.ref bb, .int 11]) (r := []) (L2 := [some (.ref bb), some (.int 11)]) zt170 1 rfl zo170 zzcV4_31 (Or.inr rfl) rfl X2 kbb rfl rfl rfl (Nat.le_of_ble_eq_true rfl) zzm161 (Nat.le_of_ble_eq_true rfl) rfl ?_
      have q11 : ((11 : Int32)).toInt = 11 := rfl
      have q11 : ((11 : Int32)).toInt = 11 := rfl
      refine zNC161 X2.1 (by decide) kbb ⟨by omega, by omega⟩ (fun M47 X48 h49 h50 => ?_)
      have X51 := X2.go X48 (z_sb (by decide))
      show z_ev (d + 7) 170 6 [some (.ref bb), some (.int p3)] [] M47 _
      have n53 : z_Ar M47 13 = z_nts [11] (upd (z_Ar M0 13) 0 0) := z_ntsS [] n6 h50
      refine z_xP zt170 2 8 [some (.ref bb), some (.int p3)] [.ref bb, .int p3] rfl rfl ?_
      have h54 := (X48.2.f kbb (by decide) (e3.f kbb (by decide) hf3))
      refine z_xgv zt170 3 rfl zo170 zzf4_15 X51 kbb (by decide) h54 ?_
      refine z_xI zt170 4 rfl rfl (fun (x55 : Int32) (h56 : x55 = p3 ^^^ nn) => ?_) (rfl)
      refine z_xri zt170 5 rfl zzr170 ?_
      show z_ev (d + 8) 159 72 [some (.ref 4), some (.int p1), some (.int p2), some (.int p3), some (.ref bb)] [.int x55] M47 _
      exact z_xri zt159 19 rfl zzr159 (kk x55 M47 X51 (fun hq => by exfalso; omega) (fun hq => by exfalso; omega) (fun _ => ⟨(by rw [h56]), n53⟩) (fun hq => by exfalso; omega) (fun hq => by exfalso; omega))
    by_cases h57 : p2.toInt = 3
    · refine z_xSC zt159 10 (z_sub (k := 3) h57 rfl) 73 rfl rfl ?_
      refine z_xP zt159 20 76 [some (.ref 4), some (.int p1), some (.int p2), some (.int p3), some (.ref bb)] [.int p3, .ref bb] rfl rfl ?_
      refine z_xcV (vs := [.ref bb, .int p3]) (r := []) (L2 := [some (.ref bb), some (.int p3)]) zt159 21 rfl zo159 zzcV0_304 (Or.inr rfl) rfl X2 kbb rfl rfl rfl (Nat.le_of_ble_eq_true rfl) zzm173 (Nat.le_of_ble_eq_true rfl) rfl ?_
      refine z_xP zt173 0 2 [some (.ref bb), some (.int p3)] [.int 2, .ref bb] rfl rfl ?_
      refine z_xcV (vs := [.ref bb, .int 2]) (r := []) (L2 := [some (.ref bb), some (.int 2)]) zt173 1 rfl zo173 zzcV4_31 (Or.inr rfl) rfl X2 kbb rfl rfl rfl (Nat.le_of_ble_eq_true rfl) zzm161 (Nat.le_of_ble_eq_true rfl) rfl ?_
      have q2 : ((2 : Int32)).toInt = 2 := rfl
      have q2 : ((2 : Int32)).toInt = 2 := rfl
      refine zNC161 X2.1 (by decide) kbb ⟨by omega, by omega⟩ (fun M58 X59 h60 h61 => ?_)
      have X62 := X2.go X59 (z_sb (by decide))
      show z_ev (d + 7) 173 5 [some (.ref bb), some (.int p3)] [] M58 _
      have n64 : z_Ar M58 13 = z_nts [2] (upd (z_Ar M0 13) 0 0) := z_ntsS [] n6 h61
      refine z_xP zt173 2 7 [some (.ref bb), some (.int p3)] [.int p3, .ref bb] rfl rfl ?_
      refine z_xcV (vs := [.ref bb, .int p3]) (r := []) (L2 := [some (.ref bb), some (.int p3)]) zt173 3 rfl zo173 zzcV4_39 (Or.inr rfl) rfl X62 kbb rfl rfl rfl (Nat.le_of_ble_eq_true rfl) zzm167 (Nat.le_of_ble_eq_true rfl) rfl ?_
      refine z_xP zt167 0 3 [some (.ref bb), some (.int p3)] [.int 10, .ref bb] rfl rfl ?_
      refine z_xcV (vs := [.ref bb, .int 10]) (r := []) (L2 := [some (.ref bb), some (.int 10)]) zt167 1 rfl zo167 zzcV4_31 (Or.inr rfl) rfl X62 kbb rfl rfl rfl (Nat.le_of_ble_eq_true rfl) zzm161 (Nat.le_of_ble_eq_true rfl) rfl ?_
      have q10 : ((10 : Int32)).toInt = 10 := rfl
      have q10 : ((10 : Int32)).toInt = 10 := rfl
      refine zNC161 X62.1 (by decide) kbb ⟨by omega, by omega⟩ (fun M65 X66 h67 h68 => ?_)
      have X69 := X62.go X66 (z_sb (by decide))
      show z_ev (d + 6) 167 6 [some (.ref bb), some (.int p3)] [] M65 _
      have n71 : z_Ar M65 13 = z_nts [2, 10] (upd (z_Ar M0 13) 0 0) := z_ntsS [2] n64 h68
      refine z_xP zt167 2 8 [some (.ref bb), some (.int p3)] [.int p3, .ref bb] rfl rfl ?_
      refine z_xcV (vs := [.ref bb, .int p3]) (r := []) (L2 := [some (.ref bb), some (.int p3)]) zt167 3 rfl zo167 zzcV4_35 (Or.inr rfl) rfl X69 kbb rfl rfl rfl (Nat.le_of_ble_eq_true rfl) zzm163 (Nat.le_of_ble_eq_true rfl) rfl ?_
      refine z_xP zt163 0 2 [some (.ref bb), some (.int p3)] [.int 1, .ref bb] rfl rfl ?_
      refine z_xcV (vs := [.ref bb, .int 1]) (r := []) (L2 := [some (.ref bb), some (.int 1)]) zt163 1 rfl zo163 zzcV4_31 (Or.inr rfl) rfl X69 kbb rfl rfl rfl (Nat.le_of_ble_eq_true rfl) zzm161 (Nat.le_of_ble_eq_true rfl) rfl ?_
      have q1 : ((1 : Int32)).toInt = 1 := rfl
      have q1 : ((1 : Int32)).toInt = 1 := rfl
      refine zNC161 X69.1 (by decide) kbb ⟨by omega, by omega⟩ (fun M72 X73 h74 h75 => ?_)
      have X76 := X69.go X73 (z_sb (by decide))
      show z_ev (d + 5) 163 5 [some (.ref bb), some (.int p3)] [] M72 _
      have n78 : z_Ar M72 13 = z_nts [2, 10, 1] (upd (z_Ar M0 13) 0 0) := z_ntsS [2, 10] n71 h75
      refine z_xP zt163 2 7 [some (.ref bb), some (.int p3)] [.ref bb, .int p3] rfl rfl ?_
      have h79 := (X73.2.f kbb (by decide) (X66.2.f kbb (by decide) (X59.2.f kbb (by decide) (e3.f kbb (by decide) hf3))))
      refine z_xgv zt163 3 rfl zo163 zzf4_15 X76 kbb (by decide) h79 ?_
      have h80 := z_b32 p3
      have h81 := z_b32 nn
      refine z_xI zt163 4 rfl rfl (fun (x82 : Int32) (h83 : x82 = p3 + nn) => ?_) (rfl)
      refine z_xri zt163 5 rfl zzr163 ?_
      show z_ev (d + 6) 167 11 [some (.ref bb), some (.int p3)] [.int x82] M72 _
      refine z_xP zt167 4 12 [some (.ref bb), some (.int p3)] [.int 2, .int x82] rfl rfl ?_
      have h84 := z_b32 x82
      refine z_xI zt167 5 rfl rfl (fun (x85 : Int32) (h86 : x85 = x82 * 2) => ?_) (rfl)
      refine z_xri zt167 6 rfl zzr167 ?_
      show z_ev (d + 7) 173 10 [some (.ref bb), some (.int p3)] [.int x85] M72 _
      refine z_xP zt173 4 12 [some (.ref bb), some (.int p3)] [.int 1, .ref bb, .int x85] rfl rfl ?_
      refine z_xcV (vs := [.ref bb, .int 1]) (r := [.int x85]) (L2 := [some (.ref bb), some (.int 1)]) zt173 5 rfl zo173 zzcV4_42 (Or.inr rfl) rfl X76 kbb rfl rfl rfl (Nat.le_of_ble_eq_true rfl) zzm170 (Nat.le_of_ble_eq_true rfl) rfl ?_
      refine z_xP zt170 0 3 [some (.ref bb), some (.int 1)] [.int 11, .ref bb] rfl rfl ?_
      refine z_xcV (vs := [.ref bb, .int 11]) (r := []) (L2 := [some (.ref bb), some (.int 11)]) zt170 1 rfl zo170 zzcV4_31 (Or.inr rfl) rfl X76 kbb rfl rfl rfl (Nat.le_of_ble_eq_true rfl) zzm161 (Nat.le_of_ble_eq_true rfl) rfl ?_
      have q11 : ((11 : Int32)).toInt = 11 := rfl
      have q11 : ((11 : Int32)).toInt = 11 := rfl
      refine zNC161 X76.1 (by decide) kbb ⟨by omega, by omega⟩ (fun M87 X88 h89 h90 => ?_)
      have X91 := X76.go X88 (z_sb (by decide))
      show z_ev (d + 6) 170 6 [some (.ref bb), some (.int 1)] [] M87 _
      have n93 : z_Ar M87 13 = z_nts [2, 10, 1, 11] (upd (z_Ar M0 13) 0 0) := z_ntsS [2, 10, 1] n78 h90
      refine z_xP zt170 2 8 [some (.ref bb), some (.int 1)] [.ref bb, .int 1] rfl rfl ?_
      have h94 := (X88.2.f kbb (by decide) h79)
      refine z_xgv zt170 3 rfl zo170 zzf4_15 X91 kbb (by decide) h94 ?_
      refine z_xI zt170 4 rfl rfl (fun (x95 : Int32) (h96 : x95 = 1 ^^^ nn) => ?_) (rfl)
      refine z_xri zt170 5 rfl zzr170 ?_
      show z_ev (d + 7) 173 15 [some (.ref bb), some (.int p3)] [.int x95, .int x85] M87 _
      have h97 := z_b32 x85
      have h98 := z_b32 x95
      refine z_xI zt173 6 rfl rfl (fun (x99 : Int32) (h100 : x99 = x85 - x95) => ?_) (rfl)
      refine z_xri zt173 7 rfl zzr173 ?_
      show z_ev (d + 8) 159 79 [some (.ref 4), some (.int p1), some (.int p2), some (.int p3), some (.ref bb)] [.int x99] M87 _
      exact z_xri zt159 22 rfl zzr159 (kk x99 M87 X91 (fun hq => by exfalso; omega) (fun hq => by exfalso; omega) (fun hq => by exfalso; omega) (fun _ => ⟨(by rw [h100, h96, h86, h83]), n93⟩) (fun hq => by exfalso; omega))
    refine z_xSD zt159 10 rfl rfl (by omega) ?_
    refine z_xP zt159 23 81 [some (.ref 4), some (.int p1), some (.int p2), some (.int p3), some (.ref bb)] [.int 0] rfl rfl ?_
    have q0 : ((0 : Int32)).toInt = 0 := rfl
    exact z_xri zt159 24 rfl zzr159 (kk 0 M1 X2 (fun hq => by exfalso; omega) (fun hq => by exfalso; omega) (fun hq => by exfalso; omega) (fun hq => by exfalso; omega) (fun _ => ⟨rfl, n6⟩))
  refine z_xP zt84 5 22 [some (.ref 4), some (.int p1)] [.null] rfl rfl ?_
  refine z_xrn zt84 10 rfl zzr84 ?_
  show z_ev (d + 8) 159 12 [some (.ref 4), some (.int p1), some (.int p2), some (.int p3), none] [.null] M1 _
  refine z_xP zt159 6 19 [some (.ref 4), some (.int p1), some (.int p2), some (.int p3), some (.null)] [] rfl rfl ?_
  refine z_xP zt159 7 20 [some (.ref 4), some (.int p1), some (.int p2), some (.int p3), some (.null)] [.int 0] rfl rfl ?_
  have q0 : ((0 : Int32)).toInt = 0 := rfl
  exact z_xri zt159 8 rfl zzr159 (kk 0 M1 X2 (fun hq => by exfalso; omega) (fun hq => by exfalso; omega) (fun hq => by exfalso; omega) (fun hq => by exfalso; omega) (fun _ => ⟨rfl, n6⟩))
theorem zNC276_0 {T : List zK} {d : Nat} {K : Option Value → zH → Prop} {p1 : Int32} {p2 : Int32} {p3 : Int32} {ww : Int32} {kn sh jd : Int32} {M0 : zH} (hW : z_W M0 T) (hww : z_F M0 19 21 = some (.int ww)) (hwr : 0 ≤ p1.toInt ∧ p1.toInt < ww.toInt ∧ ww.toInt ≤ 20) (hk36 : z_Ar M0 36 p1.toNatClampNeg = kn) (hkn : kn.toInt = 0) (hk37 : z_Ar M0 37 p1.toNatClampNeg = sh) (hk38 : z_Ar M0 38 p1.toNatClampNeg = jd) (kk : ∀ (x : Int32) (M1 : zH), z_X T zw276 M0 M1 → (p2.toInt = 0 → x = (p3 + p1) ∧ z_Ar M1 48 = z_nrs 0 [1] (z_Ar M0 48) ∧ ∃ n : Int32, z_F M1 19 47 = some (.int n) ∧ n.toInt = 1) → (p2.toInt = 1 → x = ((p3 + p1) * 2) ∧ z_Ar M1 48 = z_nrs 0 [10, 1] (z_Ar M0 48) ∧ ∃ n : Int32, z_F M1 19 47 = some (.int n) ∧ n.toInt = 2) → (p2.toInt = 2 → x = (p3 ^^^ p1) ∧ z_Ar M1 48 = z_nrs 0 [11] (z_Ar M0 48) ∧ ∃ n : Int32, z_F M1 19 47 = some (.int n) ∧ n.toInt = 1) → (p2.toInt = 3 → x = (((p3 + p1) * 2) - (1 ^^^ p1)) ∧ z_Ar M1 48 = z_nrs 0 [2, 10, 1, 11] (z_Ar M0 48) ∧ ∃ n : Int32, z_F M1 19 47 = some (.int n) ∧ n.toInt = 4) → (p2.toInt < 0 ∨ 3 < p2.toInt → x = 0 ∧ z_Ar M1 48 = z_Ar M0 48 ∧ ∃ n : Int32, z_F M1 19 47 = some (.int n) ∧ n.toInt = 0) → K (some (.int x)) M1) : z_ev (d + 41) 276 0 [some (.ref 19), some (.int p1), some (.int p2), some (.int p3)] [] M0 K := by
  have X : z_X T zw276 M0 M0 := .refl hW
  refine z_xP zt276 0 2 [some (.ref 19), some (.int p1), some (.int p2), some (.int p3)] [.int 0, .ref 19] rfl rfl ?_
  have f19 : T[19]? = some (.inl (12, 0, 0, 0, 0)) := X.1.k rfl (by decide)
  have q0 : ((0 : Int32)).toInt = 0 := rfl
  refine z_xpf zt276 1 rfl zo276 zzf12_381 X f19 (by decide) (by decide) ⟨by omega, by omega⟩ rfl (by decide) zw12_47 (fun M1 X2 e3 h4 => ?_)
  refine z_xP zt276 2 7 [some (.ref 19), some (.int p1), some (.int p2), some (.int p3)] [.int p1, .ref 19] rfl rfl ?_
  refine z_xcV (vs := [.ref 19, .int p1]) (r := []) (L2 := [some (.ref 19), some (.int p1)]) zt276 3 rfl zo276 zzcV12_272 (Or.inl rfl) rfl X2 f19 rfl rfl rfl (Nat.le_of_ble_eq_true rfl) zzm237 (Nat.le_of_ble_eq_true rfl) rfl ?_
  refine z_xP zt237 0 1 [some (.ref 19), some (.int p1)] [.int p1] rfl rfl ?_
  refine z_xZ zt237 1 rfl rfl (fun (h5 : p1.toInt < 0) => absurd h5 (by omega)) (fun (h5 : 0 ≤ p1.toInt) => ?_)
  refine z_xP zt237 2 6 [some (.ref 19), some (.int p1)] [.ref 19, .int p1] rfl rfl ?_
  have h6 := (e3.f f19 (by decide) hww)
  refine z_xgv zt237 3 rfl zo237 zzf12_269 X2 f19 (by decide) h6 ?_
  refine z_xJ zt237 4 rfl rfl (fun (h7 : ww.toInt ≤ p1.toInt) => ?_) (fun (h7 : p1.toInt < ww.toInt) => ?_)
  · skip
    refine z_xP zt237 6 17 [some (.ref 19), some (.int p1)] [.int 0] rfl rfl ?_
    refine z_xrz zt237 7 rfl zzr237 (by decide) (by decide) ?_
    show z_ev (d + 41) 276 10 [some (.ref 19), some (.int p1), some (.int p2), some (.int p3)] [.int 0] M1 _
    refine z_xZ zt276 4 rfl rfl (fun (h8 : (0 : Int) = 0) => ?_) (fun (h8 : (0 : Int) ≠ 0) => absurd h8 (by omega))
    refine z_xP zt276 11 26 [some (.ref 19), some (.int p1), some (.int p2), some (.int p3)] [.int 0] rfl rfl ?_
    have q0 : ((0 : Int32)).toInt = 0 := rfl
    have f48 : T[48]? = some (.inr (48, 0, 24, (-2147483648), 2147483647)) := X2.1.k rfl (by decide)
    have q0 : ((0 : Int32)).toInt = 0 := rfl
    exact z_xri zt276 12 rfl zzr276 (kk 0 M1 X2 (fun hq => by exfalso; omega) (fun hq => by exfalso; omega) (fun hq => by exfalso; omega) (fun hq => by exfalso; omega) (fun _ => ⟨rfl, (e3.a f48 (by decide)), _, h4, by omega⟩))
  refine z_xP zt237 5 17 [some (.ref 19), some (.int p1)] [.int 1] rfl rfl ?_
  refine z_xrz zt237 7 rfl zzr237 (by decide) (by decide) ?_
  show z_ev (d + 41) 276 10 [some (.ref 19), some (.int p1), some (.int p2), some (.int p3)] [.int 1] M1 _
  refine z_xZ zt276 4 rfl rfl (fun (h9 : (1 : Int) = 0) => absurd h9 (by omega)) (fun (h9 : (1 : Int) ≠ 0) => ?_)
  refine z_xP zt276 5 14 [some (.ref 19), some (.int p1), some (.int p2), some (.int p3)] [.int p2] rfl rfl ?_
  have h10 := z_b32 p2
  refine z_xL zt276 6 rfl rfl (fun (y11 : Int64) (h12 : y11.toInt = p2.toInt) => ?_) (z_qI2L rfl)
  refine z_xP zt276 7 16 [some (.ref 19), some (.int p1), some (.int p2), some (.int p3)] [.long 0, .long y11] rfl rfl ?_
  refine z_xl2 zt276 8 rfl zo276 zkl12_358 ?_
  refine z_xcS (vs := [.long y11, .long 0, .long 3]) (r := []) (L2 := [some (.long y11), none, some (.long 0), none, some (.long 3), none]) zt276 9 rfl zo276 zzcS12_116 (Or.inl rfl) (Nat.le_of_ble_eq_true rfl) rfl rfl (Nat.le_of_ble_eq_true rfl) zzm189 (Nat.le_of_ble_eq_true rfl) rfl ?_
  refine z_xP zt189 0 2 [some (.long y11), none, some (.long 0), none, some (.long 3), none] [.long 0, .long y11] rfl rfl ?_
  refine z_xI zt189 1 rfl rfl (fun (x13 : Int32) (h14 : (x13.toInt < 0 ∧ y11.toInt < 0) ∨ (x13.toInt = 0 ∧ y11.toInt = 0) ∨ (0 < x13.toInt ∧ 0 < y11.toInt)) => ?_) (z_qCmp rfl rfl)
  refine z_xZ zt189 2 rfl rfl (fun (h15 : x13.toInt < 0) => ?_) (fun (h15 : 0 ≤ x13.toInt) => ?_)
  · skip
    refine z_xP zt189 7 18 [some (.long y11), none, some (.long 0), none, some (.long 3), none] [.int 0] rfl rfl ?_
    refine z_xrz zt189 8 rfl zzr189 (by decide) (by decide) ?_
    show z_ev (d + 41) 276 22 [some (.ref 19), some (.int p1), some (.int p2), some (.int p3)] [.int 0] M1 _
    refine z_xZ zt276 10 rfl rfl (fun (h16 : (0 : Int) ≠ 0) => absurd h16 (by omega)) (fun (h16 : (0 : Int) = 0) => ?_)
    refine z_xP zt276 11 26 [some (.ref 19), some (.int p1), some (.int p2), some (.int p3)] [.int 0] rfl rfl ?_
    have q0 : ((0 : Int32)).toInt = 0 := rfl
    have f48 : T[48]? = some (.inr (48, 0, 24, (-2147483648), 2147483647)) := X2.1.k rfl (by decide)
    have q0 : ((0 : Int32)).toInt = 0 := rfl
    exact z_xri zt276 12 rfl zzr276 (kk 0 M1 X2 (fun hq => by exfalso; omega) (fun hq => by exfalso; omega) (fun hq => by exfalso; omega) (fun hq => by exfalso; omega) (fun _ => ⟨rfl, (e3.a f48 (by decide)), _, h4, by omega⟩))
  refine z_xP zt189 3 9 [some (.long y11), none, some (.long 0), none, some (.long 3), none] [.long 3, .long y11] rfl rfl ?_
  refine z_xI zt189 4 rfl rfl (fun (x17 : Int32) (h18 : (x17.toInt < 0 ∧ y11.toInt < 3) ∨ (x17.toInt = 0 ∧ y11.toInt = 3) ∨ (0 < x17.toInt ∧ 3 < y11.toInt)) => ?_) (z_qCmp rfl rfl)
  refine z_xZ zt189 5 rfl rfl (fun (h19 : 0 < x17.toInt) => ?_) (fun (h19 : x17.toInt ≤ 0) => ?_)
  · skip
    refine z_xP zt189 7 18 [some (.long y11), none, some (.long 0), none, some (.long 3), none] [.int 0] rfl rfl ?_
    refine z_xrz zt189 8 rfl zzr189 (by decide) (by decide) ?_
    show z_ev (d + 41) 276 22 [some (.ref 19), some (.int p1), some (.int p2), some (.int p3)] [.int 0] M1 _
    refine z_xZ zt276 10 rfl rfl (fun (h20 : (0 : Int) ≠ 0) => absurd h20 (by omega)) (fun (h20 : (0 : Int) = 0) => ?_)
    refine z_xP zt276 11 26 [some (.ref 19), some (.int p1), some (.int p2), some (.int p3)] [.int 0] rfl rfl ?_
    have q0 : ((0 : Int32)).toInt = 0 := rfl
    have f48 : T[48]? = some (.inr (48, 0, 24, (-2147483648), 2147483647)) := X2.1.k rfl (by decide)
    have q0 : ((0 : Int32)).toInt = 0 := rfl
    exact z_xri zt276 12 rfl zzr276 (kk 0 M1 X2 (fun hq => by exfalso; omega) (fun hq => by exfalso; omega) (fun hq => by exfalso; omega) (fun hq => by exfalso; omega) (fun _ => ⟨rfl, (e3.a f48 (by decide)), _, h4, by omega⟩))
  refine z_xP zt189 6 18 [some (.long y11), none, some (.long 0), none, some (.long 3), none] [.int 1] rfl rfl ?_
  refine z_xrz zt189 8 rfl zzr189 (by decide) (by decide) ?_
  show z_ev (d + 41) 276 22 [some (.ref 19), some (.int p1), some (.int p2), some (.int p3)] [.int 1] M1 _
  refine z_xZ zt276 10 rfl rfl (fun (h21 : (1 : Int) ≠ 0) => ?_) (fun (h21 : (1 : Int) = 0) => absurd h21 (by omega))
  refine z_xP zt276 13 29 [some (.ref 19), some (.int p1), some (.int p2), some (.int p3)] [.int p1, .ref 19] rfl rfl ?_
  refine z_xpf zt276 14 rfl zo276 zzf12_387 X2 f19 (by decide) (by decide) ⟨by omega, by omega⟩ rfl (by decide) zw12_48 (fun M22 X23 e24 h25 => ?_)
  refine z_xP zt276 15 33 [some (.ref 19), some (.int p1), some (.int p2), some (.int p3)] [.int p2] rfl rfl ?_
  refine z_xZ zt276 16 rfl rfl (fun (h26 : p2.toInt ≠ 0) => ?_) (fun (h26 : p2.toInt = 0) => ?_)
  · skip
    refine z_xP zt276 24 52 [some (.ref 19), some (.int p1), some (.int p2), some (.int p3)] [.int 1, .int p2] rfl rfl ?_
    refine z_xJ zt276 25 rfl rfl (fun (h27 : p2.toInt ≠ 1) => ?_) (fun (h27 : p2.toInt = 1) => ?_)
    · skip
      refine z_xP zt276 33 71 [some (.ref 19), some (.int p1), some (.int p2), some (.int p3)] [.int 2, .int p2] rfl rfl ?_
      refine z_xJ zt276 34 rfl rfl (fun (h28 : p2.toInt ≠ 2) => ?_) (fun (h28 : p2.toInt = 2) => ?_)
      · skip
        refine z_xP zt276 42 90 [some (.ref 19), some (.int p1), some (.int p2), some (.int p3)] [.ref 19, .ref 19] rfl rfl ?_
        refine z_xgX (b := 36) zt276 43 rfl zo276 zzf12_58 X23 f19 (by decide) (by decide) rfl ?_
        refine z_xP zt276 44 94 [some (.ref 19), some (.int p1), some (.int p2), some (.int p3)] [.int p1, .ref 36, .ref 19] rfl rfl ?_
        have f36 : T[36]? = some (.inr (36, 0, 20, 0, 7)) := X23.1.k rfl (by decide)
        refine z_xil zt276 45 rfl X23 f36 (by decide) (by omega) (by omega) (fun (x29 : Int32) h30 (h31 : 0 ≤ x29.toInt) (h32 : x29.toInt ≤ 7) => ?_)
        have h33 := congrArg Int32.toInt (h30.symm.trans ((congrFun (e24.a f36 (by decide)) _).trans ((congrFun (e3.a f36 (by decide)) _).trans hk36)))
        refine z_xP zt276 46 96 [some (.ref 19), some (.int p1), some (.int p2), some (.int p3)] [.int p3, .int x29, .ref 19] rfl rfl ?_
        refine z_xcV (vs := [.ref 19, .int x29, .int p3]) (r := []) (L2 := [some (.ref 19), some (.int x29), some (.int p3), none]) zt276 47 rfl zo276 zzcV12_402 (Or.inl rfl) rfl X23 f19 rfl rfl rfl (Nat.le_of_ble_eq_true rfl) zzm282 (Nat.le_of_ble_eq_true rfl) rfl ?_
        refine z_xP zt282 0 3 [some (.ref 19), some (.int x29), some (.int p3), some (.int 0)] [.int x29] rfl rfl ?_
        by_cases h34 : x29.toInt = 0
        · refine z_xSC zt282 1 (z_sub (k := 0) h34 rfl) 36 rfl rfl ?_
          refine z_xP zt282 2 38 [some (.ref 19), some (.int x29), some (.int p3), some (.int 0)] [.int 2, .ref 19] rfl rfl ?_
          refine z_xcV (vs := [.ref 19, .int 2]) (r := []) (L2 := [some (.ref 19), some (.int 2)]) zt282 3 rfl zo282 zzcV12_384 (Or.inl rfl) rfl X23 f19 rfl rfl rfl (Nat.le_of_ble_eq_true rfl) zzm278 (Nat.le_of_ble_eq_true rfl) rfl ?_
          have q2 : ((2 : Int32)).toInt = 2 := rfl
          have h35 := (e24.f f19 (by decide) h4)
          have q0 : ((0 : Int32)).toInt = 0 := rfl
          have q2 : ((2 : Int32)).toInt = 2 := rfl
          refine zNC278 X23.1 h35 ⟨by omega, by omega⟩ (fun M36 X37 h38 z39 h40 h41 h42 => ?_)
          have X43 := X23.go X37 (z_sb (by decide))
          show z_ev (d + 40) 282 41 [some (.ref 19), some (.int x29), some (.int p3), some (.int 0)] [] M36 _
          have f48 : T[48]? = some (.inr (48, 0, 24, (-2147483648), 2147483647)) := X43.1.k rfl (by decide)
          have n45 : z_Ar M22 48 = z_Ar M0 48 := ((e24.a f48 (by decide)).trans (e3.a f48 (by decide)))
          have h47 : (0 : Int32).toInt.toNat = 0 := by omega
          have n46 : z_Ar M36 48 = z_nrs 0 [2] (z_Ar M0 48) := by rw [h38, n45, h47]; rfl
          refine z_xP zt282 4 43 [some (.ref 19), some (.int x29), some (.int p3), some (.int 0)] [.ref 19, .ref 19] rfl rfl ?_
          refine z_xgX (b := 36) zt282 5 rfl zo282 zzf12_58 X43 f19 (by decide) (by decide) rfl ?_
          refine z_xP zt282 6 47 [some (.ref 19), some (.int x29), some (.int p3), some (.int 0)] [.ref 19, .ref 36, .ref 19] rfl rfl ?_
          have h48 := (X37.2.f f19 (by decide) h25)
          refine z_xgv zt282 7 rfl zo282 zzf12_387 X43 f19 (by decide) h48 ?_
          refine z_xil zt282 8 rfl X43 f36 (by decide) (by omega) (by omega) (fun (x49 : Int32) h50 (h51 : 0 ≤ x49.toInt) (h52 : x49.toInt ≤ 7) => ?_)
          have h53 := congrArg Int32.toInt (h50.symm.trans ((congrFun (X37.2.a f36 (by decide)) _).trans ((congrFun (e24.a f36 (by decide)) _).trans ((congrFun (e3.a f36 (by decide)) _).trans hk36))))
          refine z_xP zt282 9 52 [some (.ref 19), some (.int x29), some (.int p3), some (.int 0)] [.int p3, .int x49, .ref 19] rfl rfl ?_
          refine z_xcV (vs := [.ref 19, .int x49, .int p3]) (r := []) (L2 := [some (.ref 19), some (.int x49), some (.int p3), none]) zt282 10 rfl zo282 zzcV12_396 (Or.inl rfl) rfl X43 f19 rfl rfl rfl (Nat.le_of_ble_eq_true rfl) zzm280 (Nat.le_of_ble_eq_true rfl) rfl ?_
          refine z_xP zt280 0 1 [some (.ref 19), some (.int x49), some (.int p3), none] [.int x49] rfl rfl ?_
          by_cases h54 : x49.toInt = 0
          · refine z_xSC zt280 1 (z_sub (k := 0) h54 rfl) 44 rfl rfl ?_
            refine z_xP zt280 2 47 [some (.ref 19), some (.int x49), some (.int p3), none] [.int 10, .ref 19] rfl rfl ?_
            refine z_xcV (vs := [.ref 19, .int 10]) (r := []) (L2 := [some (.ref 19), some (.int 10)]) zt280 3 rfl zo280 zzcV12_384 (Or.inl rfl) rfl X43 f19 rfl rfl rfl (Nat.le_of_ble_eq_true rfl) zzm278 (Nat.le_of_ble_eq_true rfl) rfl ?_
            have q10 : ((10 : Int32)).toInt = 10 := rfl
            have q10 : ((10 : Int32)).toInt = 10 := rfl
            refine zNC278 X43.1 h40 ⟨by omega, by omega⟩ (fun M55 X56 h57 z58 h59 h60 h61 => ?_)
            have X62 := X43.go X56 (z_sb (by decide))
            show z_ev (d + 39) 280 50 [some (.ref 19), some (.int x49), some (.int p3), none] [] M55 _
            have h65 : (z39 : Int32).toInt.toNat = 1 := by omega
            have n64 : z_Ar M55 48 = z_nrs 0 [2, 10] (z_Ar M0 48) := by rw [h57, n46, h65]; rfl
            refine z_xP zt280 4 52 [some (.ref 19), some (.int x49), some (.int p3), none] [.ref 19, .ref 19] rfl rfl ?_
            refine z_xgX (b := 36) zt280 5 rfl zo280 zzf12_58 X62 f19 (by decide) (by decide) rfl ?_
            refine z_xP zt280 6 56 [some (.ref 19), some (.int x49), some (.int p3), none] [.ref 19, .ref 36, .ref 19] rfl rfl ?_
            have h66 := (X56.2.f f19 (by decide) h48)
            refine z_xgv zt280 7 rfl zo280 zzf12_387 X62 f19 (by decide) h66 ?_
            refine z_xil zt280 8 rfl X62 f36 (by decide) (by omega) (by omega) (fun (x67 : Int32) h68 (h69 : 0 ≤ x67.toInt) (h70 : x67.toInt ≤ 7) => ?_)
            have h71 := congrArg Int32.toInt (h68.symm.trans ((congrFun (X56.2.a f36 (by decide)) _).trans ((congrFun (X37.2.a f36 (by decide)) _).trans ((congrFun (e24.a f36 (by decide)) _).trans ((congrFun (e3.a f36 (by decide)) _).trans hk36)))))
            refine z_xP zt280 9 61 [some (.ref 19), some (.int x49), some (.int p3), none] [.int p3, .int x67, .ref 19] rfl rfl ?_
            refine z_xcV (vs := [.ref 19, .int x67, .int p3]) (r := []) (L2 := [some (.ref 19), some (.int x67), some (.int p3)]) zt280 10 rfl zo280 zzcV12_393 (Or.inl rfl) rfl X62 f19 rfl rfl rfl (Nat.le_of_ble_eq_true rfl) zzm277 (Nat.le_of_ble_eq_true rfl) rfl ?_
            refine z_xP zt277 0 1 [some (.ref 19), some (.int x67), some (.int p3)] [.int x67] rfl rfl ?_
            by_cases h72 : x67.toInt = 0
            · refine z_xSC zt277 1 (z_sub (k := 0) h72 rfl) 36 rfl rfl ?_
              refine z_xP zt277 2 38 [some (.ref 19), some (.int x67), some (.int p3)] [.int 1, .ref 19] rfl rfl ?_
              refine z_xcV (vs := [.ref 19, .int 1]) (r := []) (L2 := [some (.ref 19), some (.int 1)]) zt277 3 rfl zo277 zzcV12_384 (Or.inl rfl) rfl X62 f19 rfl rfl rfl (Nat.le_of_ble_eq_true rfl) zzm278 (Nat.le_of_ble_eq_true rfl) rfl ?_
              have q1 : ((1 : Int32)).toInt = 1 := rfl
              have q1 : ((1 : Int32)).toInt = 1 := rfl
              refine zNC278 X62.1 h59 ⟨by omega, by omega⟩ (fun M73 X74 h75 z76 h77 h78 h79 => ?_)
              have X80 := X62.go X74 (z_sb (by decide))
              show z_ev (d + 38) 277 41 [some (.ref 19), some (.int x67), some (.int p3)] [] M73 _
              have h83 : (z58 : Int32).toInt.toNat = 2 := by omega
              have n82 : z_Ar M73 48 = z_nrs 0 [2, 10, 1] (z_Ar M0 48) := by rw [h75, n64, h83]; rfl
              refine z_xP zt277 4 43 [some (.ref 19), some (.int x67), some (.int p3)] [.ref 19, .int p3] rfl rfl ?_
              have h84 := (X74.2.f f19 (by decide) h66)
              refine z_xgv zt277 5 rfl zo277 zzf12_387 X80 f19 (by decide) h84 ?_
              have h85 := z_b32 p3
              refine z_xI zt277 6 rfl rfl (fun (x86 : Int32) (h87 : x86 = p3 + p1) => ?_) (rfl)
              refine z_xri zt277 7 rfl zzr277 ?_
              show z_ev (d + 39) 280 64 [some (.ref 19), some (.int x49), some (.int p3), none] [.int x86] M73 _
              refine z_xP zt280 11 65 [some (.ref 19), some (.int x49), some (.int p3), none] [.int 2, .int x86] rfl rfl ?_
              have h88 := z_b32 x86
              refine z_xI zt280 12 rfl rfl (fun (x89 : Int32) (h90 : x89 = x86 * 2) => ?_) (rfl)
              refine z_xri zt280 13 rfl zzr280 ?_
              show z_ev (d + 40) 282 55 [some (.ref 19), some (.int x29), some (.int p3), some (.int 0)] [.int x89] M73 _
              refine z_xP zt282 11 59 [some (.ref 19), some (.int x29), some (.int p3), some (.int x89)] [.ref 19, .ref 19, .int x89] rfl rfl ?_
              refine z_xgX (b := 36) zt282 12 rfl zo282 zzf12_58 X80 f19 (by decide) (by decide) rfl ?_
              refine z_xP zt282 13 63 [some (.ref 19), some (.int x29), some (.int p3), some (.int x89)] [.ref 19, .ref 36, .ref 19, .int x89] rfl rfl ?_
              refine z_xgv zt282 14 rfl zo282 zzf12_387 X80 f19 (by decide) h84 ?_
              refine z_xil zt282 15 rfl X80 f36 (by decide) (by omega) (by omega) (fun (x91 : Int32) h92 (h93 : 0 ≤ x91.toInt) (h94 : x91.toInt ≤ 7) => ?_)
              have h95 := congrArg Int32.toInt (h92.symm.trans ((congrFun (X74.2.a f36 (by decide)) _).trans ((congrFun (X56.2.a f36 (by decide)) _).trans ((congrFun (X37.2.a f36 (by decide)) _).trans ((congrFun (e24.a f36 (by decide)) _).trans ((congrFun (e3.a f36 (by decide)) _).trans hk36))))))
              refine z_xP zt282 16 68 [some (.ref 19), some (.int x29), some (.int p3), some (.int x89)] [.int 1, .int x91, .ref 19, .int x89] rfl rfl ?_
              refine z_xcV (vs := [.ref 19, .int x91, .int 1]) (r := [.int x89]) (L2 := [some (.ref 19), some (.int x91), some (.int 1)]) zt282 17 rfl zo282 zzcV12_399 (Or.inl rfl) rfl X80 f19 rfl rfl rfl (Nat.le_of_ble_eq_true rfl) zzm281 (Nat.le_of_ble_eq_true rfl) rfl ?_
              refine z_xP zt281 0 1 [some (.ref 19), some (.int x91), some (.int 1)] [.int x91] rfl rfl ?_
              by_cases h96 : x91.toInt = 0
              · refine z_xSC zt281 1 (z_sub (k := 0) h96 rfl) 36 rfl rfl ?_
                refine z_xP zt281 2 39 [some (.ref 19), some (.int x91), some (.int 1)] [.int 11, .ref 19] rfl rfl ?_
                refine z_xcV (vs := [.ref 19, .int 11]) (r := []) (L2 := [some (.ref 19), some (.int 11)]) zt281 3 rfl zo281 zzcV12_384 (Or.inl rfl) rfl X80 f19 rfl rfl rfl (Nat.le_of_ble_eq_true rfl) zzm278 (Nat.le_of_ble_eq_true rfl) rfl ?_
                have q11 : ((11 : Int32)).toInt = 11 := rfl
                have q11 : ((11 : Int32)).toInt = 11 := rfl
                refine zNC278 X80.1 h77 ⟨by omega, by omega⟩ (fun M97 X98 h99 z100 h101 h102 h103 => ?_)
                have X104 := X80.go X98 (z_sb (by decide))
                show z_ev (d + 39) 281 42 [some (.ref 19), some (.int x91), some (.int 1)] [] M97 _
                have h107 : (z76 : Int32).toInt.toNat = 3 := by omega
                have n106 : z_Ar M97 48 = z_nrs 0 [2, 10, 1, 11] (z_Ar M0 48) := by rw [h99, n82, h107]; rfl
                refine z_xP zt281 4 44 [some (.ref 19), some (.int x91), some (.int 1)] [.ref 19, .int 1] rfl rfl ?_
                have h108 := (X98.2.f f19 (by decide) h84)
                refine z_xgv zt281 5 rfl zo281 zzf12_387 X104 f19 (by decide) h108 ?_
                refine z_xI zt281 6 rfl rfl (fun (x109 : Int32) (h110 : x109 = 1 ^^^ p1) => ?_) (rfl)
                refine z_xri zt281 7 rfl zzr281 ?_
                show z_ev (d + 40) 282 71 [some (.ref 19), some (.int x29), some (.int p3), some (.int x89)] [.int x109, .int x89] M97 _
                have h111 := z_b32 x89
                have h112 := z_b32 x109
                refine z_xI zt282 18 rfl rfl (fun (x113 : Int32) (h114 : x113 = x89 - x109) => ?_) (rfl)
                refine z_xri zt282 19 rfl zzr282 ?_
                show z_ev (d + 41) 276 99 [some (.ref 19), some (.int p1), some (.int p2), some (.int p3)] [.int x113] M97 _
                exact z_xri zt276 48 rfl zzr276 (kk x113 M97 X104 (fun hq => by exfalso; omega) (fun hq => by exfalso; omega) (fun hq => by exfalso; omega) (fun _ => ⟨(by rw [h114, h110, h90, h87]), n106, _, h101, by omega⟩) (fun hq => by exfalso; omega))
              exfalso; omega
            exfalso; omega
          exfalso; omega
        exfalso; omega
      refine z_xP zt276 35 76 [some (.ref 19), some (.int p1), some (.int p2), some (.int p3)] [.ref 19, .ref 19] rfl rfl ?_
      refine z_xgX (b := 36) zt276 36 rfl zo276 zzf12_58 X23 f19 (by decide) (by decide) rfl ?_
      refine z_xP zt276 37 80 [some (.ref 19), some (.int p1), some (.int p2), some (.int p3)] [.int p1, .ref 36, .ref 19] rfl rfl ?_
      have f36 : T[36]? = some (.inr (36, 0, 20, 0, 7)) := X23.1.k rfl (by decide)
      refine z_xil zt276 38 rfl X23 f36 (by decide) (by omega) (by omega) (fun (x115 : Int32) h116 (h117 : 0 ≤ x115.toInt) (h118 : x115.toInt ≤ 7) => ?_)
      have h119 := congrArg Int32.toInt (h116.symm.trans ((congrFun (e24.a f36 (by decide)) _).trans ((congrFun (e3.a f36 (by decide)) _).trans hk36)))
      refine z_xP zt276 39 82 [some (.ref 19), some (.int p1), some (.int p2), some (.int p3)] [.int p3, .int x115, .ref 19] rfl rfl ?_
      refine z_xcV (vs := [.ref 19, .int x115, .int p3]) (r := []) (L2 := [some (.ref 19), some (.int x115), some (.int p3)]) zt276 40 rfl zo276 zzcV12_399 (Or.inl rfl) rfl X23 f19 rfl rfl rfl (Nat.le_of_ble_eq_true rfl) zzm281 (Nat.le_of_ble_eq_true rfl) rfl ?_
      refine z_xP zt281 0 1 [some (.ref 19), some (.int x115), some (.int p3)] [.int x115] rfl rfl ?_
      by_cases h120 : x115.toInt = 0
      · refine z_xSC zt281 1 (z_sub (k := 0) h120 rfl) 36 rfl rfl ?_
        refine z_xP zt281 2 39 [some (.ref 19), some (.int x115), some (.int p3)] [.int 11, .ref 19] rfl rfl ?_
        refine z_xcV (vs := [.ref 19, .int 11]) (r := []) (L2 := [some (.ref 19), some (.int 11)]) zt281 3 rfl zo281 zzcV12_384 (Or.inl rfl) rfl X23 f19 rfl rfl rfl (Nat.le_of_ble_eq_true rfl) zzm278 (Nat.le_of_ble_eq_true rfl) rfl ?_
        have q11 : ((11 : Int32)).toInt = 11 := rfl
        have h121 := (e24.f f19 (by decide) h4)
        have q0 : ((0 : Int32)).toInt = 0 := rfl
        have q11 : ((11 : Int32)).toInt = 11 := rfl
        refine zNC278 X23.1 h121 ⟨by omega, by omega⟩ (fun M122 X123 h124 z125 h126 h127 h128 => ?_)
        have X129 := X23.go X123 (z_sb (by decide))
        show z_ev (d + 40) 281 42 [some (.ref 19), some (.int x115), some (.int p3)] [] M122 _
        have f48 : T[48]? = some (.inr (48, 0, 24, (-2147483648), 2147483647)) := X129.1.k rfl (by decide)
        have n131 : z_Ar M22 48 = z_Ar M0 48 := ((e24.a f48 (by decide)).trans (e3.a f48 (by decide)))
        have h133 : (0 : Int32).toInt.toNat = 0 := by omega
        have n132 : z_Ar M122 48 = z_nrs 0 [11] (z_Ar M0 48) := by rw [h124, n131, h133]; rfl
        refine z_xP zt281 4 44 [some (.ref 19), some (.int x115), some (.int p3)] [.ref 19, .int p3] rfl rfl ?_
        have h134 := (X123.2.f f19 (by decide) h25)
        refine z_xgv zt281 5 rfl zo281 zzf12_387 X129 f19 (by decide) h134 ?_
        refine z_xI zt281 6 rfl rfl (fun (x135 : Int32) (h136 : x135 = p3 ^^^ p1) => ?_) (rfl)
        refine z_xri zt281 7 rfl zzr281 ?_
        show z_ev (d + 41) 276 85 [some (.ref 19), some (.int p1), some (.int p2), some (.int p3)] [.int x135] M122 _
        refine z_xP zt276 41 99 [some (.ref 19), some (.int p1), some (.int p2), some (.int p3)] [.int x135] rfl rfl ?_
        exact z_xri zt276 48 rfl zzr276 (kk x135 M122 X129 (fun hq => by exfalso; omega) (fun hq => by exfalso; omega) (fun _ => ⟨(by rw [h136]), n132, _, h126, by omega⟩) (fun hq => by exfalso; omega) (fun hq => by exfalso; omega))
      exfalso; omega
    refine z_xP zt276 26 57 [some (.ref 19), some (.int p1), some (.int p2), some (.int p3)] [.ref 19, .ref 19] rfl rfl ?_
    refine z_xgX (b := 36) zt276 27 rfl zo276 zzf12_58 X23 f19 (by decide) (by decide) rfl ?_
    refine z_xP zt276 28 61 [some (.ref 19), some (.int p1), some (.int p2), some (.int p3)] [.int p1, .ref 36, .ref 19] rfl rfl ?_
    have f36 : T[36]? = some (.inr (36, 0, 20, 0, 7)) := X23.1.k rfl (by decide)
    refine z_xil zt276 29 rfl X23 f36 (by decide) (by omega) (by omega) (fun (x137 : Int32) h138 (h139 : 0 ≤ x137.toInt) (h140 : x137.toInt ≤ 7) => ?_)
    have h141 := congrArg Int32.toInt (h138.symm.trans ((congrFun (e24.a f36 (by decide)) _).trans ((congrFun (e3.a f36 (by decide)) _).trans hk36)))
    refine z_xP zt276 30 63 [some (.ref 19), some (.int p1), some (.int p2), some (.int p3)] [.int p3, .int x137, .ref 19] rfl rfl ?_
    refine z_xcV (vs := [.ref 19, .int x137, .int p3]) (r := []) (L2 := [some (.ref 19), some (.int x137), some (.int p3), none]) zt276 31 rfl zo276 zzcV12_396 (Or.inl rfl) rfl X23 f19 rfl rfl rfl (Nat.le_of_ble_eq_true rfl) zzm280 (Nat.le_of_ble_eq_true rfl) rfl ?_
    refine z_xP zt280 0 1 [some (.ref 19), some (.int x137), some (.int p3), none] [.int x137] rfl rfl ?_
    by_cases h142 : x137.toInt = 0
    · refine z_xSC zt280 1 (z_sub (k := 0) h142 rfl) 44 rfl rfl ?_
      refine z_xP zt280 2 47 [some (.ref 19), some (.int x137), some (.int p3), none] [.int 10, .ref 19] rfl rfl ?_
      refine z_xcV (vs := [.ref 19, .int 10]) (r := []) (L2 := [some (.ref 19), some (.int 10)]) zt280 3 rfl zo280 zzcV12_384 (Or.inl rfl) rfl X23 f19 rfl rfl rfl (Nat.le_of_ble_eq_true rfl) zzm278 (Nat.le_of_ble_eq_true rfl) rfl ?_
      have q10 : ((10 : Int32)).toInt = 10 := rfl
      have h143 := (e24.f f19 (by decide) h4)
      have q0 : ((0 : Int32)).toInt = 0 := rfl
      have q10 : ((10 : Int32)).toInt = 10 := rfl
      refine zNC278 X23.1 h143 ⟨by omega, by omega⟩ (fun M144 X145 h146 z147 h148 h149 h150 => ?_)
      have X151 := X23.go X145 (z_sb (by decide))
      show z_ev (d + 40) 280 50 [some (.ref 19), some (.int x137), some (.int p3), none] [] M144 _
      have f48 : T[48]? = some (.inr (48, 0, 24, (-2147483648), 2147483647)) := X151.1.k rfl (by decide)
      have n153 : z_Ar M22 48 = z_Ar M0 48 := ((e24.a f48 (by decide)).trans (e3.a f48 (by decide)))
      have h155 : (0 : Int32).toInt.toNat = 0 := by omega
      have n154 : z_Ar M144 48 = z_nrs 0 [10] (z_Ar M0 48) := by rw [h146, n153, h155]; rfl
      refine z_xP zt280 4 52 [some (.ref 19), some (.int x137), some (.int p3), none] [.ref 19, .ref 19] rfl rfl ?_
      refine z_xgX (b := 36) zt280 5 rfl zo280 zzf12_58 X151 f19 (by decide) (by decide) rfl ?_
      refine z_xP zt280 6 56 [some (.ref 19), some (.int x137), some (.int p3), none] [.ref 19, .ref 36, .ref 19] rfl rfl ?_
      have h156 := (X145.2.f f19 (by decide) h25)
      refine z_xgv zt280 7 rfl zo280 zzf12_387 X151 f19 (by decide) h156 ?_
      refine z_xil zt280 8 rfl X151 f36 (by decide) (by omega) (by omega) (fun (x157 : Int32) h158 (h159 : 0 ≤ x157.toInt) (h160 : x157.toInt ≤ 7) => ?_)
      have h161 := congrArg Int32.toInt (h158.symm.trans ((congrFun (X145.2.a f36 (by decide)) _).trans ((congrFun (e24.a f36 (by decide)) _).trans ((congrFun (e3.a f36 (by decide)) _).trans hk36))))
      refine z_xP zt280 9 61 [some (.ref 19), some (.int x137), some (.int p3), none] [.int p3, .int x157, .ref 19] rfl rfl ?_
      refine z_xcV (vs := [.ref 19, .int x157, .int p3]) (r := []) (L2 := [some (.ref 19), some (.int x157), some (.int p3)]) zt280 10 rfl zo280 zzcV12_393 (Or.inl rfl) rfl X151 f19 rfl rfl rfl (Nat.le_of_ble_eq_true rfl) zzm277 (Nat.le_of_ble_eq_true rfl) rfl ?_
      refine z_xP zt277 0 1 [some (.ref 19), some (.int x157), some (.int p3)] [.int x157] rfl rfl ?_
      by_cases h162 : x157.toInt = 0
      · refine z_xSC zt277 1 (z_sub (k := 0) h162 rfl) 36 rfl rfl ?_
        refine z_xP zt277 2 38 [some (.ref 19), some (.int x157), some (.int p3)] [.int 1, .ref 19] rfl rfl ?_
        refine z_xcV (vs := [.ref 19, .int 1]) (r := []) (L2 := [some (.ref 19), some (.int 1)]) zt277 3 rfl zo277 zzcV12_384 (Or.inl rfl) rfl X151 f19 rfl rfl rfl (Nat.le_of_ble_eq_true rfl) zzm278 (Nat.le_of_ble_eq_true rfl) rfl ?_
        have q1 : ((1 : Int32)).toInt = 1 := rfl
        have q1 : ((1 : Int32)).toInt = 1 := rfl
        refine zNC278 X151.1 h148 ⟨by omega, by omega⟩ (fun M163 X164 h165 z166 h167 h168 h169 => ?_)
        have X170 := X151.go X164 (z_sb (by decide))
        show z_ev (d + 39) 277 41 [some (.ref 19), some (.int x157), some (.int p3)] [] M163 _
        have h173 : (z147 : Int32).toInt.toNat = 1 := by omega
        have n172 : z_Ar M163 48 = z_nrs 0 [10, 1] (z_Ar M0 48) := by rw [h165, n154, h173]; rfl
        refine z_xP zt277 4 43 [some (.ref 19), some (.int x157), some (.int p3)] [.ref 19, .int p3] rfl rfl ?_
        have h174 := (X164.2.f f19 (by decide) h156)
        refine z_xgv zt277 5 rfl zo277 zzf12_387 X170 f19 (by decide) h174 ?_
        have h175 := z_b32 p3
        refine z_xI zt277 6 rfl rfl (fun (x176 : Int32) (h177 : x176 = p3 + p1) => ?_) (rfl)
        refine z_xri zt277 7 rfl zzr277 ?_
        show z_ev (d + 40) 280 64 [some (.ref 19), some (.int x137), some (.int p3), none] [.int x176] M163 _
        refine z_xP zt280 11 65 [some (.ref 19), some (.int x137), some (.int p3), none] [.int 2, .int x176] rfl rfl ?_
        have h178 := z_b32 x176
        refine z_xI zt280 12 rfl rfl (fun (x179 : Int32) (h180 : x179 = x176 * 2) => ?_) (rfl)
        refine z_xri zt280 13 rfl zzr280 ?_
        show z_ev (d + 41) 276 66 [some (.ref 19), some (.int p1), some (.int p2), some (.int p3)] [.int x179] M163 _
        refine z_xP zt276 32 99 [some (.ref 19), some (.int p1), some (.int p2), some (.int p3)] [.int x179] rfl rfl ?_
        exact z_xri zt276 48 rfl zzr276 (kk x179 M163 X170 (fun hq => by exfalso; omega) (fun _ => ⟨(by rw [h180, h177]), n172, _, h167, by omega⟩) (fun hq => by exfalso; omega) (fun hq => by exfalso; omega) (fun hq => by exfalso; omega))
      exfalso; omega
    exfalso; omega
  refine z_xP zt276 17 38 [some (.ref 19), some (.int p1), some (.int p2), some (.int p3)] [.ref 19, .ref 19] rfl rfl ?_
  refine z_xgX (b := 36) zt276 18 rfl zo276 zzf12_58 X23 f19 (by decide) (by decide) rfl ?_
  refine z_xP zt276 19 42 [some (.ref 19), some (.int p1), some (.int p2), some (.int p3)] [.int p1, .ref 36, .ref 19] rfl rfl ?_
  have f36 : T[36]? = some (.inr (36, 0, 20, 0, 7)) := X23.1.k rfl (by decide)
  refine z_xil zt276 20 rfl X23 f36 (by decide) (by omega) (by omega) (fun (x181 : Int32) h182 (h183 : 0 ≤ x181.toInt) (h184 : x181.toInt ≤ 7) => ?_)
  have h185 := congrArg Int32.toInt (h182.symm.trans ((congrFun (e24.a f36 (by decide)) _).trans ((congrFun (e3.a f36 (by decide)) _).trans hk36)))
  refine z_xP zt276 21 44 [some (.ref 19), some (.int p1), some (.int p2), some (.int p3)] [.int p3, .int x181, .ref 19] rfl rfl ?_
  refine z_xcV (vs := [.ref 19, .int x181, .int p3]) (r := []) (L2 := [some (.ref 19), some (.int x181), some (.int p3)]) zt276 22 rfl zo276 zzcV12_393 (Or.inl rfl) rfl X23 f19 rfl rfl rfl (Nat.le_of_ble_eq_true rfl) zzm277 (Nat.le_of_ble_eq_true rfl) rfl ?_
  refine z_xP zt277 0 1 [some (.ref 19), some (.int x181), some (.int p3)] [.int x181] rfl rfl ?_
  by_cases h186 : x181.toInt = 0
  · refine z_xSC zt277 1 (z_sub (k := 0) h186 rfl) 36 rfl rfl ?_
    refine z_xP zt277 2 38 [some (.ref 19), some (.int x181), some (.int p3)] [.int 1, .ref 19] rfl rfl ?_
    refine z_xcV (vs := [.ref 19, .int 1]) (r := []) (L2 := [some (.ref 19), some (.int 1)]) zt277 3 rfl zo277 zzcV12_384 (Or.inl rfl) rfl X23 f19 rfl rfl rfl (Nat.le_of_ble_eq_true rfl) zzm278 (Nat.le_of_ble_eq_true rfl) rfl ?_
    have q1 : ((1 : Int32)).toInt = 1 := rfl
    have h187 := (e24.f f19 (by decide) h4)
    have q0 : ((0 : Int32)).toInt = 0 := rfl
    have q1 : ((1 : Int32)).toInt = 1 := rfl
    refine zNC278 X23.1 h187 ⟨by omega, by omega⟩ (fun M188 X189 h190 z191 h192 h193 h194 => ?_)
    have X195 := X23.go X189 (z_sb (by decide))
    show z_ev (d + 40) 277 41 [some (.ref 19), some (.int x181), some (.int p3)] [] M188 _
    have f48 : T[48]? = some (.inr (48, 0, 24, (-2147483648), 2147483647)) := X195.1.k rfl (by decide)
    have n197 : z_Ar M22 48 = z_Ar M0 48 := ((e24.a f48 (by decide)).trans (e3.a f48 (by decide)))
    have h199 : (0 : Int32).toInt.toNat = 0 := by omega
    have n198 : z_Ar M188 48 = z_nrs 0 [1] (z_Ar M0 48) := by rw [h190, n197, h199]; rfl
    refine z_xP zt277 4 43 [some (.ref 19), some (.int x181), some (.int p3)] [.ref 19, .int p3] rfl rfl ?_
    have h200 := (X189.2.f f19 (by decide) h25)
    refine z_xgv zt277 5 rfl zo277 zzf12_387 X195 f19 (by decide) h200 ?_
    have h201 := z_b32 p3
    refine z_xI zt277 6 rfl rfl (fun (x202 : Int32) (h203 : x202 = p3 + p1) => ?_) (rfl)
    refine z_xri zt277 7 rfl zzr277 ?_
    show z_ev (d + 41) 276 47 [some (.ref 19), some (.int p1), some (.int p2), some (.int p3)] [.int x202] M188 _
    refine z_xP zt276 23 99 [some (.ref 19), some (.int p1), some (.int p2), some (.int p3)] [.int x202] rfl rfl ?_
    exact z_xri zt276 48 rfl zzr276 (kk x202 M188 X195 (fun _ => ⟨(by rw [h203]), n198, _, h192, by omega⟩) (fun hq => by exfalso; omega) (fun hq => by exfalso; omega) (fun hq => by exfalso; omega) (fun hq => by exfalso; omega))
  exfalso; omega
theorem zNC159_1 {T : List zK} {d : Nat} {K : Option Value → zH → Prop} {p1 : Int32} {p2 : Int32} {p3 : Int32} {ww : Int32} {bb : Nat} {nn sh jd : Int32} {M0 : zH} (hW : z_W M0 T) (hww : z_F M0 4 5 = some (.int ww)) (hwr : 0 ≤ p1.toInt ∧ p1.toInt < ww.toInt ∧ ww.toInt ≤ 20) (hbb : z_O M0 12 p1.toNatClampNeg = some bb) (kbb : T[bb]? = some (.inl (5, 0, 0, 0, 0))) (hf1 : z_F M0 bb 1 = some (.int sh)) (hf2 : z_F M0 bb 2 = some (.int jd)) (hf3 : z_F M0 bb 3 = some (.int nn)) (hG : z_GG T M0) (kk : ∀ (x : Int32) (M1 : zH), z_X T zw159 M0 M1 → (p2.toInt = 0 → x = ((p3 + nn) - 1) ∧ z_Ar M1 13 = z_nts [20, 1] (upd (z_Ar M0 13) 0 0)) → (p2.toInt = 1 → x = (((p3 + nn) - 1) * 2) ∧ z_Ar M1 13 = z_nts [10, 20, 1] (upd (z_Ar M0 13) 0 0)) → (p2.toInt = 2 → x = (p3 ^^^ nn) ∧ z_Ar M1 13 = z_nts [11] (upd (z_Ar M0 13) 0 0)) → (p2.toInt = 3 → x = ((((p3 + nn) - 1) * 2) - (1 ^^^ nn)) ∧ z_Ar M1 13 = z_nts [2, 10, 20, 1, 11] (upd (z_Ar M0 13) 0 0)) → (p2.toInt < 0 ∨ 3 < p2.toInt → x = 0 ∧ z_Ar M1 13 = upd (z_Ar M0 13) 0 0) → K (some (.int x)) M1) : z_ev (d + 8) 159 0 [some (.ref 4), some (.int p1), some (.int p2), some (.int p3), none] [] M0 K := by
  have X : z_X T zw159 M0 M0 := .refl hW
  refine z_xP zt159 0 1 [some (.ref 4), some (.int p1), some (.int p2), some (.int p3), none] [.ref 4] rfl rfl ?_
  have f4 : T[4]? = some (.inl (0, 0, 0, 0, 0)) := X.1.k rfl (by decide)
  refine z_xgX (b := 13) zt159 1 rfl zo159 zzf0_31 X f4 (by decide) (by decide) rfl ?_
  refine z_xP zt159 2 6 [some (.ref 4), some (.int p1), some (.int p2), some (.int p3), none] [.int 0, .int 0, .ref 13] rfl rfl ?_
  have f13 : T[13]? = some (.inr (13, 0, 25, (-2147483648), 2147483647)) := X.1.k rfl (by decide)
  have q0 : ((0 : Int32)).toInt = 0 := rfl
  refine z_xis zt159 3 rfl X f13 (by decide) (by decide) (by decide) (by decide) (by omega) (by omega) (by decide) (fun M1 X2 e3 h4 => ?_)
  have q0 : ((0 : Int32)).toInt = 0 := rfl
  have h5 := z_u0 h4 (by omega)
  have n6 : z_Ar M1 13 = upd (z_Ar M0 13) 0 0 := h4
  refine z_xP zt159 4 9 [some (.ref 4), some (.int p1), some (.int p2), some (.int p3), none] [.int p1, .ref 4] rfl rfl ?_
  refine z_xcV (vs := [.ref 4, .int p1]) (r := []) (L2 := [some (.ref 4), some (.int p1)]) zt159 5 rfl zo159 zzcV0_221 (Or.inl rfl) rfl X2 f4 rfl rfl rfl (Nat.le_of_ble_eq_true rfl) zzm84 (Nat.le_of_ble_eq_true rfl) rfl ?_
  refine z_xP zt84 0 1 [some (.ref 4), some (.int p1)] [.int p1] rfl rfl ?_
  refine z_xZ zt84 1 rfl rfl (fun (h7 : p1.toInt < 0) => absurd h7 (by omega)) (fun (h7 : 0 ≤ p1.toInt) => ?_)
  refine z_xP zt84 2 6 [some (.ref 4), some (.int p1)] [.ref 4, .int p1] rfl rfl ?_
  have h8 := (e3.f f4 (by decide) hww)
  refine z_xgv zt84 3 rfl zo84 zzf0_188 X2 f4 (by decide) h8 ?_
  refine z_xJ zt84 4 rfl rfl (fun (h9 : p1.toInt < ww.toInt) => ?_) (fun (h9 : ww.toInt ≤ p1.toInt) => ?_)
  · skip
    refine z_xP zt84 6 17 [some (.ref 4), some (.int p1)] [.ref 4] rfl rfl ?_
    refine z_xgX (b := 12) zt84 7 rfl zo84 zzf0_27 X2 f4 (by decide) (by decide) rfl ?_
    refine z_xP zt84 8 21 [some (.ref 4), some (.int p1)] [.int p1, .ref 12] rfl rfl ?_
    have f12 : T[12]? = some (.inr (12, 3, 20, 0, 0)) := X2.1.k rfl (by decide)
    refine z_xalv zt84 9 rfl X2 f12 (by decide) (by decide) (by decide) (by omega) (by omega) ((congrFun (e3.o f12 (by decide)) _).trans hbb) ?_
    refine z_xra zt84 10 rfl zzr84 ?_
    show z_ev (d + 8) 159 12 [some (.ref 4), some (.int p1), some (.int p2), some (.int p3), none] [.ref bb] M1 _
    refine z_xP zt159 6 21 [some (.ref 4), some (.int p1), some (.int p2), some (.int p3), some (.ref bb)] [] rfl rfl ?_
    refine z_xP zt159 9 22 [some (.ref 4), some (.int p1), some (.int p2), some (.int p3), some (.ref bb)] [.int p2] rfl rfl ?_
    by_cases h10 : p2.toInt = 0
    · refine z_xSC zt159 10 (z_sub (k := 0) h10 rfl) 52 rfl rfl ?_
      refine z_xP zt159 11 55 [some (.ref 4), some (.int p1), some (.int p2), some (.int p3), some (.ref bb)] [.int p3, .ref bb] rfl rfl ?_
      refine z_xcV (vs := [.ref bb, .int p3]) (r := []) (L2 := [some (.ref bb), some (.int p3)]) zt159 12 rfl zo159 zzcV0_295 (Or.inr rfl) rfl X2 kbb rfl rfl rfl (Nat.le_of_ble_eq_true rfl) zzm160 (Nat.le_of_ble_eq_true rfl) rfl ?_
      refine z_xP zt160 0 3 [some (.ref bb), some (.int p3)] [.int 20, .ref bb] rfl rfl ?_
      refine z_xcV (vs := [.ref bb, .int 20]) (r := []) (L2 := [some (.ref bb), some (.int 20)]) zt160 1 rfl zo160 zzcV5_13 (Or.inr rfl) rfl X2 kbb rfl rfl rfl (Nat.le_of_ble_eq_true rfl) zzm161 (Nat.le_of_ble_eq_true rfl) rfl ?_
      have q20 : ((20 : Int32)).toInt = 20 := rfl
      have q20 : ((20 : Int32)).toInt = 20 := rfl
      refine zNC161 X2.1 (by decide) kbb ⟨by omega, by omega⟩ (fun M11 X12 h13 h14 => ?_)
      have X15 := X2.go X12 (z_sb (by decide))
      show z_ev (d + 7) 160 6 [some (.ref bb), some (.int p3)] [] M11 _
      have n17 : z_Ar M11 13 = z_nts [20] (upd (z_Ar M0 13) 0 0) := z_ntsS [] n6 h14
      refine z_xP zt160 2 8 [some (.ref bb), some (.int p3)] [.int p3, .ref bb] rfl rfl ?_
      refine z_xcI (vs := [.ref bb, .int p3]) (r := []) (L2 := [some (.ref bb), some (.int p3)]) zt160 3 rfl zo160 zzcI5_19 (Or.inr (Or.inl rfl)) rfl X15 kbb rfl rfl (Nat.le_of_ble_eq_true rfl) zzm163 (Nat.le_of_ble_eq_true rfl) rfl ?_
      refine z_xP zt163 0 2 [some (.ref bb), some (.int p3)] [.int 1, .ref bb] rfl rfl ?_
      refine z_xcV (vs := [.ref bb, .int 1]) (r := []) (L2 := [some (.ref bb), some (.int 1)]) zt163 1 rfl zo163 zzcV4_31 (Or.inr rfl) rfl X15 kbb rfl rfl rfl (Nat.le_of_ble_eq_true rfl) zzm161 (Nat.le_of_ble_eq_true rfl) rfl ?_
      have q1 : ((1 : Int32)).toInt = 1 := rfl
      have q1 : ((1 : Int32)).toInt = 1 := rfl
      refine zNC161 X15.1 (by decide) kbb ⟨by omega, by omega⟩ (fun M18 X19 h20 h21 => ?_)
      have X22 := X15.go X19 (z_sb (by decide))
      show z_ev (d + 6) 163 5 [some (.ref bb), some (.int p3)] [] M18 _
      have n24 : z_Ar M18 13 = z_nts [20, 1] (upd (z_Ar M0 13) 0 0) := z_ntsS [20] n17 h21
      refine z_xP zt163 2 7 [some (.ref bb), some (.int p3)] [.ref bb, .int p3] rfl rfl ?_
      have h25 := (X19.2.f kbb (by decide) (X12.2.f kbb (by decide) (e3.f kbb (by decide) hf3)))
      refine z_xgv zt163 3 rfl zo163 zzf4_15 X22 kbb (by decide) h25 ?_
      have h26 := z_b32 p3
      have h27 := z_b32 nn
      refine z_xI zt163 4 rfl rfl (fun (x28 : Int32) (h29 : x28 = p3 + nn) => ?_) (rfl)
      refine z_xri zt163 5 rfl zzr163 ?_
      show z_ev (d + 7) 160 11 [some (.ref bb), some (.int p3)] [.int x28] M18 _
      refine z_xP zt160 4 12 [some (.ref bb), some (.int p3)] [.int 1, .int x28] rfl rfl ?_
      have h30 := z_b32 x28
      refine z_xI zt160 5 rfl rfl (fun (x31 : Int32) (h32 : x31 = x28 - 1) => ?_) (rfl)
      refine z_xri zt160 6 rfl zzr160 ?_
      show z_ev (d + 8) 159 58 [some (.ref 4), some (.int p1), some (.int p2), some (.int p3), some (.ref bb)] [.int x31] M18 _
      exact z_xri zt159 13 rfl zzr159 (kk x31 M18 X22 (fun _ => ⟨(by rw [h32, h29]), n24⟩) (fun hq => by exfalso; omega) (fun hq => by exfalso; omega) (fun hq => by exfalso; omega) (fun hq => by exfalso; omega))
    by_cases h33 : p2.toInt = 1
    · refine z_xSC zt159 10 (z_sub (k := 1) h33 rfl) 59 rfl rfl ?_
      refine z_xP zt159 14 62 [some (.ref 4), some (.int p1), some (.int p2), some (.int p3), some (.ref bb)] [.int p3, .ref bb] rfl rfl ?_
      refine z_xcV (vs := [.ref bb, .int p3]) (r := []) (L2 := [some (.ref bb), some (.int p3)]) zt159 15 rfl zo159 zzcV0_298 (Or.inr rfl) rfl X2 kbb rfl rfl rfl (Nat.le_of_ble_eq_true rfl) zzm167 (Nat.le_of_ble_eq_true rfl) rfl ?_
      refine z_xP zt167 0 3 [some (.ref bb), some (.int p3)] [.int 10, .ref bb] rfl rfl ?_
      refine z_xcV (vs := [.ref bb, .int 10]) (r := []) (L2 := [some (.ref bb), some (.int 10)]) zt167 1 rfl zo167 zzcV4_31 (Or.inr rfl) rfl X2 kbb rfl rfl rfl (Nat.le_of_ble_eq_true rfl) zzm161 (Nat.le_of_ble_eq_true rfl) rfl ?_
      have q10 : ((10 : Int32)).toInt = 10 := rfl
      have q10 : ((10 : Int32)).toInt = 10 := rfl
      refine zNC161 X2.1 (by decide) kbb ⟨by omega, by omega⟩ (fun M34 X35 h36 h37 => ?_)
      have X38 := X2.go X35 (z_sb (by decide))
      show z_ev (d + 7) 167 6 [some (.ref bb), some (.int p3)] [] M34 _
      have n40 : z_Ar M34 13 = z_nts [10] (upd (z_Ar M0 13) 0 0) := z_ntsS [] n6 h37
      refine z_xP zt167 2 8 [some (.ref bb), some (.int p3)] [.int p3, .ref bb] rfl rfl ?_
      refine z_xcV (vs := [.ref bb, .int p3]) (r := []) (L2 := [some (.ref bb), some (.int p3)]) zt167 3 rfl zo167 zzcV4_35 (Or.inr rfl) rfl X38 kbb rfl rfl rfl (Nat.le_of_ble_eq_true rfl) zzm160 (Nat.le_of_ble_eq_true rfl) rfl ?_
      refine z_xP zt160 0 3 [some (.ref bb), some (.int p3)] [.int 20, .ref bb] rfl rfl ?_
      refine z_xcV (vs := [.ref bb, .int 20]) (r := []) (L2 := [some (.ref bb), some (.int 20)]) zt160 1 rfl zo160 zzcV5_13 (Or.inr rfl) rfl X38 kbb rfl rfl rfl (Nat.le_of_ble_eq_true rfl) zzm161 (Nat.le_of_ble_eq_true rfl) rfl ?_
      have q20 : ((20 : Int32)).toInt = 20 := rfl
      have q20 : ((20 : Int32)).toInt = 20 := rfl
      refine zNC161 X38.1 (by decide) kbb ⟨by omega, by omega⟩ (fun M41 X42 h43 h44 => ?_)
      have X45 := X38.go X42 (z_sb (by decide))
      show z_ev (d + 6) 160 6 [some (.ref bb), some (.int p3)] [] M41 _
      have n47 : z_Ar M41 13 = z_nts [10, 20] (upd (z_Ar M0 13) 0 0) := z_ntsS [10] n40 h44
      refine z_xP zt160 2 8 [some (.ref bb), some (.int p3)] [.int p3, .ref bb] rfl rfl ?_
      refine z_xcI (vs := [.ref bb, .int p3]) (r := []) (L2 := [some (.ref bb), some (.int p3)]) zt160 3 rfl zo160 zzcI5_19 (Or.inr (Or.inl rfl)) rfl X45 kbb rfl rfl (Nat.le_of_ble_eq_true rfl) zzm163 (Nat.le_of_ble_eq_true rfl) rfl ?_
      refine z_xP zt163 0 2 [some (.ref bb), some (.int p3)] [.int 1, .ref bb] rfl rfl ?_
      refine z_xcV (vs := [.ref bb, .int 1]) (r := []) (L2 := [some (.ref bb), some (.int 1)]) zt163 1 rfl zo163 zzcV4_31 (Or.inr rfl) rfl X45 kbb rfl rfl rfl (Nat.le_of_ble_eq_true rfl) zzm161 (Nat.le_of_ble_eq_true rfl) rfl ?_
      have q1 : ((1 : Int32)).toInt = 1 := rfl
      have q1 : ((1 : Int32)).toInt = 1 := rfl
      refine zNC161 X45.1 (by decide) kbb ⟨by omega, by omega⟩ (fun M48 X49 h50 h51 => ?_)
      have X52 := X45.go X49 (z_sb (by decide))
      show z_ev (d + 5) 163 5 [some (.ref bb), some (.int p3)] [] M48 _
      have n54 : z_Ar M48 13 = z_nts [10, 20, 1] (upd (z_Ar M0 13) 0 0) := z_ntsS [10, 20] n47 h51
      refine z_xP zt163 2 7 [some (.ref bb), some (.int p3)] [.ref bb, .int p3] rfl rfl ?_
      have h55 := (X49.2.f kbb (by decide) (X42.2.f kbb (by decide) (X35.2.f kbb (by decide) (e3.f kbb (by decide) hf3))))
      refine z_xgv zt163 3 rfl zo163 zzf4_15 X52 kbb (by decide) h55 ?_
      have h56 := z_b32 p3
      have h57 := z_b32 nn
      refine z_xI zt163 4 rfl rfl (fun (x58 : Int32) (h59 : x58 = p3 + nn) => ?_) (rfl)
      refine z_xri zt163 5 rfl zzr163 ?_
      show z_ev (d + 6) 160 11 [some (.ref bb), some (.int p3)] [.int x58] M48 _
      refine z_xP zt160 4 12 [some (.ref bb), some (.int p3)] [.int 1, .int x58] rfl rfl ?_
      have h60 := z_b32 x58
      refine z_xI zt160 5 rfl rfl (fun (x61 : Int32) (h62 : x61 = x58 - 1) => ?_) (rfl)
      refine z_xri zt160 6 rfl zzr160 ?_
      show z_ev (d + 7) 167 11 [some (.ref bb), some (.int p3)] [.int x61] M48 _
      refine z_xP zt167 4 12 [some (.ref bb), some (.int p3)] [.int 2, .int x61] rfl rfl ?_
      have h63 := z_b32 x61
      refine z_xI zt167 5 rfl rfl (fun (x64 : Int32) (h65 : x64 = x61 * 2) => ?_) (rfl)
      refine z_xri zt167 6 rfl zzr167 ?_
      show z_ev (d + 8) 159 65 [some (.ref 4), some (.int p1), some (.int p2), some (.int p3), some (.ref bb)] [.int x64] M48 _
      exact z_xri zt159 16 rfl zzr159 (kk x64 M48 X52 (fun hq => by exfalso; omega) (fun _ => ⟨(by rw [h65, h62, h59]), n54⟩) (fun hq => by exfalso; omega) (fun hq => by exfalso; omega) (fun hq => by exfalso; omega))
    by_cases h66 : p2.toInt = 2
    · refine z_xSC zt159 10 (z_sub (k := 2) h66 rfl) 66 rfl rfl ?_
      refine z_xP zt159 17 69 [some (.ref 4), some (.int p1), some (.int p2), some (.int p3), some (.ref bb)] [.int p3, .ref bb] rfl rfl ?_
      refine z_xcV (vs := [.ref bb, .int p3]) (r := []) (L2 := [some (.ref bb), some (.int p3)]) zt159 18 rfl zo159 zzcV0_301 (Or.inr rfl) rfl X2 kbb rfl rfl rfl (Nat.le_of_ble_eq_true rfl) zzm170 (Nat.le_of_ble_eq_true rfl) rfl ?_
      refine z_xP zt170 0 3 [some (.ref bb), some (.int p3)] [.int 11, .ref bb] rfl rfl ?_
      refine z_xcV (vs := [.ref bb, .int 11]) (r := []) (L2 := [some (.ref bb), some (.int 11)]) zt170 1 rfl zo170 zzcV4_31 (Or.inr rfl) rfl X2 kbb rfl rfl rfl (Nat.le_of_ble_eq_true rfl) zzm161 (Nat.le_of_ble_eq_true rfl) rfl ?_
      have q11 : ((11 : Int32)).toInt = 11 := rfl
      have q11 : ((11 : Int32)).toInt = 11 := rfl
      refine zNC161 X2.1 (by decide) kbb ⟨by omega, by omega⟩ (fun M67 X68 h69 h70 => ?_)
      have X71 := X2.go X68 (z_sb (by decide))
      show z_ev (d + 7) 170 6 [some (.ref bb), some (.int p3)] [] M67 _
      have n73 : z_Ar M67 13 = z_nts [11] (upd (z_Ar M0 13) 0 0) := z_ntsS [] n6 h70
      refine z_xP zt170 2 8 [some (.ref bb), some (.int p3)] [.ref bb, .int p3] rfl rfl ?_
      have h74 := (X68.2.f kbb (by decide) (e3.f kbb (by decide) hf3))
      refine z_xgv zt170 3 rfl zo170 zzf4_15 X71 kbb (by decide) h74 ?_
      refine z_xI zt170 4 rfl rfl (fun (x75 : Int32) (h76 : x75 = p3 ^^^ nn) => ?_) (rfl)
      refine z_xri zt170 5 rfl zzr170 ?_
      show z_ev (d + 8) 159 72 [some (.ref 4), some (.int p1), some (.int p2), some (.int p3), some (.ref bb)] [.int x75] M67 _
      exact z_xri zt159 19 rfl zzr159 (kk x75 M67 X71 (fun hq => by exfalso; omega) (fun hq => by exfalso; omega) (fun _ => ⟨(by rw [h76]), n73⟩) (fun hq => by exfalso; omega) (fun hq => by exfalso; omega))
    by_cases h77 : p2.toInt = 3
    · refine z_xSC zt159 10 (z_sub (k := 3) h77 rfl) 73 rfl rfl ?_
      refine z_xP zt159 20 76 [some (.ref 4), some (.int p1), some (.int p2), some (.int p3), some (.ref bb)] [.int p3, .ref bb] rfl rfl ?_
      refine z_xcV (vs := [.ref bb, .int p3]) (r := []) (L2 := [some (.ref bb), some (.int p3)]) zt159 21 rfl zo159 zzcV0_304 (Or.inr rfl) rfl X2 kbb rfl rfl rfl (Nat.le_of_ble_eq_true rfl) zzm173 (Nat.le_of_ble_eq_true rfl) rfl ?_
      refine z_xP zt173 0 2 [some (.ref bb), some (.int p3)] [.int 2, .ref bb] rfl rfl ?_
      refine z_xcV (vs := [.ref bb, .int 2]) (r := []) (L2 := [some (.ref bb), some (.int 2)]) zt173 1 rfl zo173 zzcV4_31 (Or.inr rfl) rfl X2 kbb rfl rfl rfl (Nat.le_of_ble_eq_true rfl) zzm161 (Nat.le_of_ble_eq_true rfl) rfl ?_
      have q2 : ((2 : Int32)).toInt = 2 := rfl
      have q2 : ((2 : Int32)).toInt = 2 := rfl
      refine zNC161 X2.1 (by decide) kbb ⟨by omega, by omega⟩ (fun M78 X79 h80 h81 => ?_)
      have X82 := X2.go X79 (z_sb (by decide))
      show z_ev (d + 7) 173 5 [some (.ref bb), some (.int p3)] [] M78 _
      have n84 : z_Ar M78 13 = z_nts [2] (upd (z_Ar M0 13) 0 0) := z_ntsS [] n6 h81
      refine z_xP zt173 2 7 [some (.ref bb), some (.int p3)] [.int p3, .ref bb] rfl rfl ?_
      refine z_xcV (vs := [.ref bb, .int p3]) (r := []) (L2 := [some (.ref bb), some (.int p3)]) zt173 3 rfl zo173 zzcV4_39 (Or.inr rfl) rfl X82 kbb rfl rfl rfl (Nat.le_of_ble_eq_true rfl) zzm167 (Nat.le_of_ble_eq_true rfl) rfl ?_
      refine z_xP zt167 0 3 [some (.ref bb), some (.int p3)] [.int 10, .ref bb] rfl rfl ?_
      refine z_xcV (vs := [.ref bb, .int 10]) (r := []) (L2 := [some (.ref bb), some (.int 10)]) zt167 1 rfl zo167 zzcV4_31 (Or.inr rfl) rfl X82 kbb rfl rfl rfl (Nat.le_of_ble_eq_true rfl) zzm161 (Nat.le_of_ble_eq_true rfl) rfl ?_
      have q10 : ((10 : Int32)).toInt = 10 := rfl
      have q10 : ((10 : Int32)).toInt = 10 := rfl
      refine zNC161 X82.1 (by decide) kbb ⟨by omega, by omega⟩ (fun M85 X86 h87 h88 => ?_)
      have X89 := X82.go X86 (z_sb (by decide))
      show z_ev (d + 6) 167 6 [some (.ref bb), some (.int p3)] [] M85 _
      have n91 : z_Ar M85 13 = z_nts [2, 10] (upd (z_Ar M0 13) 0 0) := z_ntsS [2] n84 h88
      refine z_xP zt167 2 8 [some (.ref bb), some (.int p3)] [.int p3, .ref bb] rfl rfl ?_
      refine z_xcV (vs := [.ref bb, .int p3]) (r := []) (L2 := [some (.ref bb), some (.int p3)]) zt167 3 rfl zo167 zzcV4_35 (Or.inr rfl) rfl X89 kbb rfl rfl rfl (Nat.le_of_ble_eq_true rfl) zzm160 (Nat.le_of_ble_eq_true rfl) rfl ?_
      refine z_xP zt160 0 3 [some (.ref bb), some (.int p3)] [.int 20, .ref bb] rfl rfl ?_
      refine z_xcV (vs := [.ref bb, .int 20]) (r := []) (L2 := [some (.ref bb), some (.int 20)]) zt160 1 rfl zo160 zzcV5_13 (Or.inr rfl) rfl X89 kbb rfl rfl rfl (Nat.le_of_ble_eq_true rfl) zzm161 (Nat.le_of_ble_eq_true rfl) rfl ?_
      have q20 : ((20 : Int32)).toInt = 20 := rfl
      have q20 : ((20 : Int32)).toInt = 20 := rfl
      refine zNC161 X89.1 (by decide) kbb ⟨by omega, by omega⟩ (fun M92 X93 h94 h95 => ?_)
      have X96 := X89.go X93 (z_sb (by decide))
      show z_ev (d + 5) 160 6 [some (.ref bb), some (.int p3)] [] M92 _
      have n98 : z_Ar M92 13 = z_nts [2, 10, 20] (upd (z_Ar M0 13) 0 0) := z_ntsS [2, 10] n91 h95
      refine z_xP zt160 2 8 [some (.ref bb), some (.int p3)] [.int p3, .ref bb] rfl rfl ?_
      refine z_xcI (vs := [.ref bb, .int p3]) (r := []) (L2 := [some (.ref bb), some (.int p3)]) zt160 3 rfl zo160 zzcI5_19 (Or.inr (Or.inl rfl)) rfl X96 kbb rfl rfl (Nat.le_of_ble_eq_true rfl) zzm163 (Nat.le_of_ble_eq_true rfl) rfl ?_
      refine z_xP zt163 0 2 [some (.ref bb), some (.int p3)] [.int 1, .ref bb] rfl rfl ?_
      refine z_xcV (vs := [.ref bb, .int 1]) (r := []) (L2 := [some (.ref bb), some (.int 1)]) zt163 1 rfl zo163 zzcV4_31 (Or.inr rfl) rfl X96 kbb rfl rfl rfl (Nat.le_of_ble_eq_true rfl) zzm161 (Nat.le_of_ble_eq_true rfl) rfl ?_
      have q1 : ((1 : Int32)).toInt = 1 := rfl
      have q1 : ((1 : Int32)).toInt = 1 := rfl
      refine zNC161 X96.1 (by decide) kbb ⟨by omega, by omega⟩ (fun M99 X100 h101 h102 => ?_)
      have X103 := X96.go X100 (z_sb (by decide))
      show z_ev (d + 4) 163 5 [some (.ref bb), some (.int p3)] [] M99 _
      have n105 : z_Ar M99 13 = z_nts [2, 10, 20, 1] (upd (z_Ar M0 13) 0 0) := z_ntsS [2, 10, 20] n98 h102
      refine z_xP zt163 2 7 [some (.ref bb), some (.int p3)] [.ref bb, .int p3] rfl rfl ?_
      have h106 := (X100.2.f kbb (by decide) (X93.2.f kbb (by decide) (X86.2.f kbb (by decide) (X79.2.f kbb (by decide) (e3.f kbb (by decide) hf3)))))
      refine z_xgv zt163 3 rfl zo163 zzf4_15 X103 kbb (by decide) h106 ?_
      have h107 := z_b32 p3
      have h108 := z_b32 nn
      refine z_xI zt163 4 rfl rfl (fun (x109 : Int32) (h110 : x109 = p3 + nn) => ?_) (rfl)
      refine z_xri zt163 5 rfl zzr163 ?_
      show z_ev (d + 5) 160 11 [some (.ref bb), some (.int p3)] [.int x109] M99 _
      refine z_xP zt160 4 12 [some (.ref bb), some (.int p3)] [.int 1, .int x109] rfl rfl ?_
      have h111 := z_b32 x109
      refine z_xI zt160 5 rfl rfl (fun (x112 : Int32) (h113 : x112 = x109 - 1) => ?_) (rfl)
      refine z_xri zt160 6 rfl zzr160 ?_
      show z_ev (d + 6) 167 11 [some (.ref bb), some (.int p3)] [.int x112] M99 _
      refine z_xP zt167 4 12 [some (.ref bb), some (.int p3)] [.int 2, .int x112] rfl rfl ?_
      have h114 := z_b32 x112
      refine z_xI zt167 5 rfl rfl (fun (x115 : Int32) (h116 : x115 = x112 * 2) => ?_) (rfl)
      refine z_xri zt167 6 rfl zzr167 ?_
      show z_ev (d + 7) 173 10 [some (.ref bb), some (.int p3)] [.int x115] M99 _
      refine z_xP zt173 4 12 [some (.ref bb), some (.int p3)] [.int 1, .ref bb, .int x115] rfl rfl ?_
      refine z_xcV (vs := [.ref bb, .int 1]) (r := [.int x115]) (L2 := [some (.ref bb), some (.int 1)]) zt173 5 rfl zo173 zzcV4_42 (Or.inr rfl) rfl X103 kbb rfl rfl rfl (Nat.le_of_ble_eq_true rfl) zzm170 (Nat.le_of_ble_eq_true rfl) rfl ?_
      refine z_xP zt170 0 3 [some (.ref bb), some (.int 1)] [.int 11, .ref bb] rfl rfl ?_
      refine z_xcV (vs := [.ref bb, .int 11]) (r := []) (L2 := [some (.ref bb), some (.int 11)]) zt170 1 rfl zo170 zzcV4_31 (Or.inr rfl) rfl X103 kbb rfl rfl rfl (Nat.le_of_ble_eq_true rfl) zzm161 (Nat.le_of_ble_eq_true rfl) rfl ?_
      have q11 : ((11 : Int32)).toInt = 11 := rfl
      have q11 : ((11 : Int32)).toInt = 11 := rfl
      refine zNC161 X103.1 (by decide) kbb ⟨by omega, by omega⟩ (fun M117 X118 h119 h120 => ?_)
      have X121 := X103.go X118 (z_sb (by decide))
      show z_ev (d + 6) 170 6 [some (.ref bb), some (.int 1)] [] M117 _
      have n123 : z_Ar M117 13 = z_nts [2, 10, 20, 1, 11] (upd (z_Ar M0 13) 0 0) := z_ntsS [2, 10, 20, 1] n105 h120
      refine z_xP zt170 2 8 [some (.ref bb), some (.int 1)] [.ref bb, .int 1] rfl rfl ?_
      have h124 := (X118.2.f kbb (by decide) h106)
      refine z_xgv zt170 3 rfl zo170 zzf4_15 X121 kbb (by decide) h124 ?_
      refine z_xI zt170 4 rfl rfl (fun (x125 : Int32) (h126 : x125 = 1 ^^^ nn) => ?_) (rfl)
      refine z_xri zt170 5 rfl zzr170 ?_
      show z_ev (d + 7) 173 15 [some (.ref bb), some (.int p3)] [.int x125, .int x115] M117 _
      have h127 := z_b32 x115
      have h128 := z_b32 x125
      refine z_xI zt173 6 rfl rfl (fun (x129 : Int32) (h130 : x129 = x115 - x125) => ?_) (rfl)
      refine z_xri zt173 7 rfl zzr173 ?_
      show z_ev (d + 8) 159 79 [some (.ref 4), some (.int p1), some (.int p2), some (.int p3), some (.ref bb)] [.int x129] M117 _
      exact z_xri zt159 22 rfl zzr159 (kk x129 M117 X121 (fun hq => by exfalso; omega) (fun hq => by exfalso; omega) (fun hq => by exfalso; omega) (fun _ => ⟨(by rw [h130, h126, h116, h113, h110]), n123⟩) (fun hq => by exfalso; omega))
    refine z_xSD zt159 10 rfl rfl (by omega) ?_
    refine z_xP zt159 23 81 [some (.ref 4), some (.int p1), some (.int p2), some (.int p3), some (.ref bb)] [.int 0] rfl rfl ?_
    have q0 : ((0 : Int32)).toInt = 0 := rfl
    exact z_xri zt159 24 rfl zzr159 (kk 0 M1 X2 (fun hq => by exfalso; omega) (fun hq => by exfalso; omega) (fun hq => by exfalso; omega) (fun hq => by exfalso; omega) (fun _ => ⟨rfl, n6⟩))
  refine z_xP zt84 5 22 [some (.ref 4), some (.int p1)] [.null] rfl rfl ?_
  refine z_xrn zt84 10 rfl zzr84 ?_
  show z_ev (d + 8) 159 12 [some (.ref 4), some (.int p1), some (.int p2), some (.int p3), none] [.null] M1 _
  refine z_xP zt159 6 19 [some (.ref 4), some (.int p1), some (.int p2), some (.int p3), some (.null)] [] rfl rfl ?_
  refine z_xP zt159 7 20 [some (.ref 4), some (.int p1), some (.int p2), some (.int p3), some (.null)] [.int 0] rfl rfl ?_
  have q0 : ((0 : Int32)).toInt = 0 := rfl
  exact z_xri zt159 8 rfl zzr159 (kk 0 M1 X2 (fun hq => by exfalso; omega) (fun hq => by exfalso; omega) (fun hq => by exfalso; omega) (fun hq => by exfalso; omega) (fun _ => ⟨rfl, n6⟩))
theorem zNC276_1 {T : List zK} {d : Nat} {K : Option Value → zH → Prop} {p1 : Int32} {p2 : Int32} {p3 : Int32} {ww : Int32} {kn sh jd : Int32} {M0 : zH} (hW : z_W M0 T) (hww : z_F M0 19 21 = some (.int ww)) (hwr : 0 ≤ p1.toInt ∧ p1.toInt < ww.toInt ∧ ww.toInt ≤ 20) (hk36 : z_Ar M0 36 p1.toNatClampNeg = kn) (hkn : kn.toInt = 1) (hk37 : z_Ar M0 37 p1.toNatClampNeg = sh) (hk38 : z_Ar M0 38 p1.toNatClampNeg = jd) (kk : ∀ (x : Int32) (M1 : zH), z_X T zw276 M0 M1 → (p2.toInt = 0 → x = ((p3 + p1) - 1) ∧ z_Ar M1 48 = z_nrs 0 [20, 1] (z_Ar M0 48) ∧ ∃ n : Int32, z_F M1 19 47 = some (.int n) ∧ n.toInt = 2) → (p2.toInt = 1 → x = (((p3 + p1) - 1) * 2) ∧ z_Ar M1 48 = z_nrs 0 [10, 20, 1] (z_Ar M0 48) ∧ ∃ n : Int32, z_F M1 19 47 = some (.int n) ∧ n.toInt = 3) → (p2.toInt = 2 → x = (p3 ^^^ p1) ∧ z_Ar M1 48 = z_nrs 0 [11] (z_Ar M0 48) ∧ ∃ n : Int32, z_F M1 19 47 = some (.int n) ∧ n.toInt = 1) → (p2.toInt = 3 → x = ((((p3 + p1) - 1) * 2) - (1 ^^^ p1)) ∧ z_Ar M1 48 = z_nrs 0 [2, 10, 20, 1, 11] (z_Ar M0 48) ∧ ∃ n : Int32, z_F M1 19 47 = some (.int n) ∧ n.toInt = 5) → (p2.toInt < 0 ∨ 3 < p2.toInt → x = 0 ∧ z_Ar M1 48 = z_Ar M0 48 ∧ ∃ n : Int32, z_F M1 19 47 = some (.int n) ∧ n.toInt = 0) → K (some (.int x)) M1) : z_ev (d + 41) 276 0 [some (.ref 19), some (.int p1), some (.int p2), some (.int p3)] [] M0 K := by
  have X : z_X T zw276 M0 M0 := .refl hW
  refine z_xP zt276 0 2 [some (.ref 19), some (.int p1), some (.int p2), some (.int p3)] [.int 0, .ref 19] rfl rfl ?_
  have f19 : T[19]? = some (.inl (12, 0, 0, 0, 0)) := X.1.k rfl (by decide)
  have q0 : ((0 : Int32)).toInt = 0 := rfl
  refine z_xpf zt276 1 rfl zo276 zzf12_381 X f19 (by decide) (by decide) ⟨by omega, by omega⟩ rfl (by decide) zw12_47 (fun M1 X2 e3 h4 => ?_)
  refine z_xP zt276 2 7 [some (.ref 19), some (.int p1), some (.int p2), some (.int p3)] [.int p1, .ref 19] rfl rfl ?_
  refine z_xcV (vs := [.ref 19, .int p1]) (r := []) (L2 := [some (.ref 19), some (.int p1)]) zt276 3 rfl zo276 zzcV12_272 (Or.inl rfl) rfl X2 f19 rfl rfl rfl (Nat.le_of_ble_eq_true rfl) zzm237 (Nat.le_of_ble_eq_true rfl) rfl ?_
  refine z_xP zt237 0 1 [some (.ref 19), some (.int p1)] [.int p1] rfl rfl ?_
  refine z_xZ zt237 1 rfl rfl (fun (h5 : p1.toInt < 0) => absurd h5 (by omega)) (fun (h5 : 0 ≤ p1.toInt) => ?_)
  refine z_xP zt237 2 6 [some (.ref 19), some (.int p1)] [.ref 19, .int p1] rfl rfl ?_
  have h6 := (e3.f f19 (by decide) hww)
  refine z_xgv zt237 3 rfl zo237 zzf12_269 X2 f19 (by decide) h6 ?_
  refine z_xJ zt237 4 rfl rfl (fun (h7 : ww.toInt ≤ p1.toInt) => ?_) (fun (h7 : p1.toInt < ww.toInt) => ?_)
  · skip
    refine z_xP zt237 6 17 [some (.ref 19), some (.int p1)] [.int 0] rfl rfl ?_
    refine z_xrz zt237 7 rfl zzr237 (by decide) (by decide) ?_
    show z_ev (d + 41) 276 10 [some (.ref 19), some (.int p1), some (.int p2), some (.int p3)] [.int 0] M1 _
    refine z_xZ zt276 4 rfl rfl (fun (h8 : (0 : Int) = 0) => ?_) (fun (h8 : (0 : Int) ≠ 0) => absurd h8 (by omega))
    refine z_xP zt276 11 26 [some (.ref 19), some (.int p1), some (.int p2), some (.int p3)] [.int 0] rfl rfl ?_
    have q0 : ((0 : Int32)).toInt = 0 := rfl
    have f48 : T[48]? = some (.inr (48, 0, 24, (-2147483648), 2147483647)) := X2.1.k rfl (by decide)
    have q0 : ((0 : Int32)).toInt = 0 := rfl
    exact z_xri zt276 12 rfl zzr276 (kk 0 M1 X2 (fun hq => by exfalso; omega) (fun hq => by exfalso; omega) (fun hq => by exfalso; omega) (fun hq => by exfalso; omega) (fun _ => ⟨rfl, (e3.a f48 (by decide)), _, h4, by omega⟩))
  refine z_xP zt237 5 17 [some (.ref 19), some (.int p1)] [.int 1] rfl rfl ?_
  refine z_xrz zt237 7 rfl zzr237 (by decide) (by decide) ?_
  show z_ev (d + 41) 276 10 [some (.ref 19), some (.int p1), some (.int p2), some (.int p3)] [.int 1] M1 _
  refine z_xZ zt276 4 rfl rfl (fun (h9 : (1 : Int) = 0) => absurd h9 (by omega)) (fun (h9 : (1 : Int) ≠ 0) => ?_)
  refine z_xP zt276 5 14 [some (.ref 19), some (.int p1), some (.int p2), some (.int p3)] [.int p2] rfl rfl ?_
  have h10 := z_b32 p2
  refine z_xL zt276 6 rfl rfl (fun (y11 : Int64) (h12 : y11.toInt = p2.toInt) => ?_) (z_qI2L rfl)
  refine z_xP zt276 7 16 [some (.ref 19), some (.int p1), some (.int p2), some (.int p3)] [.long 0, .long y11] rfl rfl ?_
  refine z_xl2 zt276 8 rfl zo276 zkl12_358 ?_
  refine z_xcS (vs := [.long y11, .long 0, .long 3]) (r := []) (L2 := [some (.long y11), none, some (.long 0), none, some (.long 3), none]) zt276 9 rfl zo276 zzcS12_116 (Or.inl rfl) (Nat.le_of_ble_eq_true rfl) rfl rfl (Nat.le_of_ble_eq_true rfl) zzm189 (Nat.le_of_ble_eq_true rfl) rfl ?_
  refine z_xP zt189 0 2 [some (.long y11), none, some (.long 0), none, some (.long 3), none] [.long 0, .long y11] rfl rfl ?_
  refine z_xI zt189 1 rfl rfl (fun (x13 : Int32) (h14 : (x13.toInt < 0 ∧ y11.toInt < 0) ∨ (x13.toInt = 0 ∧ y11.toInt = 0) ∨ (0 < x13.toInt ∧ 0 < y11.toInt)) => ?_) (z_qCmp rfl rfl)
  refine z_xZ zt189 2 rfl rfl (fun (h15 : x13.toInt < 0) => ?_) (fun (h15 : 0 ≤ x13.toInt) => ?_)
  · skip
    refine z_xP zt189 7 18 [some (.long y11), none, some (.long 0), none, some (.long 3), none] [.int 0] rfl rfl ?_
    refine z_xrz zt189 8 rfl zzr189 (by decide) (by decide) ?_
    show z_ev (d + 41) 276 22 [some (.ref 19), some (.int p1), some (.int p2), some (.int p3)] [.int 0] M1 _
    refine z_xZ zt276 10 rfl rfl (fun (h16 : (0 : Int) ≠ 0) => absurd h16 (by omega)) (fun (h16 : (0 : Int) = 0) => ?_)
    refine z_xP zt276 11 26 [some (.ref 19), some (.int p1), some (.int p2), some (.int p3)] [.int 0] rfl rfl ?_
    have q0 : ((0 : Int32)).toInt = 0 := rfl
    have f48 : T[48]? = some (.inr (48, 0, 24, (-2147483648), 2147483647)) := X2.1.k rfl (by decide)
    have q0 : ((0 : Int32)).toInt = 0 := rfl
    exact z_xri zt276 12 rfl zzr276 (kk 0 M1 X2 (fun hq => by exfalso; omega) (fun hq => by exfalso; omega) (fun hq => by exfalso; omega) (fun hq => by exfalso; omega) (fun _ => ⟨rfl, (e3.a f48 (by decide)), _, h4, by omega⟩))
  refine z_xP zt189 3 9 [some (.long y11), none, some (.long 0), none, some (.long 3), none] [.long 3, .long y11] rfl rfl ?_
  refine z_xI zt189 4 rfl rfl (fun (x17 : Int32) (h18 : (x17.toInt < 0 ∧ y11.toInt < 3) ∨ (x17.toInt = 0 ∧ y11.toInt = 3) ∨ (0 < x17.toInt ∧ 3 < y11.toInt)) => ?_) (z_qCmp rfl rfl)
  refine z_xZ zt189 5 rfl rfl (fun (h19 : 0 < x17.toInt) => ?_) (fun (h19 : x17.toInt ≤ 0) => ?_)
  · skip
    refine z_xP zt189 7 18 [some (.long y11), none, some (.long 0), none, some (.long 3), none] [.int 0] rfl rfl ?_
    refine z_xrz zt189 8 rfl zzr189 (by decide) (by decide) ?_
    show z_ev (d + 41) 276 22 [some (.ref 19), some (.int p1), some (.int p2), some (.int p3)] [.int 0] M1 _
    refine z_xZ zt276 10 rfl rfl (fun (h20 : (0 : Int) ≠ 0) => absurd h20 (by omega)) (fun (h20 : (0 : Int) = 0) => ?_)
    refine z_xP zt276 11 26 [some (.ref 19), some (.int p1), some (.int p2), some (.int p3)] [.int 0] rfl rfl ?_
    have q0 : ((0 : Int32)).toInt = 0 := rfl
    have f48 : T[48]? = some (.inr (48, 0, 24, (-2147483648), 2147483647)) := X2.1.k rfl (by decide)
    have q0 : ((0 : Int32)).toInt = 0 := rfl
    exact z_xri zt276 12 rfl zzr276 (kk 0 M1 X2 (fun hq => by exfalso; omega) (fun hq => by exfalso; omega) (fun hq => by exfalso; omega) (fun hq => by exfalso; omega) (fun _ => ⟨rfl, (e3.a f48 (by decide)), _, h4, by omega⟩))
  refine z_xP zt189 6 18 [some (.long y11), none, some (.long 0), none, some (.long 3), none] [.int 1] rfl rfl ?_
  refine z_xrz zt189 8 rfl zzr189 (by decide) (by decide) ?_
  show z_ev (d + 41) 276 22 [some (.ref 19), some (.int p1), some (.int p2), some (.int p3)] [.int 1] M1 _
  refine z_xZ zt276 10 rfl rfl (fun (h21 : (1 : Int) ≠ 0) => ?_) (fun (h21 : (1 : Int) = 0) => absurd h21 (by omega))
  refine z_xP zt276 13 29 [some (.ref 19), some (.int p1), some (.int p2), some (.int p3)] [.int p1, .ref 19] rfl rfl ?_
  refine z_xpf zt276 14 rfl zo276 zzf12_387 X2 f19 (by decide) (by decide) ⟨by omega, by omega⟩ rfl (by decide) zw12_48 (fun M22 X23 e24 h25 => ?_)
  refine z_xP zt276 15 33 [some (.ref 19), some (.int p1), some (.int p2), some (.int p3)] [.int p2] rfl rfl ?_
  refine z_xZ zt276 16 rfl rfl (fun (h26 : p2.toInt ≠ 0) => ?_) (fun (h26 : p2.toInt = 0) => ?_)
  · skip
    refine z_xP zt276 24 52 [some (.ref 19), some (.int p1), some (.int p2), some (.int p3)] [.int 1, .int p2] rfl rfl ?_
    refine z_xJ zt276 25 rfl rfl (fun (h27 : p2.toInt ≠ 1) => ?_) (fun (h27 : p2.toInt = 1) => ?_)
    · skip
      refine z_xP zt276 33 71 [some (.ref 19), some (.int p1), some (.int p2), some (.int p3)] [.int 2, .int p2] rfl rfl ?_
      refine z_xJ zt276 34 rfl rfl (fun (h28 : p2.toInt ≠ 2) => ?_) (fun (h28 : p2.toInt = 2) => ?_)
      · skip
        refine z_xP zt276 42 90 [some (.ref 19), some (.int p1), some (.int p2), some (.int p3)] [.ref 19, .ref 19] rfl rfl ?_
        refine z_xgX (b := 36) zt276 43 rfl zo276 zzf12_58 X23 f19 (by decide) (by decide) rfl ?_
        refine z_xP zt276 44 94 [some (.ref 19), some (.int p1), some (.int p2), some (.int p3)] [.int p1, .ref 36, .ref 19] rfl rfl ?_
        have f36 : T[36]? = some (.inr (36, 0, 20, 0, 7)) := X23.1.k rfl (by decide)
        refine z_xil zt276 45 rfl X23 f36 (by decide) (by omega) (by omega) (fun (x29 : Int32) h30 (h31 : 0 ≤ x29.toInt) (h32 : x29.toInt ≤ 7) => ?_)
        have h33 := congrArg Int32.toInt (h30.symm.trans ((congrFun (e24.a f36 (by decide)) _).trans ((congrFun (e3.a f36 (by decide)) _).trans hk36)))
        refine z_xP zt276 46 96 [some (.ref 19), some (.int p1), some (.int p2), some (.int p3)] [.int p3, .int x29, .ref 19] rfl rfl ?_
        refine z_xcV (vs := [.ref 19, .int x29, .int p3]) (r := []) (L2 := [some (.ref 19), some (.int x29), some (.int p3), none]) zt276 47 rfl zo276 zzcV12_402 (Or.inl rfl) rfl X23 f19 rfl rfl rfl (Nat.le_of_ble_eq_true rfl) zzm282 (Nat.le_of_ble_eq_true rfl) rfl ?_
        refine z_xP zt282 0 3 [some (.ref 19), some (.int x29), some (.int p3), some (.int 0)] [.int x29] rfl rfl ?_
        refine z_xSL zt282 1 rfl (by decide) (z_lsd (List.forall_mem_cons.mpr ⟨show (0 : Int) ≠ x29.toInt from by omega, (List.forall_mem_cons.mpr ⟨show (5 : Int) ≠ x29.toInt from by omega, (List.forall_mem_cons.mpr ⟨show (7 : Int) ≠ x29.toInt from by omega, (List.forall_mem_nil _)⟩)⟩)⟩)) rfl ?_
        refine z_xP zt282 47 133 [some (.ref 19), some (.int x29), some (.int p3), some (.int 0)] [.int x29, .ref 19] rfl rfl ?_
        refine z_xcS (vs := [.int x29]) (r := [.ref 19]) (L2 := [some (.int x29)]) zt282 48 rfl zo282 zzcS12_390 (Or.inl rfl) (Nat.le_of_ble_eq_true rfl) rfl rfl (Nat.le_of_ble_eq_true rfl) zzm279 (Nat.le_of_ble_eq_true rfl) rfl ?_
        refine z_xP zt279 0 2 [some (.int x29)] [.int 2, .int x29] rfl rfl ?_
        refine z_xJ zt279 1 rfl rfl (fun (h34 : x29.toInt = 2) => absurd h34 (by omega)) (fun (h34 : x29.toInt ≠ 2) => ?_)
        refine z_xP zt279 2 7 [some (.int x29)] [.int 3, .int x29] rfl rfl ?_
        refine z_xJ zt279 3 rfl rfl (fun (h35 : x29.toInt ≠ 3) => ?_) (fun (h35 : x29.toInt = 3) => absurd h35 (by omega))
        refine z_xP zt279 5 17 [some (.int x29)] [.int 6, .int x29] rfl rfl ?_
        refine z_xJ zt279 6 rfl rfl (fun (h36 : x29.toInt ≠ 6) => ?_) (fun (h36 : x29.toInt = 6) => absurd h36 (by omega))
        refine z_xP zt279 8 25 [some (.int x29)] [.int 0] rfl rfl ?_
        refine z_xri zt279 9 rfl zzr279 ?_
        show z_ev (d + 40) 282 136 [some (.ref 19), some (.int x29), some (.int p3), some (.int 0)] [.int 0, .ref 19] M22 _
        refine z_xP zt282 49 137 [some (.ref 19), some (.int x29), some (.int p3), some (.int 0)] [.int p3, .int 0, .ref 19] rfl rfl ?_
        refine z_xcV (vs := [.ref 19, .int 0, .int p3]) (r := []) (L2 := [some (.ref 19), some (.int 0), some (.int p3), none]) zt282 50 rfl zo282 zzcV12_402 (Or.inl rfl) rfl X23 f19 rfl rfl rfl (Nat.le_of_ble_eq_true rfl) zzm282 (Nat.le_of_ble_eq_true rfl) rfl ?_
        refine z_xP zt282 0 3 [some (.ref 19), some (.int 0), some (.int p3), some (.int 0)] [.int 0] rfl rfl ?_
        refine z_xSW zt282 1 36 rfl rfl ?_
        refine z_xP zt282 2 38 [some (.ref 19), some (.int 0), some (.int p3), some (.int 0)] [.int 2, .ref 19] rfl rfl ?_
        refine z_xcV (vs := [.ref 19, .int 2]) (r := []) (L2 := [some (.ref 19), some (.int 2)]) zt282 3 rfl zo282 zzcV12_384 (Or.inl rfl) rfl X23 f19 rfl rfl rfl (Nat.le_of_ble_eq_true rfl) zzm278 (Nat.le_of_ble_eq_true rfl) rfl ?_
        have q2 : ((2 : Int32)).toInt = 2 := rfl
        have h37 := (e24.f f19 (by decide) h4)
        have q0 : ((0 : Int32)).toInt = 0 := rfl
        have q2 : ((2 : Int32)).toInt = 2 := rfl
        refine zNC278 X23.1 h37 ⟨by omega, by omega⟩ (fun M38 X39 h40 z41 h42 h43 h44 => ?_)
        have X45 := X23.go X39 (z_sb (by decide))
        show z_ev (d + 39) 282 41 [some (.ref 19), some (.int 0), some (.int p3), some (.int 0)] [] M38 _
        have f48 : T[48]? = some (.inr (48, 0, 24, (-2147483648), 2147483647)) := X45.1.k rfl (by decide)
        have n47 : z_Ar M22 48 = z_Ar M0 48 := ((e24.a f48 (by decide)).trans (e3.a f48 (by decide)))
        have h49 : (0 : Int32).toInt.toNat = 0 := by omega
        have n48 : z_Ar M38 48 = z_nrs 0 [2] (z_Ar M0 48) := by rw [h40, n47, h49]; rfl
        refine z_xP zt282 4 43 [some (.ref 19), some (.int 0), some (.int p3), some (.int 0)] [.ref 19, .ref 19] rfl rfl ?_
        refine z_xgX (b := 36) zt282 5 rfl zo282 zzf12_58 X45 f19 (by decide) (by decide) rfl ?_
        refine z_xP zt282 6 47 [some (.ref 19), some (.int 0), some (.int p3), some (.int 0)] [.ref 19, .ref 36, .ref 19] rfl rfl ?_
        have h50 := (X39.2.f f19 (by decide) h25)
        refine z_xgv zt282 7 rfl zo282 zzf12_387 X45 f19 (by decide) h50 ?_
        refine z_xil zt282 8 rfl X45 f36 (by decide) (by omega) (by omega) (fun (x51 : Int32) h52 (h53 : 0 ≤ x51.toInt) (h54 : x51.toInt ≤ 7) => ?_)
        have h55 := congrArg Int32.toInt (h52.symm.trans ((congrFun (X39.2.a f36 (by decide)) _).trans ((congrFun (e24.a f36 (by decide)) _).trans ((congrFun (e3.a f36 (by decide)) _).trans hk36))))
        refine z_xP zt282 9 52 [some (.ref 19), some (.int 0), some (.int p3), some (.int 0)] [.int p3, .int x51, .ref 19] rfl rfl ?_
        refine z_xcV (vs := [.ref 19, .int x51, .int p3]) (r := []) (L2 := [some (.ref 19), some (.int x51), some (.int p3), none]) zt282 10 rfl zo282 zzcV12_396 (Or.inl rfl) rfl X45 f19 rfl rfl rfl (Nat.le_of_ble_eq_true rfl) zzm280 (Nat.le_of_ble_eq_true rfl) rfl ?_
        refine z_xP zt280 0 1 [some (.ref 19), some (.int x51), some (.int p3), none] [.int x51] rfl rfl ?_
        by_cases h56 : x51.toInt = 1
        · refine z_xSC zt280 1 (z_sub (k := 1) h56 rfl) 144 rfl rfl ?_
          refine z_xP zt280 50 146 [some (.ref 19), some (.int x51), some (.int p3), none] [.int x51, .ref 19] rfl rfl ?_
          refine z_xcS (vs := [.int x51]) (r := [.ref 19]) (L2 := [some (.int x51)]) zt280 51 rfl zo280 zzcS12_390 (Or.inl rfl) (Nat.le_of_ble_eq_true rfl) rfl rfl (Nat.le_of_ble_eq_true rfl) zzm279 (Nat.le_of_ble_eq_true rfl) rfl ?_
          refine z_xP zt279 0 2 [some (.int x51)] [.int 2, .int x51] rfl rfl ?_
          refine z_xJ zt279 1 rfl rfl (fun (h57 : x51.toInt = 2) => absurd h57 (by omega)) (fun (h57 : x51.toInt ≠ 2) => ?_)
          refine z_xP zt279 2 7 [some (.int x51)] [.int 3, .int x51] rfl rfl ?_
          refine z_xJ zt279 3 rfl rfl (fun (h58 : x51.toInt ≠ 3) => ?_) (fun (h58 : x51.toInt = 3) => absurd h58 (by omega))
          refine z_xP zt279 5 17 [some (.int x51)] [.int 6, .int x51] rfl rfl ?_
          refine z_xJ zt279 6 rfl rfl (fun (h59 : x51.toInt ≠ 6) => ?_) (fun (h59 : x51.toInt = 6) => absurd h59 (by omega))
          refine z_xP zt279 8 25 [some (.int x51)] [.int 0] rfl rfl ?_
          refine z_xri zt279 9 rfl zzr279 ?_
          show z_ev (d + 38) 280 149 [some (.ref 19), some (.int x51), some (.int p3), none] [.int 0, .ref 19] M38 _
          refine z_xP zt280 52 150 [some (.ref 19), some (.int x51), some (.int p3), none] [.int p3, .int 0, .ref 19] rfl rfl ?_
          refine z_xcV (vs := [.ref 19, .int 0, .int p3]) (r := []) (L2 := [some (.ref 19), some (.int 0), some (.int p3), none]) zt280 53 rfl zo280 zzcV12_396 (Or.inl rfl) rfl X45 f19 rfl rfl rfl (Nat.le_of_ble_eq_true rfl) zzm280 (Nat.le_of_ble_eq_true rfl) rfl ?_
          refine z_xP zt280 0 1 [some (.ref 19), some (.int 0), some (.int p3), none] [.int 0] rfl rfl ?_
          refine z_xSW zt280 1 44 rfl rfl ?_
          refine z_xP zt280 2 47 [some (.ref 19), some (.int 0), some (.int p3), none] [.int 10, .ref 19] rfl rfl ?_
          refine z_xcV (vs := [.ref 19, .int 10]) (r := []) (L2 := [some (.ref 19), some (.int 10)]) zt280 3 rfl zo280 zzcV12_384 (Or.inl rfl) rfl X45 f19 rfl rfl rfl (Nat.le_of_ble_eq_true rfl) zzm278 (Nat.le_of_ble_eq_true rfl) rfl ?_
          have q10 : ((10 : Int32)).toInt = 10 := rfl
          have q10 : ((10 : Int32)).toInt = 10 := rfl
          refine zNC278 X45.1 h42 ⟨by omega, by omega⟩ (fun M60 X61 h62 z63 h64 h65 h66 => ?_)
          have X67 := X45.go X61 (z_sb (by decide))
          show z_ev (d + 37) 280 50 [some (.ref 19), some (.int 0), some (.int p3), none] [] M60 _
          have h70 : (z41 : Int32).toInt.toNat = 1 := by omega
          have n69 : z_Ar M60 48 = z_nrs 0 [2, 10] (z_Ar M0 48) := by rw [h62, n48, h70]; rfl
          refine z_xP zt280 4 52 [some (.ref 19), some (.int 0), some (.int p3), none] [.ref 19, .ref 19] rfl rfl ?_
          refine z_xgX (b := 36) zt280 5 rfl zo280 zzf12_58 X67 f19 (by decide) (by decide) rfl ?_
          refine z_xP zt280 6 56 [some (.ref 19), some (.int 0), some (.int p3), none] [.ref 19, .ref 36, .ref 19] rfl rfl ?_
          have h71 := (X61.2.f f19 (by decide) h50)
          refine z_xgv zt280 7 rfl zo280 zzf12_387 X67 f19 (by decide) h71 ?_
          refine z_xil zt280 8 rfl X67 f36 (by decide) (by omega) (by omega) (fun (x72 : Int32) h73 (h74 : 0 ≤ x72.toInt) (h75 : x72.toInt ≤ 7) => ?_)
          have h76 := congrArg Int32.toInt (h73.symm.trans ((congrFun (X61.2.a f36 (by decide)) _).trans ((congrFun (X39.2.a f36 (by decide)) _).trans ((congrFun (e24.a f36 (by decide)) _).trans ((congrFun (e3.a f36 (by decide)) _).trans hk36)))))
          refine z_xP zt280 9 61 [some (.ref 19), some (.int 0), some (.int p3), none] [.int p3, .int x72, .ref 19] rfl rfl ?_
          refine z_xcV (vs := [.ref 19, .int x72, .int p3]) (r := []) (L2 := [some (.ref 19), some (.int x72), some (.int p3)]) zt280 10 rfl zo280 zzcV12_393 (Or.inl rfl) rfl X67 f19 rfl rfl rfl (Nat.le_of_ble_eq_true rfl) zzm277 (Nat.le_of_ble_eq_true rfl) rfl ?_
          refine z_xP zt277 0 1 [some (.ref 19), some (.int x72), some (.int p3)] [.int x72] rfl rfl ?_
          by_cases h77 : x72.toInt = 1
          · refine z_xSC zt277 1 (z_sub (k := 1) h77 rfl) 48 rfl rfl ?_
            refine z_xP zt277 8 51 [some (.ref 19), some (.int x72), some (.int p3)] [.int 20, .ref 19] rfl rfl ?_
            refine z_xcV (vs := [.ref 19, .int 20]) (r := []) (L2 := [some (.ref 19), some (.int 20)]) zt277 9 rfl zo277 zzcV12_384 (Or.inl rfl) rfl X67 f19 rfl rfl rfl (Nat.le_of_ble_eq_true rfl) zzm278 (Nat.le_of_ble_eq_true rfl) rfl ?_
            have q20 : ((20 : Int32)).toInt = 20 := rfl
            have q20 : ((20 : Int32)).toInt = 20 := rfl
            refine zNC278 X67.1 h64 ⟨by omega, by omega⟩ (fun M78 X79 h80 z81 h82 h83 h84 => ?_)
            have X85 := X67.go X79 (z_sb (by decide))
            show z_ev (d + 36) 277 54 [some (.ref 19), some (.int x72), some (.int p3)] [] M78 _
            have h88 : (z63 : Int32).toInt.toNat = 2 := by omega
            have n87 : z_Ar M78 48 = z_nrs 0 [2, 10, 20] (z_Ar M0 48) := by rw [h80, n69, h88]; rfl
            refine z_xP zt277 10 56 [some (.ref 19), some (.int x72), some (.int p3)] [.int 1, .ref 19] rfl rfl ?_
            refine z_xcS (vs := [.int 1]) (r := [.ref 19]) (L2 := [some (.int 1)]) zt277 11 rfl zo277 zzcS12_390 (Or.inl rfl) (Nat.le_of_ble_eq_true rfl) rfl rfl (Nat.le_of_ble_eq_true rfl) zzm279 (Nat.le_of_ble_eq_true rfl) rfl ?_
            refine z_xP zt279 0 2 [some (.int 1)] [.int 2, .int 1] rfl rfl ?_
            refine z_xJ zt279 1 rfl rfl (fun (h89 : (1 : Int) = 2) => absurd h89 (by omega)) (fun (h89 : (1 : Int) ≠ 2) => ?_)
            refine z_xP zt279 2 7 [some (.int 1)] [.int 3, .int 1] rfl rfl ?_
            refine z_xJ zt279 3 rfl rfl (fun (h90 : (1 : Int) ≠ 3) => ?_) (fun (h90 : (1 : Int) = 3) => absurd h90 (by omega))
            refine z_xP zt279 5 17 [some (.int 1)] [.int 6, .int 1] rfl rfl ?_
            refine z_xJ zt279 6 rfl rfl (fun (h91 : (1 : Int) ≠ 6) => ?_) (fun (h91 : (1 : Int) = 6) => absurd h91 (by omega))
            refine z_xP zt279 8 25 [some (.int 1)] [.int 0] rfl rfl ?_
            refine z_xri zt279 9 rfl zzr279 ?_
            show z_ev (d + 36) 277 59 [some (.ref 19), some (.int x72), some (.int p3)] [.int 0, .ref 19] M78 _
            refine z_xP zt277 12 60 [some (.ref 19), some (.int x72), some (.int p3)] [.int p3, .int 0, .ref 19] rfl rfl ?_
            refine z_xcV (vs := [.ref 19, .int 0, .int p3]) (r := []) (L2 := [some (.ref 19), some (.int 0), some (.int p3)]) zt277 13 rfl zo277 zzcV12_393 (Or.inl rfl) rfl X85 f19 rfl rfl rfl (Nat.le_of_ble_eq_true rfl) zzm277 (Nat.le_of_ble_eq_true rfl) rfl ?_
            refine z_xP zt277 0 1 [some (.ref 19), some (.int 0), some (.int p3)] [.int 0] rfl rfl ?_
            refine z_xSW zt277 1 36 rfl rfl ?_
            refine z_xP zt277 2 38 [some (.ref 19), some (.int 0), some (.int p3)] [.int 1, .ref 19] rfl rfl ?_
            refine z_xcV (vs := [.ref 19, .int 1]) (r := []) (L2 := [some (.ref 19), some (.int 1)]) zt277 3 rfl zo277 zzcV12_384 (Or.inl rfl) rfl X85 f19 rfl rfl rfl (Nat.le_of_ble_eq_true rfl) zzm278 (Nat.le_of_ble_eq_true rfl) rfl ?_
            have q1 : ((1 : Int32)).toInt = 1 := rfl
            have q1 : ((1 : Int32)).toInt = 1 := rfl
            refine zNC278 X85.1 h82 ⟨by omega, by omega⟩ (fun M92 X93 h94 z95 h96 h97 h98 => ?_)
            have X99 := X85.go X93 (z_sb (by decide))
            show z_ev (d + 35) 277 41 [some (.ref 19), some (.int 0), some (.int p3)] [] M92 _
            have h102 : (z81 : Int32).toInt.toNat = 3 := by omega
            have n101 : z_Ar M92 48 = z_nrs 0 [2, 10, 20, 1] (z_Ar M0 48) := by rw [h94, n87, h102]; rfl
            refine z_xP zt277 4 43 [some (.ref 19), some (.int 0), some (.int p3)] [.ref 19, .int p3] rfl rfl ?_
            have h103 := (X93.2.f f19 (by decide) (X79.2.f f19 (by decide) h71))
            refine z_xgv zt277 5 rfl zo277 zzf12_387 X99 f19 (by decide) h103 ?_
            have h104 := z_b32 p3
            refine z_xI zt277 6 rfl rfl (fun (x105 : Int32) (h106 : x105 = p3 + p1) => ?_) (rfl)
            refine z_xri zt277 7 rfl zzr277 ?_
            show z_ev (d + 36) 277 63 [some (.ref 19), some (.int x72), some (.int p3)] [.int x105] M92 _
            refine z_xP zt277 14 64 [some (.ref 19), some (.int x72), some (.int p3)] [.int 1, .int x105] rfl rfl ?_
            have h107 := z_b32 x105
            refine z_xI zt277 15 rfl rfl (fun (x108 : Int32) (h109 : x108 = x105 - 1) => ?_) (rfl)
            refine z_xri zt277 16 rfl zzr277 ?_
            show z_ev (d + 37) 280 64 [some (.ref 19), some (.int 0), some (.int p3), none] [.int x108] M92 _
            refine z_xP zt280 11 65 [some (.ref 19), some (.int 0), some (.int p3), none] [.int 2, .int x108] rfl rfl ?_
            have h110 := z_b32 x108
            refine z_xI zt280 12 rfl rfl (fun (x111 : Int32) (h112 : x111 = x108 * 2) => ?_) (rfl)
            refine z_xri zt280 13 rfl zzr280 ?_
            show z_ev (d + 38) 280 153 [some (.ref 19), some (.int x51), some (.int p3), none] [.int x111] M92 _
            refine z_xri zt280 54 rfl zzr280 ?_
            show z_ev (d + 39) 282 55 [some (.ref 19), some (.int 0), some (.int p3), some (.int 0)] [.int x111] M92 _
            refine z_xP zt282 11 59 [some (.ref 19), some (.int 0), some (.int p3), some (.int x111)] [.ref 19, .ref 19, .int x111] rfl rfl ?_
            refine z_xgX (b := 36) zt282 12 rfl zo282 zzf12_58 X99 f19 (by decide) (by decide) rfl ?_
            refine z_xP zt282 13 63 [some (.ref 19), some (.int 0), some (.int p3), some (.int x111)] [.ref 19, .ref 36, .ref 19, .int x111] rfl rfl ?_
            refine z_xgv zt282 14 rfl zo282 zzf12_387 X99 f19 (by decide) h103 ?_
            refine z_xil zt282 15 rfl X99 f36 (by decide) (by omega) (by omega) (fun (x113 : Int32) h114 (h115 : 0 ≤ x113.toInt) (h116 : x113.toInt ≤ 7) => ?_)
            have h117 := congrArg Int32.toInt (h114.symm.trans ((congrFun (X93.2.a f36 (by decide)) _).trans ((congrFun (X79.2.a f36 (by decide)) _).trans ((congrFun (X61.2.a f36 (by decide)) _).trans ((congrFun (X39.2.a f36 (by decide)) _).trans ((congrFun (e24.a f36 (by decide)) _).trans ((congrFun (e3.a f36 (by decide)) _).trans hk36)))))))
            refine z_xP zt282 16 68 [some (.ref 19), some (.int 0), some (.int p3), some (.int x111)] [.int 1, .int x113, .ref 19, .int x111] rfl rfl ?_
            refine z_xcV (vs := [.ref 19, .int x113, .int 1]) (r := [.int x111]) (L2 := [some (.ref 19), some (.int x113), some (.int 1)]) zt282 17 rfl zo282 zzcV12_399 (Or.inl rfl) rfl X99 f19 rfl rfl rfl (Nat.le_of_ble_eq_true rfl) zzm281 (Nat.le_of_ble_eq_true rfl) rfl ?_
            refine z_xP zt281 0 1 [some (.ref 19), some (.int x113), some (.int 1)] [.int x113] rfl rfl ?_
            refine z_xSL zt281 1 rfl (by decide) (z_lsd (List.forall_mem_cons.mpr ⟨show (0 : Int) ≠ x113.toInt from by omega, (List.forall_mem_cons.mpr ⟨show (3 : Int) ≠ x113.toInt from by omega, (List.forall_mem_cons.mpr ⟨show (6 : Int) ≠ x113.toInt from by omega, (List.forall_mem_nil _)⟩)⟩)⟩)) rfl ?_
            refine z_xP zt281 25 88 [some (.ref 19), some (.int x113), some (.int 1)] [.int x113, .ref 19] rfl rfl ?_
            refine z_xcS (vs := [.int x113]) (r := [.ref 19]) (L2 := [some (.int x113)]) zt281 26 rfl zo281 zzcS12_390 (Or.inl rfl) (Nat.le_of_ble_eq_true rfl) rfl rfl (Nat.le_of_ble_eq_true rfl) zzm279 (Nat.le_of_ble_eq_true rfl) rfl ?_
            refine z_xP zt279 0 2 [some (.int x113)] [.int 2, .int x113] rfl rfl ?_
            refine z_xJ zt279 1 rfl rfl (fun (h118 : x113.toInt = 2) => absurd h118 (by omega)) (fun (h118 : x113.toInt ≠ 2) => ?_)
            refine z_xP zt279 2 7 [some (.int x113)] [.int 3, .int x113] rfl rfl ?_
            refine z_xJ zt279 3 rfl rfl (fun (h119 : x113.toInt ≠ 3) => ?_) (fun (h119 : x113.toInt = 3) => absurd h119 (by omega))
            refine z_xP zt279 5 17 [some (.int x113)] [.int 6, .int x113] rfl rfl ?_
            refine z_xJ zt279 6 rfl rfl (fun (h120 : x113.toInt ≠ 6) => ?_) (fun (h120 : x113.toInt = 6) => absurd h120 (by omega))
            refine z_xP zt279 8 25 [some (.int x113)] [.int 0] rfl rfl ?_
            refine z_xri zt279 9 rfl zzr279 ?_
            show z_ev (d + 38) 281 91 [some (.ref 19), some (.int x113), some (.int 1)] [.int 0, .ref 19] M92 _
            refine z_xP zt281 27 92 [some (.ref 19), some (.int x113), some (.int 1)] [.int 1, .int 0, .ref 19] rfl rfl ?_
            refine z_xcV (vs := [.ref 19, .int 0, .int 1]) (r := []) (L2 := [some (.ref 19), some (.int 0), some (.int 1)]) zt281 28 rfl zo281 zzcV12_399 (Or.inl rfl) rfl X99 f19 rfl rfl rfl (Nat.le_of_ble_eq_true rfl) zzm281 (Nat.le_of_ble_eq_true rfl) rfl ?_
            refine z_xP zt281 0 1 [some (.ref 19), some (.int 0), some (.int 1)] [.int 0] rfl rfl ?_
            refine z_xSW zt281 1 36 rfl rfl ?_
            refine z_xP zt281 2 39 [some (.ref 19), some (.int 0), some (.int 1)] [.int 11, .ref 19] rfl rfl ?_
            refine z_xcV (vs := [.ref 19, .int 11]) (r := []) (L2 := [some (.ref 19), some (.int 11)]) zt281 3 rfl zo281 zzcV12_384 (Or.inl rfl) rfl X99 f19 rfl rfl rfl (Nat.le_of_ble_eq_true rfl) zzm278 (Nat.le_of_ble_eq_true rfl) rfl ?_
            have q11 : ((11 : Int32)).toInt = 11 := rfl
            have q11 : ((11 : Int32)).toInt = 11 := rfl
            refine zNC278 X99.1 h96 ⟨by omega, by omega⟩ (fun M121 X122 h123 z124 h125 h126 h127 => ?_)
            have X128 := X99.go X122 (z_sb (by decide))
            show z_ev (d + 37) 281 42 [some (.ref 19), some (.int 0), some (.int 1)] [] M121 _
            have h131 : (z95 : Int32).toInt.toNat = 4 := by omega
            have n130 : z_Ar M121 48 = z_nrs 0 [2, 10, 20, 1, 11] (z_Ar M0 48) := by rw [h123, n101, h131]; rfl
            refine z_xP zt281 4 44 [some (.ref 19), some (.int 0), some (.int 1)] [.ref 19, .int 1] rfl rfl ?_
            have h132 := (X122.2.f f19 (by decide) h103)
            refine z_xgv zt281 5 rfl zo281 zzf12_387 X128 f19 (by decide) h132 ?_
            refine z_xI zt281 6 rfl rfl (fun (x133 : Int32) (h134 : x133 = 1 ^^^ p1) => ?_) (rfl)
            refine z_xri zt281 7 rfl zzr281 ?_
            show z_ev (d + 38) 281 95 [some (.ref 19), some (.int x113), some (.int 1)] [.int x133] M121 _
            refine z_xri zt281 29 rfl zzr281 ?_
            show z_ev (d + 39) 282 71 [some (.ref 19), some (.int 0), some (.int p3), some (.int x111)] [.int x133, .int x111] M121 _
            have h135 := z_b32 x111
            have h136 := z_b32 x133
            refine z_xI zt282 18 rfl rfl (fun (x137 : Int32) (h138 : x137 = x111 - x133) => ?_) (rfl)
            refine z_xri zt282 19 rfl zzr282 ?_
            show z_ev (d + 40) 282 140 [some (.ref 19), some (.int x29), some (.int p3), some (.int 0)] [.int x137] M121 _
            refine z_xri zt282 51 rfl zzr282 ?_
            show z_ev (d + 41) 276 99 [some (.ref 19), some (.int p1), some (.int p2), some (.int p3)] [.int x137] M121 _
            exact z_xri zt276 48 rfl zzr276 (kk x137 M121 X128 (fun hq => by exfalso; omega) (fun hq => by exfalso; omega) (fun hq => by exfalso; omega) (fun _ => ⟨(by rw [h138, h134, h112, h109, h106]), n130, _, h125, by omega⟩) (fun hq => by exfalso; omega))
          exfalso; omega
        exfalso; omega
      refine z_xP zt276 35 76 [some (.ref 19), some (.int p1), some (.int p2), some (.int p3)] [.ref 19, .ref 19] rfl rfl ?_
      refine z_xgX (b := 36) zt276 36 rfl zo276 zzf12_58 X23 f19 (by decide) (by decide) rfl ?_
      refine z_xP zt276 37 80 [some (.ref 19), some (.int p1), some (.int p2), some (.int p3)] [.int p1, .ref 36, .ref 19] rfl rfl ?_
      have f36 : T[36]? = some (.inr (36, 0, 20, 0, 7)) := X23.1.k rfl (by decide)
      refine z_xil zt276 38 rfl X23 f36 (by decide) (by omega) (by omega) (fun (x139 : Int32) h140 (h141 : 0 ≤ x139.toInt) (h142 : x139.toInt ≤ 7) => ?_)
      have h143 := congrArg Int32.toInt (h140.symm.trans ((congrFun (e24.a f36 (by decide)) _).trans ((congrFun (e3.a f36 (by decide)) _).trans hk36)))
      refine z_xP zt276 39 82 [some (.ref 19), some (.int p1), some (.int p2), some (.int p3)] [.int p3, .int x139, .ref 19] rfl rfl ?_
      refine z_xcV (vs := [.ref 19, .int x139, .int p3]) (r := []) (L2 := [some (.ref 19), some (.int x139), some (.int p3)]) zt276 40 rfl zo276 zzcV12_399 (Or.inl rfl) rfl X23 f19 rfl rfl rfl (Nat.le_of_ble_eq_true rfl) zzm281 (Nat.le_of_ble_eq_true rfl) rfl ?_
      refine z_xP zt281 0 1 [some (.ref 19), some (.int x139), some (.int p3)] [.int x139] rfl rfl ?_
      refine z_xSL zt281 1 rfl (by decide) (z_lsd (List.forall_mem_cons.mpr ⟨show (0 : Int) ≠ x139.toInt from by omega, (List.forall_mem_cons.mpr ⟨show (3 : Int) ≠ x139.toInt from by omega, (List.forall_mem_cons.mpr ⟨show (6 : Int) ≠ x139.toInt from by omega, (List.forall_mem_nil _)⟩)⟩)⟩)) rfl ?_
      refine z_xP zt281 25 88 [some (.ref 19), some (.int x139), some (.int p3)] [.int x139, .ref 19] rfl rfl ?_
      refine z_xcS (vs := [.int x139]) (r := [.ref 19]) (L2 := [some (.int x139)]) zt281 26 rfl zo281 zzcS12_390 (Or.inl rfl) (Nat.le_of_ble_eq_true rfl) rfl rfl (Nat.le_of_ble_eq_true rfl) zzm279 (Nat.le_of_ble_eq_true rfl) rfl ?_
      refine z_xP zt279 0 2 [some (.int x139)] [.int 2, .int x139] rfl rfl ?_
      refine z_xJ zt279 1 rfl rfl (fun (h144 : x139.toInt = 2) => absurd h144 (by omega)) (fun (h144 : x139.toInt ≠ 2) => ?_)
      refine z_xP zt279 2 7 [some (.int x139)] [.int 3, .int x139] rfl rfl ?_
      refine z_xJ zt279 3 rfl rfl (fun (h145 : x139.toInt ≠ 3) => ?_) (fun (h145 : x139.toInt = 3) => absurd h145 (by omega))
      refine z_xP zt279 5 17 [some (.int x139)] [.int 6, .int x139] rfl rfl ?_
      refine z_xJ zt279 6 rfl rfl (fun (h146 : x139.toInt ≠ 6) => ?_) (fun (h146 : x139.toInt = 6) => absurd h146 (by omega))
      refine z_xP zt279 8 25 [some (.int x139)] [.int 0] rfl rfl ?_
      refine z_xri zt279 9 rfl zzr279 ?_
      show z_ev (d + 40) 281 91 [some (.ref 19), some (.int x139), some (.int p3)] [.int 0, .ref 19] M22 _
      refine z_xP zt281 27 92 [some (.ref 19), some (.int x139), some (.int p3)] [.int p3, .int 0, .ref 19] rfl rfl ?_
      refine z_xcV (vs := [.ref 19, .int 0, .int p3]) (r := []) (L2 := [some (.ref 19), some (.int 0), some (.int p3)]) zt281 28 rfl zo281 zzcV12_399 (Or.inl rfl) rfl X23 f19 rfl rfl rfl (Nat.le_of_ble_eq_true rfl) zzm281 (Nat.le_of_ble_eq_true rfl) rfl ?_
      refine z_xP zt281 0 1 [some (.ref 19), some (.int 0), some (.int p3)] [.int 0] rfl rfl ?_
      refine z_xSW zt281 1 36 rfl rfl ?_
      refine z_xP zt281 2 39 [some (.ref 19), some (.int 0), some (.int p3)] [.int 11, .ref 19] rfl rfl ?_
      refine z_xcV (vs := [.ref 19, .int 11]) (r := []) (L2 := [some (.ref 19), some (.int 11)]) zt281 3 rfl zo281 zzcV12_384 (Or.inl rfl) rfl X23 f19 rfl rfl rfl (Nat.le_of_ble_eq_true rfl) zzm278 (Nat.le_of_ble_eq_true rfl) rfl ?_
      have q11 : ((11 : Int32)).toInt = 11 := rfl
      have h147 := (e24.f f19 (by decide) h4)
      have q0 : ((0 : Int32)).toInt = 0 := rfl
      have q11 : ((11 : Int32)).toInt = 11 := rfl
      refine zNC278 X23.1 h147 ⟨by omega, by omega⟩ (fun M148 X149 h150 z151 h152 h153 h154 => ?_)
      have X155 := X23.go X149 (z_sb (by decide))
      show z_ev (d + 39) 281 42 [some (.ref 19), some (.int 0), some (.int p3)] [] M148 _
      have f48 : T[48]? = some (.inr (48, 0, 24, (-2147483648), 2147483647)) := X155.1.k rfl (by decide)
      have n157 : z_Ar M22 48 = z_Ar M0 48 := ((e24.a f48 (by decide)).trans (e3.a f48 (by decide)))
      have h159 : (0 : Int32).toInt.toNat = 0 := by omega
      have n158 : z_Ar M148 48 = z_nrs 0 [11] (z_Ar M0 48) := by rw [h150, n157, h159]; rfl
      refine z_xP zt281 4 44 [some (.ref 19), some (.int 0), some (.int p3)] [.ref 19, .int p3] rfl rfl ?_
      have h160 := (X149.2.f f19 (by decide) h25)
      refine z_xgv zt281 5 rfl zo281 zzf12_387 X155 f19 (by decide) h160 ?_
      refine z_xI zt281 6 rfl rfl (fun (x161 : Int32) (h162 : x161 = p3 ^^^ p1) => ?_) (rfl)
      refine z_xri zt281 7 rfl zzr281 ?_
      show z_ev (d + 40) 281 95 [some (.ref 19), some (.int x139), some (.int p3)] [.int x161] M148 _
      refine z_xri zt281 29 rfl zzr281 ?_
      show z_ev (d + 41) 276 85 [some (.ref 19), some (.int p1), some (.int p2), some (.int p3)] [.int x161] M148 _
      refine z_xP zt276 41 99 [some (.ref 19), some (.int p1), some (.int p2), some (.int p3)] [.int x161] rfl rfl ?_
      exact z_xri zt276 48 rfl zzr276 (kk x161 M148 X155 (fun hq => by exfalso; omega) (fun hq => by exfalso; omega) (fun _ => ⟨(by rw [h162]), n158, _, h152, by omega⟩) (fun hq => by exfalso; omega) (fun hq => by exfalso; omega))
    refine z_xP zt276 26 57 [some (.ref 19), some (.int p1), some (.int p2), some (.int p3)] [.ref 19, .ref 19] rfl rfl ?_
    refine z_xgX (b := 36) zt276 27 rfl zo276 zzf12_58 X23 f19 (by decide) (by decide) rfl ?_
    refine z_xP zt276 28 61 [some (.ref 19), some (.int p1), some (.int p2), some (.int p3)] [.int p1, .ref 36, .ref 19] rfl rfl ?_
    have f36 : T[36]? = some (.inr (36, 0, 20, 0, 7)) := X23.1.k rfl (by decide)
    refine z_xil zt276 29 rfl X23 f36 (by decide) (by omega) (by omega) (fun (x163 : Int32) h164 (h165 : 0 ≤ x163.toInt) (h166 : x163.toInt ≤ 7) => ?_)
    have h167 := congrArg Int32.toInt (h164.symm.trans ((congrFun (e24.a f36 (by decide)) _).trans ((congrFun (e3.a f36 (by decide)) _).trans hk36)))
    refine z_xP zt276 30 63 [some (.ref 19), some (.int p1), some (.int p2), some (.int p3)] [.int p3, .int x163, .ref 19] rfl rfl ?_
    refine z_xcV (vs := [.ref 19, .int x163, .int p3]) (r := []) (L2 := [some (.ref 19), some (.int x163), some (.int p3), none]) zt276 31 rfl zo276 zzcV12_396 (Or.inl rfl) rfl X23 f19 rfl rfl rfl (Nat.le_of_ble_eq_true rfl) zzm280 (Nat.le_of_ble_eq_true rfl) rfl ?_
    refine z_xP zt280 0 1 [some (.ref 19), some (.int x163), some (.int p3), none] [.int x163] rfl rfl ?_
    by_cases h168 : x163.toInt = 1
    · refine z_xSC zt280 1 (z_sub (k := 1) h168 rfl) 144 rfl rfl ?_
      refine z_xP zt280 50 146 [some (.ref 19), some (.int x163), some (.int p3), none] [.int x163, .ref 19] rfl rfl ?_
      refine z_xcS (vs := [.int x163]) (r := [.ref 19]) (L2 := [some (.int x163)]) zt280 51 rfl zo280 zzcS12_390 (Or.inl rfl) (Nat.le_of_ble_eq_true rfl) rfl rfl (Nat.le_of_ble_eq_true rfl) zzm279 (Nat.le_of_ble_eq_true rfl) rfl ?_
      refine z_xP zt279 0 2 [some (.int x163)] [.int 2, .int x163] rfl rfl ?_
      refine z_xJ zt279 1 rfl rfl (fun (h169 : x163.toInt = 2) => absurd h169 (by omega)) (fun (h169 : x163.toInt ≠ 2) => ?_)
      refine z_xP zt279 2 7 [some (.int x163)] [.int 3, .int x163] rfl rfl ?_
      refine z_xJ zt279 3 rfl rfl (fun (h170 : x163.toInt ≠ 3) => ?_) (fun (h170 : x163.toInt = 3) => absurd h170 (by omega))
      refine z_xP zt279 5 17 [some (.int x163)] [.int 6, .int x163] rfl rfl ?_
      refine z_xJ zt279 6 rfl rfl (fun (h171 : x163.toInt ≠ 6) => ?_) (fun (h171 : x163.toInt = 6) => absurd h171 (by omega))
      refine z_xP zt279 8 25 [some (.int x163)] [.int 0] rfl rfl ?_
      refine z_xri zt279 9 rfl zzr279 ?_
      show z_ev (d + 40) 280 149 [some (.ref 19), some (.int x163), some (.int p3), none] [.int 0, .ref 19] M22 _
      refine z_xP zt280 52 150 [some (.ref 19), some (.int x163), some (.int p3), none] [.int p3, .int 0, .ref 19] rfl rfl ?_
      refine z_xcV (vs := [.ref 19, .int 0, .int p3]) (r := []) (L2 := [some (.ref 19), some (.int 0), some (.int p3), none]) zt280 53 rfl zo280 zzcV12_396 (Or.inl rfl) rfl X23 f19 rfl rfl rfl (Nat.le_of_ble_eq_true rfl) zzm280 (Nat.le_of_ble_eq_true rfl) rfl ?_
      refine z_xP zt280 0 1 [some (.ref 19), some (.int 0), some (.int p3), none] [.int 0] rfl rfl ?_
      refine z_xSW zt280 1 44 rfl rfl ?_
      refine z_xP zt280 2 47 [some (.ref 19), some (.int 0), some (.int p3), none] [.int 10, .ref 19] rfl rfl ?_
      refine z_xcV (vs := [.ref 19, .int 10]) (r := []) (L2 := [some (.ref 19), some (.int 10)]) zt280 3 rfl zo280 zzcV12_384 (Or.inl rfl) rfl X23 f19 rfl rfl rfl (Nat.le_of_ble_eq_true rfl) zzm278 (Nat.le_of_ble_eq_true rfl) rfl ?_
      have q10 : ((10 : Int32)).toInt = 10 := rfl
      have h172 := (e24.f f19 (by decide) h4)
      have q0 : ((0 : Int32)).toInt = 0 := rfl
      have q10 : ((10 : Int32)).toInt = 10 := rfl
      refine zNC278 X23.1 h172 ⟨by omega, by omega⟩ (fun M173 X174 h175 z176 h177 h178 h179 => ?_)
      have X180 := X23.go X174 (z_sb (by decide))
      show z_ev (d + 39) 280 50 [some (.ref 19), some (.int 0), some (.int p3), none] [] M173 _
      have f48 : T[48]? = some (.inr (48, 0, 24, (-2147483648), 2147483647)) := X180.1.k rfl (by decide)
      have n182 : z_Ar M22 48 = z_Ar M0 48 := ((e24.a f48 (by decide)).trans (e3.a f48 (by decide)))
      have h184 : (0 : Int32).toInt.toNat = 0 := by omega
      have n183 : z_Ar M173 48 = z_nrs 0 [10] (z_Ar M0 48) := by rw [h175, n182, h184]; rfl
      refine z_xP zt280 4 52 [some (.ref 19), some (.int 0), some (.int p3), none] [.ref 19, .ref 19] rfl rfl ?_
      refine z_xgX (b := 36) zt280 5 rfl zo280 zzf12_58 X180 f19 (by decide) (by decide) rfl ?_
      refine z_xP zt280 6 56 [some (.ref 19), some (.int 0), some (.int p3), none] [.ref 19, .ref 36, .ref 19] rfl rfl ?_
      have h185 := (X174.2.f f19 (by decide) h25)
      refine z_xgv zt280 7 rfl zo280 zzf12_387 X180 f19 (by decide) h185 ?_
      refine z_xil zt280 8 rfl X180 f36 (by decide) (by omega) (by omega) (fun (x186 : Int32) h187 (h188 : 0 ≤ x186.toInt) (h189 : x186.toInt ≤ 7) => ?_)
      have h190 := congrArg Int32.toInt (h187.symm.trans ((congrFun (X174.2.a f36 (by decide)) _).trans ((congrFun (e24.a f36 (by decide)) _).trans ((congrFun (e3.a f36 (by decide)) _).trans hk36))))
      refine z_xP zt280 9 61 [some (.ref 19), some (.int 0), some (.int p3), none] [.int p3, .int x186, .ref 19] rfl rfl ?_
      refine z_xcV (vs := [.ref 19, .int x186, .int p3]) (r := []) (L2 := [some (.ref 19), some (.int x186), some (.int p3)]) zt280 10 rfl zo280 zzcV12_393 (Or.inl rfl) rfl X180 f19 rfl rfl rfl (Nat.le_of_ble_eq_true rfl) zzm277 (Nat.le_of_ble_eq_true rfl) rfl ?_
      refine z_xP zt277 0 1 [some (.ref 19), some (.int x186), some (.int p3)] [.int x186] rfl rfl ?_
      by_cases h191 : x186.toInt = 1
      · refine z_xSC zt277 1 (z_sub (k := 1) h191 rfl) 48 rfl rfl ?_
        refine z_xP zt277 8 51 [some (.ref 19), some (.int x186), some (.int p3)] [.int 20, .ref 19] rfl rfl ?_
        refine z_xcV (vs := [.ref 19, .int 20]) (r := []) (L2 := [some (.ref 19), some (.int 20)]) zt277 9 rfl zo277 zzcV12_384 (Or.inl rfl) rfl X180 f19 rfl rfl rfl (Nat.le_of_ble_eq_true rfl) zzm278 (Nat.le_of_ble_eq_true rfl) rfl ?_
        have q20 : ((20 : Int32)).toInt = 20 := rfl
        have q20 : ((20 : Int32)).toInt = 20 := rfl
        refine zNC278 X180.1 h177 ⟨by omega, by omega⟩ (fun M192 X193 h194 z195 h196 h197 h198 => ?_)
        have X199 := X180.go X193 (z_sb (by decide))
        show z_ev (d + 38) 277 54 [some (.ref 19), some (.int x186), some (.int p3)] [] M192 _
        have h202 : (z176 : Int32).toInt.toNat = 1 := by omega
        have n201 : z_Ar M192 48 = z_nrs 0 [10, 20] (z_Ar M0 48) := by rw [h194, n183, h202]; rfl
        refine z_xP zt277 10 56 [some (.ref 19), some (.int x186), some (.int p3)] [.int 1, .ref 19] rfl rfl ?_
        refine z_xcS (vs := [.int 1]) (r := [.ref 19]) (L2 := [some (.int 1)]) zt277 11 rfl zo277 zzcS12_390 (Or.inl rfl) (Nat.le_of_ble_eq_true rfl) rfl rfl (Nat.le_of_ble_eq_true rfl) zzm279 (Nat.le_of_ble_eq_true rfl) rfl ?_
        refine z_xP zt279 0 2 [some (.int 1)] [.int 2, .int 1] rfl rfl ?_
        refine z_xJ zt279 1 rfl rfl (fun (h203 : (1 : Int) = 2) => absurd h203 (by omega)) (fun (h203 : (1 : Int) ≠ 2) => ?_)
        refine z_xP zt279 2 7 [some (.int 1)] [.int 3, .int 1] rfl rfl ?_
        refine z_xJ zt279 3 rfl rfl (fun (h204 : (1 : Int) ≠ 3) => ?_) (fun (h204 : (1 : Int) = 3) => absurd h204 (by omega))
        refine z_xP zt279 5 17 [some (.int 1)] [.int 6, .int 1] rfl rfl ?_
        refine z_xJ zt279 6 rfl rfl (fun (h205 : (1 : Int) ≠ 6) => ?_) (fun (h205 : (1 : Int) = 6) => absurd h205 (by omega))
        refine z_xP zt279 8 25 [some (.int 1)] [.int 0] rfl rfl ?_
        refine z_xri zt279 9 rfl zzr279 ?_
        show z_ev (d + 38) 277 59 [some (.ref 19), some (.int x186), some (.int p3)] [.int 0, .ref 19] M192 _
        refine z_xP zt277 12 60 [some (.ref 19), some (.int x186), some (.int p3)] [.int p3, .int 0, .ref 19] rfl rfl ?_
        refine z_xcV (vs := [.ref 19, .int 0, .int p3]) (r := []) (L2 := [some (.ref 19), some (.int 0), some (.int p3)]) zt277 13 rfl zo277 zzcV12_393 (Or.inl rfl) rfl X199 f19 rfl rfl rfl (Nat.le_of_ble_eq_true rfl) zzm277 (Nat.le_of_ble_eq_true rfl) rfl ?_
        refine z_xP zt277 0 1 [some (.ref 19), some (.int 0), some (.int p3)] [.int 0] rfl rfl ?_
        refine z_xSW zt277 1 36 rfl rfl ?_
        refine z_xP zt277 2 38 [some (.ref 19), some (.int 0), some (.int p3)] [.int 1, .ref 19] rfl rfl ?_
        refine z_xcV (vs := [.ref 19, .int 1]) (r := []) (L2 := [some (.ref 19), some (.int 1)]) zt277 3 rfl zo277 zzcV12_384 (Or.inl rfl) rfl X199 f19 rfl rfl rfl (Nat.le_of_ble_eq_true rfl) zzm278 (Nat.le_of_ble_eq_true rfl) rfl ?_
        have q1 : ((1 : Int32)).toInt = 1 := rfl
        have q1 : ((1 : Int32)).toInt = 1 := rfl
        refine zNC278 X199.1 h196 ⟨by omega, by omega⟩ (fun M206 X207 h208 z209 h210 h211 h212 => ?_)
        have X213 := X199.go X207 (z_sb (by decide))
        show z_ev (d + 37) 277 41 [some (.ref 19), some (.int 0), some (.int p3)] [] M206 _
        have h216 : (z195 : Int32).toInt.toNat = 2 := by omega
        have n215 : z_Ar M206 48 = z_nrs 0 [10, 20, 1] (z_Ar M0 48) := by rw [h208, n201, h216]; rfl
        refine z_xP zt277 4 43 [some (.ref 19), some (.int 0), some (.int p3)] [.ref 19, .int p3] rfl rfl ?_
        have h217 := (X207.2.f f19 (by decide) (X193.2.f f19 (by decide) h185))
        refine z_xgv zt277 5 rfl zo277 zzf12_387 X213 f19 (by decide) h217 ?_
        have h218 := z_b32 p3
        refine z_xI zt277 6 rfl rfl (fun (x219 : Int32) (h220 : x219 = p3 + p1) => ?_) (rfl)
        refine z_xri zt277 7 rfl zzr277 ?_
        show z_ev (d + 38) 277 63 [some (.ref 19), some (.int x186), some (.int p3)] [.int x219] M206 _
        refine z_xP zt277 14 64 [some (.ref 19), some (.int x186), some (.int p3)] [.int 1, .int x219] rfl rfl ?_
        have h221 := z_b32 x219
        refine z_xI zt277 15 rfl rfl (fun (x222 : Int32) (h223 : x222 = x219 - 1) => ?_) (rfl)
        refine z_xri zt277 16 rfl zzr277 ?_
        show z_ev (d + 39) 280 64 [some (.ref 19), some (.int 0), some (.int p3), none] [.int x222] M206 _
        refine z_xP zt280 11 65 [some (.ref 19), some (.int 0), some (.int p3), none] [.int 2, .int x222] rfl rfl ?_
        have h224 := z_b32 x222
        refine z_xI zt280 12 rfl rfl (fun (x225 : Int32) (h226 : x225 = x222 * 2) => ?_) (rfl)
        refine z_xri zt280 13 rfl zzr280 ?_
        show z_ev (d + 40) 280 153 [some (.ref 19), some (.int x163), some (.int p3), none] [.int x225] M206 _
        refine z_xri zt280 54 rfl zzr280 ?_
        show z_ev (d + 41) 276 66 [some (.ref 19), some (.int p1), some (.int p2), some (.int p3)] [.int x225] M206 _
        refine z_xP zt276 32 99 [some (.ref 19), some (.int p1), some (.int p2), some (.int p3)] [.int x225] rfl rfl ?_
        exact z_xri zt276 48 rfl zzr276 (kk x225 M206 X213 (fun hq => by exfalso; omega) (fun _ => ⟨(by rw [h226, h223, h220]), n215, _, h210, by omega⟩) (fun hq => by exfalso; omega) (fun hq => by exfalso; omega) (fun hq => by exfalso; omega))
      exfalso; omega
    exfalso; omega
  refine z_xP zt276 17 38 [some (.ref 19), some (.int p1), some (.int p2), some (.int p3)] [.ref 19, .ref 19] rfl rfl ?_
  refine z_xgX (b := 36) zt276 18 rfl zo276 zzf12_58 X23 f19 (by decide) (by decide) rfl ?_
  refine z_xP zt276 19 42 [some (.ref 19), some (.int p1), some (.int p2), some (.int p3)] [.int p1, .ref 36, .ref 19] rfl rfl ?_
  have f36 : T[36]? = some (.inr (36, 0, 20, 0, 7)) := X23.1.k rfl (by decide)
  refine z_xil zt276 20 rfl X23 f36 (by decide) (by omega) (by omega) (fun (x227 : Int32) h228 (h229 : 0 ≤ x227.toInt) (h230 : x227.toInt ≤ 7) => ?_)
  have h231 := congrArg Int32.toInt (h228.symm.trans ((congrFun (e24.a f36 (by decide)) _).trans ((congrFun (e3.a f36 (by decide)) _).trans hk36)))
  refine z_xP zt276 21 44 [some (.ref 19), some (.int p1), some (.int p2), some (.int p3)] [.int p3, .int x227, .ref 19] rfl rfl ?_
  refine z_xcV (vs := [.ref 19, .int x227, .int p3]) (r := []) (L2 := [some (.ref 19), some (.int x227), some (.int p3)]) zt276 22 rfl zo276 zzcV12_393 (Or.inl rfl) rfl X23 f19 rfl rfl rfl (Nat.le_of_ble_eq_true rfl) zzm277 (Nat.le_of_ble_eq_true rfl) rfl ?_
  refine z_xP zt277 0 1 [some (.ref 19), some (.int x227), some (.int p3)] [.int x227] rfl rfl ?_
  by_cases h232 : x227.toInt = 1
  · refine z_xSC zt277 1 (z_sub (k := 1) h232 rfl) 48 rfl rfl ?_
    refine z_xP zt277 8 51 [some (.ref 19), some (.int x227), some (.int p3)] [.int 20, .ref 19] rfl rfl ?_
    refine z_xcV (vs := [.ref 19, .int 20]) (r := []) (L2 := [some (.ref 19), some (.int 20)]) zt277 9 rfl zo277 zzcV12_384 (Or.inl rfl) rfl X23 f19 rfl rfl rfl (Nat.le_of_ble_eq_true rfl) zzm278 (Nat.le_of_ble_eq_true rfl) rfl ?_
    have q20 : ((20 : Int32)).toInt = 20 := rfl
    have h233 := (e24.f f19 (by decide) h4)
    have q0 : ((0 : Int32)).toInt = 0 := rfl
    have q20 : ((20 : Int32)).toInt = 20 := rfl
    refine zNC278 X23.1 h233 ⟨by omega, by omega⟩ (fun M234 X235 h236 z237 h238 h239 h240 => ?_)
    have X241 := X23.go X235 (z_sb (by decide))
    show z_ev (d + 40) 277 54 [some (.ref 19), some (.int x227), some (.int p3)] [] M234 _
    have f48 : T[48]? = some (.inr (48, 0, 24, (-2147483648), 2147483647)) := X241.1.k rfl (by decide)
    have n243 : z_Ar M22 48 = z_Ar M0 48 := ((e24.a f48 (by decide)).trans (e3.a f48 (by decide)))
    have h245 : (0 : Int32).toInt.toNat = 0 := by omega
    have n244 : z_Ar M234 48 = z_nrs 0 [20] (z_Ar M0 48) := by rw [h236, n243, h245]; rfl
    refine z_xP zt277 10 56 [some (.ref 19), some (.int x227), some (.int p3)] [.int 1, .ref 19] rfl rfl ?_
    refine z_xcS (vs := [.int 1]) (r := [.ref 19]) (L2 := [some (.int 1)]) zt277 11 rfl zo277 zzcS12_390 (Or.inl rfl) (Nat.le_of_ble_eq_true rfl) rfl rfl (Nat.le_of_ble_eq_true rfl) zzm279 (Nat.le_of_ble_eq_true rfl) rfl ?_
    refine z_xP zt279 0 2 [some (.int 1)] [.int 2, .int 1] rfl rfl ?_
    refine z_xJ zt279 1 rfl rfl (fun (h246 : (1 : Int) = 2) => absurd h246 (by omega)) (fun (h246 : (1 : Int) ≠ 2) => ?_)
    refine z_xP zt279 2 7 [some (.int 1)] [.int 3, .int 1] rfl rfl ?_
    refine z_xJ zt279 3 rfl rfl (fun (h247 : (1 : Int) ≠ 3) => ?_) (fun (h247 : (1 : Int) = 3) => absurd h247 (by omega))
    refine z_xP zt279 5 17 [some (.int 1)] [.int 6, .int 1] rfl rfl ?_
    refine z_xJ zt279 6 rfl rfl (fun (h248 : (1 : Int) ≠ 6) => ?_) (fun (h248 : (1 : Int) = 6) => absurd h248 (by omega))
    refine z_xP zt279 8 25 [some (.int 1)] [.int 0] rfl rfl ?_
    refine z_xri zt279 9 rfl zzr279 ?_
    show z_ev (d + 40) 277 59 [some (.ref 19), some (.int x227), some (.int p3)] [.int 0, .ref 19] M234 _
    refine z_xP zt277 12 60 [some (.ref 19), some (.int x227), some (.int p3)] [.int p3, .int 0, .ref 19] rfl rfl ?_
    refine z_xcV (vs := [.ref 19, .int 0, .int p3]) (r := []) (L2 := [some (.ref 19), some (.int 0), some (.int p3)]) zt277 13 rfl zo277 zzcV12_393 (Or.inl rfl) rfl X241 f19 rfl rfl rfl (Nat.le_of_ble_eq_true rfl) zzm277 (Nat.le_of_ble_eq_true rfl) rfl ?_
    refine z_xP zt277 0 1 [some (.ref 19), some (.int 0), some (.int p3)] [.int 0] rfl rfl ?_
    refine z_xSW zt277 1 36 rfl rfl ?_
    refine z_xP zt277 2 38 [some (.ref 19), some (.int 0), some (.int p3)] [.int 1, .ref 19] rfl rfl ?_
    refine z_xcV (vs := [.ref 19, .int 1]) (r := []) (L2 := [some (.ref 19), some (.int 1)]) zt277 3 rfl zo277 zzcV12_384 (Or.inl rfl) rfl X241 f19 rfl rfl rfl (Nat.le_of_ble_eq_true rfl) zzm278 (Nat.le_of_ble_eq_true rfl) rfl ?_
    have q1 : ((1 : Int32)).toInt = 1 := rfl
    have q1 : ((1 : Int32)).toInt = 1 := rfl
    refine zNC278 X241.1 h238 ⟨by omega, by omega⟩ (fun M249 X250 h251 z252 h253 h254 h255 => ?_)
    have X256 := X241.go X250 (z_sb (by decide))
    show z_ev (d + 39) 277 41 [some (.ref 19), some (.int 0), some (.int p3)] [] M249 _
    have h259 : (z237 : Int32).toInt.toNat = 1 := by omega
    have n258 : z_Ar M249 48 = z_nrs 0 [20, 1] (z_Ar M0 48) := by rw [h251, n244, h259]; rfl
    refine z_xP zt277 4 43 [some (.ref 19), some (.int 0), some (.int p3)] [.ref 19, .int p3] rfl rfl ?_
    have h260 := (X250.2.f f19 (by decide) (X235.2.f f19 (by decide) h25))
    refine z_xgv zt277 5 rfl zo277 zzf12_387 X256 f19 (by decide) h260 ?_
    have h261 := z_b32 p3
    refine z_xI zt277 6 rfl rfl (fun (x262 : Int32) (h263 : x262 = p3 + p1) => ?_) (rfl)
    refine z_xri zt277 7 rfl zzr277 ?_
    show z_ev (d + 40) 277 63 [some (.ref 19), some (.int x227), some (.int p3)] [.int x262] M249 _
    refine z_xP zt277 14 64 [some (.ref 19), some (.int x227), some (.int p3)] [.int 1, .int x262] rfl rfl ?_
    have h264 := z_b32 x262
    refine z_xI zt277 15 rfl rfl (fun (x265 : Int32) (h266 : x265 = x262 - 1) => ?_) (rfl)
    refine z_xri zt277 16 rfl zzr277 ?_
    show z_ev (d + 41) 276 47 [some (.ref 19), some (.int p1), some (.int p2), some (.int p3)] [.int x265] M249 _
    refine z_xP zt276 23 99 [some (.ref 19), some (.int p1), some (.int p2), some (.int p3)] [.int x265] rfl rfl ?_
    exact z_xri zt276 48 rfl zzr276 (kk x265 M249 X256 (fun _ => ⟨(by rw [h266, h263]), n258, _, h253, by omega⟩) (fun hq => by exfalso; omega) (fun hq => by exfalso; omega) (fun hq => by exfalso; omega) (fun hq => by exfalso; omega))
  exfalso; omega
theorem zNC159_2 {T : List zK} {d : Nat} {K : Option Value → zH → Prop} {p1 : Int32} {p2 : Int32} {p3 : Int32} {ww : Int32} {bb : Nat} {nn sh jd : Int32} {M0 : zH} (hW : z_W M0 T) (hww : z_F M0 4 5 = some (.int ww)) (hwr : 0 ≤ p1.toInt ∧ p1.toInt < ww.toInt ∧ ww.toInt ≤ 20) (hbb : z_O M0 12 p1.toNatClampNeg = some bb) (kbb : T[bb]? = some (.inl (6, 0, 0, 0, 0))) (hf1 : z_F M0 bb 1 = some (.int sh)) (hf2 : z_F M0 bb 2 = some (.int jd)) (hf3 : z_F M0 bb 3 = some (.int nn)) (hG : z_GG T M0) (kk : ∀ (x : Int32) (M1 : zH), z_X T zw159 M0 M1 → (p2.toInt = 0 → x = ((p3 + nn) - 1) ∧ z_Ar M1 13 = z_nts [20, 1] (upd (z_Ar M0 13) 0 0)) → (p2.toInt = 1 → x = ((((p3 + nn) - 1) * 2) + ((2 + nn) - 1)) ∧ z_Ar M1 13 = z_nts [30, 10, 20, 1, 20, 1] (upd (z_Ar M0 13) 0 0)) → (p2.toInt = 2 → x = (p3 ^^^ nn) ∧ z_Ar M1 13 = z_nts [11] (upd (z_Ar M0 13) 0 0)) → (p2.toInt = 3 → x = (((((p3 + nn) - 1) * 2) + ((2 + nn) - 1)) - (1 ^^^ nn)) ∧ z_Ar M1 13 = z_nts [2, 30, 10, 20, 1, 20, 1, 11] (upd (z_Ar M0 13) 0 0)) → (p2.toInt < 0 ∨ 3 < p2.toInt → x = 0 ∧ z_Ar M1 13 = upd (z_Ar M0 13) 0 0) → K (some (.int x)) M1) : z_ev (d + 8) 159 0 [some (.ref 4), some (.int p1), some (.int p2), some (.int p3), none] [] M0 K := by
  have X : z_X T zw159 M0 M0 := .refl hW
  refine z_xP zt159 0 1 [some (.ref 4), some (.int p1), some (.int p2), some (.int p3), none] [.ref 4] rfl rfl ?_
  have f4 : T[4]? = some (.inl (0, 0, 0, 0, 0)) := X.1.k rfl (by decide)
  refine z_xgX (b := 13) zt159 1 rfl zo159 zzf0_31 X f4 (by decide) (by decide) rfl ?_
  refine z_xP zt159 2 6 [some (.ref 4), some (.int p1), some (.int p2), some (.int p3), none] [.int 0, .int 0, .ref 13] rfl rfl ?_
  have f13 : T[13]? = some (.inr (13, 0, 25, (-2147483648), 2147483647)) := X.1.k rfl (by decide)
  have q0 : ((0 : Int32)).toInt = 0 := rfl
  refine z_xis zt159 3 rfl X f13 (by decide) (by decide) (by decide) (by decide) (by omega) (by omega) (by decide) (fun M1 X2 e3 h4 => ?_)
  have q0 : ((0 : Int32)).toInt = 0 := rfl
  have h5 := z_u0 h4 (by omega)
  have n6 : z_Ar M1 13 = upd (z_Ar M0 13) 0 0 := h4
  refine z_xP zt159 4 9 [some (.ref 4), some (.int p1), some (.int p2), some (.int p3), none] [.int p1, .ref 4] rfl rfl ?_
  refine z_xcV (vs := [.ref 4, .int p1]) (r := []) (L2 := [some (.ref 4), some (.int p1)]) zt159 5 rfl zo159 zzcV0_221 (Or.inl rfl) rfl X2 f4 rfl rfl rfl (Nat.le_of_ble_eq_true rfl) zzm84 (Nat.le_of_ble_eq_true rfl) rfl ?_
  refine z_xP zt84 0 1 [some (.ref 4), some (.int p1)] [.int p1] rfl rfl ?_
  refine z_xZ zt84 1 rfl rfl (fun (h7 : p1.toInt < 0) => absurd h7 (by omega)) (fun (h7 : 0 ≤ p1.toInt) => ?_)
  refine z_xP zt84 2 6 [some (.ref 4), some (.int p1)] [.ref 4, .int p1] rfl rfl ?_
  have h8 := (e3.f f4 (by decide) hww)
  refine z_xgv zt84 3 rfl zo84 zzf0_188 X2 f4 (by decide) h8 ?_
  refine z_xJ zt84 4 rfl rfl (fun (h9 : p1.toInt < ww.toInt) => ?_) (fun (h9 : ww.toInt ≤ p1.toInt) => ?_)
  · skip
    refine z_xP zt84 6 17 [some (.ref 4), some (.int p1)] [.ref 4] rfl rfl ?_
    refine z_xgX (b := 12) zt84 7 rfl zo84 zzf0_27 X2 f4 (by decide) (by decide) rfl ?_
    refine z_xP zt84 8 21 [some (.ref 4), some (.int p1)] [.int p1, .ref 12] rfl rfl ?_
    have f12 : T[12]? = some (.inr (12, 3, 20, 0, 0)) := X2.1.k rfl (by decide)
    refine z_xalv zt84 9 rfl X2 f12 (by decide) (by decide) (by decide) (by omega) (by omega) ((congrFun (e3.o f12 (by decide)) _).trans hbb) ?_
    refine z_xra zt84 10 rfl zzr84 ?_
    show z_ev (d + 8) 159 12 [some (.ref 4), some (.int p1), some (.int p2), some (.int p3), none] [.ref bb] M1 _
    refine z_xP zt159 6 21 [some (.ref 4), some (.int p1), some (.int p2), some (.int p3), some (.ref bb)] [] rfl rfl ?_
    refine z_xP zt159 9 22 [some (.ref 4), some (.int p1), some (.int p2), some (.int p3), some (.ref bb)] [.int p2] rfl rfl ?_
    by_cases h10 : p2.toInt = 0
    · refine z_xSC zt159 10 (z_sub (k := 0) h10 rfl) 52 rfl rfl ?_
      refine z_xP zt159 11 55 [some (.ref 4), some (.int p1), some (.int p2), some (.int p3), some (.ref bb)] [.int p3, .ref bb] rfl rfl ?_
      refine z_xcV (vs := [.ref bb, .int p3]) (r := []) (L2 := [some (.ref bb), some (.int p3)]) zt159 12 rfl zo159 zzcV0_295 (Or.inr rfl) rfl X2 kbb rfl rfl rfl (Nat.le_of_ble_eq_true rfl) zzm160 (Nat.le_of_ble_eq_true rfl) rfl ?_
      refine z_xP zt160 0 3 [some (.ref bb), some (.int p3)] [.int 20, .ref bb] rfl rfl ?_
      refine z_xcV (vs := [.ref bb, .int 20]) (r := []) (L2 := [some (.ref bb), some (.int 20)]) zt160 1 rfl zo160 zzcV5_13 (Or.inr rfl) rfl X2 kbb rfl rfl rfl (Nat.le_of_ble_eq_true rfl) zzm161 (Nat.le_of_ble_eq_true rfl) rfl ?_
      have q20 : ((20 : Int32)).toInt = 20 := rfl
      have q20 : ((20 : Int32)).toInt = 20 := rfl
      refine zNC161 X2.1 (by decide) kbb ⟨by omega, by omega⟩ (fun M11 X12 h13 h14 => ?_)
      have X15 := X2.go X12 (z_sb (by decide))
      show z_ev (d + 7) 160 6 [some (.ref bb), some (.int p3)] [] M11 _
      have n17 : z_Ar M11 13 = z_nts [20] (upd (z_Ar M0 13) 0 0) := z_ntsS [] n6 h14
      refine z_xP zt160 2 8 [some (.ref bb), some (.int p3)] [.int p3, .ref bb] rfl rfl ?_
      refine z_xcI (vs := [.ref bb, .int p3]) (r := []) (L2 := [some (.ref bb), some (.int p3)]) zt160 3 rfl zo160 zzcI5_19 (Or.inr (Or.inl rfl)) rfl X15 kbb rfl rfl (Nat.le_of_ble_eq_true rfl) zzm163 (Nat.le_of_ble_eq_true rfl) rfl ?_
      refine z_xP zt163 0 2 [some (.ref bb), some (.int p3)] [.int 1, .ref bb] rfl rfl ?_
      refine z_xcV (vs := [.ref bb, .int 1]) (r := []) (L2 := [some (.ref bb), some (.int 1)]) zt163 1 rfl zo163 zzcV4_31 (Or.inr rfl) rfl X15 kbb rfl rfl rfl (Nat.le_of_ble_eq_true rfl) zzm161 (Nat.le_of_ble_eq_true rfl) rfl ?_
      have q1 : ((1 : Int32)).toInt = 1 := rfl
      have q1 : ((1 : Int32)).toInt = 1 := rfl
      refine zNC161 X15.1 (by decide) kbb ⟨by omega, by omega⟩ (fun M18 X19 h20 h21 => ?_)
      have X22 := X15.go X19 (z_sb (by decide))
      show z_ev (d + 6) 163 5 [some (.ref bb), some (.int p3)] [] M18 _
      have n24 : z_Ar M18 13 = z_nts [20, 1] (upd (z_Ar M0 13) 0 0) := z_ntsS [20] n17 h21
      refine z_xP zt163 2 7 [some (.ref bb), some (.int p3)] [.ref bb, .int p3] rfl rfl ?_
      have h25 := (X19.2.f kbb (by decide) (X12.2.f kbb (by decide) (e3.f kbb (by decide) hf3)))
      refine z_xgv zt163 3 rfl zo163 zzf4_15 X22 kbb (by decide) h25 ?_
      have h26 := z_b32 p3
      have h27 := z_b32 nn
      refine z_xI zt163 4 rfl rfl (fun (x28 : Int32) (h29 : x28 = p3 + nn) => ?_) (rfl)
      refine z_xri zt163 5 rfl zzr163 ?_
      show z_ev (d + 7) 160 11 [some (.ref bb), some (.int p3)] [.int x28] M18 _
      refine z_xP zt160 4 12 [some (.ref bb), some (.int p3)] [.int 1, .int x28] rfl rfl ?_
      have h30 := z_b32 x28
      refine z_xI zt160 5 rfl rfl (fun (x31 : Int32) (h32 : x31 = x28 - 1) => ?_) (rfl)
      refine z_xri zt160 6 rfl zzr160 ?_
      show z_ev (d + 8) 159 58 [some (.ref 4), some (.int p1), some (.int p2), some (.int p3), some (.ref bb)] [.int x31] M18 _
      exact z_xri zt159 13 rfl zzr159 (kk x31 M18 X22 (fun _ => ⟨(by rw [h32, h29]), n24⟩) (fun hq => by exfalso; omega) (fun hq => by exfalso; omega) (fun hq => by exfalso; omega) (fun hq => by exfalso; omega))
    by_cases h33 : p2.toInt = 1
    · refine z_xSC zt159 10 (z_sub (k := 1) h33 rfl) 59 rfl rfl ?_
      refine z_xP zt159 14 62 [some (.ref 4), some (.int p1), some (.int p2), some (.int p3), some (.ref bb)] [.int p3, .ref bb] rfl rfl ?_
      refine z_xcV (vs := [.ref bb, .int p3]) (r := []) (L2 := [some (.ref bb), some (.int p3)]) zt159 15 rfl zo159 zzcV0_298 (Or.inr rfl) rfl X2 kbb rfl rfl rfl (Nat.le_of_ble_eq_true rfl) zzm166 (Nat.le_of_ble_eq_true rfl) rfl ?_
      refine z_xP zt166 0 3 [some (.ref bb), some (.int p3)] [.int 30, .ref bb] rfl rfl ?_
      refine z_xcV (vs := [.ref bb, .int 30]) (r := []) (L2 := [some (.ref bb), some (.int 30)]) zt166 1 rfl zo166 zzcV6_30 (Or.inr rfl) rfl X2 kbb rfl rfl rfl (Nat.le_of_ble_eq_true rfl) zzm161 (Nat.le_of_ble_eq_true rfl) rfl ?_
      have q30 : ((30 : Int32)).toInt = 30 := rfl
      have q30 : ((30 : Int32)).toInt = 30 := rfl
      refine zNC161 X2.1 (by decide) kbb ⟨by omega, by omega⟩ (fun M34 X35 h36 h37 => ?_)
      have X38 := X2.go X35 (z_sb (by decide))
      show z_ev (d + 7) 166 6 [some (.ref bb), some (.int p3)] [] M34 _
      have n40 : z_Ar M34 13 = z_nts [30] (upd (z_Ar M0 13) 0 0) := z_ntsS [] n6 h37
      refine z_xP zt166 2 8 [some (.ref bb), some (.int p3)] [.int p3, .ref bb] rfl rfl ?_
      refine z_xcI (vs := [.ref bb, .int p3]) (r := []) (L2 := [some (.ref bb), some (.int p3)]) zt166 3 rfl zo166 zzcI6_36 (Or.inr (Or.inr (Or.inr rfl))) rfl X38 kbb rfl rfl (Nat.le_of_ble_eq_true rfl) zzm167 (Nat.le_of_ble_eq_true rfl) rfl ?_
      refine z_xP zt167 0 3 [some (.ref bb), some (.int p3)] [.int 10, .ref bb] rfl rfl ?_
      refine z_xcV (vs := [.ref bb, .int 10]) (r := []) (L2 := [some (.ref bb), some (.int 10)]) zt167 1 rfl zo167 zzcV4_31 (Or.inr rfl) rfl X38 kbb rfl rfl rfl (Nat.le_of_ble_eq_true rfl) zzm161 (Nat.le_of_ble_eq_true rfl) rfl ?_
      have q10 : ((10 : Int32)).toInt = 10 := rfl
      have q10 : ((10 : Int32)).toInt = 10 := rfl
      refine zNC161 X38.1 (by decide) kbb ⟨by omega, by omega⟩ (fun M41 X42 h43 h44 => ?_)
      have X45 := X38.go X42 (z_sb (by decide))
      show z_ev (d + 6) 167 6 [some (.ref bb), some (.int p3)] [] M41 _
      have n47 : z_Ar M41 13 = z_nts [30, 10] (upd (z_Ar M0 13) 0 0) := z_ntsS [30] n40 h44
      refine z_xP zt167 2 8 [some (.ref bb), some (.int p3)] [.int p3, .ref bb] rfl rfl ?_
      refine z_xcV (vs := [.ref bb, .int p3]) (r := []) (L2 := [some (.ref bb), some (.int p3)]) zt167 3 rfl zo167 zzcV4_35 (Or.inr rfl) rfl X45 kbb rfl rfl rfl (Nat.le_of_ble_eq_true rfl) zzm160 (Nat.le_of_ble_eq_true rfl) rfl ?_
      refine z_xP zt160 0 3 [some (.ref bb), some (.int p3)] [.int 20, .ref bb] rfl rfl ?_
      refine z_xcV (vs := [.ref bb, .int 20]) (r := []) (L2 := [some (.ref bb), some (.int 20)]) zt160 1 rfl zo160 zzcV5_13 (Or.inr rfl) rfl X45 kbb rfl rfl rfl (Nat.le_of_ble_eq_true rfl) zzm161 (Nat.le_of_ble_eq_true rfl) rfl ?_
      have q20 : ((20 : Int32)).toInt = 20 := rfl
      have q20 : ((20 : Int32)).toInt = 20 := rfl
      refine zNC161 X45.1 (by decide) kbb ⟨by omega, by omega⟩ (fun M48 X49 h50 h51 => ?_)
      have X52 := X45.go X49 (z_sb (by decide))
      show z_ev (d + 5) 160 6 [some (.ref bb), some (.int p3)] [] M48 _
      have n54 : z_Ar M48 13 = z_nts [30, 10, 20] (upd (z_Ar M0 13) 0 0) := z_ntsS [30, 10] n47 h51
      refine z_xP zt160 2 8 [some (.ref bb), some (.int p3)] [.int p3, .ref bb] rfl rfl ?_
      refine z_xcI (vs := [.ref bb, .int p3]) (r := []) (L2 := [some (.ref bb), some (.int p3)]) zt160 3 rfl zo160 zzcI5_19 (Or.inr (Or.inl rfl)) rfl X52 kbb rfl rfl (Nat.le_of_ble_eq_true rfl) zzm163 (Nat.le_of_ble_eq_true rfl) rfl ?_
      refine z_xP zt163 0 2 [some (.ref bb), some (.int p3)] [.int 1, .ref bb] rfl rfl ?_
      refine z_xcV (vs := [.ref bb, .int 1]) (r := []) (L2 := [some (.ref bb), some (.int 1)]) zt163 1 rfl zo163 zzcV4_31 (Or.inr rfl) rfl X52 kbb rfl rfl rfl (Nat.le_of_ble_eq_true rfl) zzm161 (Nat.le_of_ble_eq_true rfl) rfl ?_
      have q1 : ((1 : Int32)).toInt = 1 := rfl
      have q1 : ((1 : Int32)).toInt = 1 := rfl
      refine zNC161 X52.1 (by decide) kbb ⟨by omega, by omega⟩ (fun M55 X56 h57 h58 => ?_)
      have X59 := X52.go X56 (z_sb (by decide))
      show z_ev (d + 4) 163 5 [some (.ref bb), some (.int p3)] [] M55 _
      have n61 : z_Ar M55 13 = z_nts [30, 10, 20, 1] (upd (z_Ar M0 13) 0 0) := z_ntsS [30, 10, 20] n54 h58
      refine z_xP zt163 2 7 [some (.ref bb), some (.int p3)] [.ref bb, .int p3] rfl rfl ?_
      have h62 := (X56.2.f kbb (by decide) (X49.2.f kbb (by decide) (X42.2.f kbb (by decide) (X35.2.f kbb (by decide) (e3.f kbb (by decide) hf3)))))
      refine z_xgv zt163 3 rfl zo163 zzf4_15 X59 kbb (by decide) h62 ?_
      have h63 := z_b32 p3
      have h64 := z_b32 nn
      refine z_xI zt163 4 rfl rfl (fun (x65 : Int32) (h66 : x65 = p3 + nn) => ?_) (rfl)
      refine z_xri zt163 5 rfl zzr163 ?_
      show z_ev (d + 5) 160 11 [some (.ref bb), some (.int p3)] [.int x65] M55 _
      refine z_xP zt160 4 12 [some (.ref bb), some (.int p3)] [.int 1, .int x65] rfl rfl ?_
      have h67 := z_b32 x65
      refine z_xI zt160 5 rfl rfl (fun (x68 : Int32) (h69 : x68 = x65 - 1) => ?_) (rfl)
      refine z_xri zt160 6 rfl zzr160 ?_
      show z_ev (d + 6) 167 11 [some (.ref bb), some (.int p3)] [.int x68] M55 _
      refine z_xP zt167 4 12 [some (.ref bb), some (.int p3)] [.int 2, .int x68] rfl rfl ?_
      have h70 := z_b32 x68
      refine z_xI zt167 5 rfl rfl (fun (x71 : Int32) (h72 : x71 = x68 * 2) => ?_) (rfl)
      refine z_xri zt167 6 rfl zzr167 ?_
      show z_ev (d + 7) 166 11 [some (.ref bb), some (.int p3)] [.int x71] M55 _
      refine z_xP zt166 4 13 [some (.ref bb), some (.int p3)] [.int 2, .ref bb, .int x71] rfl rfl ?_
      refine z_xcV (vs := [.ref bb, .int 2]) (r := [.int x71]) (L2 := [some (.ref bb), some (.int 2)]) zt166 5 rfl zo166 zzcV6_39 (Or.inr rfl) rfl X59 kbb rfl rfl rfl (Nat.le_of_ble_eq_true rfl) zzm160 (Nat.le_of_ble_eq_true rfl) rfl ?_
      refine z_xP zt160 0 3 [some (.ref bb), some (.int 2)] [.int 20, .ref bb] rfl rfl ?_
      refine z_xcV (vs := [.ref bb, .int 20]) (r := []) (L2 := [some (.ref bb), some (.int 20)]) zt160 1 rfl zo160 zzcV5_13 (Or.inr rfl) rfl X59 kbb rfl rfl rfl (Nat.le_of_ble_eq_true rfl) zzm161 (Nat.le_of_ble_eq_true rfl) rfl ?_
      have q20 : ((20 : Int32)).toInt = 20 := rfl
      have q20 : ((20 : Int32)).toInt = 20 := rfl
      refine zNC161 X59.1 (by decide) kbb ⟨by omega, by omega⟩ (fun M73 X74 h75 h76 => ?_)
      have X77 := X59.go X74 (z_sb (by decide))
      show z_ev (d + 6) 160 6 [some (.ref bb), some (.int 2)] [] M73 _
      have n79 : z_Ar M73 13 = z_nts [30, 10, 20, 1, 20] (upd (z_Ar M0 13) 0 0) := z_ntsS [30, 10, 20, 1] n61 h76
      refine z_xP zt160 2 8 [some (.ref bb), some (.int 2)] [.int 2, .ref bb] rfl rfl ?_
      refine z_xcI (vs := [.ref bb, .int 2]) (r := []) (L2 := [some (.ref bb), some (.int 2)]) zt160 3 rfl zo160 zzcI5_19 (Or.inr (Or.inl rfl)) rfl X77 kbb rfl rfl (Nat.le_of_ble_eq_true rfl) zzm163 (Nat.le_of_ble_eq_true rfl) rfl ?_
      refine z_xP zt163 0 2 [some (.ref bb), some (.int 2)] [.int 1, .ref bb] rfl rfl ?_
      refine z_xcV (vs := [.ref bb, .int 1]) (r := []) (L2 := [some (.ref bb), some (.int 1)]) zt163 1 rfl zo163 zzcV4_31 (Or.inr rfl) rfl X77 kbb rfl rfl rfl (Nat.le_of_ble_eq_true rfl) zzm161 (Nat.le_of_ble_eq_true rfl) rfl ?_
      have q1 : ((1 : Int32)).toInt = 1 := rfl
      have q1 : ((1 : Int32)).toInt = 1 := rfl
      refine zNC161 X77.1 (by decide) kbb ⟨by omega, by omega⟩ (fun M80 X81 h82 h83 => ?_)
      have X84 := X77.go X81 (z_sb (by decide))
      show z_ev (d + 5) 163 5 [some (.ref bb), some (.int 2)] [] M80 _
      have n86 : z_Ar M80 13 = z_nts [30, 10, 20, 1, 20, 1] (upd (z_Ar M0 13) 0 0) := z_ntsS [30, 10, 20, 1, 20] n79 h83
      refine z_xP zt163 2 7 [some (.ref bb), some (.int 2)] [.ref bb, .int 2] rfl rfl ?_
      have h87 := (X81.2.f kbb (by decide) (X74.2.f kbb (by decide) h62))
      refine z_xgv zt163 3 rfl zo163 zzf4_15 X84 kbb (by decide) h87 ?_
      refine z_xI zt163 4 rfl rfl (fun (x88 : Int32) (h89 : x88 = 2 + nn) => ?_) (rfl)
      refine z_xri zt163 5 rfl zzr163 ?_
      show z_ev (d + 6) 160 11 [some (.ref bb), some (.int 2)] [.int x88] M80 _
      refine z_xP zt160 4 12 [some (.ref bb), some (.int 2)] [.int 1, .int x88] rfl rfl ?_
      have h90 := z_b32 x88
      refine z_xI zt160 5 rfl rfl (fun (x91 : Int32) (h92 : x91 = x88 - 1) => ?_) (rfl)
      refine z_xri zt160 6 rfl zzr160 ?_
      show z_ev (d + 7) 166 16 [some (.ref bb), some (.int p3)] [.int x91, .int x71] M80 _
      have h93 := z_b32 x71
      have h94 := z_b32 x91
      refine z_xI zt166 6 rfl rfl (fun (x95 : Int32) (h96 : x95 = x71 + x91) => ?_) (rfl)
      refine z_xri zt166 7 rfl zzr166 ?_
      show z_ev (d + 8) 159 65 [some (.ref 4), some (.int p1), some (.int p2), some (.int p3), some (.ref bb)] [.int x95] M80 _
      exact z_xri zt159 16 rfl zzr159 (kk x95 M80 X84 (fun hq => by exfalso; omega) (fun _ => ⟨(by rw [h96, h92, h89, h72, h69, h66]), n86⟩) (fun hq => by exfalso; omega) (fun hq => by exfalso; omega) (fun hq => by exfalso; omega))
    by_cases h97 : p2.toInt = 2
    · refine z_xSC zt159 10 (z_sub (k := 2) h97 rfl) 66 rfl rfl ?_
      refine z_xP zt159 17 69 [some (.ref 4), some (.int p1), some (.int p2), some (.int p3), some (.ref bb)] [.int p3, .ref bb] rfl rfl ?_
      refine z_xcV (vs := [.ref bb, .int p3]) (r := []) (L2 := [some (.ref bb), some (.int p3)]) zt159 18 rfl zo159 zzcV0_301 (Or.inr rfl) rfl X2 kbb rfl rfl rfl (Nat.le_of_ble_eq_true rfl) zzm170 (Nat.le_of_ble_eq_true rfl) rfl ?_
      refine z_xP zt170 0 3 [some (.ref bb), some (.int p3)] [.int 11, .ref bb] rfl rfl ?_
      refine z_xcV (vs := [.ref bb, .int 11]) (r := []) (L2 := [some (.ref bb), some (.int 11)]) zt170 1 rfl zo170 zzcV4_31 (Or.inr rfl) rfl X2 kbb rfl rfl rfl (Nat.le_of_ble_eq_true rfl) zzm161 (Nat.le_of_ble_eq_true rfl) rfl ?_
      have q11 : ((11 : Int32)).toInt = 11 := rfl
      have q11 : ((11 : Int32)).toInt = 11 := rfl
      refine zNC161 X2.1 (by decide) kbb ⟨by omega, by omega⟩ (fun M98 X99 h100 h101 => ?_)
      have X102 := X2.go X99 (z_sb (by decide))
      show z_ev (d + 7) 170 6 [some (.ref bb), some (.int p3)] [] M98 _
      have n104 : z_Ar M98 13 = z_nts [11] (upd (z_Ar M0 13) 0 0) := z_ntsS [] n6 h101
      refine z_xP zt170 2 8 [some (.ref bb), some (.int p3)] [.ref bb, .int p3] rfl rfl ?_
      have h105 := (X99.2.f kbb (by decide) (e3.f kbb (by decide) hf3))
      refine z_xgv zt170 3 rfl zo170 zzf4_15 X102 kbb (by decide) h105 ?_
      refine z_xI zt170 4 rfl rfl (fun (x106 : Int32) (h107 : x106 = p3 ^^^ nn) => ?_) (rfl)
      refine z_xri zt170 5 rfl zzr170 ?_
      show z_ev (d + 8) 159 72 [some (.ref 4), some (.int p1), some (.int p2), some (.int p3), some (.ref bb)] [.int x106] M98 _
      exact z_xri zt159 19 rfl zzr159 (kk x106 M98 X102 (fun hq => by exfalso; omega) (fun hq => by exfalso; omega) (fun _ => ⟨(by rw [h107]), n104⟩) (fun hq => by exfalso; omega) (fun hq => by exfalso; omega))
    by_cases h108 : p2.toInt = 3
    · refine z_xSC zt159 10 (z_sub (k := 3) h108 rfl) 73 rfl rfl ?_
      refine z_xP zt159 20 76 [some (.ref 4), some (.int p1), some (.int p2), some (.int p3), some (.ref bb)] [.int p3, .ref bb] rfl rfl ?_
      refine z_xcV (vs := [.ref bb, .int p3]) (r := []) (L2 := [some (.ref bb), some (.int p3)]) zt159 21 rfl zo159 zzcV0_304 (Or.inr rfl) rfl X2 kbb rfl rfl rfl (Nat.le_of_ble_eq_true rfl) zzm173 (Nat.le_of_ble_eq_true rfl) rfl ?_
      refine z_xP zt173 0 2 [some (.ref bb), some (.int p3)] [.int 2, .ref bb] rfl rfl ?_
      refine z_xcV (vs := [.ref bb, .int 2]) (r := []) (L2 := [some (.ref bb), some (.int 2)]) zt173 1 rfl zo173 zzcV4_31 (Or.inr rfl) rfl X2 kbb rfl rfl rfl (Nat.le_of_ble_eq_true rfl) zzm161 (Nat.le_of_ble_eq_true rfl) rfl ?_
      have q2 : ((2 : Int32)).toInt = 2 := rfl
      have q2 : ((2 : Int32)).toInt = 2 := rfl
      refine zNC161 X2.1 (by decide) kbb ⟨by omega, by omega⟩ (fun M109 X110 h111 h112 => ?_)
      have X113 := X2.go X110 (z_sb (by decide))
      show z_ev (d + 7) 173 5 [some (.ref bb), some (.int p3)] [] M109 _
      have n115 : z_Ar M109 13 = z_nts [2] (upd (z_Ar M0 13) 0 0) := z_ntsS [] n6 h112
      refine z_xP zt173 2 7 [some (.ref bb), some (.int p3)] [.int p3, .ref bb] rfl rfl ?_
      refine z_xcV (vs := [.ref bb, .int p3]) (r := []) (L2 := [some (.ref bb), some (.int p3)]) zt173 3 rfl zo173 zzcV4_39 (Or.inr rfl) rfl X113 kbb rfl rfl rfl (Nat.le_of_ble_eq_true rfl) zzm166 (Nat.le_of_ble_eq_true rfl) rfl ?_
      refine z_xP zt166 0 3 [some (.ref bb), some (.int p3)] [.int 30, .ref bb] rfl rfl ?_
      refine z_xcV (vs := [.ref bb, .int 30]) (r := []) (L2 := [some (.ref bb), some (.int 30)]) zt166 1 rfl zo166 zzcV6_30 (Or.inr rfl) rfl X113 kbb rfl rfl rfl (Nat.le_of_ble_eq_true rfl) zzm161 (Nat.le_of_ble_eq_true rfl) rfl ?_
      have q30 : ((30 : Int32)).toInt = 30 := rfl
      have q30 : ((30 : Int32)).toInt = 30 := rfl
      refine zNC161 X113.1 (by decide) kbb ⟨by omega, by omega⟩ (fun M116 X117 h118 h119 => ?_)
      have X120 := X113.go X117 (z_sb (by decide))
      show z_ev (d + 6) 166 6 [some (.ref bb), some (.int p3)] [] M116 _
      have n122 : z_Ar M116 13 = z_nts [2, 30] (upd (z_Ar M0 13) 0 0) := z_ntsS [2] n115 h119
      refine z_xP zt166 2 8 [some (.ref bb), some (.int p3)] [.int p3, .ref bb] rfl rfl ?_
      refine z_xcI (vs := [.ref bb, .int p3]) (r := []) (L2 := [some (.ref bb), some (.int p3)]) zt166 3 rfl zo166 zzcI6_36 (Or.inr (Or.inr (Or.inr rfl))) rfl X120 kbb rfl rfl (Nat.le_of_ble_eq_true rfl) zzm167 (Nat.le_of_ble_eq_true rfl) rfl ?_
      refine z_xP zt167 0 3 [some (.ref bb), some (.int p3)] [.int 10, .ref bb] rfl rfl ?_
      refine z_xcV (vs := [.ref bb, .int 10]) (r := []) (L2 := [some (.ref bb), some (.int 10)]) zt167 1 rfl zo167 zzcV4_31 (Or.inr rfl) rfl X120 kbb rfl rfl rfl (Nat.le_of_ble_eq_true rfl) zzm161 (Nat.le_of_ble_eq_true rfl) rfl ?_
      have q10 : ((10 : Int32)).toInt = 10 := rfl
      have q10 : ((10 : Int32)).toInt = 10 := rfl
      refine zNC161 X120.1 (by decide) kbb ⟨by omega, by omega⟩ (fun M123 X124 h125 h126 => ?_)
      have X127 := X120.go X124 (z_sb (by decide))
      show z_ev (d + 5) 167 6 [some (.ref bb), some (.int p3)] [] M123 _
      have n129 : z_Ar M123 13 = z_nts [2, 30, 10] (upd (z_Ar M0 13) 0 0) := z_ntsS [2, 30] n122 h126
      refine z_xP zt167 2 8 [some (.ref bb), some (.int p3)] [.int p3, .ref bb] rfl rfl ?_
      refine z_xcV (vs := [.ref bb, .int p3]) (r := []) (L2 := [some (.ref bb), some (.int p3)]) zt167 3 rfl zo167 zzcV4_35 (Or.inr rfl) rfl X127 kbb rfl rfl rfl (Nat.le_of_ble_eq_true rfl) zzm160 (Nat.le_of_ble_eq_true rfl) rfl ?_
      refine z_xP zt160 0 3 [some (.ref bb), some (.int p3)] [.int 20, .ref bb] rfl rfl ?_
      refine z_xcV (vs := [.ref bb, .int 20]) (r := []) (L2 := [some (.ref bb), some (.int 20)]) zt160 1 rfl zo160 zzcV5_13 (Or.inr rfl) rfl X127 kbb rfl rfl rfl (Nat.le_of_ble_eq_true rfl) zzm161 (Nat.le_of_ble_eq_true rfl) rfl ?_
      have q20 : ((20 : Int32)).toInt = 20 := rfl
      have q20 : ((20 : Int32)).toInt = 20 := rfl
      refine zNC161 X127.1 (by decide) kbb ⟨by omega, by omega⟩ (fun M130 X131 h132 h133 => ?_)
      have X134 := X127.go X131 (z_sb (by decide))
      show z_ev (d + 4) 160 6 [some (.ref bb), some (.int p3)] [] M130 _
      have n136 : z_Ar M130 13 = z_nts [2, 30, 10, 20] (upd (z_Ar M0 13) 0 0) := z_ntsS [2, 30, 10] n129 h133
      refine z_xP zt160 2 8 [some (.ref bb), some (.int p3)] [.int p3, .ref bb] rfl rfl ?_
      refine z_xcI (vs := [.ref bb, .int p3]) (r := []) (L2 := [some (.ref bb), some (.int p3)]) zt160 3 rfl zo160 zzcI5_19 (Or.inr (Or.inl rfl)) rfl X134 kbb rfl rfl (Nat.le_of_ble_eq_true rfl) zzm163 (Nat.le_of_ble_eq_true rfl) rfl ?_
      refine z_xP zt163 0 2 [some (.ref bb), some (.int p3)] [.int 1, .ref bb] rfl rfl ?_
      refine z_xcV (vs := [.ref bb, .int 1]) (r := []) (L2 := [some (.ref bb), some (.int 1)]) zt163 1 rfl zo163 zzcV4_31 (Or.inr rfl) rfl X134 kbb rfl rfl rfl (Nat.le_of_ble_eq_true rfl) zzm161 (Nat.le_of_ble_eq_true rfl) rfl ?_
      have q1 : ((1 : Int32)).toInt = 1 := rfl
      have q1 : ((1 : Int32)).toInt = 1 := rfl
      refine zNC161 X134.1 (by decide) kbb ⟨by omega, by omega⟩ (fun M137 X138 h139 h140 => ?_)
      have X141 := X134.go X138 (z_sb (by decide))
      show z_ev (d + 3) 163 5 [some (.ref bb), some (.int p3)] [] M137 _
      have n143 : z_Ar M137 13 = z_nts [2, 30, 10, 20, 1] (upd (z_Ar M0 13) 0 0) := z_ntsS [2, 30, 10, 20] n136 h140
      refine z_xP zt163 2 7 [some (.ref bb), some (.int p3)] [.ref bb, .int p3] rfl rfl ?_
      have h144 := (X138.2.f kbb (by decide) (X131.2.f kbb (by decide) (X124.2.f kbb (by decide) (X117.2.f kbb (by decide) (X110.2.f kbb (by decide) (e3.f kbb (by decide) hf3))))))
      refine z_xgv zt163 3 rfl zo163 zzf4_15 X141 kbb (by decide) h144 ?_
      have h145 := z_b32 p3
      have h146 := z_b32 nn
      refine z_xI zt163 4 rfl rfl (fun (x147 : Int32) (h148 : x147 = p3 + nn) => ?_) (rfl)
      refine z_xri zt163 5 rfl zzr163 ?_
      show z_ev (d + 4) 160 11 [some (.ref bb), some (.int p3)] [.int x147] M137 _
      refine z_xP zt160 4 12 [some (.ref bb), some (.int p3)] [.int 1, .int x147] rfl rfl ?_
      have h149 := z_b32 x147
      refine z_xI zt160 5 rfl rfl (fun (x150 : Int32) (h151 : x150 = x147 - 1) => ?_) (rfl)
      refine z_xri zt160 6 rfl zzr160 ?_
      show z_ev (d + 5) 167 11 [some (.ref bb), some (.int p3)] [.int x150] M137 _
      refine z_xP zt167 4 12 [some (.ref bb), some (.int p3)] [.int 2, .int x150] rfl rfl ?_
      have h152 := z_b32 x150
      refine z_xI zt167 5 rfl rfl (fun (x153 : Int32) (h154 : x153 = x150 * 2) => ?_) (rfl)
      refine z_xri zt167 6 rfl zzr167 ?_
      show z_ev (d + 6) 166 11 [some (.ref bb), some (.int p3)] [.int x153] M137 _
      refine z_xP zt166 4 13 [some (.ref bb), some (.int p3)] [.int 2, .ref bb, .int x153] rfl rfl ?_
      refine z_xcV (vs := [.ref bb, .int 2]) (r := [.int x153]) (L2 := [some (.ref bb), some (.int 2)]) zt166 5 rfl zo166 zzcV6_39 (Or.inr rfl) rfl X141 kbb rfl rfl rfl (Nat.le_of_ble_eq_true rfl) zzm160 (Nat.le_of_ble_eq_true rfl) rfl ?_
      refine z_xP zt160 0 3 [some (.ref bb), some (.int 2)] [.int 20, .ref bb] rfl rfl ?_
      refine z_xcV (vs := [.ref bb, .int 20]) (r := []) (L2 := [some (.ref bb), some (.int 20)]) zt160 1 rfl zo160 zzcV5_13 (Or.inr rfl) rfl X141 kbb rfl rfl rfl (Nat.le_of_ble_eq_true rfl) zzm161 (Nat.le_of_ble_eq_true rfl) rfl ?_
      have q20 : ((20 : Int32)).toInt = 20 := rfl
      have q20 : ((20 : Int32)).toInt = 20 := rfl
      refine zNC161 X141.1 (by decide) kbb ⟨by omega, by omega⟩ (fun M155 X156 h157 h158 => ?_)
      have X159 := X141.go X156 (z_sb (by decide))
      show z_ev (d + 5) 160 6 [some (.ref bb), some (.int 2)] [] M155 _
      have n161 : z_Ar M155 13 = z_nts [2, 30, 10, 20, 1, 20] (upd (z_Ar M0 13) 0 0) := z_ntsS [2, 30, 10, 20, 1] n143 h158
      refine z_xP zt160 2 8 [some (.ref bb), some (.int 2)] [.int 2, .ref bb] rfl rfl ?_
      refine z_xcI (vs := [.ref bb, .int 2]) (r := []) (L2 := [some (.ref bb), some (.int 2)]) zt160 3 rfl zo160 zzcI5_19 (Or.inr (Or.inl rfl)) rfl X159 kbb rfl rfl (Nat.le_of_ble_eq_true rfl) zzm163 (Nat.le_of_ble_eq_true rfl) rfl ?_
      refine z_xP zt163 0 2 [some (.ref bb), some (.int 2)] [.int 1, .ref bb] rfl rfl ?_
      refine z_xcV (vs := [.ref bb, .int 1]) (r := []) (L2 := [some (.ref bb), some (.int 1)]) zt163 1 rfl zo163 zzcV4_31 (Or.inr rfl) rfl X159 kbb rfl rfl rfl (Nat.le_of_ble_eq_true rfl) zzm161 (Nat.le_of_ble_eq_true rfl) rfl ?_
      have q1 : ((1 : Int32)).toInt = 1 := rfl
      have q1 : ((1 : Int32)).toInt = 1 := rfl
      refine zNC161 X159.1 (by decide) kbb ⟨by omega, by omega⟩ (fun M162 X163 h164 h165 => ?_)
      have X166 := X159.go X163 (z_sb (by decide))
      show z_ev (d + 4) 163 5 [some (.ref bb), some (.int 2)] [] M162 _
      have n168 : z_Ar M162 13 = z_nts [2, 30, 10, 20, 1, 20, 1] (upd (z_Ar M0 13) 0 0) := z_ntsS [2, 30, 10, 20, 1, 20] n161 h165
      refine z_xP zt163 2 7 [some (.ref bb), some (.int 2)] [.ref bb, .int 2] rfl rfl ?_
      have h169 := (X163.2.f kbb (by decide) (X156.2.f kbb (by decide) h144))
      refine z_xgv zt163 3 rfl zo163 zzf4_15 X166 kbb (by decide) h169 ?_
      refine z_xI zt163 4 rfl rfl (fun (x170 : Int32) (h171 : x170 = 2 + nn) => ?_) (rfl)
      refine z_xri zt163 5 rfl zzr163 ?_
      show z_ev (d + 5) 160 11 [some (.ref bb), some (.int 2)] [.int x170] M162 _
      refine z_xP zt160 4 12 [some (.ref bb), some (.int 2)] [.int 1, .int x170] rfl rfl ?_
      have h172 := z_b32 x170
      refine z_xI zt160 5 rfl rfl (fun (x173 : Int32) (h174 : x173 = x170 - 1) => ?_) (rfl)
      refine z_xri zt160 6 rfl zzr160 ?_
      show z_ev (d + 6) 166 16 [some (.ref bb), some (.int p3)] [.int x173, .int x153] M162 _
      have h175 := z_b32 x153
      have h176 := z_b32 x173
      refine z_xI zt166 6 rfl rfl (fun (x177 : Int32) (h178 : x177 = x153 + x173) => ?_) (rfl)
      refine z_xri zt166 7 rfl zzr166 ?_
      show z_ev (d + 7) 173 10 [some (.ref bb), some (.int p3)] [.int x177] M162 _
      refine z_xP zt173 4 12 [some (.ref bb), some (.int p3)] [.int 1, .ref bb, .int x177] rfl rfl ?_
      refine z_xcV (vs := [.ref bb, .int 1]) (r := [.int x177]) (L2 := [some (.ref bb), some (.int 1)]) zt173 5 rfl zo173 zzcV4_42 (Or.inr rfl) rfl X166 kbb rfl rfl rfl (Nat.le_of_ble_eq_true rfl) zzm170 (Nat.le_of_ble_eq_true rfl) rfl ?_
      refine z_xP zt170 0 3 [some (.ref bb), some (.int 1)] [.int 11, .ref bb] rfl rfl ?_
      refine z_xcV (vs := [.ref bb, .int 11]) (r := []) (L2 := [some (.ref bb), some (.int 11)]) zt170 1 rfl zo170 zzcV4_31 (Or.inr rfl) rfl X166 kbb rfl rfl rfl (Nat.le_of_ble_eq_true rfl) zzm161 (Nat.le_of_ble_eq_true rfl) rfl ?_
      have q11 : ((11 : Int32)).toInt = 11 := rfl
      have q11 : ((11 : Int32)).toInt = 11 := rfl
      refine zNC161 X166.1 (by decide) kbb ⟨by omega, by omega⟩ (fun M179 X180 h181 h182 => ?_)
      have X183 := X166.go X180 (z_sb (by decide))
      show z_ev (d + 6) 170 6 [some (.ref bb), some (.int 1)] [] M179 _
      have n185 : z_Ar M179 13 = z_nts [2, 30, 10, 20, 1, 20, 1, 11] (upd (z_Ar M0 13) 0 0) := z_ntsS [2, 30, 10, 20, 1, 20, 1] n168 h182
      refine z_xP zt170 2 8 [some (.ref bb), some (.int 1)] [.ref bb, .int 1] rfl rfl ?_
      have h186 := (X180.2.f kbb (by decide) h169)
      refine z_xgv zt170 3 rfl zo170 zzf4_15 X183 kbb (by decide) h186 ?_
      refine z_xI zt170 4 rfl rfl (fun (x187 : Int32) (h188 : x187 = 1 ^^^ nn) => ?_) (rfl)
      refine z_xri zt170 5 rfl zzr170 ?_
      show z_ev (d + 7) 173 15 [some (.ref bb), some (.int p3)] [.int x187, .int x177] M179 _
      have h189 := z_b32 x177
      have h190 := z_b32 x187
      refine z_xI zt173 6 rfl rfl (fun (x191 : Int32) (h192 : x191 = x177 - x187) => ?_) (rfl)
      refine z_xri zt173 7 rfl zzr173 ?_
      show z_ev (d + 8) 159 79 [some (.ref 4), some (.int p1), some (.int p2), some (.int p3), some (.ref bb)] [.int x191] M179 _
      exact z_xri zt159 22 rfl zzr159 (kk x191 M179 X183 (fun hq => by exfalso; omega) (fun hq => by exfalso; omega) (fun hq => by exfalso; omega) (fun _ => ⟨(by rw [h192, h188, h178, h174, h171, h154, h151, h148]), n185⟩) (fun hq => by exfalso; omega))
    refine z_xSD zt159 10 rfl rfl (by omega) ?_
    refine z_xP zt159 23 81 [some (.ref 4), some (.int p1), some (.int p2), some (.int p3), some (.ref bb)] [.int 0] rfl rfl ?_
    have q0 : ((0 : Int32)).toInt = 0 := rfl
    exact z_xri zt159 24 rfl zzr159 (kk 0 M1 X2 (fun hq => by exfalso; omega) (fun hq => by exfalso; omega) (fun hq => by exfalso; omega) (fun hq => by exfalso; omega) (fun _ => ⟨rfl, n6⟩))
  refine z_xP zt84 5 22 [some (.ref 4), some (.int p1)] [.null] rfl rfl ?_
  refine z_xrn zt84 10 rfl zzr84 ?_
  show z_ev (d + 8) 159 12 [some (.ref 4), some (.int p1), some (.int p2), some (.int p3), none] [.null] M1 _
  refine z_xP zt159 6 19 [some (.ref 4), some (.int p1), some (.int p2), some (.int p3), some (.null)] [] rfl rfl ?_
  refine z_xP zt159 7 20 [some (.ref 4), some (.int p1), some (.int p2), some (.int p3), some (.null)] [.int 0] rfl rfl ?_
  have q0 : ((0 : Int32)).toInt = 0 := rfl
  exact z_xri zt159 8 rfl zzr159 (kk 0 M1 X2 (fun hq => by exfalso; omega) (fun hq => by exfalso; omega) (fun hq => by exfalso; omega) (fun hq => by exfalso; omega) (fun _ => ⟨rfl, n6⟩))
theorem zNC276_2 {T : List zK} {d : Nat} {K : Option Value → zH → Prop} {p1 : Int32} {p2 : Int32} {p3 : Int32} {ww : Int32} {kn sh jd : Int32} {M0 : zH} (hW : z_W M0 T) (hww : z_F M0 19 21 = some (.int ww)) (hwr : 0 ≤ p1.toInt ∧ p1.toInt < ww.toInt ∧ ww.toInt ≤ 20) (hk36 : z_Ar M0 36 p1.toNatClampNeg = kn) (hkn : kn.toInt = 2) (hk37 : z_Ar M0 37 p1.toNatClampNeg = sh) (hk38 : z_Ar M0 38 p1.toNatClampNeg = jd) (kk : ∀ (x : Int32) (M1 : zH), z_X T zw276 M0 M1 → (p2.toInt = 0 → x = ((p3 + p1) - 1) ∧ z_Ar M1 48 = z_nrs 0 [20, 1] (z_Ar M0 48) ∧ ∃ n : Int32, z_F M1 19 47 = some (.int n) ∧ n.toInt = 2) → (p2.toInt = 1 → x = ((((p3 + p1) - 1) * 2) + ((2 + p1) - 1)) ∧ z_Ar M1 48 = z_nrs 0 [30, 10, 20, 1, 20, 1] (z_Ar M0 48) ∧ ∃ n : Int32, z_F M1 19 47 = some (.int n) ∧ n.toInt = 6) → (p2.toInt = 2 → x = (p3 ^^^ p1) ∧ z_Ar M1 48 = z_nrs 0 [11] (z_Ar M0 48) ∧ ∃ n : Int32, z_F M1 19 47 = some (.int n) ∧ n.toInt = 1) → (p2.toInt = 3 → x = (((((p3 + p1) - 1) * 2) + ((2 + p1) - 1)) - (1 ^^^ p1)) ∧ z_Ar M1 48 = z_nrs 0 [2, 30, 10, 20, 1, 20, 1, 11] (z_Ar M0 48) ∧ ∃ n : Int32, z_F M1 19 47 = some (.int n) ∧ n.toInt = 8) → (p2.toInt < 0 ∨ 3 < p2.toInt → x = 0 ∧ z_Ar M1 48 = z_Ar M0 48 ∧ ∃ n : Int32, z_F M1 19 47 = some (.int n) ∧ n.toInt = 0) → K (some (.int x)) M1) : z_ev (d + 41) 276 0 [some (.ref 19), some (.int p1), some (.int p2), some (.int p3)] [] M0 K := by
  have X : z_X T zw276 M0 M0 := .refl hW
  refine z_xP zt276 0 2 [some (.ref 19), some (.int p1), some (.int p2), some (.int p3)] [.int 0, .ref 19] rfl rfl ?_
  have f19 : T[19]? = some (.inl (12, 0, 0, 0, 0)) := X.1.k rfl (by decide)
  have q0 : ((0 : Int32)).toInt = 0 := rfl
  refine z_xpf zt276 1 rfl zo276 zzf12_381 X f19 (by decide) (by decide) ⟨by omega, by omega⟩ rfl (by decide) zw12_47 (fun M1 X2 e3 h4 => ?_)
  refine z_xP zt276 2 7 [some (.ref 19), some (.int p1), some (.int p2), some (.int p3)] [.int p1, .ref 19] rfl rfl ?_
  refine z_xcV (vs := [.ref 19, .int p1]) (r := []) (L2 := [some (.ref 19), some (.int p1)]) zt276 3 rfl zo276 zzcV12_272 (Or.inl rfl) rfl X2 f19 rfl rfl rfl (Nat.le_of_ble_eq_true rfl) zzm237 (Nat.le_of_ble_eq_true rfl) rfl ?_
  refine z_xP zt237 0 1 [some (.ref 19), some (.int p1)] [.int p1] rfl rfl ?_
  refine z_xZ zt237 1 rfl rfl (fun (h5 : p1.toInt < 0) => absurd h5 (by omega)) (fun (h5 : 0 ≤ p1.toInt) => ?_)
  refine z_xP zt237 2 6 [some (.ref 19), some (.int p1)] [.ref 19, .int p1] rfl rfl ?_
  have h6 := (e3.f f19 (by decide) hww)
  refine z_xgv zt237 3 rfl zo237 zzf12_269 X2 f19 (by decide) h6 ?_
  refine z_xJ zt237 4 rfl rfl (fun (h7 : ww.toInt ≤ p1.toInt) => ?_) (fun (h7 : p1.toInt < ww.toInt) => ?_)
  · skip
    refine z_xP zt237 6 17 [some (.ref 19), some (.int p1)] [.int 0] rfl rfl ?_
    refine z_xrz zt237 7 rfl zzr237 (by decide) (by decide) ?_
    show z_ev (d + 41) 276 10 [some (.ref 19), some (.int p1), some (.int p2), some (.int p3)] [.int 0] M1 _
    refine z_xZ zt276 4 rfl rfl (fun (h8 : (0 : Int) = 0) => ?_) (fun (h8 : (0 : Int) ≠ 0) => absurd h8 (by omega))
    refine z_xP zt276 11 26 [some (.ref 19), some (.int p1), some (.int p2), some (.int p3)] [.int 0] rfl rfl ?_
    have q0 : ((0 : Int32)).toInt = 0 := rfl
    have f48 : T[48]? = some (.inr (48, 0, 24, (-2147483648), 2147483647)) := X2.1.k rfl (by decide)
    have q0 : ((0 : Int32)).toInt = 0 := rfl
    exact z_xri zt276 12 rfl zzr276 (kk 0 M1 X2 (fun hq => by exfalso; omega) (fun hq => by exfalso; omega) (fun hq => by exfalso; omega) (fun hq => by exfalso; omega) (fun _ => ⟨rfl, (e3.a f48 (by decide)), _, h4, by omega⟩))
  refine z_xP zt237 5 17 [some (.ref 19), some (.int p1)] [.int 1] rfl rfl ?_
  refine z_xrz zt237 7 rfl zzr237 (by decide) (by decide) ?_
  show z_ev (d + 41) 276 10 [some (.ref 19), some (.int p1), some (.int p2), some (.int p3)] [.int 1] M1 _
  refine z_xZ zt276 4 rfl rfl (fun (h9 : (1 : Int) = 0) => absurd h9 (by omega)) (fun (h9 : (1 : Int) ≠ 0) => ?_)
  refine z_xP zt276 5 14 [some (.ref 19), some (.int p1), some (.int p2), some (.int p3)] [.int p2] rfl rfl ?_
  have h10 := z_b32 p2
  refine z_xL zt276 6 rfl rfl (fun (y11 : Int64) (h12 : y11.toInt = p2.toInt) => ?_) (z_qI2L rfl)
  refine z_xP zt276 7 16 [some (.ref 19), some (.int p1), some (.int p2), some (.int p3)] [.long 0, .long y11] rfl rfl ?_
  refine z_xl2 zt276 8 rfl zo276 zkl12_358 ?_
  refine z_xcS (vs := [.long y11, .long 0, .long 3]) (r := []) (L2 := [some (.long y11), none, some (.long 0), none, some (.long 3), none]) zt276 9 rfl zo276 zzcS12_116 (Or.inl rfl) (Nat.le_of_ble_eq_true rfl) rfl rfl (Nat.le_of_ble_eq_true rfl) zzm189 (Nat.le_of_ble_eq_true rfl) rfl ?_
  refine z_xP zt189 0 2 [some (.long y11), none, some (.long 0), none, some (.long 3), none] [.long 0, .long y11] rfl rfl ?_
  refine z_xI zt189 1 rfl rfl (fun (x13 : Int32) (h14 : (x13.toInt < 0 ∧ y11.toInt < 0) ∨ (x13.toInt = 0 ∧ y11.toInt = 0) ∨ (0 < x13.toInt ∧ 0 < y11.toInt)) => ?_) (z_qCmp rfl rfl)
  refine z_xZ zt189 2 rfl rfl (fun (h15 : x13.toInt < 0) => ?_) (fun (h15 : 0 ≤ x13.toInt) => ?_)
  · skip
    refine z_xP zt189 7 18 [some (.long y11), none, some (.long 0), none, some (.long 3), none] [.int 0] rfl rfl ?_
    refine z_xrz zt189 8 rfl zzr189 (by decide) (by decide) ?_
    show z_ev (d + 41) 276 22 [some (.ref 19), some (.int p1), some (.int p2), some (.int p3)] [.int 0] M1 _
    refine z_xZ zt276 10 rfl rfl (fun (h16 : (0 : Int) ≠ 0) => absurd h16 (by omega)) (fun (h16 : (0 : Int) = 0) => ?_)
    refine z_xP zt276 11 26 [some (.ref 19), some (.int p1), some (.int p2), some (.int p3)] [.int 0] rfl rfl ?_
    have q0 : ((0 : Int32)).toInt = 0 := rfl
    have f48 : T[48]? = some (.inr (48, 0, 24, (-2147483648), 2147483647)) := X2.1.k rfl (by decide)
    have q0 : ((0 : Int32)).toInt = 0 := rfl
    exact z_xri zt276 12 rfl zzr276 (kk 0 M1 X2 (fun hq => by exfalso; omega) (fun hq => by exfalso; omega) (fun hq => by exfalso; omega) (fun hq => by exfalso; omega) (fun _ => ⟨rfl, (e3.a f48 (by decide)), _, h4, by omega⟩))
  refine z_xP zt189 3 9 [some (.long y11), none, some (.long 0), none, some (.long 3), none] [.long 3, .long y11] rfl rfl ?_
  refine z_xI zt189 4 rfl rfl (fun (x17 : Int32) (h18 : (x17.toInt < 0 ∧ y11.toInt < 3) ∨ (x17.toInt = 0 ∧ y11.toInt = 3) ∨ (0 < x17.toInt ∧ 3 < y11.toInt)) => ?_) (z_qCmp rfl rfl)
  refine z_xZ zt189 5 rfl rfl (fun (h19 : 0 < x17.toInt) => ?_) (fun (h19 : x17.toInt ≤ 0) => ?_)
  · skip
    refine z_xP zt189 7 18 [some (.long y11), none, some (.long 0), none, some (.long 3), none] [.int 0] rfl rfl ?_
    refine z_xrz zt189 8 rfl zzr189 (by decide) (by decide) ?_
    show z_ev (d + 41) 276 22 [some (.ref 19), some (.int p1), some (.int p2), some (.int p3)] [.int 0] M1 _
    refine z_xZ zt276 10 rfl rfl (fun (h20 : (0 : Int) ≠ 0) => absurd h20 (by omega)) (fun (h20 : (0 : Int) = 0) => ?_)
    refine z_xP zt276 11 26 [some (.ref 19), some (.int p1), some (.int p2), some (.int p3)] [.int 0] rfl rfl ?_
    have q0 : ((0 : Int32)).toInt = 0 := rfl
    have f48 : T[48]? = some (.inr (48, 0, 24, (-2147483648), 2147483647)) := X2.1.k rfl (by decide)
    have q0 : ((0 : Int32)).toInt = 0 := rfl
    exact z_xri zt276 12 rfl zzr276 (kk 0 M1 X2 (fun hq => by exfalso; omega) (fun hq => by exfalso; omega) (fun hq => by exfalso; omega) (fun hq => by exfalso; omega) (fun _ => ⟨rfl, (e3.a f48 (by decide)), _, h4, by omega⟩))
  refine z_xP zt189 6 18 [some (.long y11), none, some (.long 0), none, some (.long 3), none] [.int 1] rfl rfl ?_
  refine z_xrz zt189 8 rfl zzr189 (by decide) (by decide) ?_
  show z_ev (d + 41) 276 22 [some (.ref 19), some (.int p1), some (.int p2), some (.int p3)] [.int 1] M1 _
  refine z_xZ zt276 10 rfl rfl (fun (h21 : (1 : Int) ≠ 0) => ?_) (fun (h21 : (1 : Int) = 0) => absurd h21 (by omega))
  refine z_xP zt276 13 29 [some (.ref 19), some (.int p1), some (.int p2), some (.int p3)] [.int p1, .ref 19] rfl rfl ?_
  refine z_xpf zt276 14 rfl zo276 zzf12_387 X2 f19 (by decide) (by decide) ⟨by omega, by omega⟩ rfl (by decide) zw12_48 (fun M22 X23 e24 h25 => ?_)
  refine z_xP zt276 15 33 [some (.ref 19), some (.int p1), some (.int p2), some (.int p3)] [.int p2] rfl rfl ?_
  refine z_xZ zt276 16 rfl rfl (fun (h26 : p2.toInt ≠ 0) => ?_) (fun (h26 : p2.toInt = 0) => ?_)
  · skip
    refine z_xP zt276 24 52 [some (.ref 19), some (.int p1), some (.int p2), some (.int p3)] [.int 1, .int p2] rfl rfl ?_
    refine z_xJ zt276 25 rfl rfl (fun (h27 : p2.toInt ≠ 1) => ?_) (fun (h27 : p2.toInt = 1) => ?_)
    · skip
      refine z_xP zt276 33 71 [some (.ref 19), some (.int p1), some (.int p2), some (.int p3)] [.int 2, .int p2] rfl rfl ?_
      refine z_xJ zt276 34 rfl rfl (fun (h28 : p2.toInt ≠ 2) => ?_) (fun (h28 : p2.toInt = 2) => ?_)
      · skip
        refine z_xP zt276 42 90 [some (.ref 19), some (.int p1), some (.int p2), some (.int p3)] [.ref 19, .ref 19] rfl rfl ?_
        refine z_xgX (b := 36) zt276 43 rfl zo276 zzf12_58 X23 f19 (by decide) (by decide) rfl ?_
        refine z_xP zt276 44 94 [some (.ref 19), some (.int p1), some (.int p2), some (.int p3)] [.int p1, .ref 36, .ref 19] rfl rfl ?_
        have f36 : T[36]? = some (.inr (36, 0, 20, 0, 7)) := X23.1.k rfl (by decide)
        refine z_xil zt276 45 rfl X23 f36 (by decide) (by omega) (by omega) (fun (x29 : Int32) h30 (h31 : 0 ≤ x29.toInt) (h32 : x29.toInt ≤ 7) => ?_)
        have h33 := congrArg Int32.toInt (h30.symm.trans ((congrFun (e24.a f36 (by decide)) _).trans ((congrFun (e3.a f36 (by decide)) _).trans hk36)))
        refine z_xP zt276 46 96 [some (.ref 19), some (.int p1), some (.int p2), some (.int p3)] [.int p3, .int x29, .ref 19] rfl rfl ?_
        refine z_xcV (vs := [.ref 19, .int x29, .int p3]) (r := []) (L2 := [some (.ref 19), some (.int x29), some (.int p3), none]) zt276 47 rfl zo276 zzcV12_402 (Or.inl rfl) rfl X23 f19 rfl rfl rfl (Nat.le_of_ble_eq_true rfl) zzm282 (Nat.le_of_ble_eq_true rfl) rfl ?_
        refine z_xP zt282 0 3 [some (.ref 19), some (.int x29), some (.int p3), some (.int 0)] [.int x29] rfl rfl ?_
        refine z_xSL zt282 1 rfl (by decide) (z_lsd (List.forall_mem_cons.mpr ⟨show (0 : Int) ≠ x29.toInt from by omega, (List.forall_mem_cons.mpr ⟨show (5 : Int) ≠ x29.toInt from by omega, (List.forall_mem_cons.mpr ⟨show (7 : Int) ≠ x29.toInt from by omega, (List.forall_mem_nil _)⟩)⟩)⟩)) rfl ?_
        refine z_xP zt282 47 133 [some (.ref 19), some (.int x29), some (.int p3), some (.int 0)] [.int x29, .ref 19] rfl rfl ?_
        refine z_xcS (vs := [.int x29]) (r := [.ref 19]) (L2 := [some (.int x29)]) zt282 48 rfl zo282 zzcS12_390 (Or.inl rfl) (Nat.le_of_ble_eq_true rfl) rfl rfl (Nat.le_of_ble_eq_true rfl) zzm279 (Nat.le_of_ble_eq_true rfl) rfl ?_
        refine z_xP zt279 0 2 [some (.int x29)] [.int 2, .int x29] rfl rfl ?_
        refine z_xJ zt279 1 rfl rfl (fun (h34 : x29.toInt = 2) => ?_) (fun (h34 : x29.toInt ≠ 2) => absurd h34 (by omega))
        refine z_xP zt279 4 25 [some (.int x29)] [.int 1] rfl rfl ?_
        refine z_xri zt279 9 rfl zzr279 ?_
        show z_ev (d + 40) 282 136 [some (.ref 19), some (.int x29), some (.int p3), some (.int 0)] [.int 1, .ref 19] M22 _
        refine z_xP zt282 49 137 [some (.ref 19), some (.int x29), some (.int p3), some (.int 0)] [.int p3, .int 1, .ref 19] rfl rfl ?_
        refine z_xcV (vs := [.ref 19, .int 1, .int p3]) (r := []) (L2 := [some (.ref 19), some (.int 1), some (.int p3), none]) zt282 50 rfl zo282 zzcV12_402 (Or.inl rfl) rfl X23 f19 rfl rfl rfl (Nat.le_of_ble_eq_true rfl) zzm282 (Nat.le_of_ble_eq_true rfl) rfl ?_
        refine z_xP zt282 0 3 [some (.ref 19), some (.int 1), some (.int p3), some (.int 0)] [.int 1] rfl rfl ?_
        refine z_xSW zt282 1 131 rfl rfl ?_
        refine z_xP zt282 47 133 [some (.ref 19), some (.int 1), some (.int p3), some (.int 0)] [.int 1, .ref 19] rfl rfl ?_
        refine z_xcS (vs := [.int 1]) (r := [.ref 19]) (L2 := [some (.int 1)]) zt282 48 rfl zo282 zzcS12_390 (Or.inl rfl) (Nat.le_of_ble_eq_true rfl) rfl rfl (Nat.le_of_ble_eq_true rfl) zzm279 (Nat.le_of_ble_eq_true rfl) rfl ?_
        refine z_xP zt279 0 2 [some (.int 1)] [.int 2, .int 1] rfl rfl ?_
        refine z_xJ zt279 1 rfl rfl (fun (h35 : (1 : Int) = 2) => absurd h35 (by omega)) (fun (h35 : (1 : Int) ≠ 2) => ?_)
        refine z_xP zt279 2 7 [some (.int 1)] [.int 3, .int 1] rfl rfl ?_
        refine z_xJ zt279 3 rfl rfl (fun (h36 : (1 : Int) ≠ 3) => ?_) (fun (h36 : (1 : Int) = 3) => absurd h36 (by omega))
        refine z_xP zt279 5 17 [some (.int 1)] [.int 6, .int 1] rfl rfl ?_
        refine z_xJ zt279 6 rfl rfl (fun (h37 : (1 : Int) ≠ 6) => ?_) (fun (h37 : (1 : Int) = 6) => absurd h37 (by omega))
        refine z_xP zt279 8 25 [some (.int 1)] [.int 0] rfl rfl ?_
        refine z_xri zt279 9 rfl zzr279 ?_
        show z_ev (d + 39) 282 136 [some (.ref 19), some (.int 1), some (.int p3), some (.int 0)] [.int 0, .ref 19] M22 _
        refine z_xP zt282 49 137 [some (.ref 19), some (.int 1), some (.int p3), some (.int 0)] [.int p3, .int 0, .ref 19] rfl rfl ?_
        refine z_xcV (vs := [.ref 19, .int 0, .int p3]) (r := []) (L2 := [some (.ref 19), some (.int 0), some (.int p3), none]) zt282 50 rfl zo282 zzcV12_402 (Or.inl rfl) rfl X23 f19 rfl rfl rfl (Nat.le_of_ble_eq_true rfl) zzm282 (Nat.le_of_ble_eq_true rfl) rfl ?_
        refine z_xP zt282 0 3 [some (.ref 19), some (.int 0), some (.int p3), some (.int 0)] [.int 0] rfl rfl ?_
        refine z_xSW zt282 1 36 rfl rfl ?_
        refine z_xP zt282 2 38 [some (.ref 19), some (.int 0), some (.int p3), some (.int 0)] [.int 2, .ref 19] rfl rfl ?_
        refine z_xcV (vs := [.ref 19, .int 2]) (r := []) (L2 := [some (.ref 19), some (.int 2)]) zt282 3 rfl zo282 zzcV12_384 (Or.inl rfl) rfl X23 f19 rfl rfl rfl (Nat.le_of_ble_eq_true rfl) zzm278 (Nat.le_of_ble_eq_true rfl) rfl ?_
        have q2 : ((2 : Int32)).toInt = 2 := rfl
        have h38 := (e24.f f19 (by decide) h4)
        have q0 : ((0 : Int32)).toInt = 0 := rfl
        have q2 : ((2 : Int32)).toInt = 2 := rfl
        refine zNC278 X23.1 h38 ⟨by omega, by omega⟩ (fun M39 X40 h41 z42 h43 h44 h45 => ?_)
        have X46 := X23.go X40 (z_sb (by decide))
        show z_ev (d + 38) 282 41 [some (.ref 19), some (.int 0), some (.int p3), some (.int 0)] [] M39 _
        have f48 : T[48]? = some (.inr (48, 0, 24, (-2147483648), 2147483647)) := X46.1.k rfl (by decide)
        have n48 : z_Ar M22 48 = z_Ar M0 48 := ((e24.a f48 (by decide)).trans (e3.a f48 (by decide)))
        have h50 : (0 : Int32).toInt.toNat = 0 := by omega
        have n49 : z_Ar M39 48 = z_nrs 0 [2] (z_Ar M0 48) := by rw [h41, n48, h50]; rfl
        refine z_xP zt282 4 43 [some (.ref 19), some (.int 0), some (.int p3), some (.int 0)] [.ref 19, .ref 19] rfl rfl ?_
        refine z_xgX (b := 36) zt282 5 rfl zo282 zzf12_58 X46 f19 (by decide) (by decide) rfl ?_
        refine z_xP zt282 6 47 [some (.ref 19), some (.int 0), some (.int p3), some (.int 0)] [.ref 19, .ref 36, .ref 19] rfl rfl ?_
        have h51 := (X40.2.f f19 (by decide) h25)
        refine z_xgv zt282 7 rfl zo282 zzf12_387 X46 f19 (by decide) h51 ?_
        refine z_xil zt282 8 rfl X46 f36 (by decide) (by omega) (by omega) (fun (x52 : Int32) h53 (h54 : 0 ≤ x52.toInt) (h55 : x52.toInt ≤ 7) => ?_)
        have h56 := congrArg Int32.toInt (h53.symm.trans ((congrFun (X40.2.a f36 (by decide)) _).trans ((congrFun (e24.a f36 (by decide)) _).trans ((congrFun (e3.a f36 (by decide)) _).trans hk36))))
        refine z_xP zt282 9 52 [some (.ref 19), some (.int 0), some (.int p3), some (.int 0)] [.int p3, .int x52, .ref 19] rfl rfl ?_
        refine z_xcV (vs := [.ref 19, .int x52, .int p3]) (r := []) (L2 := [some (.ref 19), some (.int x52), some (.int p3), none]) zt282 10 rfl zo282 zzcV12_396 (Or.inl rfl) rfl X46 f19 rfl rfl rfl (Nat.le_of_ble_eq_true rfl) zzm280 (Nat.le_of_ble_eq_true rfl) rfl ?_
        refine z_xP zt280 0 1 [some (.ref 19), some (.int x52), some (.int p3), none] [.int x52] rfl rfl ?_
        by_cases h57 : x52.toInt = 2
        · refine z_xSC zt280 1 (z_sub (k := 2) h57 rfl) 67 rfl rfl ?_
          refine z_xP zt280 14 70 [some (.ref 19), some (.int x52), some (.int p3), none] [.int 30, .ref 19] rfl rfl ?_
          refine z_xcV (vs := [.ref 19, .int 30]) (r := []) (L2 := [some (.ref 19), some (.int 30)]) zt280 15 rfl zo280 zzcV12_384 (Or.inl rfl) rfl X46 f19 rfl rfl rfl (Nat.le_of_ble_eq_true rfl) zzm278 (Nat.le_of_ble_eq_true rfl) rfl ?_
          have q30 : ((30 : Int32)).toInt = 30 := rfl
          have q30 : ((30 : Int32)).toInt = 30 := rfl
          refine zNC278 X46.1 h43 ⟨by omega, by omega⟩ (fun M58 X59 h60 z61 h62 h63 h64 => ?_)
          have X65 := X46.go X59 (z_sb (by decide))
          show z_ev (d + 37) 280 73 [some (.ref 19), some (.int x52), some (.int p3), none] [] M58 _
          have h68 : (z42 : Int32).toInt.toNat = 1 := by omega
          have n67 : z_Ar M58 48 = z_nrs 0 [2, 30] (z_Ar M0 48) := by rw [h60, n49, h68]; rfl
          refine z_xP zt280 16 75 [some (.ref 19), some (.int x52), some (.int p3), none] [.int 2, .ref 19] rfl rfl ?_
          refine z_xcS (vs := [.int 2]) (r := [.ref 19]) (L2 := [some (.int 2)]) zt280 17 rfl zo280 zzcS12_390 (Or.inl rfl) (Nat.le_of_ble_eq_true rfl) rfl rfl (Nat.le_of_ble_eq_true rfl) zzm279 (Nat.le_of_ble_eq_true rfl) rfl ?_
          refine z_xP zt279 0 2 [some (.int 2)] [.int 2, .int 2] rfl rfl ?_
          refine z_xJ zt279 1 rfl rfl (fun (h69 : (2 : Int) = 2) => ?_) (fun (h69 : (2 : Int) ≠ 2) => absurd h69 (by omega))
          refine z_xP zt279 4 25 [some (.int 2)] [.int 1] rfl rfl ?_
          refine z_xri zt279 9 rfl zzr279 ?_
          show z_ev (d + 37) 280 78 [some (.ref 19), some (.int x52), some (.int p3), none] [.int 1, .ref 19] M58 _
          refine z_xP zt280 18 79 [some (.ref 19), some (.int x52), some (.int p3), none] [.int p3, .int 1, .ref 19] rfl rfl ?_
          refine z_xcV (vs := [.ref 19, .int 1, .int p3]) (r := []) (L2 := [some (.ref 19), some (.int 1), some (.int p3), none]) zt280 19 rfl zo280 zzcV12_396 (Or.inl rfl) rfl X65 f19 rfl rfl rfl (Nat.le_of_ble_eq_true rfl) zzm280 (Nat.le_of_ble_eq_true rfl) rfl ?_
          refine z_xP zt280 0 1 [some (.ref 19), some (.int 1), some (.int p3), none] [.int 1] rfl rfl ?_
          refine z_xSW zt280 1 144 rfl rfl ?_
          refine z_xP zt280 50 146 [some (.ref 19), some (.int 1), some (.int p3), none] [.int 1, .ref 19] rfl rfl ?_
          refine z_xcS (vs := [.int 1]) (r := [.ref 19]) (L2 := [some (.int 1)]) zt280 51 rfl zo280 zzcS12_390 (Or.inl rfl) (Nat.le_of_ble_eq_true rfl) rfl rfl (Nat.le_of_ble_eq_true rfl) zzm279 (Nat.le_of_ble_eq_true rfl) rfl ?_
          refine z_xP zt279 0 2 [some (.int 1)] [.int 2, .int 1] rfl rfl ?_
          refine z_xJ zt279 1 rfl rfl (fun (h70 : (1 : Int) = 2) => absurd h70 (by omega)) (fun (h70 : (1 : Int) ≠ 2) => ?_)
          refine z_xP zt279 2 7 [some (.int 1)] [.int 3, .int 1] rfl rfl ?_
          refine z_xJ zt279 3 rfl rfl (fun (h71 : (1 : Int) ≠ 3) => ?_) (fun (h71 : (1 : Int) = 3) => absurd h71 (by omega))
          refine z_xP zt279 5 17 [some (.int 1)] [.int 6, .int 1] rfl rfl ?_
          refine z_xJ zt279 6 rfl rfl (fun (h72 : (1 : Int) ≠ 6) => ?_) (fun (h72 : (1 : Int) = 6) => absurd h72 (by omega))
          refine z_xP zt279 8 25 [some (.int 1)] [.int 0] rfl rfl ?_
          refine z_xri zt279 9 rfl zzr279 ?_
          show z_ev (d + 36) 280 149 [some (.ref 19), some (.int 1), some (.int p3), none] [.int 0, .ref 19] M58 _
          refine z_xP zt280 52 150 [some (.ref 19), some (.int 1), some (.int p3), none] [.int p3, .int 0, .ref 19] rfl rfl ?_
          refine z_xcV (vs := [.ref 19, .int 0, .int p3]) (r := []) (L2 := [some (.ref 19), some (.int 0), some (.int p3), none]) zt280 53 rfl zo280 zzcV12_396 (Or.inl rfl) rfl X65 f19 rfl rfl rfl (Nat.le_of_ble_eq_true rfl) zzm280 (Nat.le_of_ble_eq_true rfl) rfl ?_
          refine z_xP zt280 0 1 [some (.ref 19), some (.int 0), some (.int p3), none] [.int 0] rfl rfl ?_
          refine z_xSW zt280 1 44 rfl rfl ?_
          refine z_xP zt280 2 47 [some (.ref 19), some (.int 0), some (.int p3), none] [.int 10, .ref 19] rfl rfl ?_
          refine z_xcV (vs := [.ref 19, .int 10]) (r := []) (L2 := [some (.ref 19), some (.int 10)]) zt280 3 rfl zo280 zzcV12_384 (Or.inl rfl) rfl X65 f19 rfl rfl rfl (Nat.le_of_ble_eq_true rfl) zzm278 (Nat.le_of_ble_eq_true rfl) rfl ?_
          have q10 : ((10 : Int32)).toInt = 10 := rfl
          have q10 : ((10 : Int32)).toInt = 10 := rfl
          refine zNC278 X65.1 h62 ⟨by omega, by omega⟩ (fun M73 X74 h75 z76 h77 h78 h79 => ?_)
          have X80 := X65.go X74 (z_sb (by decide))
          show z_ev (d + 35) 280 50 [some (.ref 19), some (.int 0), some (.int p3), none] [] M73 _
          have h83 : (z61 : Int32).toInt.toNat = 2 := by omega
          have n82 : z_Ar M73 48 = z_nrs 0 [2, 30, 10] (z_Ar M0 48) := by rw [h75, n67, h83]; rfl
          refine z_xP zt280 4 52 [some (.ref 19), some (.int 0), some (.int p3), none] [.ref 19, .ref 19] rfl rfl ?_
          refine z_xgX (b := 36) zt280 5 rfl zo280 zzf12_58 X80 f19 (by decide) (by decide) rfl ?_
          refine z_xP zt280 6 56 [some (.ref 19), some (.int 0), some (.int p3), none] [.ref 19, .ref 36, .ref 19] rfl rfl ?_
          have h84 := (X74.2.f f19 (by decide) (X59.2.f f19 (by decide) h51))
          refine z_xgv zt280 7 rfl zo280 zzf12_387 X80 f19 (by decide) h84 ?_
          refine z_xil zt280 8 rfl X80 f36 (by decide) (by omega) (by omega) (fun (x85 : Int32) h86 (h87 : 0 ≤ x85.toInt) (h88 : x85.toInt ≤ 7) => ?_)
          have h89 := congrArg Int32.toInt (h86.symm.trans ((congrFun (X74.2.a f36 (by decide)) _).trans ((congrFun (X59.2.a f36 (by decide)) _).trans ((congrFun (X40.2.a f36 (by decide)) _).trans ((congrFun (e24.a f36 (by decide)) _).trans ((congrFun (e3.a f36 (by decide)) _).trans hk36))))))
          refine z_xP zt280 9 61 [some (.ref 19), some (.int 0), some (.int p3), none] [.int p3, .int x85, .ref 19] rfl rfl ?_
          refine z_xcV (vs := [.ref 19, .int x85, .int p3]) (r := []) (L2 := [some (.ref 19), some (.int x85), some (.int p3)]) zt280 10 rfl zo280 zzcV12_393 (Or.inl rfl) rfl X80 f19 rfl rfl rfl (Nat.le_of_ble_eq_true rfl) zzm277 (Nat.le_of_ble_eq_true rfl) rfl ?_
          refine z_xP zt277 0 1 [some (.ref 19), some (.int x85), some (.int p3)] [.int x85] rfl rfl ?_
          by_cases h90 : x85.toInt = 2
          · refine z_xSC zt277 1 (z_sub (k := 2) h90 rfl) 84 rfl rfl ?_
            refine z_xP zt277 26 86 [some (.ref 19), some (.int x85), some (.int p3)] [.int x85, .ref 19] rfl rfl ?_
            refine z_xcS (vs := [.int x85]) (r := [.ref 19]) (L2 := [some (.int x85)]) zt277 27 rfl zo277 zzcS12_390 (Or.inl rfl) (Nat.le_of_ble_eq_true rfl) rfl rfl (Nat.le_of_ble_eq_true rfl) zzm279 (Nat.le_of_ble_eq_true rfl) rfl ?_
            refine z_xP zt279 0 2 [some (.int x85)] [.int 2, .int x85] rfl rfl ?_
            refine z_xJ zt279 1 rfl rfl (fun (h91 : x85.toInt = 2) => ?_) (fun (h91 : x85.toInt ≠ 2) => absurd h91 (by omega))
            refine z_xP zt279 4 25 [some (.int x85)] [.int 1] rfl rfl ?_
            refine z_xri zt279 9 rfl zzr279 ?_
            show z_ev (d + 34) 277 89 [some (.ref 19), some (.int x85), some (.int p3)] [.int 1, .ref 19] M73 _
            refine z_xP zt277 28 90 [some (.ref 19), some (.int x85), some (.int p3)] [.int p3, .int 1, .ref 19] rfl rfl ?_
            refine z_xcV (vs := [.ref 19, .int 1, .int p3]) (r := []) (L2 := [some (.ref 19), some (.int 1), some (.int p3)]) zt277 29 rfl zo277 zzcV12_393 (Or.inl rfl) rfl X80 f19 rfl rfl rfl (Nat.le_of_ble_eq_true rfl) zzm277 (Nat.le_of_ble_eq_true rfl) rfl ?_
            refine z_xP zt277 0 1 [some (.ref 19), some (.int 1), some (.int p3)] [.int 1] rfl rfl ?_
            refine z_xSW zt277 1 48 rfl rfl ?_
            refine z_xP zt277 8 51 [some (.ref 19), some (.int 1), some (.int p3)] [.int 20, .ref 19] rfl rfl ?_
            refine z_xcV (vs := [.ref 19, .int 20]) (r := []) (L2 := [some (.ref 19), some (.int 20)]) zt277 9 rfl zo277 zzcV12_384 (Or.inl rfl) rfl X80 f19 rfl rfl rfl (Nat.le_of_ble_eq_true rfl) zzm278 (Nat.le_of_ble_eq_true rfl) rfl ?_
            have q20 : ((20 : Int32)).toInt = 20 := rfl
            have q20 : ((20 : Int32)).toInt = 20 := rfl
            refine zNC278 X80.1 h77 ⟨by omega, by omega⟩ (fun M92 X93 h94 z95 h96 h97 h98 => ?_)
            have X99 := X80.go X93 (z_sb (by decide))
            show z_ev (d + 33) 277 54 [some (.ref 19), some (.int 1), some (.int p3)] [] M92 _
            have h102 : (z76 : Int32).toInt.toNat = 3 := by omega
            have n101 : z_Ar M92 48 = z_nrs 0 [2, 30, 10, 20] (z_Ar M0 48) := by rw [h94, n82, h102]; rfl
            refine z_xP zt277 10 56 [some (.ref 19), some (.int 1), some (.int p3)] [.int 1, .ref 19] rfl rfl ?_
            refine z_xcS (vs := [.int 1]) (r := [.ref 19]) (L2 := [some (.int 1)]) zt277 11 rfl zo277 zzcS12_390 (Or.inl rfl) (Nat.le_of_ble_eq_true rfl) rfl rfl (Nat.le_of_ble_eq_true rfl) zzm279 (Nat.le_of_ble_eq_true rfl) rfl ?_
            refine z_xP zt279 0 2 [some (.int 1)] [.int 2, .int 1] rfl rfl ?_
            refine z_xJ zt279 1 rfl rfl (fun (h103 : (1 : Int) = 2) => absurd h103 (by omega)) (fun (h103 : (1 : Int) ≠ 2) => ?_)
            refine z_xP zt279 2 7 [some (.int 1)] [.int 3, .int 1] rfl rfl ?_
            refine z_xJ zt279 3 rfl rfl (fun (h104 : (1 : Int) ≠ 3) => ?_) (fun (h104 : (1 : Int) = 3) => absurd h104 (by omega))
            refine z_xP zt279 5 17 [some (.int 1)] [.int 6, .int 1] rfl rfl ?_
            refine z_xJ zt279 6 rfl rfl (fun (h105 : (1 : Int) ≠ 6) => ?_) (fun (h105 : (1 : Int) = 6) => absurd h105 (by omega))
            refine z_xP zt279 8 25 [some (.int 1)] [.int 0] rfl rfl ?_
            refine z_xri zt279 9 rfl zzr279 ?_
            show z_ev (d + 33) 277 59 [some (.ref 19), some (.int 1), some (.int p3)] [.int 0, .ref 19] M92 _
            refine z_xP zt277 12 60 [some (.ref 19), some (.int 1), some (.int p3)] [.int p3, .int 0, .ref 19] rfl rfl ?_
            refine z_xcV (vs := [.ref 19, .int 0, .int p3]) (r := []) (L2 := [some (.ref 19), some (.int 0), some (.int p3)]) zt277 13 rfl zo277 zzcV12_393 (Or.inl rfl) rfl X99 f19 rfl rfl rfl (Nat.le_of_ble_eq_true rfl) zzm277 (Nat.le_of_ble_eq_true rfl) rfl ?_
            refine z_xP zt277 0 1 [some (.ref 19), some (.int 0), some (.int p3)] [.int 0] rfl rfl ?_
            refine z_xSW zt277 1 36 rfl rfl ?_
            refine z_xP zt277 2 38 [some (.ref 19), some (.int 0), some (.int p3)] [.int 1, .ref 19] rfl rfl ?_
            refine z_xcV (vs := [.ref 19, .int 1]) (r := []) (L2 := [some (.ref 19), some (.int 1)]) zt277 3 rfl zo277 zzcV12_384 (Or.inl rfl) rfl X99 f19 rfl rfl rfl (Nat.le_of_ble_eq_true rfl) zzm278 (Nat.le_of_ble_eq_true rfl) rfl ?_
            have q1 : ((1 : Int32)).toInt = 1 := rfl
            have q1 : ((1 : Int32)).toInt = 1 := rfl
            refine zNC278 X99.1 h96 ⟨by omega, by omega⟩ (fun M106 X107 h108 z109 h110 h111 h112 => ?_)
            have X113 := X99.go X107 (z_sb (by decide))
            show z_ev (d + 32) 277 41 [some (.ref 19), some (.int 0), some (.int p3)] [] M106 _
            have h116 : (z95 : Int32).toInt.toNat = 4 := by omega
            have n115 : z_Ar M106 48 = z_nrs 0 [2, 30, 10, 20, 1] (z_Ar M0 48) := by rw [h108, n101, h116]; rfl
            refine z_xP zt277 4 43 [some (.ref 19), some (.int 0), some (.int p3)] [.ref 19, .int p3] rfl rfl ?_
            have h117 := (X107.2.f f19 (by decide) (X93.2.f f19 (by decide) h84))
            refine z_xgv zt277 5 rfl zo277 zzf12_387 X113 f19 (by decide) h117 ?_
            have h118 := z_b32 p3
            refine z_xI zt277 6 rfl rfl (fun (x119 : Int32) (h120 : x119 = p3 + p1) => ?_) (rfl)
            refine z_xri zt277 7 rfl zzr277 ?_
            show z_ev (d + 33) 277 63 [some (.ref 19), some (.int 1), some (.int p3)] [.int x119] M106 _
            refine z_xP zt277 14 64 [some (.ref 19), some (.int 1), some (.int p3)] [.int 1, .int x119] rfl rfl ?_
            have h121 := z_b32 x119
            refine z_xI zt277 15 rfl rfl (fun (x122 : Int32) (h123 : x122 = x119 - 1) => ?_) (rfl)
            refine z_xri zt277 16 rfl zzr277 ?_
            show z_ev (d + 34) 277 93 [some (.ref 19), some (.int x85), some (.int p3)] [.int x122] M106 _
            refine z_xri zt277 30 rfl zzr277 ?_
            show z_ev (d + 35) 280 64 [some (.ref 19), some (.int 0), some (.int p3), none] [.int x122] M106 _
            refine z_xP zt280 11 65 [some (.ref 19), some (.int 0), some (.int p3), none] [.int 2, .int x122] rfl rfl ?_
            have h124 := z_b32 x122
            refine z_xI zt280 12 rfl rfl (fun (x125 : Int32) (h126 : x125 = x122 * 2) => ?_) (rfl)
            refine z_xri zt280 13 rfl zzr280 ?_
            show z_ev (d + 36) 280 153 [some (.ref 19), some (.int 1), some (.int p3), none] [.int x125] M106 _
            refine z_xri zt280 54 rfl zzr280 ?_
            show z_ev (d + 37) 280 82 [some (.ref 19), some (.int x52), some (.int p3), none] [.int x125] M106 _
            refine z_xP zt280 20 86 [some (.ref 19), some (.int x52), some (.int p3), some (.int x125)] [.ref 19, .ref 19, .int x125] rfl rfl ?_
            refine z_xgX (b := 36) zt280 21 rfl zo280 zzf12_58 X113 f19 (by decide) (by decide) rfl ?_
            refine z_xP zt280 22 90 [some (.ref 19), some (.int x52), some (.int p3), some (.int x125)] [.ref 19, .ref 36, .ref 19, .int x125] rfl rfl ?_
            refine z_xgv zt280 23 rfl zo280 zzf12_387 X113 f19 (by decide) h117 ?_
            refine z_xil zt280 24 rfl X113 f36 (by decide) (by omega) (by omega) (fun (x127 : Int32) h128 (h129 : 0 ≤ x127.toInt) (h130 : x127.toInt ≤ 7) => ?_)
            have h131 := congrArg Int32.toInt (h128.symm.trans ((congrFun (X107.2.a f36 (by decide)) _).trans ((congrFun (X93.2.a f36 (by decide)) _).trans ((congrFun (X74.2.a f36 (by decide)) _).trans ((congrFun (X59.2.a f36 (by decide)) _).trans ((congrFun (X40.2.a f36 (by decide)) _).trans ((congrFun (e24.a f36 (by decide)) _).trans ((congrFun (e3.a f36 (by decide)) _).trans hk36))))))))
            refine z_xP zt280 25 95 [some (.ref 19), some (.int x52), some (.int p3), some (.int x125)] [.int 2, .int x127, .ref 19, .int x125] rfl rfl ?_
            refine z_xcV (vs := [.ref 19, .int x127, .int 2]) (r := [.int x125]) (L2 := [some (.ref 19), some (.int x127), some (.int 2)]) zt280 26 rfl zo280 zzcV12_393 (Or.inl rfl) rfl X113 f19 rfl rfl rfl (Nat.le_of_ble_eq_true rfl) zzm277 (Nat.le_of_ble_eq_true rfl) rfl ?_
            refine z_xP zt277 0 1 [some (.ref 19), some (.int x127), some (.int 2)] [.int x127] rfl rfl ?_
            by_cases h132 : x127.toInt = 2
            · refine z_xSC zt277 1 (z_sub (k := 2) h132 rfl) 84 rfl rfl ?_
              refine z_xP zt277 26 86 [some (.ref 19), some (.int x127), some (.int 2)] [.int x127, .ref 19] rfl rfl ?_
              refine z_xcS (vs := [.int x127]) (r := [.ref 19]) (L2 := [some (.int x127)]) zt277 27 rfl zo277 zzcS12_390 (Or.inl rfl) (Nat.le_of_ble_eq_true rfl) rfl rfl (Nat.le_of_ble_eq_true rfl) zzm279 (Nat.le_of_ble_eq_true rfl) rfl ?_
              refine z_xP zt279 0 2 [some (.int x127)] [.int 2, .int x127] rfl rfl ?_
              refine z_xJ zt279 1 rfl rfl (fun (h133 : x127.toInt = 2) => ?_) (fun (h133 : x127.toInt ≠ 2) => absurd h133 (by omega))
              refine z_xP zt279 4 25 [some (.int x127)] [.int 1] rfl rfl ?_
              refine z_xri zt279 9 rfl zzr279 ?_
              show z_ev (d + 36) 277 89 [some (.ref 19), some (.int x127), some (.int 2)] [.int 1, .ref 19] M106 _
              refine z_xP zt277 28 90 [some (.ref 19), some (.int x127), some (.int 2)] [.int 2, .int 1, .ref 19] rfl rfl ?_
              refine z_xcV (vs := [.ref 19, .int 1, .int 2]) (r := []) (L2 := [some (.ref 19), some (.int 1), some (.int 2)]) zt277 29 rfl zo277 zzcV12_393 (Or.inl rfl) rfl X113 f19 rfl rfl rfl (Nat.le_of_ble_eq_true rfl) zzm277 (Nat.le_of_ble_eq_true rfl) rfl ?_
              refine z_xP zt277 0 1 [some (.ref 19), some (.int 1), some (.int 2)] [.int 1] rfl rfl ?_
              refine z_xSW zt277 1 48 rfl rfl ?_
              refine z_xP zt277 8 51 [some (.ref 19), some (.int 1), some (.int 2)] [.int 20, .ref 19] rfl rfl ?_
              refine z_xcV (vs := [.ref 19, .int 20]) (r := []) (L2 := [some (.ref 19), some (.int 20)]) zt277 9 rfl zo277 zzcV12_384 (Or.inl rfl) rfl X113 f19 rfl rfl rfl (Nat.le_of_ble_eq_true rfl) zzm278 (Nat.le_of_ble_eq_true rfl) rfl ?_
              have q20 : ((20 : Int32)).toInt = 20 := rfl
              have q20 : ((20 : Int32)).toInt = 20 := rfl
              refine zNC278 X113.1 h110 ⟨by omega, by omega⟩ (fun M134 X135 h136 z137 h138 h139 h140 => ?_)
              have X141 := X113.go X135 (z_sb (by decide))
              show z_ev (d + 35) 277 54 [some (.ref 19), some (.int 1), some (.int 2)] [] M134 _
              have h144 : (z109 : Int32).toInt.toNat = 5 := by omega
              have n143 : z_Ar M134 48 = z_nrs 0 [2, 30, 10, 20, 1, 20] (z_Ar M0 48) := by rw [h136, n115, h144]; rfl
              refine z_xP zt277 10 56 [some (.ref 19), some (.int 1), some (.int 2)] [.int 1, .ref 19] rfl rfl ?_
              refine z_xcS (vs := [.int 1]) (r := [.ref 19]) (L2 := [some (.int 1)]) zt277 11 rfl zo277 zzcS12_390 (Or.inl rfl) (Nat.le_of_ble_eq_true rfl) rfl rfl (Nat.le_of_ble_eq_true rfl) zzm279 (Nat.le_of_ble_eq_true rfl) rfl ?_
              refine z_xP zt279 0 2 [some (.int 1)] [.int 2, .int 1] rfl rfl ?_
              refine z_xJ zt279 1 rfl rfl (fun (h145 : (1 : Int) = 2) => absurd h145 (by omega)) (fun (h145 : (1 : Int) ≠ 2) => ?_)
              refine z_xP zt279 2 7 [some (.int 1)] [.int 3, .int 1] rfl rfl ?_
              refine z_xJ zt279 3 rfl rfl (fun (h146 : (1 : Int) ≠ 3) => ?_) (fun (h146 : (1 : Int) = 3) => absurd h146 (by omega))
              refine z_xP zt279 5 17 [some (.int 1)] [.int 6, .int 1] rfl rfl ?_
              refine z_xJ zt279 6 rfl rfl (fun (h147 : (1 : Int) ≠ 6) => ?_) (fun (h147 : (1 : Int) = 6) => absurd h147 (by omega))
              refine z_xP zt279 8 25 [some (.int 1)] [.int 0] rfl rfl ?_
              refine z_xri zt279 9 rfl zzr279 ?_
              show z_ev (d + 35) 277 59 [some (.ref 19), some (.int 1), some (.int 2)] [.int 0, .ref 19] M134 _
              refine z_xP zt277 12 60 [some (.ref 19), some (.int 1), some (.int 2)] [.int 2, .int 0, .ref 19] rfl rfl ?_
              refine z_xcV (vs := [.ref 19, .int 0, .int 2]) (r := []) (L2 := [some (.ref 19), some (.int 0), some (.int 2)]) zt277 13 rfl zo277 zzcV12_393 (Or.inl rfl) rfl X141 f19 rfl rfl rfl (Nat.le_of_ble_eq_true rfl) zzm277 (Nat.le_of_ble_eq_true rfl) rfl ?_
              refine z_xP zt277 0 1 [some (.ref 19), some (.int 0), some (.int 2)] [.int 0] rfl rfl ?_
              refine z_xSW zt277 1 36 rfl rfl ?_
              refine z_xP zt277 2 38 [some (.ref 19), some (.int 0), some (.int 2)] [.int 1, .ref 19] rfl rfl ?_
              refine z_xcV (vs := [.ref 19, .int 1]) (r := []) (L2 := [some (.ref 19), some (.int 1)]) zt277 3 rfl zo277 zzcV12_384 (Or.inl rfl) rfl X141 f19 rfl rfl rfl (Nat.le_of_ble_eq_true rfl) zzm278 (Nat.le_of_ble_eq_true rfl) rfl ?_
              have q1 : ((1 : Int32)).toInt = 1 := rfl
              have q1 : ((1 : Int32)).toInt = 1 := rfl
              refine zNC278 X141.1 h138 ⟨by omega, by omega⟩ (fun M148 X149 h150 z151 h152 h153 h154 => ?_)
              have X155 := X141.go X149 (z_sb (by decide))
              show z_ev (d + 34) 277 41 [some (.ref 19), some (.int 0), some (.int 2)] [] M148 _
              have h158 : (z137 : Int32).toInt.toNat = 6 := by omega
              have n157 : z_Ar M148 48 = z_nrs 0 [2, 30, 10, 20, 1, 20, 1] (z_Ar M0 48) := by rw [h150, n143, h158]; rfl
              refine z_xP zt277 4 43 [some (.ref 19), some (.int 0), some (.int 2)] [.ref 19, .int 2] rfl rfl ?_
              have h159 := (X149.2.f f19 (by decide) (X135.2.f f19 (by decide) h117))
              refine z_xgv zt277 5 rfl zo277 zzf12_387 X155 f19 (by decide) h159 ?_
              refine z_xI zt277 6 rfl rfl (fun (x160 : Int32) (h161 : x160 = 2 + p1) => ?_) (rfl)
              refine z_xri zt277 7 rfl zzr277 ?_
              show z_ev (d + 35) 277 63 [some (.ref 19), some (.int 1), some (.int 2)] [.int x160] M148 _
              refine z_xP zt277 14 64 [some (.ref 19), some (.int 1), some (.int 2)] [.int 1, .int x160] rfl rfl ?_
              have h162 := z_b32 x160
              refine z_xI zt277 15 rfl rfl (fun (x163 : Int32) (h164 : x163 = x160 - 1) => ?_) (rfl)
              refine z_xri zt277 16 rfl zzr277 ?_
              show z_ev (d + 36) 277 93 [some (.ref 19), some (.int x127), some (.int 2)] [.int x163] M148 _
              refine z_xri zt277 30 rfl zzr277 ?_
              show z_ev (d + 37) 280 98 [some (.ref 19), some (.int x52), some (.int p3), some (.int x125)] [.int x163, .int x125] M148 _
              have h165 := z_b32 x125
              have h166 := z_b32 x163
              refine z_xI zt280 27 rfl rfl (fun (x167 : Int32) (h168 : x167 = x125 + x163) => ?_) (rfl)
              refine z_xri zt280 28 rfl zzr280 ?_
              show z_ev (d + 38) 282 55 [some (.ref 19), some (.int 0), some (.int p3), some (.int 0)] [.int x167] M148 _
              refine z_xP zt282 11 59 [some (.ref 19), some (.int 0), some (.int p3), some (.int x167)] [.ref 19, .ref 19, .int x167] rfl rfl ?_
              refine z_xgX (b := 36) zt282 12 rfl zo282 zzf12_58 X155 f19 (by decide) (by decide) rfl ?_
              refine z_xP zt282 13 63 [some (.ref 19), some (.int 0), some (.int p3), some (.int x167)] [.ref 19, .ref 36, .ref 19, .int x167] rfl rfl ?_
              refine z_xgv zt282 14 rfl zo282 zzf12_387 X155 f19 (by decide) h159 ?_
              refine z_xil zt282 15 rfl X155 f36 (by decide) (by omega) (by omega) (fun (x169 : Int32) h170 (h171 : 0 ≤ x169.toInt) (h172 : x169.toInt ≤ 7) => ?_)
              have h173 := congrArg Int32.toInt (h170.symm.trans ((congrFun (X149.2.a f36 (by decide)) _).trans ((congrFun (X135.2.a f36 (by decide)) _).trans ((congrFun (X107.2.a f36 (by decide)) _).trans ((congrFun (X93.2.a f36 (by decide)) _).trans ((congrFun (X74.2.a f36 (by decide)) _).trans ((congrFun (X59.2.a f36 (by decide)) _).trans ((congrFun (X40.2.a f36 (by decide)) _).trans ((congrFun (e24.a f36 (by decide)) _).trans ((congrFun (e3.a f36 (by decide)) _).trans hk36))))))))))
              refine z_xP zt282 16 68 [some (.ref 19), some (.int 0), some (.int p3), some (.int x167)] [.int 1, .int x169, .ref 19, .int x167] rfl rfl ?_
              refine z_xcV (vs := [.ref 19, .int x169, .int 1]) (r := [.int x167]) (L2 := [some (.ref 19), some (.int x169), some (.int 1)]) zt282 17 rfl zo282 zzcV12_399 (Or.inl rfl) rfl X155 f19 rfl rfl rfl (Nat.le_of_ble_eq_true rfl) zzm281 (Nat.le_of_ble_eq_true rfl) rfl ?_
              refine z_xP zt281 0 1 [some (.ref 19), some (.int x169), some (.int 1)] [.int x169] rfl rfl ?_
              refine z_xSL zt281 1 rfl (by decide) (z_lsd (List.forall_mem_cons.mpr ⟨show (0 : Int) ≠ x169.toInt from by omega, (List.forall_mem_cons.mpr ⟨show (3 : Int) ≠ x169.toInt from by omega, (List.forall_mem_cons.mpr ⟨show (6 : Int) ≠ x169.toInt from by omega, (List.forall_mem_nil _)⟩)⟩)⟩)) rfl ?_
              refine z_xP zt281 25 88 [some (.ref 19), some (.int x169), some (.int 1)] [.int x169, .ref 19] rfl rfl ?_
              refine z_xcS (vs := [.int x169]) (r := [.ref 19]) (L2 := [some (.int x169)]) zt281 26 rfl zo281 zzcS12_390 (Or.inl rfl) (Nat.le_of_ble_eq_true rfl) rfl rfl (Nat.le_of_ble_eq_true rfl) zzm279 (Nat.le_of_ble_eq_true rfl) rfl ?_
              refine z_xP zt279 0 2 [some (.int x169)] [.int 2, .int x169] rfl rfl ?_
              refine z_xJ zt279 1 rfl rfl (fun (h174 : x169.toInt = 2) => ?_) (fun (h174 : x169.toInt ≠ 2) => absurd h174 (by omega))
              refine z_xP zt279 4 25 [some (.int x169)] [.int 1] rfl rfl ?_
              refine z_xri zt279 9 rfl zzr279 ?_
              show z_ev (d + 37) 281 91 [some (.ref 19), some (.int x169), some (.int 1)] [.int 1, .ref 19] M148 _
              refine z_xP zt281 27 92 [some (.ref 19), some (.int x169), some (.int 1)] [.int 1, .int 1, .ref 19] rfl rfl ?_
              refine z_xcV (vs := [.ref 19, .int 1, .int 1]) (r := []) (L2 := [some (.ref 19), some (.int 1), some (.int 1)]) zt281 28 rfl zo281 zzcV12_399 (Or.inl rfl) rfl X155 f19 rfl rfl rfl (Nat.le_of_ble_eq_true rfl) zzm281 (Nat.le_of_ble_eq_true rfl) rfl ?_
              refine z_xP zt281 0 1 [some (.ref 19), some (.int 1), some (.int 1)] [.int 1] rfl rfl ?_
              refine z_xSW zt281 1 86 rfl rfl ?_
              refine z_xP zt281 25 88 [some (.ref 19), some (.int 1), some (.int 1)] [.int 1, .ref 19] rfl rfl ?_
              refine z_xcS (vs := [.int 1]) (r := [.ref 19]) (L2 := [some (.int 1)]) zt281 26 rfl zo281 zzcS12_390 (Or.inl rfl) (Nat.le_of_ble_eq_true rfl) rfl rfl (Nat.le_of_ble_eq_true rfl) zzm279 (Nat.le_of_ble_eq_true rfl) rfl ?_
              refine z_xP zt279 0 2 [some (.int 1)] [.int 2, .int 1] rfl rfl ?_
              refine z_xJ zt279 1 rfl rfl (fun (h175 : (1 : Int) = 2) => absurd h175 (by omega)) (fun (h175 : (1 : Int) ≠ 2) => ?_)
              refine z_xP zt279 2 7 [some (.int 1)] [.int 3, .int 1] rfl rfl ?_
              refine z_xJ zt279 3 rfl rfl (fun (h176 : (1 : Int) ≠ 3) => ?_) (fun (h176 : (1 : Int) = 3) => absurd h176 (by omega))
              refine z_xP zt279 5 17 [some (.int 1)] [.int 6, .int 1] rfl rfl ?_
              refine z_xJ zt279 6 rfl rfl (fun (h177 : (1 : Int) ≠ 6) => ?_) (fun (h177 : (1 : Int) = 6) => absurd h177 (by omega))
              refine z_xP zt279 8 25 [some (.int 1)] [.int 0] rfl rfl ?_
              refine z_xri zt279 9 rfl zzr279 ?_
              show z_ev (d + 36) 281 91 [some (.ref 19), some (.int 1), some (.int 1)] [.int 0, .ref 19] M148 _
              refine z_xP zt281 27 92 [some (.ref 19), some (.int 1), some (.int 1)] [.int 1, .int 0, .ref 19] rfl rfl ?_
              refine z_xcV (vs := [.ref 19, .int 0, .int 1]) (r := []) (L2 := [some (.ref 19), some (.int 0), some (.int 1)]) zt281 28 rfl zo281 zzcV12_399 (Or.inl rfl) rfl X155 f19 rfl rfl rfl (Nat.le_of_ble_eq_true rfl) zzm281 (Nat.le_of_ble_eq_true rfl) rfl ?_
              refine z_xP zt281 0 1 [some (.ref 19), some (.int 0), some (.int 1)] [.int 0] rfl rfl ?_
              refine z_xSW zt281 1 36 rfl rfl ?_
              refine z_xP zt281 2 39 [some (.ref 19), some (.int 0), some (.int 1)] [.int 11, .ref 19] rfl rfl ?_
              refine z_xcV (vs := [.ref 19, .int 11]) (r := []) (L2 := [some (.ref 19), some (.int 11)]) zt281 3 rfl zo281 zzcV12_384 (Or.inl rfl) rfl X155 f19 rfl rfl rfl (Nat.le_of_ble_eq_true rfl) zzm278 (Nat.le_of_ble_eq_true rfl) rfl ?_
              have q11 : ((11 : Int32)).toInt = 11 := rfl
              have q11 : ((11 : Int32)).toInt = 11 := rfl
              refine zNC278 X155.1 h152 ⟨by omega, by omega⟩ (fun M178 X179 h180 z181 h182 h183 h184 => ?_)
              have X185 := X155.go X179 (z_sb (by decide))
              show z_ev (d + 35) 281 42 [some (.ref 19), some (.int 0), some (.int 1)] [] M178 _
              have h188 : (z151 : Int32).toInt.toNat = 7 := by omega
              have n187 : z_Ar M178 48 = z_nrs 0 [2, 30, 10, 20, 1, 20, 1, 11] (z_Ar M0 48) := by rw [h180, n157, h188]; rfl
              refine z_xP zt281 4 44 [some (.ref 19), some (.int 0), some (.int 1)] [.ref 19, .int 1] rfl rfl ?_
              have h189 := (X179.2.f f19 (by decide) h159)
              refine z_xgv zt281 5 rfl zo281 zzf12_387 X185 f19 (by decide) h189 ?_
              refine z_xI zt281 6 rfl rfl (fun (x190 : Int32) (h191 : x190 = 1 ^^^ p1) => ?_) (rfl)
              refine z_xri zt281 7 rfl zzr281 ?_
              show z_ev (d + 36) 281 95 [some (.ref 19), some (.int 1), some (.int 1)] [.int x190] M178 _
              refine z_xri zt281 29 rfl zzr281 ?_
              show z_ev (d + 37) 281 95 [some (.ref 19), some (.int x169), some (.int 1)] [.int x190] M178 _
              refine z_xri zt281 29 rfl zzr281 ?_
              show z_ev (d + 38) 282 71 [some (.ref 19), some (.int 0), some (.int p3), some (.int x167)] [.int x190, .int x167] M178 _
              have h192 := z_b32 x167
              have h193 := z_b32 x190
              refine z_xI zt282 18 rfl rfl (fun (x194 : Int32) (h195 : x194 = x167 - x190) => ?_) (rfl)
              refine z_xri zt282 19 rfl zzr282 ?_
              show z_ev (d + 39) 282 140 [some (.ref 19), some (.int 1), some (.int p3), some (.int 0)] [.int x194] M178 _
              refine z_xri zt282 51 rfl zzr282 ?_
              show z_ev (d + 40) 282 140 [some (.ref 19), some (.int x29), some (.int p3), some (.int 0)] [.int x194] M178 _
              refine z_xri zt282 51 rfl zzr282 ?_
              show z_ev (d + 41) 276 99 [some (.ref 19), some (.int p1), some (.int p2), some (.int p3)] [.int x194] M178 _
              exact z_xri zt276 48 rfl zzr276 (kk x194 M178 X185 (fun hq => by exfalso; omega) (fun hq => by exfalso; omega) (fun hq => by exfalso; omega) (fun _ => ⟨(by rw [h195, h191, h168, h164, h161, h126, h123, h120]), n187, _, h182, by omega⟩) (fun hq => by exfalso; omega))
            exfalso; omega
          exfalso; omega
        exfalso; omega
      refine z_xP zt276 35 76 [some (.ref 19), some (.int p1), some (.int p2), some (.int p3)] [.ref 19, .ref 19] rfl rfl ?_
      refine z_xgX (b := 36) zt276 36 rfl zo276 zzf12_58 X23 f19 (by decide) (by decide) rfl ?_
      refine z_xP zt276 37 80 [some (.ref 19), some (.int p1), some (.int p2), some (.int p3)] [.int p1, .ref 36, .ref 19] rfl rfl ?_
      have f36 : T[36]? = some (.inr (36, 0, 20, 0, 7)) := X23.1.k rfl (by decide)
      refine z_xil zt276 38 rfl X23 f36 (by decide) (by omega) (by omega) (fun (x196 : Int32) h197 (h198 : 0 ≤ x196.toInt) (h199 : x196.toInt ≤ 7) => ?_)
      have h200 := congrArg Int32.toInt (h197.symm.trans ((congrFun (e24.a f36 (by decide)) _).trans ((congrFun (e3.a f36 (by decide)) _).trans hk36)))
      refine z_xP zt276 39 82 [some (.ref 19), some (.int p1), some (.int p2), some (.int p3)] [.int p3, .int x196, .ref 19] rfl rfl ?_
      refine z_xcV (vs := [.ref 19, .int x196, .int p3]) (r := []) (L2 := [some (.ref 19), some (.int x196), some (.int p3)]) zt276 40 rfl zo276 zzcV12_399 (Or.inl rfl) rfl X23 f19 rfl rfl rfl (Nat.le_of_ble_eq_true rfl) zzm281 (Nat.le_of_ble_eq_true rfl) rfl ?_
      refine z_xP zt281 0 1 [some (.ref 19), some (.int x196), some (.int p3)] [.int x196] rfl rfl ?_
      refine z_xSL zt281 1 rfl (by decide) (z_lsd (List.forall_mem_cons.mpr ⟨show (0 : Int) ≠ x196.toInt from by omega, (List.forall_mem_cons.mpr ⟨show (3 : Int) ≠ x196.toInt from by omega, (List.forall_mem_cons.mpr ⟨show (6 : Int) ≠ x196.toInt from by omega, (List.forall_mem_nil _)⟩)⟩)⟩)) rfl ?_
      refine z_xP zt281 25 88 [some (.ref 19), some (.int x196), some (.int p3)] [.int x196, .ref 19] rfl rfl ?_
      refine z_xcS (vs := [.int x196]) (r := [.ref 19]) (L2 := [some (.int x196)]) zt281 26 rfl zo281 zzcS12_390 (Or.inl rfl) (Nat.le_of_ble_eq_true rfl) rfl rfl (Nat.le_of_ble_eq_true rfl) zzm279 (Nat.le_of_ble_eq_true rfl) rfl ?_
      refine z_xP zt279 0 2 [some (.int x196)] [.int 2, .int x196] rfl rfl ?_
      refine z_xJ zt279 1 rfl rfl (fun (h201 : x196.toInt = 2) => ?_) (fun (h201 : x196.toInt ≠ 2) => absurd h201 (by omega))
      refine z_xP zt279 4 25 [some (.int x196)] [.int 1] rfl rfl ?_
      refine z_xri zt279 9 rfl zzr279 ?_
      show z_ev (d + 40) 281 91 [some (.ref 19), some (.int x196), some (.int p3)] [.int 1, .ref 19] M22 _
      refine z_xP zt281 27 92 [some (.ref 19), some (.int x196), some (.int p3)] [.int p3, .int 1, .ref 19] rfl rfl ?_
      refine z_xcV (vs := [.ref 19, .int 1, .int p3]) (r := []) (L2 := [some (.ref 19), some (.int 1), some (.int p3)]) zt281 28 rfl zo281 zzcV12_399 (Or.inl rfl) rfl X23 f19 rfl rfl rfl (Nat.le_of_ble_eq_true rfl) zzm281 (Nat.le_of_ble_eq_true rfl) rfl ?_
      refine z_xP zt281 0 1 [some (.ref 19), some (.int 1), some (.int p3)] [.int 1] rfl rfl ?_
      refine z_xSW zt281 1 86 rfl rfl ?_
      refine z_xP zt281 25 88 [some (.ref 19), some (.int 1), some (.int p3)] [.int 1, .ref 19] rfl rfl ?_
      refine z_xcS (vs := [.int 1]) (r := [.ref 19]) (L2 := [some (.int 1)]) zt281 26 rfl zo281 zzcS12_390 (Or.inl rfl) (Nat.le_of_ble_eq_true rfl) rfl rfl (Nat.le_of_ble_eq_true rfl) zzm279 (Nat.le_of_ble_eq_true rfl) rfl ?_
      refine z_xP zt279 0 2 [some (.int 1)] [.int 2, .int 1] rfl rfl ?_
      refine z_xJ zt279 1 rfl rfl (fun (h202 : (1 : Int) = 2) => absurd h202 (by omega)) (fun (h202 : (1 : Int) ≠ 2) => ?_)
      refine z_xP zt279 2 7 [some (.int 1)] [.int 3, .int 1] rfl rfl ?_
      refine z_xJ zt279 3 rfl rfl (fun (h203 : (1 : Int) ≠ 3) => ?_) (fun (h203 : (1 : Int) = 3) => absurd h203 (by omega))
      refine z_xP zt279 5 17 [some (.int 1)] [.int 6, .int 1] rfl rfl ?_
      refine z_xJ zt279 6 rfl rfl (fun (h204 : (1 : Int) ≠ 6) => ?_) (fun (h204 : (1 : Int) = 6) => absurd h204 (by omega))
      refine z_xP zt279 8 25 [some (.int 1)] [.int 0] rfl rfl ?_
      refine z_xri zt279 9 rfl zzr279 ?_
      show z_ev (d + 39) 281 91 [some (.ref 19), some (.int 1), some (.int p3)] [.int 0, .ref 19] M22 _
      refine z_xP zt281 27 92 [some (.ref 19), some (.int 1), some (.int p3)] [.int p3, .int 0, .ref 19] rfl rfl ?_
      refine z_xcV (vs := [.ref 19, .int 0, .int p3]) (r := []) (L2 := [some (.ref 19), some (.int 0), some (.int p3)]) zt281 28 rfl zo281 zzcV12_399 (Or.inl rfl) rfl X23 f19 rfl rfl rfl (Nat.le_of_ble_eq_true rfl) zzm281 (Nat.le_of_ble_eq_true rfl) rfl ?_
      refine z_xP zt281 0 1 [some (.ref 19), some (.int 0), some (.int p3)] [.int 0] rfl rfl ?_
      refine z_xSW zt281 1 36 rfl rfl ?_
      refine z_xP zt281 2 39 [some (.ref 19), some (.int 0), some (.int p3)] [.int 11, .ref 19] rfl rfl ?_
      refine z_xcV (vs := [.ref 19, .int 11]) (r := []) (L2 := [some (.ref 19), some (.int 11)]) zt281 3 rfl zo281 zzcV12_384 (Or.inl rfl) rfl X23 f19 rfl rfl rfl (Nat.le_of_ble_eq_true rfl) zzm278 (Nat.le_of_ble_eq_true rfl) rfl ?_
      have q11 : ((11 : Int32)).toInt = 11 := rfl
      have h205 := (e24.f f19 (by decide) h4)
      have q0 : ((0 : Int32)).toInt = 0 := rfl
      have q11 : ((11 : Int32)).toInt = 11 := rfl
      refine zNC278 X23.1 h205 ⟨by omega, by omega⟩ (fun M206 X207 h208 z209 h210 h211 h212 => ?_)
      have X213 := X23.go X207 (z_sb (by decide))
      show z_ev (d + 38) 281 42 [some (.ref 19), some (.int 0), some (.int p3)] [] M206 _
      have f48 : T[48]? = some (.inr (48, 0, 24, (-2147483648), 2147483647)) := X213.1.k rfl (by decide)
      have n215 : z_Ar M22 48 = z_Ar M0 48 := ((e24.a f48 (by decide)).trans (e3.a f48 (by decide)))
      have h217 : (0 : Int32).toInt.toNat = 0 := by omega
      have n216 : z_Ar M206 48 = z_nrs 0 [11] (z_Ar M0 48) := by rw [h208, n215, h217]; rfl
      refine z_xP zt281 4 44 [some (.ref 19), some (.int 0), some (.int p3)] [.ref 19, .int p3] rfl rfl ?_
      have h218 := (X207.2.f f19 (by decide) h25)
      refine z_xgv zt281 5 rfl zo281 zzf12_387 X213 f19 (by decide) h218 ?_
      refine z_xI zt281 6 rfl rfl (fun (x219 : Int32) (h220 : x219 = p3 ^^^ p1) => ?_) (rfl)
      refine z_xri zt281 7 rfl zzr281 ?_
      show z_ev (d + 39) 281 95 [some (.ref 19), some (.int 1), some (.int p3)] [.int x219] M206 _
      refine z_xri zt281 29 rfl zzr281 ?_
      show z_ev (d + 40) 281 95 [some (.ref 19), some (.int x196), some (.int p3)] [.int x219] M206 _
      refine z_xri zt281 29 rfl zzr281 ?_
      show z_ev (d + 41) 276 85 [some (.ref 19), some (.int p1), some (.int p2), some (.int p3)] [.int x219] M206 _
      refine z_xP zt276 41 99 [some (.ref 19), some (.int p1), some (.int p2), some (.int p3)] [.int x219] rfl rfl ?_
      exact z_xri zt276 48 rfl zzr276 (kk x219 M206 X213 (fun hq => by exfalso; omega) (fun hq => by exfalso; omega) (fun _ => ⟨(by rw [h220]), n216, _, h210, by omega⟩) (fun hq => by exfalso; omega) (fun hq => by exfalso; omega))
    refine z_xP zt276 26 57 [some (.ref 19), some (.int p1), some (.int p2), some (.int p3)] [.ref 19, .ref 19] rfl rfl ?_
    refine z_xgX (b := 36) zt276 27 rfl zo276 zzf12_58 X23 f19 (by decide) (by decide) rfl ?_
    refine z_xP zt276 28 61 [some (.ref 19), some (.int p1), some (.int p2), some (.int p3)] [.int p1, .ref 36, .ref 19] rfl rfl ?_
    have f36 : T[36]? = some (.inr (36, 0, 20, 0, 7)) := X23.1.k rfl (by decide)
    refine z_xil zt276 29 rfl X23 f36 (by decide) (by omega) (by omega) (fun (x221 : Int32) h222 (h223 : 0 ≤ x221.toInt) (h224 : x221.toInt ≤ 7) => ?_)
    have h225 := congrArg Int32.toInt (h222.symm.trans ((congrFun (e24.a f36 (by decide)) _).trans ((congrFun (e3.a f36 (by decide)) _).trans hk36)))
    refine z_xP zt276 30 63 [some (.ref 19), some (.int p1), some (.int p2), some (.int p3)] [.int p3, .int x221, .ref 19] rfl rfl ?_
    refine z_xcV (vs := [.ref 19, .int x221, .int p3]) (r := []) (L2 := [some (.ref 19), some (.int x221), some (.int p3), none]) zt276 31 rfl zo276 zzcV12_396 (Or.inl rfl) rfl X23 f19 rfl rfl rfl (Nat.le_of_ble_eq_true rfl) zzm280 (Nat.le_of_ble_eq_true rfl) rfl ?_
    refine z_xP zt280 0 1 [some (.ref 19), some (.int x221), some (.int p3), none] [.int x221] rfl rfl ?_
    by_cases h226 : x221.toInt = 2
    · refine z_xSC zt280 1 (z_sub (k := 2) h226 rfl) 67 rfl rfl ?_
      refine z_xP zt280 14 70 [some (.ref 19), some (.int x221), some (.int p3), none] [.int 30, .ref 19] rfl rfl ?_
      refine z_xcV (vs := [.ref 19, .int 30]) (r := []) (L2 := [some (.ref 19), some (.int 30)]) zt280 15 rfl zo280 zzcV12_384 (Or.inl rfl) rfl X23 f19 rfl rfl rfl (Nat.le_of_ble_eq_true rfl) zzm278 (Nat.le_of_ble_eq_true rfl) rfl ?_
      have q30 : ((30 : Int32)).toInt = 30 := rfl
      have h227 := (e24.f f19 (by decide) h4)
      have q0 : ((0 : Int32)).toInt = 0 := rfl
      have q30 : ((30 : Int32)).toInt = 30 := rfl
      refine zNC278 X23.1 h227 ⟨by omega, by omega⟩ (fun M228 X229 h230 z231 h232 h233 h234 => ?_)
      have X235 := X23.go X229 (z_sb (by decide))
      show z_ev (d + 40) 280 73 [some (.ref 19), some (.int x221), some (.int p3), none] [] M228 _
      have f48 : T[48]? = some (.inr (48, 0, 24, (-2147483648), 2147483647)) := X235.1.k rfl (by decide)
      have n237 : z_Ar M22 48 = z_Ar M0 48 := ((e24.a f48 (by decide)).trans (e3.a f48 (by decide)))
      have h239 : (0 : Int32).toInt.toNat = 0 := by omega
      have n238 : z_Ar M228 48 = z_nrs 0 [30] (z_Ar M0 48) := by rw [h230, n237, h239]; rfl
      refine z_xP zt280 16 75 [some (.ref 19), some (.int x221), some (.int p3), none] [.int 2, .ref 19] rfl rfl ?_
      refine z_xcS (vs := [.int 2]) (r := [.ref 19]) (L2 := [some (.int 2)]) zt280 17 rfl zo280 zzcS12_390 (Or.inl rfl) (Nat.le_of_ble_eq_true rfl) rfl rfl (Nat.le_of_ble_eq_true rfl) zzm279 (Nat.le_of_ble_eq_true rfl) rfl ?_
      refine z_xP zt279 0 2 [some (.int 2)] [.int 2, .int 2] rfl rfl ?_
      refine z_xJ zt279 1 rfl rfl (fun (h240 : (2 : Int) = 2) => ?_) (fun (h240 : (2 : Int) ≠ 2) => absurd h240 (by omega))
      refine z_xP zt279 4 25 [some (.int 2)] [.int 1] rfl rfl ?_
      refine z_xri zt279 9 rfl zzr279 ?_
      show z_ev (d + 40) 280 78 [some (.ref 19), some (.int x221), some (.int p3), none] [.int 1, .ref 19] M228 _
      refine z_xP zt280 18 79 [some (.ref 19), some (.int x221), some (.int p3), none] [.int p3, .int 1, .ref 19] rfl rfl ?_
      refine z_xcV (vs := [.ref 19, .int 1, .int p3]) (r := []) (L2 := [some (.ref 19), some (.int 1), some (.int p3), none]) zt280 19 rfl zo280 zzcV12_396 (Or.inl rfl) rfl X235 f19 rfl rfl rfl (Nat.le_of_ble_eq_true rfl) zzm280 (Nat.le_of_ble_eq_true rfl) rfl ?_
      refine z_xP zt280 0 1 [some (.ref 19), some (.int 1), some (.int p3), none] [.int 1] rfl rfl ?_
      refine z_xSW zt280 1 144 rfl rfl ?_
      refine z_xP zt280 50 146 [some (.ref 19), some (.int 1), some (.int p3), none] [.int 1, .ref 19] rfl rfl ?_
      refine z_xcS (vs := [.int 1]) (r := [.ref 19]) (L2 := [some (.int 1)]) zt280 51 rfl zo280 zzcS12_390 (Or.inl rfl) (Nat.le_of_ble_eq_true rfl) rfl rfl (Nat.le_of_ble_eq_true rfl) zzm279 (Nat.le_of_ble_eq_true rfl) rfl ?_
      refine z_xP zt279 0 2 [some (.int 1)] [.int 2, .int 1] rfl rfl ?_
      refine z_xJ zt279 1 rfl rfl (fun (h241 : (1 : Int) = 2) => absurd h241 (by omega)) (fun (h241 : (1 : Int) ≠ 2) => ?_)
      refine z_xP zt279 2 7 [some (.int 1)] [.int 3, .int 1] rfl rfl ?_
      refine z_xJ zt279 3 rfl rfl (fun (h242 : (1 : Int) ≠ 3) => ?_) (fun (h242 : (1 : Int) = 3) => absurd h242 (by omega))
      refine z_xP zt279 5 17 [some (.int 1)] [.int 6, .int 1] rfl rfl ?_
      refine z_xJ zt279 6 rfl rfl (fun (h243 : (1 : Int) ≠ 6) => ?_) (fun (h243 : (1 : Int) = 6) => absurd h243 (by omega))
      refine z_xP zt279 8 25 [some (.int 1)] [.int 0] rfl rfl ?_
      refine z_xri zt279 9 rfl zzr279 ?_
      show z_ev (d + 39) 280 149 [some (.ref 19), some (.int 1), some (.int p3), none] [.int 0, .ref 19] M228 _
      refine z_xP zt280 52 150 [some (.ref 19), some (.int 1), some (.int p3), none] [.int p3, .int 0, .ref 19] rfl rfl ?_
      refine z_xcV (vs := [.ref 19, .int 0, .int p3]) (r := []) (L2 := [some (.ref 19), some (.int 0), some (.int p3), none]) zt280 53 rfl zo280 zzcV12_396 (Or.inl rfl) rfl X235 f19 rfl rfl rfl (Nat.le_of_ble_eq_true rfl) zzm280 (Nat.le_of_ble_eq_true rfl) rfl ?_
      refine z_xP zt280 0 1 [some (.ref 19), some (.int 0), some (.int p3), none] [.int 0] rfl rfl ?_
      refine z_xSW zt280 1 44 rfl rfl ?_
      refine z_xP zt280 2 47 [some (.ref 19), some (.int 0), some (.int p3), none] [.int 10, .ref 19] rfl rfl ?_
      refine z_xcV (vs := [.ref 19, .int 10]) (r := []) (L2 := [some (.ref 19), some (.int 10)]) zt280 3 rfl zo280 zzcV12_384 (Or.inl rfl) rfl X235 f19 rfl rfl rfl (Nat.le_of_ble_eq_true rfl) zzm278 (Nat.le_of_ble_eq_true rfl) rfl ?_
      have q10 : ((10 : Int32)).toInt = 10 := rfl
      have q10 : ((10 : Int32)).toInt = 10 := rfl
      refine zNC278 X235.1 h232 ⟨by omega, by omega⟩ (fun M244 X245 h246 z247 h248 h249 h250 => ?_)
      have X251 := X235.go X245 (z_sb (by decide))
      show z_ev (d + 38) 280 50 [some (.ref 19), some (.int 0), some (.int p3), none] [] M244 _
      have h254 : (z231 : Int32).toInt.toNat = 1 := by omega
      have n253 : z_Ar M244 48 = z_nrs 0 [30, 10] (z_Ar M0 48) := by rw [h246, n238, h254]; rfl
      refine z_xP zt280 4 52 [some (.ref 19), some (.int 0), some (.int p3), none] [.ref 19, .ref 19] rfl rfl ?_
      refine z_xgX (b := 36) zt280 5 rfl zo280 zzf12_58 X251 f19 (by decide) (by decide) rfl ?_
      refine z_xP zt280 6 56 [some (.ref 19), some (.int 0), some (.int p3), none] [.ref 19, .ref 36, .ref 19] rfl rfl ?_
      have h255 := (X245.2.f f19 (by decide) (X229.2.f f19 (by decide) h25))
      refine z_xgv zt280 7 rfl zo280 zzf12_387 X251 f19 (by decide) h255 ?_
      refine z_xil zt280 8 rfl X251 f36 (by decide) (by omega) (by omega) (fun (x256 : Int32) h257 (h258 : 0 ≤ x256.toInt) (h259 : x256.toInt ≤ 7) => ?_)
      have h260 := congrArg Int32.toInt (h257.symm.trans ((congrFun (X245.2.a f36 (by decide)) _).trans ((congrFun (X229.2.a f36 (by decide)) _).trans ((congrFun (e24.a f36 (by decide)) _).trans ((congrFun (e3.a f36 (by decide)) _).trans hk36)))))
      refine z_xP zt280 9 61 [some (.ref 19), some (.int 0), some (.int p3), none] [.int p3, .int x256, .ref 19] rfl rfl ?_
      refine z_xcV (vs := [.ref 19, .int x256, .int p3]) (r := []) (L2 := [some (.ref 19), some (.int x256), some (.int p3)]) zt280 10 rfl zo280 zzcV12_393 (Or.inl rfl) rfl X251 f19 rfl rfl rfl (Nat.le_of_ble_eq_true rfl) zzm277 (Nat.le_of_ble_eq_true rfl) rfl ?_
      refine z_xP zt277 0 1 [some (.ref 19), some (.int x256), some (.int p3)] [.int x256] rfl rfl ?_
      by_cases h261 : x256.toInt = 2
      · refine z_xSC zt277 1 (z_sub (k := 2) h261 rfl) 84 rfl rfl ?_
        refine z_xP zt277 26 86 [some (.ref 19), some (.int x256), some (.int p3)] [.int x256, .ref 19] rfl rfl ?_
        refine z_xcS (vs := [.int x256]) (r := [.ref 19]) (L2 := [some (.int x256)]) zt277 27 rfl zo277 zzcS12_390 (Or.inl rfl) (Nat.le_of_ble_eq_true rfl) rfl rfl (Nat.le_of_ble_eq_true rfl) zzm279 (Nat.le_of_ble_eq_true rfl) rfl ?_
        refine z_xP zt279 0 2 [some (.int x256)] [.int 2, .int x256] rfl rfl ?_
        refine z_xJ zt279 1 rfl rfl (fun (h262 : x256.toInt = 2) => ?_) (fun (h262 : x256.toInt ≠ 2) => absurd h262 (by omega))
        refine z_xP zt279 4 25 [some (.int x256)] [.int 1] rfl rfl ?_
        refine z_xri zt279 9 rfl zzr279 ?_
        show z_ev (d + 37) 277 89 [some (.ref 19), some (.int x256), some (.int p3)] [.int 1, .ref 19] M244 _
        refine z_xP zt277 28 90 [some (.ref 19), some (.int x256), some (.int p3)] [.int p3, .int 1, .ref 19] rfl rfl ?_
        refine z_xcV (vs := [.ref 19, .int 1, .int p3]) (r := []) (L2 := [some (.ref 19), some (.int 1), some (.int p3)]) zt277 29 rfl zo277 zzcV12_393 (Or.inl rfl) rfl X251 f19 rfl rfl rfl (Nat.le_of_ble_eq_true rfl) zzm277 (Nat.le_of_ble_eq_true rfl) rfl ?_
        refine z_xP zt277 0 1 [some (.ref 19), some (.int 1), some (.int p3)] [.int 1] rfl rfl ?_
        refine z_xSW zt277 1 48 rfl rfl ?_
        refine z_xP zt277 8 51 [some (.ref 19), some (.int 1), some (.int p3)] [.int 20, .ref 19] rfl rfl ?_
        refine z_xcV (vs := [.ref 19, .int 20]) (r := []) (L2 := [some (.ref 19), some (.int 20)]) zt277 9 rfl zo277 zzcV12_384 (Or.inl rfl) rfl X251 f19 rfl rfl rfl (Nat.le_of_ble_eq_true rfl) zzm278 (Nat.le_of_ble_eq_true rfl) rfl ?_
        have q20 : ((20 : Int32)).toInt = 20 := rfl
        have q20 : ((20 : Int32)).toInt = 20 := rfl
        refine zNC278 X251.1 h248 ⟨by omega, by omega⟩ (fun M263 X264 h265 z266 h267 h268 h269 => ?_)
        have X270 := X251.go X264 (z_sb (by decide))
        show z_ev (d + 36) 277 54 [some (.ref 19), some (.int 1), some (.int p3)] [] M263 _
        have h273 : (z247 : Int32).toInt.toNat = 2 := by omega
        have n272 : z_Ar M263 48 = z_nrs 0 [30, 10, 20] (z_Ar M0 48) := by rw [h265, n253, h273]; rfl
        refine z_xP zt277 10 56 [some (.ref 19), some (.int 1), some (.int p3)] [.int 1, .ref 19] rfl rfl ?_
        refine z_xcS (vs := [.int 1]) (r := [.ref 19]) (L2 := [some (.int 1)]) zt277 11 rfl zo277 zzcS12_390 (Or.inl rfl) (Nat.le_of_ble_eq_true rfl) rfl rfl (Nat.le_of_ble_eq_true rfl) zzm279 (Nat.le_of_ble_eq_true rfl) rfl ?_
        refine z_xP zt279 0 2 [some (.int 1)] [.int 2, .int 1] rfl rfl ?_
        refine z_xJ zt279 1 rfl rfl (fun (h274 : (1 : Int) = 2) => absurd h274 (by omega)) (fun (h274 : (1 : Int) ≠ 2) => ?_)
        refine z_xP zt279 2 7 [some (.int 1)] [.int 3, .int 1] rfl rfl ?_
        refine z_xJ zt279 3 rfl rfl (fun (h275 : (1 : Int) ≠ 3) => ?_) (fun (h275 : (1 : Int) = 3) => absurd h275 (by omega))
        refine z_xP zt279 5 17 [some (.int 1)] [.int 6, .int 1] rfl rfl ?_
        refine z_xJ zt279 6 rfl rfl (fun (h276 : (1 : Int) ≠ 6) => ?_) (fun (h276 : (1 : Int) = 6) => absurd h276 (by omega))
        refine z_xP zt279 8 25 [some (.int 1)] [.int 0] rfl rfl ?_
        refine z_xri zt279 9 rfl zzr279 ?_
        show z_ev (d + 36) 277 59 [some (.ref 19), some (.int 1), some (.int p3)] [.int 0, .ref 19] M263 _
        refine z_xP zt277 12 60 [some (.ref 19), some (.int 1), some (.int p3)] [.int p3, .int 0, .ref 19] rfl rfl ?_
        refine z_xcV (vs := [.ref 19, .int 0, .int p3]) (r := []) (L2 := [some (.ref 19), some (.int 0), some (.int p3)]) zt277 13 rfl zo277 zzcV12_393 (Or.inl rfl) rfl X270 f19 rfl rfl rfl (Nat.le_of_ble_eq_true rfl) zzm277 (Nat.le_of_ble_eq_true rfl) rfl ?_
        refine z_xP zt277 0 1 [some (.ref 19), some (.int 0), some (.int p3)] [.int 0] rfl rfl ?_
        refine z_xSW zt277 1 36 rfl rfl ?_
        refine z_xP zt277 2 38 [some (.ref 19), some (.int 0), some (.int p3)] [.int 1, .ref 19] rfl rfl ?_
        refine z_xcV (vs := [.ref 19, .int 1]) (r := []) (L2 := [some (.ref 19), some (.int 1)]) zt277 3 rfl zo277 zzcV12_384 (Or.inl rfl) rfl X270 f19 rfl rfl rfl (Nat.le_of_ble_eq_true rfl) zzm278 (Nat.le_of_ble_eq_true rfl) rfl ?_
        have q1 : ((1 : Int32)).toInt = 1 := rfl
        have q1 : ((1 : Int32)).toInt = 1 := rfl
        refine zNC278 X270.1 h267 ⟨by omega, by omega⟩ (fun M277 X278 h279 z280 h281 h282 h283 => ?_)
        have X284 := X270.go X278 (z_sb (by decide))
        show z_ev (d + 35) 277 41 [some (.ref 19), some (.int 0), some (.int p3)] [] M277 _
        have h287 : (z266 : Int32).toInt.toNat = 3 := by omega
        have n286 : z_Ar M277 48 = z_nrs 0 [30, 10, 20, 1] (z_Ar M0 48) := by rw [h279, n272, h287]; rfl
        refine z_xP zt277 4 43 [some (.ref 19), some (.int 0), some (.int p3)] [.ref 19, .int p3] rfl rfl ?_
        have h288 := (X278.2.f f19 (by decide) (X264.2.f f19 (by decide) h255))
        refine z_xgv zt277 5 rfl zo277 zzf12_387 X284 f19 (by decide) h288 ?_
        have h289 := z_b32 p3
        refine z_xI zt277 6 rfl rfl (fun (x290 : Int32) (h291 : x290 = p3 + p1) => ?_) (rfl)
        refine z_xri zt277 7 rfl zzr277 ?_
        show z_ev (d + 36) 277 63 [some (.ref 19), some (.int 1), some (.int p3)] [.int x290] M277 _
        refine z_xP zt277 14 64 [some (.ref 19), some (.int 1), some (.int p3)] [.int 1, .int x290] rfl rfl ?_
        have h292 := z_b32 x290
        refine z_xI zt277 15 rfl rfl (fun (x293 : Int32) (h294 : x293 = x290 - 1) => ?_) (rfl)
        refine z_xri zt277 16 rfl zzr277 ?_
        show z_ev (d + 37) 277 93 [some (.ref 19), some (.int x256), some (.int p3)] [.int x293] M277 _
        refine z_xri zt277 30 rfl zzr277 ?_
        show z_ev (d + 38) 280 64 [some (.ref 19), some (.int 0), some (.int p3), none] [.int x293] M277 _
        refine z_xP zt280 11 65 [some (.ref 19), some (.int 0), some (.int p3), none] [.int 2, .int x293] rfl rfl ?_
        have h295 := z_b32 x293
        refine z_xI zt280 12 rfl rfl (fun (x296 : Int32) (h297 : x296 = x293 * 2) => ?_) (rfl)
        refine z_xri zt280 13 rfl zzr280 ?_
        show z_ev (d + 39) 280 153 [some (.ref 19), some (.int 1), some (.int p3), none] [.int x296] M277 _
        refine z_xri zt280 54 rfl zzr280 ?_
        show z_ev (d + 40) 280 82 [some (.ref 19), some (.int x221), some (.int p3), none] [.int x296] M277 _
        refine z_xP zt280 20 86 [some (.ref 19), some (.int x221), some (.int p3), some (.int x296)] [.ref 19, .ref 19, .int x296] rfl rfl ?_
        refine z_xgX (b := 36) zt280 21 rfl zo280 zzf12_58 X284 f19 (by decide) (by decide) rfl ?_
        refine z_xP zt280 22 90 [some (.ref 19), some (.int x221), some (.int p3), some (.int x296)] [.ref 19, .ref 36, .ref 19, .int x296] rfl rfl ?_
        refine z_xgv zt280 23 rfl zo280 zzf12_387 X284 f19 (by decide) h288 ?_
        refine z_xil zt280 24 rfl X284 f36 (by decide) (by omega) (by omega) (fun (x298 : Int32) h299 (h300 : 0 ≤ x298.toInt) (h301 : x298.toInt ≤ 7) => ?_)
        have h302 := congrArg Int32.toInt (h299.symm.trans ((congrFun (X278.2.a f36 (by decide)) _).trans ((congrFun (X264.2.a f36 (by decide)) _).trans ((congrFun (X245.2.a f36 (by decide)) _).trans ((congrFun (X229.2.a f36 (by decide)) _).trans ((congrFun (e24.a f36 (by decide)) _).trans ((congrFun (e3.a f36 (by decide)) _).trans hk36)))))))
        refine z_xP zt280 25 95 [some (.ref 19), some (.int x221), some (.int p3), some (.int x296)] [.int 2, .int x298, .ref 19, .int x296] rfl rfl ?_
        refine z_xcV (vs := [.ref 19, .int x298, .int 2]) (r := [.int x296]) (L2 := [some (.ref 19), some (.int x298), some (.int 2)]) zt280 26 rfl zo280 zzcV12_393 (Or.inl rfl) rfl X284 f19 rfl rfl rfl (Nat.le_of_ble_eq_true rfl) zzm277 (Nat.le_of_ble_eq_true rfl) rfl ?_
        refine z_xP zt277 0 1 [some (.ref 19), some (.int x298), some (.int 2)] [.int x298] rfl rfl ?_
        by_cases h303 : x298.toInt = 2
        · refine z_xSC zt277 1 (z_sub (k := 2) h303 rfl) 84 rfl rfl ?_
          refine z_xP zt277 26 86 [some (.ref 19), some (.int x298), some (.int 2)] [.int x298, .ref 19] rfl rfl ?_
          refine z_xcS (vs := [.int x298]) (r := [.ref 19]) (L2 := [some (.int x298)]) zt277 27 rfl zo277 zzcS12_390 (Or.inl rfl) (Nat.le_of_ble_eq_true rfl) rfl rfl (Nat.le_of_ble_eq_true rfl) zzm279 (Nat.le_of_ble_eq_true rfl) rfl ?_
          refine z_xP zt279 0 2 [some (.int x298)] [.int 2, .int x298] rfl rfl ?_
          refine z_xJ zt279 1 rfl rfl (fun (h304 : x298.toInt = 2) => ?_) (fun (h304 : x298.toInt ≠ 2) => absurd h304 (by omega))
          refine z_xP zt279 4 25 [some (.int x298)] [.int 1] rfl rfl ?_
          refine z_xri zt279 9 rfl zzr279 ?_
          show z_ev (d + 39) 277 89 [some (.ref 19), some (.int x298), some (.int 2)] [.int 1, .ref 19] M277 _
          refine z_xP zt277 28 90 [some (.ref 19), some (.int x298), some (.int 2)] [.int 2, .int 1, .ref 19] rfl rfl ?_
          refine z_xcV (vs := [.ref 19, .int 1, .int 2]) (r := []) (L2 := [some (.ref 19), some (.int 1), some (.int 2)]) zt277 29 rfl zo277 zzcV12_393 (Or.inl rfl) rfl X284 f19 rfl rfl rfl (Nat.le_of_ble_eq_true rfl) zzm277 (Nat.le_of_ble_eq_true rfl) rfl ?_
          refine z_xP zt277 0 1 [some (.ref 19), some (.int 1), some (.int 2)] [.int 1] rfl rfl ?_
          refine z_xSW zt277 1 48 rfl rfl ?_
          refine z_xP zt277 8 51 [some (.ref 19), some (.int 1), some (.int 2)] [.int 20, .ref 19] rfl rfl ?_
          refine z_xcV (vs := [.ref 19, .int 20]) (r := []) (L2 := [some (.ref 19), some (.int 20)]) zt277 9 rfl zo277 zzcV12_384 (Or.inl rfl) rfl X284 f19 rfl rfl rfl (Nat.le_of_ble_eq_true rfl) zzm278 (Nat.le_of_ble_eq_true rfl) rfl ?_
          have q20 : ((20 : Int32)).toInt = 20 := rfl
          have q20 : ((20 : Int32)).toInt = 20 := rfl
          refine zNC278 X284.1 h281 ⟨by omega, by omega⟩ (fun M305 X306 h307 z308 h309 h310 h311 => ?_)
          have X312 := X284.go X306 (z_sb (by decide))
          show z_ev (d + 38) 277 54 [some (.ref 19), some (.int 1), some (.int 2)] [] M305 _
          have h315 : (z280 : Int32).toInt.toNat = 4 := by omega
          have n314 : z_Ar M305 48 = z_nrs 0 [30, 10, 20, 1, 20] (z_Ar M0 48) := by rw [h307, n286, h315]; rfl
          refine z_xP zt277 10 56 [some (.ref 19), some (.int 1), some (.int 2)] [.int 1, .ref 19] rfl rfl ?_
          refine z_xcS (vs := [.int 1]) (r := [.ref 19]) (L2 := [some (.int 1)]) zt277 11 rfl zo277 zzcS12_390 (Or.inl rfl) (Nat.le_of_ble_eq_true rfl) rfl rfl (Nat.le_of_ble_eq_true rfl) zzm279 (Nat.le_of_ble_eq_true rfl) rfl ?_
          refine z_xP zt279 0 2 [some (.int 1)] [.int 2, .int 1] rfl rfl ?_
          refine z_xJ zt279 1 rfl rfl (fun (h316 : (1 : Int) = 2) => absurd h316 (by omega)) (fun (h316 : (1 : Int) ≠ 2) => ?_)
          refine z_xP zt279 2 7 [some (.int 1)] [.int 3, .int 1] rfl rfl ?_
          refine z_xJ zt279 3 rfl rfl (fun (h317 : (1 : Int) ≠ 3) => ?_) (fun (h317 : (1 : Int) = 3) => absurd h317 (by omega))
          refine z_xP zt279 5 17 [some (.int 1)] [.int 6, .int 1] rfl rfl ?_
          refine z_xJ zt279 6 rfl rfl (fun (h318 : (1 : Int) ≠ 6) => ?_) (fun (h318 : (1 : Int) = 6) => absurd h318 (by omega))
          refine z_xP zt279 8 25 [some (.int 1)] [.int 0] rfl rfl ?_
          refine z_xri zt279 9 rfl zzr279 ?_
          show z_ev (d + 38) 277 59 [some (.ref 19), some (.int 1), some (.int 2)] [.int 0, .ref 19] M305 _
          refine z_xP zt277 12 60 [some (.ref 19), some (.int 1), some (.int 2)] [.int 2, .int 0, .ref 19] rfl rfl ?_
          refine z_xcV (vs := [.ref 19, .int 0, .int 2]) (r := []) (L2 := [some (.ref 19), some (.int 0), some (.int 2)]) zt277 13 rfl zo277 zzcV12_393 (Or.inl rfl) rfl X312 f19 rfl rfl rfl (Nat.le_of_ble_eq_true rfl) zzm277 (Nat.le_of_ble_eq_true rfl) rfl ?_
          refine z_xP zt277 0 1 [some (.ref 19), some (.int 0), some (.int 2)] [.int 0] rfl rfl ?_
          refine z_xSW zt277 1 36 rfl rfl ?_
          refine z_xP zt277 2 38 [some (.ref 19), some (.int 0), some (.int 2)] [.int 1, .ref 19] rfl rfl ?_
          refine z_xcV (vs := [.ref 19, .int 1]) (r := []) (L2 := [some (.ref 19), some (.int 1)]) zt277 3 rfl zo277 zzcV12_384 (Or.inl rfl) rfl X312 f19 rfl rfl rfl (Nat.le_of_ble_eq_true rfl) zzm278 (Nat.le_of_ble_eq_true rfl) rfl ?_
          have q1 : ((1 : Int32)).toInt = 1 := rfl
          have q1 : ((1 : Int32)).toInt = 1 := rfl
          refine zNC278 X312.1 h309 ⟨by omega, by omega⟩ (fun M319 X320 h321 z322 h323 h324 h325 => ?_)
          have X326 := X312.go X320 (z_sb (by decide))
          show z_ev (d + 37) 277 41 [some (.ref 19), some (.int 0), some (.int 2)] [] M319 _
          have h329 : (z308 : Int32).toInt.toNat = 5 := by omega
          have n328 : z_Ar M319 48 = z_nrs 0 [30, 10, 20, 1, 20, 1] (z_Ar M0 48) := by rw [h321, n314, h329]; rfl
          refine z_xP zt277 4 43 [some (.ref 19), some (.int 0), some (.int 2)] [.ref 19, .int 2] rfl rfl ?_
          have h330 := (X320.2.f f19 (by decide) (X306.2.f f19 (by decide) h288))
          refine z_xgv zt277 5 rfl zo277 zzf12_387 X326 f19 (by decide) h330 ?_
          refine z_xI zt277 6 rfl rfl (fun (x331 : Int32) (h332 : x331 = 2 + p1) => ?_) (rfl)
          refine z_xri zt277 7 rfl zzr277 ?_
          show z_ev (d + 38) 277 63 [some (.ref 19), some (.int 1), some (.int 2)] [.int x331] M319 _
          refine z_xP zt277 14 64 [some (.ref 19), some (.int 1), some (.int 2)] [.int 1, .int x331] rfl rfl ?_
          have h333 := z_b32 x331
          refine z_xI zt277 15 rfl rfl (fun (x334 : Int32) (h335 : x334 = x331 - 1) => ?_) (rfl)
          refine z_xri zt277 16 rfl zzr277 ?_
          show z_ev (d + 39) 277 93 [some (.ref 19), some (.int x298), some (.int 2)] [.int x334] M319 _
          refine z_xri zt277 30 rfl zzr277 ?_
          show z_ev (d + 40) 280 98 [some (.ref 19), some (.int x221), some (.int p3), some (.int x296)] [.int x334, .int x296] M319 _
          have h336 := z_b32 x296
          have h337 := z_b32 x334
          refine z_xI zt280 27 rfl rfl (fun (x338 : Int32) (h339 : x338 = x296 + x334) => ?_) (rfl)
          refine z_xri zt280 28 rfl zzr280 ?_
          show z_ev (d + 41) 276 66 [some (.ref 19), some (.int p1), some (.int p2), some (.int p3)] [.int x338] M319 _
          refine z_xP zt276 32 99 [some (.ref 19), some (.int p1), some (.int p2), some (.int p3)] [.int x338] rfl rfl ?_
          exact z_xri zt276 48 rfl zzr276 (kk x338 M319 X326 (fun hq => by exfalso; omega) (fun _ => ⟨(by rw [h339, h335, h332, h297, h294, h291]), n328, _, h323, by omega⟩) (fun hq => by exfalso; omega) (fun hq => by exfalso; omega) (fun hq => by exfalso; omega))
        exfalso; omega
      exfalso; omega
    exfalso; omega
  refine z_xP zt276 17 38 [some (.ref 19), some (.int p1), some (.int p2), some (.int p3)] [.ref 19, .ref 19] rfl rfl ?_
  refine z_xgX (b := 36) zt276 18 rfl zo276 zzf12_58 X23 f19 (by decide) (by decide) rfl ?_
  refine z_xP zt276 19 42 [some (.ref 19), some (.int p1), some (.int p2), some (.int p3)] [.int p1, .ref 36, .ref 19] rfl rfl ?_
  have f36 : T[36]? = some (.inr (36, 0, 20, 0, 7)) := X23.1.k rfl (by decide)
  refine z_xil zt276 20 rfl X23 f36 (by decide) (by omega) (by omega) (fun (x340 : Int32) h341 (h342 : 0 ≤ x340.toInt) (h343 : x340.toInt ≤ 7) => ?_)
  have h344 := congrArg Int32.toInt (h341.symm.trans ((congrFun (e24.a f36 (by decide)) _).trans ((congrFun (e3.a f36 (by decide)) _).trans hk36)))
  refine z_xP zt276 21 44 [some (.ref 19), some (.int p1), some (.int p2), some (.int p3)] [.int p3, .int x340, .ref 19] rfl rfl ?_
  refine z_xcV (vs := [.ref 19, .int x340, .int p3]) (r := []) (L2 := [some (.ref 19), some (.int x340), some (.int p3)]) zt276 22 rfl zo276 zzcV12_393 (Or.inl rfl) rfl X23 f19 rfl rfl rfl (Nat.le_of_ble_eq_true rfl) zzm277 (Nat.le_of_ble_eq_true rfl) rfl ?_
  refine z_xP zt277 0 1 [some (.ref 19), some (.int x340), some (.int p3)] [.int x340] rfl rfl ?_
  by_cases h345 : x340.toInt = 2
  · refine z_xSC zt277 1 (z_sub (k := 2) h345 rfl) 84 rfl rfl ?_
    refine z_xP zt277 26 86 [some (.ref 19), some (.int x340), some (.int p3)] [.int x340, .ref 19] rfl rfl ?_
    refine z_xcS (vs := [.int x340]) (r := [.ref 19]) (L2 := [some (.int x340)]) zt277 27 rfl zo277 zzcS12_390 (Or.inl rfl) (Nat.le_of_ble_eq_true rfl) rfl rfl (Nat.le_of_ble_eq_true rfl) zzm279 (Nat.le_of_ble_eq_true rfl) rfl ?_
    refine z_xP zt279 0 2 [some (.int x340)] [.int 2, .int x340] rfl rfl ?_
    refine z_xJ zt279 1 rfl rfl (fun (h346 : x340.toInt = 2) => ?_) (fun (h346 : x340.toInt ≠ 2) => absurd h346 (by omega))
    refine z_xP zt279 4 25 [some (.int x340)] [.int 1] rfl rfl ?_
    refine z_xri zt279 9 rfl zzr279 ?_
    show z_ev (d + 40) 277 89 [some (.ref 19), some (.int x340), some (.int p3)] [.int 1, .ref 19] M22 _
    refine z_xP zt277 28 90 [some (.ref 19), some (.int x340), some (.int p3)] [.int p3, .int 1, .ref 19] rfl rfl ?_
    refine z_xcV (vs := [.ref 19, .int 1, .int p3]) (r := []) (L2 := [some (.ref 19), some (.int 1), some (.int p3)]) zt277 29 rfl zo277 zzcV12_393 (Or.inl rfl) rfl X23 f19 rfl rfl rfl (Nat.le_of_ble_eq_true rfl) zzm277 (Nat.le_of_ble_eq_true rfl) rfl ?_
    refine z_xP zt277 0 1 [some (.ref 19), some (.int 1), some (.int p3)] [.int 1] rfl rfl ?_
    refine z_xSW zt277 1 48 rfl rfl ?_
    refine z_xP zt277 8 51 [some (.ref 19), some (.int 1), some (.int p3)] [.int 20, .ref 19] rfl rfl ?_
    refine z_xcV (vs := [.ref 19, .int 20]) (r := []) (L2 := [some (.ref 19), some (.int 20)]) zt277 9 rfl zo277 zzcV12_384 (Or.inl rfl) rfl X23 f19 rfl rfl rfl (Nat.le_of_ble_eq_true rfl) zzm278 (Nat.le_of_ble_eq_true rfl) rfl ?_
    have q20 : ((20 : Int32)).toInt = 20 := rfl
    have h347 := (e24.f f19 (by decide) h4)
    have q0 : ((0 : Int32)).toInt = 0 := rfl
    have q20 : ((20 : Int32)).toInt = 20 := rfl
    refine zNC278 X23.1 h347 ⟨by omega, by omega⟩ (fun M348 X349 h350 z351 h352 h353 h354 => ?_)
    have X355 := X23.go X349 (z_sb (by decide))
    show z_ev (d + 39) 277 54 [some (.ref 19), some (.int 1), some (.int p3)] [] M348 _
    have f48 : T[48]? = some (.inr (48, 0, 24, (-2147483648), 2147483647)) := X355.1.k rfl (by decide)
    have n357 : z_Ar M22 48 = z_Ar M0 48 := ((e24.a f48 (by decide)).trans (e3.a f48 (by decide)))
    have h359 : (0 : Int32).toInt.toNat = 0 := by omega
    have n358 : z_Ar M348 48 = z_nrs 0 [20] (z_Ar M0 48) := by rw [h350, n357, h359]; rfl
    refine z_xP zt277 10 56 [some (.ref 19), some (.int 1), some (.int p3)] [.int 1, .ref 19] rfl rfl ?_
    refine z_xcS (vs := [.int 1]) (r := [.ref 19]) (L2 := [some (.int 1)]) zt277 11 rfl zo277 zzcS12_390 (Or.inl rfl) (Nat.le_of_ble_eq_true rfl) rfl rfl (Nat.le_of_ble_eq_true rfl) zzm279 (Nat.le_of_ble_eq_true rfl) rfl ?_
    refine z_xP zt279 0 2 [some (.int 1)] [.int 2, .int 1] rfl rfl ?_
    refine z_xJ zt279 1 rfl rfl (fun (h360 : (1 : Int) = 2) => absurd h360 (by omega)) (fun (h360 : (1 : Int) ≠ 2) => ?_)
    refine z_xP zt279 2 7 [some (.int 1)] [.int 3, .int 1] rfl rfl ?_
    refine z_xJ zt279 3 rfl rfl (fun (h361 : (1 : Int) ≠ 3) => ?_) (fun (h361 : (1 : Int) = 3) => absurd h361 (by omega))
    refine z_xP zt279 5 17 [some (.int 1)] [.int 6, .int 1] rfl rfl ?_
    refine z_xJ zt279 6 rfl rfl (fun (h362 : (1 : Int) ≠ 6) => ?_) (fun (h362 : (1 : Int) = 6) => absurd h362 (by omega))
    refine z_xP zt279 8 25 [some (.int 1)] [.int 0] rfl rfl ?_
    refine z_xri zt279 9 rfl zzr279 ?_
    show z_ev (d + 39) 277 59 [some (.ref 19), some (.int 1), some (.int p3)] [.int 0, .ref 19] M348 _
    refine z_xP zt277 12 60 [some (.ref 19), some (.int 1), some (.int p3)] [.int p3, .int 0, .ref 19] rfl rfl ?_
    refine z_xcV (vs := [.ref 19, .int 0, .int p3]) (r := []) (L2 := [some (.ref 19), some (.int 0), some (.int p3)]) zt277 13 rfl zo277 zzcV12_393 (Or.inl rfl) rfl X355 f19 rfl rfl rfl (Nat.le_of_ble_eq_true rfl) zzm277 (Nat.le_of_ble_eq_true rfl) rfl ?_
    refine z_xP zt277 0 1 [some (.ref 19), some (.int 0), some (.int p3)] [.int 0] rfl rfl ?_
    refine z_xSW zt277 1 36 rfl rfl ?_
    refine z_xP zt277 2 38 [some (.ref 19), some (.int 0), some (.int p3)] [.int 1, .ref 19] rfl rfl ?_
    refine z_xcV (vs := [.ref 19, .int 1]) (r := []) (L2 := [some (.ref 19), some (.int 1)]) zt277 3 rfl zo277 zzcV12_384 (Or.inl rfl) rfl X355 f19 rfl rfl rfl (Nat.le_of_ble_eq_true rfl) zzm278 (Nat.le_of_ble_eq_true rfl) rfl ?_
    have q1 : ((1 : Int32)).toInt = 1 := rfl
    have q1 : ((1 : Int32)).toInt = 1 := rfl
    refine zNC278 X355.1 h352 ⟨by omega, by omega⟩ (fun M363 X364 h365 z366 h367 h368 h369 => ?_)
    have X370 := X355.go X364 (z_sb (by decide))
    show z_ev (d + 38) 277 41 [some (.ref 19), some (.int 0), some (.int p3)] [] M363 _
    have h373 : (z351 : Int32).toInt.toNat = 1 := by omega
    have n372 : z_Ar M363 48 = z_nrs 0 [20, 1] (z_Ar M0 48) := by rw [h365, n358, h373]; rfl
    refine z_xP zt277 4 43 [some (.ref 19), some (.int 0), some (.int p3)] [.ref 19, .int p3] rfl rfl ?_
    have h374 := (X364.2.f f19 (by decide) (X349.2.f f19 (by decide) h25))
    refine z_xgv zt277 5 rfl zo277 zzf12_387 X370 f19 (by decide) h374 ?_
    have h375 := z_b32 p3
    refine z_xI zt277 6 rfl rfl (fun (x376 : Int32) (h377 : x376 = p3 + p1) => ?_) (rfl)
    refine z_xri zt277 7 rfl zzr277 ?_
    show z_ev (d + 39) 277 63 [some (.ref 19), some (.int 1), some (.int p3)] [.int x376] M363 _
    refine z_xP zt277 14 64 [some (.ref 19), some (.int 1), some (.int p3)] [.int 1, .int x376] rfl rfl ?_
    have h378 := z_b32 x376
    refine z_xI zt277 15 rfl rfl (fun (x379 : Int32) (h380 : x379 = x376 - 1) => ?_) (rfl)
    refine z_xri zt277 16 rfl zzr277 ?_
    show z_ev (d + 40) 277 93 [some (.ref 19), some (.int x340), some (.int p3)] [.int x379] M363 _
    refine z_xri zt277 30 rfl zzr277 ?_
    show z_ev (d + 41) 276 47 [some (.ref 19), some (.int p1), some (.int p2), some (.int p3)] [.int x379] M363 _
    refine z_xP zt276 23 99 [some (.ref 19), some (.int p1), some (.int p2), some (.int p3)] [.int x379] rfl rfl ?_
    exact z_xri zt276 48 rfl zzr276 (kk x379 M363 X370 (fun _ => ⟨(by rw [h380, h377]), n372, _, h367, by omega⟩) (fun hq => by exfalso; omega) (fun hq => by exfalso; omega) (fun hq => by exfalso; omega) (fun hq => by exfalso; omega))
  exfalso; omega
theorem zNC159_3 {T : List zK} {d : Nat} {K : Option Value → zH → Prop} {p1 : Int32} {p2 : Int32} {p3 : Int32} {ww : Int32} {bb : Nat} {nn sh jd : Int32} {M0 : zH} (hW : z_W M0 T) (hww : z_F M0 4 5 = some (.int ww)) (hwr : 0 ≤ p1.toInt ∧ p1.toInt < ww.toInt ∧ ww.toInt ≤ 20) (hbb : z_O M0 12 p1.toNatClampNeg = some bb) (kbb : T[bb]? = some (.inl (7, 0, 0, 0, 0))) (hf1 : z_F M0 bb 1 = some (.int sh)) (hf2 : z_F M0 bb 2 = some (.int jd)) (hf3 : z_F M0 bb 3 = some (.int nn)) (hG : z_GG T M0) (kk : ∀ (x : Int32) (M1 : zH), z_X T zw159 M0 M1 → (p2.toInt = 0 → x = ((p3 + nn) - 1) ∧ z_Ar M1 13 = z_nts [20, 1] (upd (z_Ar M0 13) 0 0)) → (p2.toInt = 1 → x = (((p3 + nn) - 1) * 2) ∧ z_Ar M1 13 = z_nts [10, 20, 1] (upd (z_Ar M0 13) 0 0)) → (p2.toInt = 2 → x = ((p3 ^^^ nn) * 3) ∧ z_Ar M1 13 = z_nts [40, 11] (upd (z_Ar M0 13) 0 0)) → (p2.toInt = 3 → x = ((((p3 + nn) - 1) * 2) - ((1 ^^^ nn) * 3)) ∧ z_Ar M1 13 = z_nts [2, 10, 20, 1, 40, 11] (upd (z_Ar M0 13) 0 0)) → (p2.toInt < 0 ∨ 3 < p2.toInt → x = 0 ∧ z_Ar M1 13 = upd (z_Ar M0 13) 0 0) → K (some (.int x)) M1) : z_ev (d + 8) 159 0 [some (.ref 4), some (.int p1), some (.int p2), some (.int p3), none] [] M0 K := by
  have X : z_X T zw159 M0 M0 := .refl hW
  refine z_xP zt159 0 1 [some (.ref 4), some (.int p1), some (.int p2), some (.int p3), none] [.ref 4] rfl rfl ?_
  have f4 : T[4]? = some (.inl (0, 0, 0, 0, 0)) := X.1.k rfl (by decide)
  refine z_xgX (b := 13) zt159 1 rfl zo159 zzf0_31 X f4 (by decide) (by decide) rfl ?_
  refine z_xP zt159 2 6 [some (.ref 4), some (.int p1), some (.int p2), some (.int p3), none] [.int 0, .int 0, .ref 13] rfl rfl ?_
  have f13 : T[13]? = some (.inr (13, 0, 25, (-2147483648), 2147483647)) := X.1.k rfl (by decide)
  have q0 : ((0 : Int32)).toInt = 0 := rfl
  refine z_xis zt159 3 rfl X f13 (by decide) (by decide) (by decide) (by decide) (by omega) (by omega) (by decide) (fun M1 X2 e3 h4 => ?_)
  have q0 : ((0 : Int32)).toInt = 0 := rfl
  have h5 := z_u0 h4 (by omega)
  have n6 : z_Ar M1 13 = upd (z_Ar M0 13) 0 0 := h4
  refine z_xP zt159 4 9 [some (.ref 4), some (.int p1), some (.int p2), some (.int p3), none] [.int p1, .ref 4] rfl rfl ?_
  refine z_xcV (vs := [.ref 4, .int p1]) (r := []) (L2 := [some (.ref 4), some (.int p1)]) zt159 5 rfl zo159 zzcV0_221 (Or.inl rfl) rfl X2 f4 rfl rfl rfl (Nat.le_of_ble_eq_true rfl) zzm84 (Nat.le_of_ble_eq_true rfl) rfl ?_
  refine z_xP zt84 0 1 [some (.ref 4), some (.int p1)] [.int p1] rfl rfl ?_
  refine z_xZ zt84 1 rfl rfl (fun (h7 : p1.toInt < 0) => absurd h7 (by omega)) (fun (h7 : 0 ≤ p1.toInt) => ?_)
  refine z_xP zt84 2 6 [some (.ref 4), some (.int p1)] [.ref 4, .int p1] rfl rfl ?_
  have h8 := (e3.f f4 (by decide) hww)
  refine z_xgv zt84 3 rfl zo84 zzf0_188 X2 f4 (by decide) h8 ?_
  refine z_xJ zt84 4 rfl rfl (fun (h9 : p1.toInt < ww.toInt) => ?_) (fun (h9 : ww.toInt ≤ p1.toInt) => ?_)
  · skip
    refine z_xP zt84 6 17 [some (.ref 4), some (.int p1)] [.ref 4] rfl rfl ?_
    refine z_xgX (b := 12) zt84 7 rfl zo84 zzf0_27 X2 f4 (by decide) (by decide) rfl ?_
    refine z_xP zt84 8 21 [some (.ref 4), some (.int p1)] [.int p1, .ref 12] rfl rfl ?_
    have f12 : T[12]? = some (.inr (12, 3, 20, 0, 0)) := X2.1.k rfl (by decide)
    refine z_xalv zt84 9 rfl X2 f12 (by decide) (by decide) (by decide) (by omega) (by omega) ((congrFun (e3.o f12 (by decide)) _).trans hbb) ?_
    refine z_xra zt84 10 rfl zzr84 ?_
    show z_ev (d + 8) 159 12 [some (.ref 4), some (.int p1), some (.int p2), some (.int p3), none] [.ref bb] M1 _
    refine z_xP zt159 6 21 [some (.ref 4), some (.int p1), some (.int p2), some (.int p3), some (.ref bb)] [] rfl rfl ?_
    refine z_xP zt159 9 22 [some (.ref 4), some (.int p1), some (.int p2), some (.int p3), some (.ref bb)] [.int p2] rfl rfl ?_
    by_cases h10 : p2.toInt = 0
    · refine z_xSC zt159 10 (z_sub (k := 0) h10 rfl) 52 rfl rfl ?_
      refine z_xP zt159 11 55 [some (.ref 4), some (.int p1), some (.int p2), some (.int p3), some (.ref bb)] [.int p3, .ref bb] rfl rfl ?_
      refine z_xcV (vs := [.ref bb, .int p3]) (r := []) (L2 := [some (.ref bb), some (.int p3)]) zt159 12 rfl zo159 zzcV0_295 (Or.inr rfl) rfl X2 kbb rfl rfl rfl (Nat.le_of_ble_eq_true rfl) zzm160 (Nat.le_of_ble_eq_true rfl) rfl ?_
      refine z_xP zt160 0 3 [some (.ref bb), some (.int p3)] [.int 20, .ref bb] rfl rfl ?_
      refine z_xcV (vs := [.ref bb, .int 20]) (r := []) (L2 := [some (.ref bb), some (.int 20)]) zt160 1 rfl zo160 zzcV5_13 (Or.inr rfl) rfl X2 kbb rfl rfl rfl (Nat.le_of_ble_eq_true rfl) zzm161 (Nat.le_of_ble_eq_true rfl) rfl ?_
      have q20 : ((20 : Int32)).toInt = 20 := rfl
      have q20 : ((20 : Int32)).toInt = 20 := rfl
      refine zNC161 X2.1 (by decide) kbb ⟨by omega, by omega⟩ (fun M11 X12 h13 h14 => ?_)
      have X15 := X2.go X12 (z_sb (by decide))
      show z_ev (d + 7) 160 6 [some (.ref bb), some (.int p3)] [] M11 _
      have n17 : z_Ar M11 13 = z_nts [20] (upd (z_Ar M0 13) 0 0) := z_ntsS [] n6 h14
      refine z_xP zt160 2 8 [some (.ref bb), some (.int p3)] [.int p3, .ref bb] rfl rfl ?_
      refine z_xcI (vs := [.ref bb, .int p3]) (r := []) (L2 := [some (.ref bb), some (.int p3)]) zt160 3 rfl zo160 zzcI5_19 (Or.inr (Or.inl rfl)) rfl X15 kbb rfl rfl (Nat.le_of_ble_eq_true rfl) zzm163 (Nat.le_of_ble_eq_true rfl) rfl ?_
      refine z_xP zt163 0 2 [some (.ref bb), some (.int p3)] [.int 1, .ref bb] rfl rfl ?_
      refine z_xcV (vs := [.ref bb, .int 1]) (r := []) (L2 := [some (.ref bb), some (.int 1)]) zt163 1 rfl zo163 zzcV4_31 (Or.inr rfl) rfl X15 kbb rfl rfl rfl (Nat.le_of_ble_eq_true rfl) zzm161 (Nat.le_of_ble_eq_true rfl) rfl ?_
      have q1 : ((1 : Int32)).toInt = 1 := rfl
      have q1 : ((1 : Int32)).toInt = 1 := rfl
      refine zNC161 X15.1 (by decide) kbb ⟨by omega, by omega⟩ (fun M18 X19 h20 h21 => ?_)
      have X22 := X15.go X19 (z_sb (by decide))
      show z_ev (d + 6) 163 5 [some (.ref bb), some (.int p3)] [] M18 _
      have n24 : z_Ar M18 13 = z_nts [20, 1] (upd (z_Ar M0 13) 0 0) := z_ntsS [20] n17 h21
      refine z_xP zt163 2 7 [some (.ref bb), some (.int p3)] [.ref bb, .int p3] rfl rfl ?_
      have h25 := (X19.2.f kbb (by decide) (X12.2.f kbb (by decide) (e3.f kbb (by decide) hf3)))
      refine z_xgv zt163 3 rfl zo163 zzf4_15 X22 kbb (by decide) h25 ?_
      have h26 := z_b32 p3
      have h27 := z_b32 nn
      refine z_xI zt163 4 rfl rfl (fun (x28 : Int32) (h29 : x28 = p3 + nn) => ?_) (rfl)
      refine z_xri zt163 5 rfl zzr163 ?_
      show z_ev (d + 7) 160 11 [some (.ref bb), some (.int p3)] [.int x28] M18 _
      refine z_xP zt160 4 12 [some (.ref bb), some (.int p3)] [.int 1, .int x28] rfl rfl ?_
      have h30 := z_b32 x28
      refine z_xI zt160 5 rfl rfl (fun (x31 : Int32) (h32 : x31 = x28 - 1) => ?_) (rfl)
      refine z_xri zt160 6 rfl zzr160 ?_
      show z_ev (d + 8) 159 58 [some (.ref 4), some (.int p1), some (.int p2), some (.int p3), some (.ref bb)] [.int x31] M18 _
      exact z_xri zt159 13 rfl zzr159 (kk x31 M18 X22 (fun _ => ⟨(by rw [h32, h29]), n24⟩) (fun hq => by exfalso; omega) (fun hq => by exfalso; omega) (fun hq => by exfalso; omega) (fun hq => by exfalso; omega))
    by_cases h33 : p2.toInt = 1
    · refine z_xSC zt159 10 (z_sub (k := 1) h33 rfl) 59 rfl rfl ?_
      refine z_xP zt159 14 62 [some (.ref 4), some (.int p1), some (.int p2), some (.int p3), some (.ref bb)] [.int p3, .ref bb] rfl rfl ?_
      refine z_xcV (vs := [.ref bb, .int p3]) (r := []) (L2 := [some (.ref bb), some (.int p3)]) zt159 15 rfl zo159 zzcV0_298 (Or.inr rfl) rfl X2 kbb rfl rfl rfl (Nat.le_of_ble_eq_true rfl) zzm167 (Nat.le_of_ble_eq_true rfl) rfl ?_
      refine z_xP zt167 0 3 [some (.ref bb), some (.int p3)] [.int 10, .ref bb] rfl rfl ?_
      refine z_xcV (vs := [.ref bb, .int 10]) (r := []) (L2 := [some (.ref bb), some (.int 10)]) zt167 1 rfl zo167 zzcV4_31 (Or.inr rfl) rfl X2 kbb rfl rfl rfl (Nat.le_of_ble_eq_true rfl) zzm161 (Nat.le_of_ble_eq_true rfl) rfl ?_
      have q10 : ((10 : Int32)).toInt = 10 := rfl
      have q10 : ((10 : Int32)).toInt = 10 := rfl
      refine zNC161 X2.1 (by decide) kbb ⟨by omega, by omega⟩ (fun M34 X35 h36 h37 => ?_)
      have X38 := X2.go X35 (z_sb (by decide))
      show z_ev (d + 7) 167 6 [some (.ref bb), some (.int p3)] [] M34 _
      have n40 : z_Ar M34 13 = z_nts [10] (upd (z_Ar M0 13) 0 0) := z_ntsS [] n6 h37
      refine z_xP zt167 2 8 [some (.ref bb), some (.int p3)] [.int p3, .ref bb] rfl rfl ?_
      refine z_xcV (vs := [.ref bb, .int p3]) (r := []) (L2 := [some (.ref bb), some (.int p3)]) zt167 3 rfl zo167 zzcV4_35 (Or.inr rfl) rfl X38 kbb rfl rfl rfl (Nat.le_of_ble_eq_true rfl) zzm160 (Nat.le_of_ble_eq_true rfl) rfl ?_
      refine z_xP zt160 0 3 [some (.ref bb), some (.int p3)] [.int 20, .ref bb] rfl rfl ?_
      refine z_xcV (vs := [.ref bb, .int 20]) (r := []) (L2 := [some (.ref bb), some (.int 20)]) zt160 1 rfl zo160 zzcV5_13 (Or.inr rfl) rfl X38 kbb rfl rfl rfl (Nat.le_of_ble_eq_true rfl) zzm161 (Nat.le_of_ble_eq_true rfl) rfl ?_
      have q20 : ((20 : Int32)).toInt = 20 := rfl
      have q20 : ((20 : Int32)).toInt = 20 := rfl
      refine zNC161 X38.1 (by decide) kbb ⟨by omega, by omega⟩ (fun M41 X42 h43 h44 => ?_)
      have X45 := X38.go X42 (z_sb (by decide))
      show z_ev (d + 6) 160 6 [some (.ref bb), some (.int p3)] [] M41 _
      have n47 : z_Ar M41 13 = z_nts [10, 20] (upd (z_Ar M0 13) 0 0) := z_ntsS [10] n40 h44
      refine z_xP zt160 2 8 [some (.ref bb), some (.int p3)] [.int p3, .ref bb] rfl rfl ?_
      refine z_xcI (vs := [.ref bb, .int p3]) (r := []) (L2 := [some (.ref bb), some (.int p3)]) zt160 3 rfl zo160 zzcI5_19 (Or.inr (Or.inl rfl)) rfl X45 kbb rfl rfl (Nat.le_of_ble_eq_true rfl) zzm163 (Nat.le_of_ble_eq_true rfl) rfl ?_
      refine z_xP zt163 0 2 [some (.ref bb), some (.int p3)] [.int 1, .ref bb] rfl rfl ?_
      refine z_xcV (vs := [.ref bb, .int 1]) (r := []) (L2 := [some (.ref bb), some (.int 1)]) zt163 1 rfl zo163 zzcV4_31 (Or.inr rfl) rfl X45 kbb rfl rfl rfl (Nat.le_of_ble_eq_true rfl) zzm161 (Nat.le_of_ble_eq_true rfl) rfl ?_
      have q1 : ((1 : Int32)).toInt = 1 := rfl
      have q1 : ((1 : Int32)).toInt = 1 := rfl
      refine zNC161 X45.1 (by decide) kbb ⟨by omega, by omega⟩ (fun M48 X49 h50 h51 => ?_)
      have X52 := X45.go X49 (z_sb (by decide))
      show z_ev (d + 5) 163 5 [some (.ref bb), some (.int p3)] [] M48 _
      have n54 : z_Ar M48 13 = z_nts [10, 20, 1] (upd (z_Ar M0 13) 0 0) := z_ntsS [10, 20] n47 h51
      refine z_xP zt163 2 7 [some (.ref bb), some (.int p3)] [.ref bb, .int p3] rfl rfl ?_
      have h55 := (X49.2.f kbb (by decide) (X42.2.f kbb (by decide) (X35.2.f kbb (by decide) (e3.f kbb (by decide) hf3))))
      refine z_xgv zt163 3 rfl zo163 zzf4_15 X52 kbb (by decide) h55 ?_
      have h56 := z_b32 p3
      have h57 := z_b32 nn
      refine z_xI zt163 4 rfl rfl (fun (x58 : Int32) (h59 : x58 = p3 + nn) => ?_) (rfl)
      refine z_xri zt163 5 rfl zzr163 ?_
      show z_ev (d + 6) 160 11 [some (.ref bb), some (.int p3)] [.int x58] M48 _
      refine z_xP zt160 4 12 [some (.ref bb), some (.int p3)] [.int 1, .int x58] rfl rfl ?_
      have h60 := z_b32 x58
      refine z_xI zt160 5 rfl rfl (fun (x61 : Int32) (h62 : x61 = x58 - 1) => ?_) (rfl)
      refine z_xri zt160 6 rfl zzr160 ?_
      show z_ev (d + 7) 167 11 [some (.ref bb), some (.int p3)] [.int x61] M48 _
      refine z_xP zt167 4 12 [some (.ref bb), some (.int p3)] [.int 2, .int x61] rfl rfl ?_
      have h63 := z_b32 x61
      refine z_xI zt167 5 rfl rfl (fun (x64 : Int32) (h65 : x64 = x61 * 2) => ?_) (rfl)
      refine z_xri zt167 6 rfl zzr167 ?_
      show z_ev (d + 8) 159 65 [some (.ref 4), some (.int p1), some (.int p2), some (.int p3), some (.ref bb)] [.int x64] M48 _
      exact z_xri zt159 16 rfl zzr159 (kk x64 M48 X52 (fun hq => by exfalso; omega) (fun _ => ⟨(by rw [h65, h62, h59]), n54⟩) (fun hq => by exfalso; omega) (fun hq => by exfalso; omega) (fun hq => by exfalso; omega))
    by_cases h66 : p2.toInt = 2
    · refine z_xSC zt159 10 (z_sub (k := 2) h66 rfl) 66 rfl rfl ?_
      refine z_xP zt159 17 69 [some (.ref 4), some (.int p1), some (.int p2), some (.int p3), some (.ref bb)] [.int p3, .ref bb] rfl rfl ?_
      refine z_xcV (vs := [.ref bb, .int p3]) (r := []) (L2 := [some (.ref bb), some (.int p3)]) zt159 18 rfl zo159 zzcV0_301 (Or.inr rfl) rfl X2 kbb rfl rfl rfl (Nat.le_of_ble_eq_true rfl) zzm169 (Nat.le_of_ble_eq_true rfl) rfl ?_
      refine z_xP zt169 0 3 [some (.ref bb), some (.int p3)] [.int 40, .ref bb] rfl rfl ?_
      refine z_xcV (vs := [.ref bb, .int 40]) (r := []) (L2 := [some (.ref bb), some (.int 40)]) zt169 1 rfl zo169 zzcV7_33 (Or.inr rfl) rfl X2 kbb rfl rfl rfl (Nat.le_of_ble_eq_true rfl) zzm161 (Nat.le_of_ble_eq_true rfl) rfl ?_
      have q40 : ((40 : Int32)).toInt = 40 := rfl
      have q40 : ((40 : Int32)).toInt = 40 := rfl
      refine zNC161 X2.1 (by decide) kbb ⟨by omega, by omega⟩ (fun M67 X68 h69 h70 => ?_)
      have X71 := X2.go X68 (z_sb (by decide))
      show z_ev (d + 7) 169 6 [some (.ref bb), some (.int p3)] [] M67 _
      have n73 : z_Ar M67 13 = z_nts [40] (upd (z_Ar M0 13) 0 0) := z_ntsS [] n6 h70
      refine z_xP zt169 2 8 [some (.ref bb), some (.int p3)] [.int p3, .ref bb] rfl rfl ?_
      refine z_xcI (vs := [.ref bb, .int p3]) (r := []) (L2 := [some (.ref bb), some (.int p3)]) zt169 3 rfl zo169 zzcI7_39 (Or.inr (Or.inr (Or.inr rfl))) rfl X71 kbb rfl rfl (Nat.le_of_ble_eq_true rfl) zzm170 (Nat.le_of_ble_eq_true rfl) rfl ?_
      refine z_xP zt170 0 3 [some (.ref bb), some (.int p3)] [.int 11, .ref bb] rfl rfl ?_
      refine z_xcV (vs := [.ref bb, .int 11]) (r := []) (L2 := [some (.ref bb), some (.int 11)]) zt170 1 rfl zo170 zzcV4_31 (Or.inr rfl) rfl X71 kbb rfl rfl rfl (Nat.le_of_ble_eq_true rfl) zzm161 (Nat.le_of_ble_eq_true rfl) rfl ?_
      have q11 : ((11 : Int32)).toInt = 11 := rfl
      have q11 : ((11 : Int32)).toInt = 11 := rfl
      refine zNC161 X71.1 (by decide) kbb ⟨by omega, by omega⟩ (fun M74 X75 h76 h77 => ?_)
      have X78 := X71.go X75 (z_sb (by decide))
      show z_ev (d + 6) 170 6 [some (.ref bb), some (.int p3)] [] M74 _
      have n80 : z_Ar M74 13 = z_nts [40, 11] (upd (z_Ar M0 13) 0 0) := z_ntsS [40] n73 h77
      refine z_xP zt170 2 8 [some (.ref bb), some (.int p3)] [.ref bb, .int p3] rfl rfl ?_
      have h81 := (X75.2.f kbb (by decide) (X68.2.f kbb (by decide) (e3.f kbb (by decide) hf3)))
      refine z_xgv zt170 3 rfl zo170 zzf4_15 X78 kbb (by decide) h81 ?_
      refine z_xI zt170 4 rfl rfl (fun (x82 : Int32) (h83 : x82 = p3 ^^^ nn) => ?_) (rfl)
      refine z_xri zt170 5 rfl zzr170 ?_
      show z_ev (d + 7) 169 11 [some (.ref bb), some (.int p3)] [.int x82] M74 _
      refine z_xP zt169 4 12 [some (.ref bb), some (.int p3)] [.int 3, .int x82] rfl rfl ?_
      have h84 := z_b32 x82
      refine z_xI zt169 5 rfl rfl (fun (x85 : Int32) (h86 : x85 = x82 * 3) => ?_) (rfl)
      refine z_xri zt169 6 rfl zzr169 ?_
      show z_ev (d + 8) 159 72 [some (.ref 4), some (.int p1), some (.int p2), some (.int p3), some (.ref bb)] [.int x85] M74 _
      exact z_xri zt159 19 rfl zzr159 (kk x85 M74 X78 (fun hq => by exfalso; omega) (fun hq => by exfalso; omega) (fun _ => ⟨(by rw [h86, h83]), n80⟩) (fun hq => by exfalso; omega) (fun hq => by exfalso; omega))
    by_cases h87 : p2.toInt = 3
    · refine z_xSC zt159 10 (z_sub (k := 3) h87 rfl) 73 rfl rfl ?_
      refine z_xP zt159 20 76 [some (.ref 4), some (.int p1), some (.int p2), some (.int p3), some (.ref bb)] [.int p3, .ref bb] rfl rfl ?_
      refine z_xcV (vs := [.ref bb, .int p3]) (r := []) (L2 := [some (.ref bb), some (.int p3)]) zt159 21 rfl zo159 zzcV0_304 (Or.inr rfl) rfl X2 kbb rfl rfl rfl (Nat.le_of_ble_eq_true rfl) zzm173 (Nat.le_of_ble_eq_true rfl) rfl ?_
      refine z_xP zt173 0 2 [some (.ref bb), some (.int p3)] [.int 2, .ref bb] rfl rfl ?_
      refine z_xcV (vs := [.ref bb, .int 2]) (r := []) (L2 := [some (.ref bb), some (.int 2)]) zt173 1 rfl zo173 zzcV4_31 (Or.inr rfl) rfl X2 kbb rfl rfl rfl (Nat.le_of_ble_eq_true rfl) zzm161 (Nat.le_of_ble_eq_true rfl) rfl ?_
      have q2 : ((2 : Int32)).toInt = 2 := rfl
      have q2 : ((2 : Int32)).toInt = 2 := rfl
      refine zNC161 X2.1 (by decide) kbb ⟨by omega, by omega⟩ (fun M88 X89 h90 h91 => ?_)
      have X92 := X2.go X89 (z_sb (by decide))
      show z_ev (d + 7) 173 5 [some (.ref bb), some (.int p3)] [] M88 _
      have n94 : z_Ar M88 13 = z_nts [2] (upd (z_Ar M0 13) 0 0) := z_ntsS [] n6 h91
      refine z_xP zt173 2 7 [some (.ref bb), some (.int p3)] [.int p3, .ref bb] rfl rfl ?_
      refine z_xcV (vs := [.ref bb, .int p3]) (r := []) (L2 := [some (.ref bb), some (.int p3)]) zt173 3 rfl zo173 zzcV4_39 (Or.inr rfl) rfl X92 kbb rfl rfl rfl (Nat.le_of_ble_eq_true rfl) zzm167 (Nat.le_of_ble_eq_true rfl) rfl ?_
      refine z_xP zt167 0 3 [some (.ref bb), some (.int p3)] [.int 10, .ref bb] rfl rfl ?_
      refine z_xcV (vs := [.ref bb, .int 10]) (r := []) (L2 := [some (.ref bb), some (.int 10)]) zt167 1 rfl zo167 zzcV4_31 (Or.inr rfl) rfl X92 kbb rfl rfl rfl (Nat.le_of_ble_eq_true rfl) zzm161 (Nat.le_of_ble_eq_true rfl) rfl ?_
      have q10 : ((10 : Int32)).toInt = 10 := rfl
      have q10 : ((10 : Int32)).toInt = 10 := rfl
      refine zNC161 X92.1 (by decide) kbb ⟨by omega, by omega⟩ (fun M95 X96 h97 h98 => ?_)
      have X99 := X92.go X96 (z_sb (by decide))
      show z_ev (d + 6) 167 6 [some (.ref bb), some (.int p3)] [] M95 _
      have n101 : z_Ar M95 13 = z_nts [2, 10] (upd (z_Ar M0 13) 0 0) := z_ntsS [2] n94 h98
      refine z_xP zt167 2 8 [some (.ref bb), some (.int p3)] [.int p3, .ref bb] rfl rfl ?_
      refine z_xcV (vs := [.ref bb, .int p3]) (r := []) (L2 := [some (.ref bb), some (.int p3)]) zt167 3 rfl zo167 zzcV4_35 (Or.inr rfl) rfl X99 kbb rfl rfl rfl (Nat.le_of_ble_eq_true rfl) zzm160 (Nat.le_of_ble_eq_true rfl) rfl ?_
      refine z_xP zt160 0 3 [some (.ref bb), some (.int p3)] [.int 20, .ref bb] rfl rfl ?_
      refine z_xcV (vs := [.ref bb, .int 20]) (r := []) (L2 := [some (.ref bb), some (.int 20)]) zt160 1 rfl zo160 zzcV5_13 (Or.inr rfl) rfl X99 kbb rfl rfl rfl (Nat.le_of_ble_eq_true rfl) zzm161 (Nat.le_of_ble_eq_true rfl) rfl ?_
      have q20 : ((20 : Int32)).toInt = 20 := rfl
      have q20 : ((20 : Int32)).toInt = 20 := rfl
      refine zNC161 X99.1 (by decide) kbb ⟨by omega, by omega⟩ (fun M102 X103 h104 h105 => ?_)
      have X106 := X99.go X103 (z_sb (by decide))
      show z_ev (d + 5) 160 6 [some (.ref bb), some (.int p3)] [] M102 _
      have n108 : z_Ar M102 13 = z_nts [2, 10, 20] (upd (z_Ar M0 13) 0 0) := z_ntsS [2, 10] n101 h105
      refine z_xP zt160 2 8 [some (.ref bb), some (.int p3)] [.int p3, .ref bb] rfl rfl ?_
      refine z_xcI (vs := [.ref bb, .int p3]) (r := []) (L2 := [some (.ref bb), some (.int p3)]) zt160 3 rfl zo160 zzcI5_19 (Or.inr (Or.inl rfl)) rfl X106 kbb rfl rfl (Nat.le_of_ble_eq_true rfl) zzm163 (Nat.le_of_ble_eq_true rfl) rfl ?_
      refine z_xP zt163 0 2 [some (.ref bb), some (.int p3)] [.int 1, .ref bb] rfl rfl ?_
      refine z_xcV (vs := [.ref bb, .int 1]) (r := []) (L2 := [some (.ref bb), some (.int 1)]) zt163 1 rfl zo163 zzcV4_31 (Or.inr rfl) rfl X106 kbb rfl rfl rfl (Nat.le_of_ble_eq_true rfl) zzm161 (Nat.le_of_ble_eq_true rfl) rfl ?_
      have q1 : ((1 : Int32)).toInt = 1 := rfl
      have q1 : ((1 : Int32)).toInt = 1 := rfl
      refine zNC161 X106.1 (by decide) kbb ⟨by omega, by omega⟩ (fun M109 X110 h111 h112 => ?_)
      have X113 := X106.go X110 (z_sb (by decide))
      show z_ev (d + 4) 163 5 [some (.ref bb), some (.int p3)] [] M109 _
      have n115 : z_Ar M109 13 = z_nts [2, 10, 20, 1] (upd (z_Ar M0 13) 0 0) := z_ntsS [2, 10, 20] n108 h112
      refine z_xP zt163 2 7 [some (.ref bb), some (.int p3)] [.ref bb, .int p3] rfl rfl ?_
      have h116 := (X110.2.f kbb (by decide) (X103.2.f kbb (by decide) (X96.2.f kbb (by decide) (X89.2.f kbb (by decide) (e3.f kbb (by decide) hf3)))))
      refine z_xgv zt163 3 rfl zo163 zzf4_15 X113 kbb (by decide) h116 ?_
      have h117 := z_b32 p3
      have h118 := z_b32 nn
      refine z_xI zt163 4 rfl rfl (fun (x119 : Int32) (h120 : x119 = p3 + nn) => ?_) (rfl)
      refine z_xri zt163 5 rfl zzr163 ?_
      show z_ev (d + 5) 160 11 [some (.ref bb), some (.int p3)] [.int x119] M109 _
      refine z_xP zt160 4 12 [some (.ref bb), some (.int p3)] [.int 1, .int x119] rfl rfl ?_
      have h121 := z_b32 x119
      refine z_xI zt160 5 rfl rfl (fun (x122 : Int32) (h123 : x122 = x119 - 1) => ?_) (rfl)
      refine z_xri zt160 6 rfl zzr160 ?_
      show z_ev (d + 6) 167 11 [some (.ref bb), some (.int p3)] [.int x122] M109 _
      refine z_xP zt167 4 12 [some (.ref bb), some (.int p3)] [.int 2, .int x122] rfl rfl ?_
      have h124 := z_b32 x122
      refine z_xI zt167 5 rfl rfl (fun (x125 : Int32) (h126 : x125 = x122 * 2) => ?_) (rfl)
      refine z_xri zt167 6 rfl zzr167 ?_
      show z_ev (d + 7) 173 10 [some (.ref bb), some (.int p3)] [.int x125] M109 _
      refine z_xP zt173 4 12 [some (.ref bb), some (.int p3)] [.int 1, .ref bb, .int x125] rfl rfl ?_
      refine z_xcV (vs := [.ref bb, .int 1]) (r := [.int x125]) (L2 := [some (.ref bb), some (.int 1)]) zt173 5 rfl zo173 zzcV4_42 (Or.inr rfl) rfl X113 kbb rfl rfl rfl (Nat.le_of_ble_eq_true rfl) zzm169 (Nat.le_of_ble_eq_true rfl) rfl ?_
      refine z_xP zt169 0 3 [some (.ref bb), some (.int 1)] [.int 40, .ref bb] rfl rfl ?_
      refine z_xcV (vs := [.ref bb, .int 40]) (r := []) (L2 := [some (.ref bb), some (.int 40)]) zt169 1 rfl zo169 zzcV7_33 (Or.inr rfl) rfl X113 kbb rfl rfl rfl (Nat.le_of_ble_eq_true rfl) zzm161 (Nat.le_of_ble_eq_true rfl) rfl ?_
      have q40 : ((40 : Int32)).toInt = 40 := rfl
      have q40 : ((40 : Int32)).toInt = 40 := rfl
      refine zNC161 X113.1 (by decide) kbb ⟨by omega, by omega⟩ (fun M127 X128 h129 h130 => ?_)
      have X131 := X113.go X128 (z_sb (by decide))
      show z_ev (d + 6) 169 6 [some (.ref bb), some (.int 1)] [] M127 _
      have n133 : z_Ar M127 13 = z_nts [2, 10, 20, 1, 40] (upd (z_Ar M0 13) 0 0) := z_ntsS [2, 10, 20, 1] n115 h130
      refine z_xP zt169 2 8 [some (.ref bb), some (.int 1)] [.int 1, .ref bb] rfl rfl ?_
      refine z_xcI (vs := [.ref bb, .int 1]) (r := []) (L2 := [some (.ref bb), some (.int 1)]) zt169 3 rfl zo169 zzcI7_39 (Or.inr (Or.inr (Or.inr rfl))) rfl X131 kbb rfl rfl (Nat.le_of_ble_eq_true rfl) zzm170 (Nat.le_of_ble_eq_true rfl) rfl ?_
      refine z_xP zt170 0 3 [some (.ref bb), some (.int 1)] [.int 11, .ref bb] rfl rfl ?_
      refine z_xcV (vs := [.ref bb, .int 11]) (r := []) (L2 := [some (.ref bb), some (.int 11)]) zt170 1 rfl zo170 zzcV4_31 (Or.inr rfl) rfl X131 kbb rfl rfl rfl (Nat.le_of_ble_eq_true rfl) zzm161 (Nat.le_of_ble_eq_true rfl) rfl ?_
      have q11 : ((11 : Int32)).toInt = 11 := rfl
      have q11 : ((11 : Int32)).toInt = 11 := rfl
      refine zNC161 X131.1 (by decide) kbb ⟨by omega, by omega⟩ (fun M134 X135 h136 h137 => ?_)
      have X138 := X131.go X135 (z_sb (by decide))
      show z_ev (d + 5) 170 6 [some (.ref bb), some (.int 1)] [] M134 _
      have n140 : z_Ar M134 13 = z_nts [2, 10, 20, 1, 40, 11] (upd (z_Ar M0 13) 0 0) := z_ntsS [2, 10, 20, 1, 40] n133 h137
      refine z_xP zt170 2 8 [some (.ref bb), some (.int 1)] [.ref bb, .int 1] rfl rfl ?_
      have h141 := (X135.2.f kbb (by decide) (X128.2.f kbb (by decide) h116))
      refine z_xgv zt170 3 rfl zo170 zzf4_15 X138 kbb (by decide) h141 ?_
      refine z_xI zt170 4 rfl rfl (fun (x142 : Int32) (h143 : x142 = 1 ^^^ nn) => ?_) (rfl)
      refine z_xri zt170 5 rfl zzr170 ?_
      show z_ev (d + 6) 169 11 [some (.ref bb), some (.int 1)] [.int x142] M134 _
      refine z_xP zt169 4 12 [some (.ref bb), some (.int 1)] [.int 3, .int x142] rfl rfl ?_
      have h144 := z_b32 x142
      refine z_xI zt169 5 rfl rfl (fun (x145 : Int32) (h146 : x145 = x142 * 3) => ?_) (rfl)
      refine z_xri zt169 6 rfl zzr169 ?_
      show z_ev (d + 7) 173 15 [some (.ref bb), some (.int p3)] [.int x145, .int x125] M134 _
      have h147 := z_b32 x125
      have h148 := z_b32 x145
      refine z_xI zt173 6 rfl rfl (fun (x149 : Int32) (h150 : x149 = x125 - x145) => ?_) (rfl)
      refine z_xri zt173 7 rfl zzr173 ?_
      show z_ev (d + 8) 159 79 [some (.ref 4), some (.int p1), some (.int p2), some (.int p3), some (.ref bb)] [.int x149] M134 _
      exact z_xri zt159 22 rfl zzr159 (kk x149 M134 X138 (fun hq => by exfalso; omega) (fun hq => by exfalso; omega) (fun hq => by exfalso; omega) (fun _ => ⟨(by rw [h150, h146, h143, h126, h123, h120]), n140⟩) (fun hq => by exfalso; omega))
    refine z_xSD zt159 10 rfl rfl (by omega) ?_
    refine z_xP zt159 23 81 [some (.ref 4), some (.int p1), some (.int p2), some (.int p3), some (.ref bb)] [.int 0] rfl rfl ?_
    have q0 : ((0 : Int32)).toInt = 0 := rfl
    exact z_xri zt159 24 rfl zzr159 (kk 0 M1 X2 (fun hq => by exfalso; omega) (fun hq => by exfalso; omega) (fun hq => by exfalso; omega) (fun hq => by exfalso; omega) (fun _ => ⟨rfl, n6⟩))
  refine z_xP zt84 5 22 [some (.ref 4), some (.int p1)] [.null] rfl rfl ?_
  refine z_xrn zt84 10 rfl zzr84 ?_
  show z_ev (d + 8) 159 12 [some (.ref 4), some (.int p1), some (.int p2), some (.int p3), none] [.null] M1 _
  refine z_xP zt159 6 19 [some (.ref 4), some (.int p1), some (.int p2), some (.int p3), some (.null)] [] rfl rfl ?_
  refine z_xP zt159 7 20 [some (.ref 4), some (.int p1), some (.int p2), some (.int p3), some (.null)] [.int 0] rfl rfl ?_
  have q0 : ((0 : Int32)).toInt = 0 := rfl
  exact z_xri zt159 8 rfl zzr159 (kk 0 M1 X2 (fun hq => by exfalso; omega) (fun hq => by exfalso; omega) (fun hq => by exfalso; omega) (fun hq => by exfalso; omega) (fun _ => ⟨rfl, n6⟩))
theorem zNC276_3 {T : List zK} {d : Nat} {K : Option Value → zH → Prop} {p1 : Int32} {p2 : Int32} {p3 : Int32} {ww : Int32} {kn sh jd : Int32} {M0 : zH} (hW : z_W M0 T) (hww : z_F M0 19 21 = some (.int ww)) (hwr : 0 ≤ p1.toInt ∧ p1.toInt < ww.toInt ∧ ww.toInt ≤ 20) (hk36 : z_Ar M0 36 p1.toNatClampNeg = kn) (hkn : kn.toInt = 3) (hk37 : z_Ar M0 37 p1.toNatClampNeg = sh) (hk38 : z_Ar M0 38 p1.toNatClampNeg = jd) (kk : ∀ (x : Int32) (M1 : zH), z_X T zw276 M0 M1 → (p2.toInt = 0 → x = ((p3 + p1) - 1) ∧ z_Ar M1 48 = z_nrs 0 [20, 1] (z_Ar M0 48) ∧ ∃ n : Int32, z_F M1 19 47 = some (.int n) ∧ n.toInt = 2) → (p2.toInt = 1 → x = (((p3 + p1) - 1) * 2) ∧ z_Ar M1 48 = z_nrs 0 [10, 20, 1] (z_Ar M0 48) ∧ ∃ n : Int32, z_F M1 19 47 = some (.int n) ∧ n.toInt = 3) → (p2.toInt = 2 → x = ((p3 ^^^ p1) * 3) ∧ z_Ar M1 48 = z_nrs 0 [40, 11] (z_Ar M0 48) ∧ ∃ n : Int32, z_F M1 19 47 = some (.int n) ∧ n.toInt = 2) → (p2.toInt = 3 → x = ((((p3 + p1) - 1) * 2) - ((1 ^^^ p1) * 3)) ∧ z_Ar M1 48 = z_nrs 0 [2, 10, 20, 1, 40, 11] (z_Ar M0 48) ∧ ∃ n : Int32, z_F M1 19 47 = some (.int n) ∧ n.toInt = 6) → (p2.toInt < 0 ∨ 3 < p2.toInt → x = 0 ∧ z_Ar M1 48 = z_Ar M0 48 ∧ ∃ n : Int32, z_F M1 19 47 = some (.int n) ∧ n.toInt = 0) → K (some (.int x)) M1) : z_ev (d + 41) 276 0 [some (.ref 19), some (.int p1), some (.int p2), some (.int p3)] [] M0 K := by
  have X : z_X T zw276 M0 M0 := .refl hW
  refine z_xP zt276 0 2 [some (.ref 19), some (.int p1), some (.int p2), some (.int p3)] [.int 0, .ref 19] rfl rfl ?_
  have f19 : T[19]? = some (.inl (12, 0, 0, 0, 0)) := X.1.k rfl (by decide)
  have q0 : ((0 : Int32)).toInt = 0 := rfl
  refine z_xpf zt276 1 rfl zo276 zzf12_381 X f19 (by decide) (by decide) ⟨by omega, by omega⟩ rfl (by decide) zw12_47 (fun M1 X2 e3 h4 => ?_)
  refine z_xP zt276 2 7 [some (.ref 19), some (.int p1), some (.int p2), some (.int p3)] [.int p1, .ref 19] rfl rfl ?_
  refine z_xcV (vs := [.ref 19, .int p1]) (r := []) (L2 := [some (.ref 19), some (.int p1)]) zt276 3 rfl zo276 zzcV12_272 (Or.inl rfl) rfl X2 f19 rfl rfl rfl (Nat.le_of_ble_eq_true rfl) zzm237 (Nat.le_of_ble_eq_true rfl) rfl ?_
  refine z_xP zt237 0 1 [some (.ref 19), some (.int p1)] [.int p1] rfl rfl ?_
  refine z_xZ zt237 1 rfl rfl (fun (h5 : p1.toInt < 0) => absurd h5 (by omega)) (fun (h5 : 0 ≤ p1.toInt) => ?_)
  refine z_xP zt237 2 6 [some (.ref 19), some (.int p1)] [.ref 19, .int p1] rfl rfl ?_
  have h6 := (e3.f f19 (by decide) hww)
  refine z_xgv zt237 3 rfl zo237 zzf12_269 X2 f19 (by decide) h6 ?_
  refine z_xJ zt237 4 rfl rfl (fun (h7 : ww.toInt ≤ p1.toInt) => ?_) (fun (h7 : p1.toInt < ww.toInt) => ?_)
  · skip
    refine z_xP zt237 6 17 [some (.ref 19), some (.int p1)] [.int 0] rfl rfl ?_
    refine z_xrz zt237 7 rfl zzr237 (by decide) (by decide) ?_
    show z_ev (d + 41) 276 10 [some (.ref 19), some (.int p1), some (.int p2), some (.int p3)] [.int 0] M1 _
    refine z_xZ zt276 4 rfl rfl (fun (h8 : (0 : Int) = 0) => ?_) (fun (h8 : (0 : Int) ≠ 0) => absurd h8 (by omega))
    refine z_xP zt276 11 26 [some (.ref 19), some (.int p1), some (.int p2), some (.int p3)] [.int 0] rfl rfl ?_
    have q0 : ((0 : Int32)).toInt = 0 := rfl
    have f48 : T[48]? = some (.inr (48, 0, 24, (-2147483648), 2147483647)) := X2.1.k rfl (by decide)
    have q0 : ((0 : Int32)).toInt = 0 := rfl
    exact z_xri zt276 12 rfl zzr276 (kk 0 M1 X2 (fun hq => by exfalso; omega) (fun hq => by exfalso; omega) (fun hq => by exfalso; omega) (fun hq => by exfalso; omega) (fun _ => ⟨rfl, (e3.a f48 (by decide)), _, h4, by omega⟩))
  refine z_xP zt237 5 17 [some (.ref 19), some (.int p1)] [.int 1] rfl rfl ?_
  refine z_xrz zt237 7 rfl zzr237 (by decide) (by decide) ?_
  show z_ev (d + 41) 276 10 [some (.ref 19), some (.int p1), some (.int p2), some (.int p3)] [.int 1] M1 _
  refine z_xZ zt276 4 rfl rfl (fun (h9 : (1 : Int) = 0) => absurd h9 (by omega)) (fun (h9 : (1 : Int) ≠ 0) => ?_)
  refine z_xP zt276 5 14 [some (.ref 19), some (.int p1), some (.int p2), some (.int p3)] [.int p2] rfl rfl ?_
  have h10 := z_b32 p2
  refine z_xL zt276 6 rfl rfl (fun (y11 : Int64) (h12 : y11.toInt = p2.toInt) => ?_) (z_qI2L rfl)
  refine z_xP zt276 7 16 [some (.ref 19), some (.int p1), some (.int p2), some (.int p3)] [.long 0, .long y11] rfl rfl ?_
  refine z_xl2 zt276 8 rfl zo276 zkl12_358 ?_
  refine z_xcS (vs := [.long y11, .long 0, .long 3]) (r := []) (L2 := [some (.long y11), none, some (.long 0), none, some (.long 3), none]) zt276 9 rfl zo276 zzcS12_116 (Or.inl rfl) (Nat.le_of_ble_eq_true rfl) rfl rfl (Nat.le_of_ble_eq_true rfl) zzm189 (Nat.le_of_ble_eq_true rfl) rfl ?_
  refine z_xP zt189 0 2 [some (.long y11), none, some (.long 0), none, some (.long 3), none] [.long 0, .long y11] rfl rfl ?_
  refine z_xI zt189 1 rfl rfl (fun (x13 : Int32) (h14 : (x13.toInt < 0 ∧ y11.toInt < 0) ∨ (x13.toInt = 0 ∧ y11.toInt = 0) ∨ (0 < x13.toInt ∧ 0 < y11.toInt)) => ?_) (z_qCmp rfl rfl)
  refine z_xZ zt189 2 rfl rfl (fun (h15 : x13.toInt < 0) => ?_) (fun (h15 : 0 ≤ x13.toInt) => ?_)
  · skip
    refine z_xP zt189 7 18 [some (.long y11), none, some (.long 0), none, some (.long 3), none] [.int 0] rfl rfl ?_
    refine z_xrz zt189 8 rfl zzr189 (by decide) (by decide) ?_
    show z_ev (d + 41) 276 22 [some (.ref 19), some (.int p1), some (.int p2), some (.int p3)] [.int 0] M1 _
    refine z_xZ zt276 10 rfl rfl (fun (h16 : (0 : Int) ≠ 0) => absurd h16 (by omega)) (fun (h16 : (0 : Int) = 0) => ?_)
    refine z_xP zt276 11 26 [some (.ref 19), some (.int p1), some (.int p2), some (.int p3)] [.int 0] rfl rfl ?_
    have q0 : ((0 : Int32)).toInt = 0 := rfl
    have f48 : T[48]? = some (.inr (48, 0, 24, (-2147483648), 2147483647)) := X2.1.k rfl (by decide)
    have q0 : ((0 : Int32)).toInt = 0 := rfl
    exact z_xri zt276 12 rfl zzr276 (kk 0 M1 X2 (fun hq => by exfalso; omega) (fun hq => by exfalso; omega) (fun hq => by exfalso; omega) (fun hq => by exfalso; omega) (fun _ => ⟨rfl, (e3.a f48 (by decide)), _, h4, by omega⟩))
  refine z_xP zt189 3 9 [some (.long y11), none, some (.long 0), none, some (.long 3), none] [.long 3, .long y11] rfl rfl ?_
  refine z_xI zt189 4 rfl rfl (fun (x17 : Int32) (h18 : (x17.toInt < 0 ∧ y11.toInt < 3) ∨ (x17.toInt = 0 ∧ y11.toInt = 3) ∨ (0 < x17.toInt ∧ 3 < y11.toInt)) => ?_) (z_qCmp rfl rfl)
  refine z_xZ zt189 5 rfl rfl (fun (h19 : 0 < x17.toInt) => ?_) (fun (h19 : x17.toInt ≤ 0) => ?_)
  · skip
    refine z_xP zt189 7 18 [some (.long y11), none, some (.long 0), none, some (.long 3), none] [.int 0] rfl rfl ?_
    refine z_xrz zt189 8 rfl zzr189 (by decide) (by decide) ?_
    show z_ev (d + 41) 276 22 [some (.ref 19), some (.int p1), some (.int p2), some (.int p3)] [.int 0] M1 _
    refine z_xZ zt276 10 rfl rfl (fun (h20 : (0 : Int) ≠ 0) => absurd h20 (by omega)) (fun (h20 : (0 : Int) = 0) => ?_)
    refine z_xP zt276 11 26 [some (.ref 19), some (.int p1), some (.int p2), some (.int p3)] [.int 0] rfl rfl ?_
    have q0 : ((0 : Int32)).toInt = 0 := rfl
    have f48 : T[48]? = some (.inr (48, 0, 24, (-2147483648), 2147483647)) := X2.1.k rfl (by decide)
    have q0 : ((0 : Int32)).toInt = 0 := rfl
    exact z_xri zt276 12 rfl zzr276 (kk 0 M1 X2 (fun hq => by exfalso; omega) (fun hq => by exfalso; omega) (fun hq => by exfalso; omega) (fun hq => by exfalso; omega) (fun _ => ⟨rfl, (e3.a f48 (by decide)), _, h4, by omega⟩))
  refine z_xP zt189 6 18 [some (.long y11), none, some (.long 0), none, some (.long 3), none] [.int 1] rfl rfl ?_
  refine z_xrz zt189 8 rfl zzr189 (by decide) (by decide) ?_
  show z_ev (d + 41) 276 22 [some (.ref 19), some (.int p1), some (.int p2), some (.int p3)] [.int 1] M1 _
  refine z_xZ zt276 10 rfl rfl (fun (h21 : (1 : Int) ≠ 0) => ?_) (fun (h21 : (1 : Int) = 0) => absurd h21 (by omega))
  refine z_xP zt276 13 29 [some (.ref 19), some (.int p1), some (.int p2), some (.int p3)] [.int p1, .ref 19] rfl rfl ?_
  refine z_xpf zt276 14 rfl zo276 zzf12_387 X2 f19 (by decide) (by decide) ⟨by omega, by omega⟩ rfl (by decide) zw12_48 (fun M22 X23 e24 h25 => ?_)
  refine z_xP zt276 15 33 [some (.ref 19), some (.int p1), some (.int p2), some (.int p3)] [.int p2] rfl rfl ?_
  refine z_xZ zt276 16 rfl rfl (fun (h26 : p2.toInt ≠ 0) => ?_) (fun (h26 : p2.toInt = 0) => ?_)
  · skip
    refine z_xP zt276 24 52 [some (.ref 19), some (.int p1), some (.int p2), some (.int p3)] [.int 1, .int p2] rfl rfl ?_
    refine z_xJ zt276 25 rfl rfl (fun (h27 : p2.toInt ≠ 1) => ?_) (fun (h27 : p2.toInt = 1) => ?_)
    · skip
      refine z_xP zt276 33 71 [some (.ref 19), some (.int p1), some (.int p2), some (.int p3)] [.int 2, .int p2] rfl rfl ?_
      refine z_xJ zt276 34 rfl rfl (fun (h28 : p2.toInt ≠ 2) => ?_) (fun (h28 : p2.toInt = 2) => ?_)
      · skip
        refine z_xP zt276 42 90 [some (.ref 19), some (.int p1), some (.int p2), some (.int p3)] [.ref 19, .ref 19] rfl rfl ?_
        refine z_xgX (b := 36) zt276 43 rfl zo276 zzf12_58 X23 f19 (by decide) (by decide) rfl ?_
        refine z_xP zt276 44 94 [some (.ref 19), some (.int p1), some (.int p2), some (.int p3)] [.int p1, .ref 36, .ref 19] rfl rfl ?_
        have f36 : T[36]? = some (.inr (36, 0, 20, 0, 7)) := X23.1.k rfl (by decide)
        refine z_xil zt276 45 rfl X23 f36 (by decide) (by omega) (by omega) (fun (x29 : Int32) h30 (h31 : 0 ≤ x29.toInt) (h32 : x29.toInt ≤ 7) => ?_)
        have h33 := congrArg Int32.toInt (h30.symm.trans ((congrFun (e24.a f36 (by decide)) _).trans ((congrFun (e3.a f36 (by decide)) _).trans hk36)))
        refine z_xP zt276 46 96 [some (.ref 19), some (.int p1), some (.int p2), some (.int p3)] [.int p3, .int x29, .ref 19] rfl rfl ?_
        refine z_xcV (vs := [.ref 19, .int x29, .int p3]) (r := []) (L2 := [some (.ref 19), some (.int x29), some (.int p3), none]) zt276 47 rfl zo276 zzcV12_402 (Or.inl rfl) rfl X23 f19 rfl rfl rfl (Nat.le_of_ble_eq_true rfl) zzm282 (Nat.le_of_ble_eq_true rfl) rfl ?_
        refine z_xP zt282 0 3 [some (.ref 19), some (.int x29), some (.int p3), some (.int 0)] [.int x29] rfl rfl ?_
        refine z_xSL zt282 1 rfl (by decide) (z_lsd (List.forall_mem_cons.mpr ⟨show (0 : Int) ≠ x29.toInt from by omega, (List.forall_mem_cons.mpr ⟨show (5 : Int) ≠ x29.toInt from by omega, (List.forall_mem_cons.mpr ⟨show (7 : Int) ≠ x29.toInt from by omega, (List.forall_mem_nil _)⟩)⟩)⟩)) rfl ?_
        refine z_xP zt282 47 133 [some (.ref 19), some (.int x29), some (.int p3), some (.int 0)] [.int x29, .ref 19] rfl rfl ?_
        refine z_xcS (vs := [.int x29]) (r := [.ref 19]) (L2 := [some (.int x29)]) zt282 48 rfl zo282 zzcS12_390 (Or.inl rfl) (Nat.le_of_ble_eq_true rfl) rfl rfl (Nat.le_of_ble_eq_true rfl) zzm279 (Nat.le_of_ble_eq_true rfl) rfl ?_
        refine z_xP zt279 0 2 [some (.int x29)] [.int 2, .int x29] rfl rfl ?_
        refine z_xJ zt279 1 rfl rfl (fun (h34 : x29.toInt = 2) => absurd h34 (by omega)) (fun (h34 : x29.toInt ≠ 2) => ?_)
        refine z_xP zt279 2 7 [some (.int x29)] [.int 3, .int x29] rfl rfl ?_
        refine z_xJ zt279 3 rfl rfl (fun (h35 : x29.toInt ≠ 3) => absurd h35 (by omega)) (fun (h35 : x29.toInt = 3) => ?_)
        refine z_xP zt279 4 25 [some (.int x29)] [.int 1] rfl rfl ?_
        refine z_xri zt279 9 rfl zzr279 ?_
        show z_ev (d + 40) 282 136 [some (.ref 19), some (.int x29), some (.int p3), some (.int 0)] [.int 1, .ref 19] M22 _
        refine z_xP zt282 49 137 [some (.ref 19), some (.int x29), some (.int p3), some (.int 0)] [.int p3, .int 1, .ref 19] rfl rfl ?_
        refine z_xcV (vs := [.ref 19, .int 1, .int p3]) (r := []) (L2 := [some (.ref 19), some (.int 1), some (.int p3), none]) zt282 50 rfl zo282 zzcV12_402 (Or.inl rfl) rfl X23 f19 rfl rfl rfl (Nat.le_of_ble_eq_true rfl) zzm282 (Nat.le_of_ble_eq_true rfl) rfl ?_
        refine z_xP zt282 0 3 [some (.ref 19), some (.int 1), some (.int p3), some (.int 0)] [.int 1] rfl rfl ?_
        refine z_xSW zt282 1 131 rfl rfl ?_
        refine z_xP zt282 47 133 [some (.ref 19), some (.int 1), some (.int p3), some (.int 0)] [.int 1, .ref 19] rfl rfl ?_
        refine z_xcS (vs := [.int 1]) (r := [.ref 19]) (L2 := [some (.int 1)]) zt282 48 rfl zo282 zzcS12_390 (Or.inl rfl) (Nat.le_of_ble_eq_true rfl) rfl rfl (Nat.le_of_ble_eq_true rfl) zzm279 (Nat.le_of_ble_eq_true rfl) rfl ?_
        refine z_xP zt279 0 2 [some (.int 1)] [.int 2, .int 1] rfl rfl ?_
        refine z_xJ zt279 1 rfl rfl (fun (h36 : (1 : Int) = 2) => absurd h36 (by omega)) (fun (h36 : (1 : Int) ≠ 2) => ?_)
        refine z_xP zt279 2 7 [some (.int 1)] [.int 3, .int 1] rfl rfl ?_
        refine z_xJ zt279 3 rfl rfl (fun (h37 : (1 : Int) ≠ 3) => ?_) (fun (h37 : (1 : Int) = 3) => absurd h37 (by omega))
        refine z_xP zt279 5 17 [some (.int 1)] [.int 6, .int 1] rfl rfl ?_
        refine z_xJ zt279 6 rfl rfl (fun (h38 : (1 : Int) ≠ 6) => ?_) (fun (h38 : (1 : Int) = 6) => absurd h38 (by omega))
        refine z_xP zt279 8 25 [some (.int 1)] [.int 0] rfl rfl ?_
        refine z_xri zt279 9 rfl zzr279 ?_
        show z_ev (d + 39) 282 136 [some (.ref 19), some (.int 1), some (.int p3), some (.int 0)] [.int 0, .ref 19] M22 _
        refine z_xP zt282 49 137 [some (.ref 19), some (.int 1), some (.int p3), some (.int 0)] [.int p3, .int 0, .ref 19] rfl rfl ?_
        refine z_xcV (vs := [.ref 19, .int 0, .int p3]) (r := []) (L2 := [some (.ref 19), some (.int 0), some (.int p3), none]) zt282 50 rfl zo282 zzcV12_402 (Or.inl rfl) rfl X23 f19 rfl rfl rfl (Nat.le_of_ble_eq_true rfl) zzm282 (Nat.le_of_ble_eq_true rfl) rfl ?_
        refine z_xP zt282 0 3 [some (.ref 19), some (.int 0), some (.int p3), some (.int 0)] [.int 0] rfl rfl ?_
        refine z_xSW zt282 1 36 rfl rfl ?_
        refine z_xP zt282 2 38 [some (.ref 19), some (.int 0), some (.int p3), some (.int 0)] [.int 2, .ref 19] rfl rfl ?_
        refine z_xcV (vs := [.ref 19, .int 2]) (r := []) (L2 := [some (.ref 19), some (.int 2)]) zt282 3 rfl zo282 zzcV12_384 (Or.inl rfl) rfl X23 f19 rfl rfl rfl (Nat.le_of_ble_eq_true rfl) zzm278 (Nat.le_of_ble_eq_true rfl) rfl ?_
        have q2 : ((2 : Int32)).toInt = 2 := rfl
        have h39 := (e24.f f19 (by decide) h4)
        have q0 : ((0 : Int32)).toInt = 0 := rfl
        have q2 : ((2 : Int32)).toInt = 2 := rfl
        refine zNC278 X23.1 h39 ⟨by omega, by omega⟩ (fun M40 X41 h42 z43 h44 h45 h46 => ?_)
        have X47 := X23.go X41 (z_sb (by decide))
        show z_ev (d + 38) 282 41 [some (.ref 19), some (.int 0), some (.int p3), some (.int 0)] [] M40 _
        have f48 : T[48]? = some (.inr (48, 0, 24, (-2147483648), 2147483647)) := X47.1.k rfl (by decide)
        have n49 : z_Ar M22 48 = z_Ar M0 48 := ((e24.a f48 (by decide)).trans (e3.a f48 (by decide)))
        have h51 : (0 : Int32).toInt.toNat = 0 := by omega
        have n50 : z_Ar M40 48 = z_nrs 0 [2] (z_Ar M0 48) := by rw [h42, n49, h51]; rfl
        refine z_xP zt282 4 43 [some (.ref 19), some (.int 0), some (.int p3), some (.int 0)] [.ref 19, .ref 19] rfl rfl ?_
        refine z_xgX (b := 36) zt282 5 rfl zo282 zzf12_58 X47 f19 (by decide) (by decide) rfl ?_
        refine z_xP zt282 6 47 [some (.ref 19), some (.int 0), some (.int p3), some (.int 0)] [.ref 19, .ref 36, .ref 19] rfl rfl ?_
        have h52 := (X41.2.f f19 (by decide) h25)
        refine z_xgv zt282 7 rfl zo282 zzf12_387 X47 f19 (by decide) h52 ?_
        refine z_xil zt282 8 rfl X47 f36 (by decide) (by omega) (by omega) (fun (x53 : Int32) h54 (h55 : 0 ≤ x53.toInt) (h56 : x53.toInt ≤ 7) => ?_)
        have h57 := congrArg Int32.toInt (h54.symm.trans ((congrFun (X41.2.a f36 (by decide)) _).trans ((congrFun (e24.a f36 (by decide)) _).trans ((congrFun (e3.a f36 (by decide)) _).trans hk36))))
        refine z_xP zt282 9 52 [some (.ref 19), some (.int 0), some (.int p3), some (.int 0)] [.int p3, .int x53, .ref 19] rfl rfl ?_
        refine z_xcV (vs := [.ref 19, .int x53, .int p3]) (r := []) (L2 := [some (.ref 19), some (.int x53), some (.int p3), none]) zt282 10 rfl zo282 zzcV12_396 (Or.inl rfl) rfl X47 f19 rfl rfl rfl (Nat.le_of_ble_eq_true rfl) zzm280 (Nat.le_of_ble_eq_true rfl) rfl ?_
        refine z_xP zt280 0 1 [some (.ref 19), some (.int x53), some (.int p3), none] [.int x53] rfl rfl ?_
        by_cases h58 : x53.toInt = 3
        · refine z_xSC zt280 1 (z_sub (k := 3) h58 rfl) 144 rfl rfl ?_
          refine z_xP zt280 50 146 [some (.ref 19), some (.int x53), some (.int p3), none] [.int x53, .ref 19] rfl rfl ?_
          refine z_xcS (vs := [.int x53]) (r := [.ref 19]) (L2 := [some (.int x53)]) zt280 51 rfl zo280 zzcS12_390 (Or.inl rfl) (Nat.le_of_ble_eq_true rfl) rfl rfl (Nat.le_of_ble_eq_true rfl) zzm279 (Nat.le_of_ble_eq_true rfl) rfl ?_
          refine z_xP zt279 0 2 [some (.int x53)] [.int 2, .int x53] rfl rfl ?_
          refine z_xJ zt279 1 rfl rfl (fun (h59 : x53.toInt = 2) => absurd h59 (by omega)) (fun (h59 : x53.toInt ≠ 2) => ?_)
          refine z_xP zt279 2 7 [some (.int x53)] [.int 3, .int x53] rfl rfl ?_
          refine z_xJ zt279 3 rfl rfl (fun (h60 : x53.toInt ≠ 3) => absurd h60 (by omega)) (fun (h60 : x53.toInt = 3) => ?_)
          refine z_xP zt279 4 25 [some (.int x53)] [.int 1] rfl rfl ?_
          refine z_xri zt279 9 rfl zzr279 ?_
          show z_ev (d + 37) 280 149 [some (.ref 19), some (.int x53), some (.int p3), none] [.int 1, .ref 19] M40 _
          refine z_xP zt280 52 150 [some (.ref 19), some (.int x53), some (.int p3), none] [.int p3, .int 1, .ref 19] rfl rfl ?_
          refine z_xcV (vs := [.ref 19, .int 1, .int p3]) (r := []) (L2 := [some (.ref 19), some (.int 1), some (.int p3), none]) zt280 53 rfl zo280 zzcV12_396 (Or.inl rfl) rfl X47 f19 rfl rfl rfl (Nat.le_of_ble_eq_true rfl) zzm280 (Nat.le_of_ble_eq_true rfl) rfl ?_
          refine z_xP zt280 0 1 [some (.ref 19), some (.int 1), some (.int p3), none] [.int 1] rfl rfl ?_
          refine z_xSW zt280 1 144 rfl rfl ?_
          refine z_xP zt280 50 146 [some (.ref 19), some (.int 1), some (.int p3), none] [.int 1, .ref 19] rfl rfl ?_
          refine z_xcS (vs := [.int 1]) (r := [.ref 19]) (L2 := [some (.int 1)]) zt280 51 rfl zo280 zzcS12_390 (Or.inl rfl) (Nat.le_of_ble_eq_true rfl) rfl rfl (Nat.le_of_ble_eq_true rfl) zzm279 (Nat.le_of_ble_eq_true rfl) rfl ?_
          refine z_xP zt279 0 2 [some (.int 1)] [.int 2, .int 1] rfl rfl ?_
          refine z_xJ zt279 1 rfl rfl (fun (h61 : (1 : Int) = 2) => absurd h61 (by omega)) (fun (h61 : (1 : Int) ≠ 2) => ?_)
          refine z_xP zt279 2 7 [some (.int 1)] [.int 3, .int 1] rfl rfl ?_
          refine z_xJ zt279 3 rfl rfl (fun (h62 : (1 : Int) ≠ 3) => ?_) (fun (h62 : (1 : Int) = 3) => absurd h62 (by omega))
          refine z_xP zt279 5 17 [some (.int 1)] [.int 6, .int 1] rfl rfl ?_
          refine z_xJ zt279 6 rfl rfl (fun (h63 : (1 : Int) ≠ 6) => ?_) (fun (h63 : (1 : Int) = 6) => absurd h63 (by omega))
          refine z_xP zt279 8 25 [some (.int 1)] [.int 0] rfl rfl ?_
          refine z_xri zt279 9 rfl zzr279 ?_
          show z_ev (d + 36) 280 149 [some (.ref 19), some (.int 1), some (.int p3), none] [.int 0, .ref 19] M40 _
          refine z_xP zt280 52 150 [some (.ref 19), some (.int 1), some (.int p3), none] [.int p3, .int 0, .ref 19] rfl rfl ?_
          refine z_xcV (vs := [.ref 19, .int 0, .int p3]) (r := []) (L2 := [some (.ref 19), some (.int 0), some (.int p3), none]) zt280 53 rfl zo280 zzcV12_396 (Or.inl rfl) rfl X47 f19 rfl rfl rfl (Nat.le_of_ble_eq_true rfl) zzm280 (Nat.le_of_ble_eq_true rfl) rfl ?_
          refine z_xP zt280 0 1 [some (.ref 19), some (.int 0), some (.int p3), none] [.int 0] rfl rfl ?_
          refine z_xSW zt280 1 44 rfl rfl ?_
          refine z_xP zt280 2 47 [some (.ref 19), some (.int 0), some (.int p3), none] [.int 10, .ref 19] rfl rfl ?_
          refine z_xcV (vs := [.ref 19, .int 10]) (r := []) (L2 := [some (.ref 19), some (.int 10)]) zt280 3 rfl zo280 zzcV12_384 (Or.inl rfl) rfl X47 f19 rfl rfl rfl (Nat.le_of_ble_eq_true rfl) zzm278 (Nat.le_of_ble_eq_true rfl) rfl ?_
          have q10 : ((10 : Int32)).toInt = 10 := rfl
          have q10 : ((10 : Int32)).toInt = 10 := rfl
          refine zNC278 X47.1 h44 ⟨by omega, by omega⟩ (fun M64 X65 h66 z67 h68 h69 h70 => ?_)
          have X71 := X47.go X65 (z_sb (by decide))
          show z_ev (d + 35) 280 50 [some (.ref 19), some (.int 0), some (.int p3), none] [] M64 _
          have h74 : (z43 : Int32).toInt.toNat = 1 := by omega
          have n73 : z_Ar M64 48 = z_nrs 0 [2, 10] (z_Ar M0 48) := by rw [h66, n50, h74]; rfl
          refine z_xP zt280 4 52 [some (.ref 19), some (.int 0), some (.int p3), none] [.ref 19, .ref 19] rfl rfl ?_
          refine z_xgX (b := 36) zt280 5 rfl zo280 zzf12_58 X71 f19 (by decide) (by decide) rfl ?_
          refine z_xP zt280 6 56 [some (.ref 19), some (.int 0), some (.int p3), none] [.ref 19, .ref 36, .ref 19] rfl rfl ?_
          have h75 := (X65.2.f f19 (by decide) h52)
          refine z_xgv zt280 7 rfl zo280 zzf12_387 X71 f19 (by decide) h75 ?_
          refine z_xil zt280 8 rfl X71 f36 (by decide) (by omega) (by omega) (fun (x76 : Int32) h77 (h78 : 0 ≤ x76.toInt) (h79 : x76.toInt ≤ 7) => ?_)
          have h80 := congrArg Int32.toInt (h77.symm.trans ((congrFun (X65.2.a f36 (by decide)) _).trans ((congrFun (X41.2.a f36 (by decide)) _).trans ((congrFun (e24.a f36 (by decide)) _).trans ((congrFun (e3.a f36 (by decide)) _).trans hk36)))))
          refine z_xP zt280 9 61 [some (.ref 19), some (.int 0), some (.int p3), none] [.int p3, .int x76, .ref 19] rfl rfl ?_
          refine z_xcV (vs := [.ref 19, .int x76, .int p3]) (r := []) (L2 := [some (.ref 19), some (.int x76), some (.int p3)]) zt280 10 rfl zo280 zzcV12_393 (Or.inl rfl) rfl X71 f19 rfl rfl rfl (Nat.le_of_ble_eq_true rfl) zzm277 (Nat.le_of_ble_eq_true rfl) rfl ?_
          refine z_xP zt277 0 1 [some (.ref 19), some (.int x76), some (.int p3)] [.int x76] rfl rfl ?_
          by_cases h81 : x76.toInt = 3
          · refine z_xSC zt277 1 (z_sub (k := 3) h81 rfl) 84 rfl rfl ?_
            refine z_xP zt277 26 86 [some (.ref 19), some (.int x76), some (.int p3)] [.int x76, .ref 19] rfl rfl ?_
            refine z_xcS (vs := [.int x76]) (r := [.ref 19]) (L2 := [some (.int x76)]) zt277 27 rfl zo277 zzcS12_390 (Or.inl rfl) (Nat.le_of_ble_eq_true rfl) rfl rfl (Nat.le_of_ble_eq_true rfl) zzm279 (Nat.le_of_ble_eq_true rfl) rfl ?_
            refine z_xP zt279 0 2 [some (.int x76)] [.int 2, .int x76] rfl rfl ?_
            refine z_xJ zt279 1 rfl rfl (fun (h82 : x76.toInt = 2) => absurd h82 (by omega)) (fun (h82 : x76.toInt ≠ 2) => ?_)
            refine z_xP zt279 2 7 [some (.int x76)] [.int 3, .int x76] rfl rfl ?_
            refine z_xJ zt279 3 rfl rfl (fun (h83 : x76.toInt ≠ 3) => absurd h83 (by omega)) (fun (h83 : x76.toInt = 3) => ?_)
            refine z_xP zt279 4 25 [some (.int x76)] [.int 1] rfl rfl ?_
            refine z_xri zt279 9 rfl zzr279 ?_
            show z_ev (d + 34) 277 89 [some (.ref 19), some (.int x76), some (.int p3)] [.int 1, .ref 19] M64 _
            refine z_xP zt277 28 90 [some (.ref 19), some (.int x76), some (.int p3)] [.int p3, .int 1, .ref 19] rfl rfl ?_
            refine z_xcV (vs := [.ref 19, .int 1, .int p3]) (r := []) (L2 := [some (.ref 19), some (.int 1), some (.int p3)]) zt277 29 rfl zo277 zzcV12_393 (Or.inl rfl) rfl X71 f19 rfl rfl rfl (Nat.le_of_ble_eq_true rfl) zzm277 (Nat.le_of_ble_eq_true rfl) rfl ?_
            refine z_xP zt277 0 1 [some (.ref 19), some (.int 1), some (.int p3)] [.int 1] rfl rfl ?_
            refine z_xSW zt277 1 48 rfl rfl ?_
            refine z_xP zt277 8 51 [some (.ref 19), some (.int 1), some (.int p3)] [.int 20, .ref 19] rfl rfl ?_
            refine z_xcV (vs := [.ref 19, .int 20]) (r := []) (L2 := [some (.ref 19), some (.int 20)]) zt277 9 rfl zo277 zzcV12_384 (Or.inl rfl) rfl X71 f19 rfl rfl rfl (Nat.le_of_ble_eq_true rfl) zzm278 (Nat.le_of_ble_eq_true rfl) rfl ?_
            have q20 : ((20 : Int32)).toInt = 20 := rfl
            have q20 : ((20 : Int32)).toInt = 20 := rfl
            refine zNC278 X71.1 h68 ⟨by omega, by omega⟩ (fun M84 X85 h86 z87 h88 h89 h90 => ?_)
            have X91 := X71.go X85 (z_sb (by decide))
            show z_ev (d + 33) 277 54 [some (.ref 19), some (.int 1), some (.int p3)] [] M84 _
            have h94 : (z67 : Int32).toInt.toNat = 2 := by omega
            have n93 : z_Ar M84 48 = z_nrs 0 [2, 10, 20] (z_Ar M0 48) := by rw [h86, n73, h94]; rfl
            refine z_xP zt277 10 56 [some (.ref 19), some (.int 1), some (.int p3)] [.int 1, .ref 19] rfl rfl ?_
            refine z_xcS (vs := [.int 1]) (r := [.ref 19]) (L2 := [some (.int 1)]) zt277 11 rfl zo277 zzcS12_390 (Or.inl rfl) (Nat.le_of_ble_eq_true rfl) rfl rfl (Nat.le_of_ble_eq_true rfl) zzm279 (Nat.le_of_ble_eq_true rfl) rfl ?_
            refine z_xP zt279 0 2 [some (.int 1)] [.int 2, .int 1] rfl rfl ?_
            refine z_xJ zt279 1 rfl rfl (fun (h95 : (1 : Int) = 2) => absurd h95 (by omega)) (fun (h95 : (1 : Int) ≠ 2) => ?_)
            refine z_xP zt279 2 7 [some (.int 1)] [.int 3, .int 1] rfl rfl ?_
            refine z_xJ zt279 3 rfl rfl (fun (h96 : (1 : Int) ≠ 3) => ?_) (fun (h96 : (1 : Int) = 3) => absurd h96 (by omega))
            refine z_xP zt279 5 17 [some (.int 1)] [.int 6, .int 1] rfl rfl ?_
            refine z_xJ zt279 6 rfl rfl (fun (h97 : (1 : Int) ≠ 6) => ?_) (fun (h97 : (1 : Int) = 6) => absurd h97 (by omega))
            refine z_xP zt279 8 25 [some (.int 1)] [.int 0] rfl rfl ?_
            refine z_xri zt279 9 rfl zzr279 ?_
            show z_ev (d + 33) 277 59 [some (.ref 19), some (.int 1), some (.int p3)] [.int 0, .ref 19] M84 _
            refine z_xP zt277 12 60 [some (.ref 19), some (.int 1), some (.int p3)] [.int p3, .int 0, .ref 19] rfl rfl ?_
            refine z_xcV (vs := [.ref 19, .int 0, .int p3]) (r := []) (L2 := [some (.ref 19), some (.int 0), some (.int p3)]) zt277 13 rfl zo277 zzcV12_393 (Or.inl rfl) rfl X91 f19 rfl rfl rfl (Nat.le_of_ble_eq_true rfl) zzm277 (Nat.le_of_ble_eq_true rfl) rfl ?_
            refine z_xP zt277 0 1 [some (.ref 19), some (.int 0), some (.int p3)] [.int 0] rfl rfl ?_
            refine z_xSW zt277 1 36 rfl rfl ?_
            refine z_xP zt277 2 38 [some (.ref 19), some (.int 0), some (.int p3)] [.int 1, .ref 19] rfl rfl ?_
            refine z_xcV (vs := [.ref 19, .int 1]) (r := []) (L2 := [some (.ref 19), some (.int 1)]) zt277 3 rfl zo277 zzcV12_384 (Or.inl rfl) rfl X91 f19 rfl rfl rfl (Nat.le_of_ble_eq_true rfl) zzm278 (Nat.le_of_ble_eq_true rfl) rfl ?_
            have q1 : ((1 : Int32)).toInt = 1 := rfl
            have q1 : ((1 : Int32)).toInt = 1 := rfl
            refine zNC278 X91.1 h88 ⟨by omega, by omega⟩ (fun M98 X99 h100 z101 h102 h103 h104 => ?_)
            have X105 := X91.go X99 (z_sb (by decide))
            show z_ev (d + 32) 277 41 [some (.ref 19), some (.int 0), some (.int p3)] [] M98 _
            have h108 : (z87 : Int32).toInt.toNat = 3 := by omega
            have n107 : z_Ar M98 48 = z_nrs 0 [2, 10, 20, 1] (z_Ar M0 48) := by rw [h100, n93, h108]; rfl
            refine z_xP zt277 4 43 [some (.ref 19), some (.int 0), some (.int p3)] [.ref 19, .int p3] rfl rfl ?_
            have h109 := (X99.2.f f19 (by decide) (X85.2.f f19 (by decide) h75))
            refine z_xgv zt277 5 rfl zo277 zzf12_387 X105 f19 (by decide) h109 ?_
            have h110 := z_b32 p3
            refine z_xI zt277 6 rfl rfl (fun (x111 : Int32) (h112 : x111 = p3 + p1) => ?_) (rfl)
            refine z_xri zt277 7 rfl zzr277 ?_
            show z_ev (d + 33) 277 63 [some (.ref 19), some (.int 1), some (.int p3)] [.int x111] M98 _
            refine z_xP zt277 14 64 [some (.ref 19), some (.int 1), some (.int p3)] [.int 1, .int x111] rfl rfl ?_
            have h113 := z_b32 x111
            refine z_xI zt277 15 rfl rfl (fun (x114 : Int32) (h115 : x114 = x111 - 1) => ?_) (rfl)
            refine z_xri zt277 16 rfl zzr277 ?_
            show z_ev (d + 34) 277 93 [some (.ref 19), some (.int x76), some (.int p3)] [.int x114] M98 _
            refine z_xri zt277 30 rfl zzr277 ?_
            show z_ev (d + 35) 280 64 [some (.ref 19), some (.int 0), some (.int p3), none] [.int x114] M98 _
            refine z_xP zt280 11 65 [some (.ref 19), some (.int 0), some (.int p3), none] [.int 2, .int x114] rfl rfl ?_
            have h116 := z_b32 x114
            refine z_xI zt280 12 rfl rfl (fun (x117 : Int32) (h118 : x117 = x114 * 2) => ?_) (rfl)
            refine z_xri zt280 13 rfl zzr280 ?_
            show z_ev (d + 36) 280 153 [some (.ref 19), some (.int 1), some (.int p3), none] [.int x117] M98 _
            refine z_xri zt280 54 rfl zzr280 ?_
            show z_ev (d + 37) 280 153 [some (.ref 19), some (.int x53), some (.int p3), none] [.int x117] M98 _
            refine z_xri zt280 54 rfl zzr280 ?_
            show z_ev (d + 38) 282 55 [some (.ref 19), some (.int 0), some (.int p3), some (.int 0)] [.int x117] M98 _
            refine z_xP zt282 11 59 [some (.ref 19), some (.int 0), some (.int p3), some (.int x117)] [.ref 19, .ref 19, .int x117] rfl rfl ?_
            refine z_xgX (b := 36) zt282 12 rfl zo282 zzf12_58 X105 f19 (by decide) (by decide) rfl ?_
            refine z_xP zt282 13 63 [some (.ref 19), some (.int 0), some (.int p3), some (.int x117)] [.ref 19, .ref 36, .ref 19, .int x117] rfl rfl ?_
            refine z_xgv zt282 14 rfl zo282 zzf12_387 X105 f19 (by decide) h109 ?_
            refine z_xil zt282 15 rfl X105 f36 (by decide) (by omega) (by omega) (fun (x119 : Int32) h120 (h121 : 0 ≤ x119.toInt) (h122 : x119.toInt ≤ 7) => ?_)
            have h123 := congrArg Int32.toInt (h120.symm.trans ((congrFun (X99.2.a f36 (by decide)) _).trans ((congrFun (X85.2.a f36 (by decide)) _).trans ((congrFun (X65.2.a f36 (by decide)) _).trans ((congrFun (X41.2.a f36 (by decide)) _).trans ((congrFun (e24.a f36 (by decide)) _).trans ((congrFun (e3.a f36 (by decide)) _).trans hk36)))))))
            refine z_xP zt282 16 68 [some (.ref 19), some (.int 0), some (.int p3), some (.int x117)] [.int 1, .int x119, .ref 19, .int x117] rfl rfl ?_
            refine z_xcV (vs := [.ref 19, .int x119, .int 1]) (r := [.int x117]) (L2 := [some (.ref 19), some (.int x119), some (.int 1)]) zt282 17 rfl zo282 zzcV12_399 (Or.inl rfl) rfl X105 f19 rfl rfl rfl (Nat.le_of_ble_eq_true rfl) zzm281 (Nat.le_of_ble_eq_true rfl) rfl ?_
            refine z_xP zt281 0 1 [some (.ref 19), some (.int x119), some (.int 1)] [.int x119] rfl rfl ?_
            by_cases h124 : x119.toInt = 3
            · refine z_xSC zt281 1 (z_sub (k := 3) h124 rfl) 49 rfl rfl ?_
              refine z_xP zt281 8 52 [some (.ref 19), some (.int x119), some (.int 1)] [.int 40, .ref 19] rfl rfl ?_
              refine z_xcV (vs := [.ref 19, .int 40]) (r := []) (L2 := [some (.ref 19), some (.int 40)]) zt281 9 rfl zo281 zzcV12_384 (Or.inl rfl) rfl X105 f19 rfl rfl rfl (Nat.le_of_ble_eq_true rfl) zzm278 (Nat.le_of_ble_eq_true rfl) rfl ?_
              have q40 : ((40 : Int32)).toInt = 40 := rfl
              have q40 : ((40 : Int32)).toInt = 40 := rfl
              refine zNC278 X105.1 h102 ⟨by omega, by omega⟩ (fun M125 X126 h127 z128 h129 h130 h131 => ?_)
              have X132 := X105.go X126 (z_sb (by decide))
              show z_ev (d + 37) 281 55 [some (.ref 19), some (.int x119), some (.int 1)] [] M125 _
              have h135 : (z101 : Int32).toInt.toNat = 4 := by omega
              have n134 : z_Ar M125 48 = z_nrs 0 [2, 10, 20, 1, 40] (z_Ar M0 48) := by rw [h127, n107, h135]; rfl
              refine z_xP zt281 10 57 [some (.ref 19), some (.int x119), some (.int 1)] [.int 3, .ref 19] rfl rfl ?_
              refine z_xcS (vs := [.int 3]) (r := [.ref 19]) (L2 := [some (.int 3)]) zt281 11 rfl zo281 zzcS12_390 (Or.inl rfl) (Nat.le_of_ble_eq_true rfl) rfl rfl (Nat.le_of_ble_eq_true rfl) zzm279 (Nat.le_of_ble_eq_true rfl) rfl ?_
              refine z_xP zt279 0 2 [some (.int 3)] [.int 2, .int 3] rfl rfl ?_
              refine z_xJ zt279 1 rfl rfl (fun (h136 : (3 : Int) = 2) => absurd h136 (by omega)) (fun (h136 : (3 : Int) ≠ 2) => ?_)
              refine z_xP zt279 2 7 [some (.int 3)] [.int 3, .int 3] rfl rfl ?_
              refine z_xJ zt279 3 rfl rfl (fun (h137 : (3 : Int) ≠ 3) => absurd h137 (by omega)) (fun (h137 : (3 : Int) = 3) => ?_)
              refine z_xP zt279 4 25 [some (.int 3)] [.int 1] rfl rfl ?_
              refine z_xri zt279 9 rfl zzr279 ?_
              show z_ev (d + 37) 281 60 [some (.ref 19), some (.int x119), some (.int 1)] [.int 1, .ref 19] M125 _
              refine z_xP zt281 12 61 [some (.ref 19), some (.int x119), some (.int 1)] [.int 1, .int 1, .ref 19] rfl rfl ?_
              refine z_xcV (vs := [.ref 19, .int 1, .int 1]) (r := []) (L2 := [some (.ref 19), some (.int 1), some (.int 1)]) zt281 13 rfl zo281 zzcV12_399 (Or.inl rfl) rfl X132 f19 rfl rfl rfl (Nat.le_of_ble_eq_true rfl) zzm281 (Nat.le_of_ble_eq_true rfl) rfl ?_
              refine z_xP zt281 0 1 [some (.ref 19), some (.int 1), some (.int 1)] [.int 1] rfl rfl ?_
              refine z_xSW zt281 1 86 rfl rfl ?_
              refine z_xP zt281 25 88 [some (.ref 19), some (.int 1), some (.int 1)] [.int 1, .ref 19] rfl rfl ?_
              refine z_xcS (vs := [.int 1]) (r := [.ref 19]) (L2 := [some (.int 1)]) zt281 26 rfl zo281 zzcS12_390 (Or.inl rfl) (Nat.le_of_ble_eq_true rfl) rfl rfl (Nat.le_of_ble_eq_true rfl) zzm279 (Nat.le_of_ble_eq_true rfl) rfl ?_
              refine z_xP zt279 0 2 [some (.int 1)] [.int 2, .int 1] rfl rfl ?_
              refine z_xJ zt279 1 rfl rfl (fun (h138 : (1 : Int) = 2) => absurd h138 (by omega)) (fun (h138 : (1 : Int) ≠ 2) => ?_)
              refine z_xP zt279 2 7 [some (.int 1)] [.int 3, .int 1] rfl rfl ?_
              refine z_xJ zt279 3 rfl rfl (fun (h139 : (1 : Int) ≠ 3) => ?_) (fun (h139 : (1 : Int) = 3) => absurd h139 (by omega))
              refine z_xP zt279 5 17 [some (.int 1)] [.int 6, .int 1] rfl rfl ?_
              refine z_xJ zt279 6 rfl rfl (fun (h140 : (1 : Int) ≠ 6) => ?_) (fun (h140 : (1 : Int) = 6) => absurd h140 (by omega))
              refine z_xP zt279 8 25 [some (.int 1)] [.int 0] rfl rfl ?_
              refine z_xri zt279 9 rfl zzr279 ?_
              show z_ev (d + 36) 281 91 [some (.ref 19), some (.int 1), some (.int 1)] [.int 0, .ref 19] M125 _
              refine z_xP zt281 27 92 [some (.ref 19), some (.int 1), some (.int 1)] [.int 1, .int 0, .ref 19] rfl rfl ?_
              refine z_xcV (vs := [.ref 19, .int 0, .int 1]) (r := []) (L2 := [some (.ref 19), some (.int 0), some (.int 1)]) zt281 28 rfl zo281 zzcV12_399 (Or.inl rfl) rfl X132 f19 rfl rfl rfl (Nat.le_of_ble_eq_true rfl) zzm281 (Nat.le_of_ble_eq_true rfl) rfl ?_
              refine z_xP zt281 0 1 [some (.ref 19), some (.int 0), some (.int 1)] [.int 0] rfl rfl ?_
              refine z_xSW zt281 1 36 rfl rfl ?_
              refine z_xP zt281 2 39 [some (.ref 19), some (.int 0), some (.int 1)] [.int 11, .ref 19] rfl rfl ?_
              refine z_xcV (vs := [.ref 19, .int 11]) (r := []) (L2 := [some (.ref 19), some (.int 11)]) zt281 3 rfl zo281 zzcV12_384 (Or.inl rfl) rfl X132 f19 rfl rfl rfl (Nat.le_of_ble_eq_true rfl) zzm278 (Nat.le_of_ble_eq_true rfl) rfl ?_
              have q11 : ((11 : Int32)).toInt = 11 := rfl
              have q11 : ((11 : Int32)).toInt = 11 := rfl
              refine zNC278 X132.1 h129 ⟨by omega, by omega⟩ (fun M141 X142 h143 z144 h145 h146 h147 => ?_)
              have X148 := X132.go X142 (z_sb (by decide))
              show z_ev (d + 35) 281 42 [some (.ref 19), some (.int 0), some (.int 1)] [] M141 _
              have h151 : (z128 : Int32).toInt.toNat = 5 := by omega
              have n150 : z_Ar M141 48 = z_nrs 0 [2, 10, 20, 1, 40, 11] (z_Ar M0 48) := by rw [h143, n134, h151]; rfl
              refine z_xP zt281 4 44 [some (.ref 19), some (.int 0), some (.int 1)] [.ref 19, .int 1] rfl rfl ?_
              have h152 := (X142.2.f f19 (by decide) (X126.2.f f19 (by decide) h109))
              refine z_xgv zt281 5 rfl zo281 zzf12_387 X148 f19 (by decide) h152 ?_
              refine z_xI zt281 6 rfl rfl (fun (x153 : Int32) (h154 : x153 = 1 ^^^ p1) => ?_) (rfl)
              refine z_xri zt281 7 rfl zzr281 ?_
              show z_ev (d + 36) 281 95 [some (.ref 19), some (.int 1), some (.int 1)] [.int x153] M141 _
              refine z_xri zt281 29 rfl zzr281 ?_
              show z_ev (d + 37) 281 64 [some (.ref 19), some (.int x119), some (.int 1)] [.int x153] M141 _
              refine z_xP zt281 14 65 [some (.ref 19), some (.int x119), some (.int 1)] [.int 3, .int x153] rfl rfl ?_
              have h155 := z_b32 x153
              refine z_xI zt281 15 rfl rfl (fun (x156 : Int32) (h157 : x156 = x153 * 3) => ?_) (rfl)
              refine z_xri zt281 16 rfl zzr281 ?_
              show z_ev (d + 38) 282 71 [some (.ref 19), some (.int 0), some (.int p3), some (.int x117)] [.int x156, .int x117] M141 _
              have h158 := z_b32 x117
              have h159 := z_b32 x156
              refine z_xI zt282 18 rfl rfl (fun (x160 : Int32) (h161 : x160 = x117 - x156) => ?_) (rfl)
              refine z_xri zt282 19 rfl zzr282 ?_
              show z_ev (d + 39) 282 140 [some (.ref 19), some (.int 1), some (.int p3), some (.int 0)] [.int x160] M141 _
              refine z_xri zt282 51 rfl zzr282 ?_
              show z_ev (d + 40) 282 140 [some (.ref 19), some (.int x29), some (.int p3), some (.int 0)] [.int x160] M141 _
              refine z_xri zt282 51 rfl zzr282 ?_
              show z_ev (d + 41) 276 99 [some (.ref 19), some (.int p1), some (.int p2), some (.int p3)] [.int x160] M141 _
              exact z_xri zt276 48 rfl zzr276 (kk x160 M141 X148 (fun hq => by exfalso; omega) (fun hq => by exfalso; omega) (fun hq => by exfalso; omega) (fun _ => ⟨(by rw [h161, h157, h154, h118, h115, h112]), n150, _, h145, by omega⟩) (fun hq => by exfalso; omega))
            exfalso; omega
          exfalso; omega
        exfalso; omega
      refine z_xP zt276 35 76 [some (.ref 19), some (.int p1), some (.int p2), some (.int p3)] [.ref 19, .ref 19] rfl rfl ?_
      refine z_xgX (b := 36) zt276 36 rfl zo276 zzf12_58 X23 f19 (by decide) (by decide) rfl ?_
      refine z_xP zt276 37 80 [some (.ref 19), some (.int p1), some (.int p2), some (.int p3)] [.int p1, .ref 36, .ref 19] rfl rfl ?_
      have f36 : T[36]? = some (.inr (36, 0, 20, 0, 7)) := X23.1.k rfl (by decide)
      refine z_xil zt276 38 rfl X23 f36 (by decide) (by omega) (by omega) (fun (x162 : Int32) h163 (h164 : 0 ≤ x162.toInt) (h165 : x162.toInt ≤ 7) => ?_)
      have h166 := congrArg Int32.toInt (h163.symm.trans ((congrFun (e24.a f36 (by decide)) _).trans ((congrFun (e3.a f36 (by decide)) _).trans hk36)))
      refine z_xP zt276 39 82 [some (.ref 19), some (.int p1), some (.int p2), some (.int p3)] [.int p3, .int x162, .ref 19] rfl rfl ?_
      refine z_xcV (vs := [.ref 19, .int x162, .int p3]) (r := []) (L2 := [some (.ref 19), some (.int x162), some (.int p3)]) zt276 40 rfl zo276 zzcV12_399 (Or.inl rfl) rfl X23 f19 rfl rfl rfl (Nat.le_of_ble_eq_true rfl) zzm281 (Nat.le_of_ble_eq_true rfl) rfl ?_
      refine z_xP zt281 0 1 [some (.ref 19), some (.int x162), some (.int p3)] [.int x162] rfl rfl ?_
      by_cases h167 : x162.toInt = 3
      · refine z_xSC zt281 1 (z_sub (k := 3) h167 rfl) 49 rfl rfl ?_
        refine z_xP zt281 8 52 [some (.ref 19), some (.int x162), some (.int p3)] [.int 40, .ref 19] rfl rfl ?_
        refine z_xcV (vs := [.ref 19, .int 40]) (r := []) (L2 := [some (.ref 19), some (.int 40)]) zt281 9 rfl zo281 zzcV12_384 (Or.inl rfl) rfl X23 f19 rfl rfl rfl (Nat.le_of_ble_eq_true rfl) zzm278 (Nat.le_of_ble_eq_true rfl) rfl ?_
        have q40 : ((40 : Int32)).toInt = 40 := rfl
        have h168 := (e24.f f19 (by decide) h4)
        have q0 : ((0 : Int32)).toInt = 0 := rfl
        have q40 : ((40 : Int32)).toInt = 40 := rfl
        refine zNC278 X23.1 h168 ⟨by omega, by omega⟩ (fun M169 X170 h171 z172 h173 h174 h175 => ?_)
        have X176 := X23.go X170 (z_sb (by decide))
        show z_ev (d + 40) 281 55 [some (.ref 19), some (.int x162), some (.int p3)] [] M169 _
        have f48 : T[48]? = some (.inr (48, 0, 24, (-2147483648), 2147483647)) := X176.1.k rfl (by decide)
        have n178 : z_Ar M22 48 = z_Ar M0 48 := ((e24.a f48 (by decide)).trans (e3.a f48 (by decide)))
        have h180 : (0 : Int32).toInt.toNat = 0 := by omega
        have n179 : z_Ar M169 48 = z_nrs 0 [40] (z_Ar M0 48) := by rw [h171, n178, h180]; rfl
        refine z_xP zt281 10 57 [some (.ref 19), some (.int x162), some (.int p3)] [.int 3, .ref 19] rfl rfl ?_
        refine z_xcS (vs := [.int 3]) (r := [.ref 19]) (L2 := [some (.int 3)]) zt281 11 rfl zo281 zzcS12_390 (Or.inl rfl) (Nat.le_of_ble_eq_true rfl) rfl rfl (Nat.le_of_ble_eq_true rfl) zzm279 (Nat.le_of_ble_eq_true rfl) rfl ?_
        refine z_xP zt279 0 2 [some (.int 3)] [.int 2, .int 3] rfl rfl ?_
        refine z_xJ zt279 1 rfl rfl (fun (h181 : (3 : Int) = 2) => absurd h181 (by omega)) (fun (h181 : (3 : Int) ≠ 2) => ?_)
        refine z_xP zt279 2 7 [some (.int 3)] [.int 3, .int 3] rfl rfl ?_
        refine z_xJ zt279 3 rfl rfl (fun (h182 : (3 : Int) ≠ 3) => absurd h182 (by omega)) (fun (h182 : (3 : Int) = 3) => ?_)
        refine z_xP zt279 4 25 [some (.int 3)] [.int 1] rfl rfl ?_
        refine z_xri zt279 9 rfl zzr279 ?_
        show z_ev (d + 40) 281 60 [some (.ref 19), some (.int x162), some (.int p3)] [.int 1, .ref 19] M169 _
        refine z_xP zt281 12 61 [some (.ref 19), some (.int x162), some (.int p3)] [.int p3, .int 1, .ref 19] rfl rfl ?_
        refine z_xcV (vs := [.ref 19, .int 1, .int p3]) (r := []) (L2 := [some (.ref 19), some (.int 1), some (.int p3)]) zt281 13 rfl zo281 zzcV12_399 (Or.inl rfl) rfl X176 f19 rfl rfl rfl (Nat.le_of_ble_eq_true rfl) zzm281 (Nat.le_of_ble_eq_true rfl) rfl ?_
        refine z_xP zt281 0 1 [some (.ref 19), some (.int 1), some (.int p3)] [.int 1] rfl rfl ?_
        refine z_xSW zt281 1 86 rfl rfl ?_
        refine z_xP zt281 25 88 [some (.ref 19), some (.int 1), some (.int p3)] [.int 1, .ref 19] rfl rfl ?_
        refine z_xcS (vs := [.int 1]) (r := [.ref 19]) (L2 := [some (.int 1)]) zt281 26 rfl zo281 zzcS12_390 (Or.inl rfl) (Nat.le_of_ble_eq_true rfl) rfl rfl (Nat.le_of_ble_eq_true rfl) zzm279 (Nat.le_of_ble_eq_true rfl) rfl ?_
        refine z_xP zt279 0 2 [some (.int 1)] [.int 2, .int 1] rfl rfl ?_
        refine z_xJ zt279 1 rfl rfl (fun (h183 : (1 : Int) = 2) => absurd h183 (by omega)) (fun (h183 : (1 : Int) ≠ 2) => ?_)
        refine z_xP zt279 2 7 [some (.int 1)] [.int 3, .int 1] rfl rfl ?_
        refine z_xJ zt279 3 rfl rfl (fun (h184 : (1 : Int) ≠ 3) => ?_) (fun (h184 : (1 : Int) = 3) => absurd h184 (by omega))
        refine z_xP zt279 5 17 [some (.int 1)] [.int 6, .int 1] rfl rfl ?_
        refine z_xJ zt279 6 rfl rfl (fun (h185 : (1 : Int) ≠ 6) => ?_) (fun (h185 : (1 : Int) = 6) => absurd h185 (by omega))
        refine z_xP zt279 8 25 [some (.int 1)] [.int 0] rfl rfl ?_
        refine z_xri zt279 9 rfl zzr279 ?_
        show z_ev (d + 39) 281 91 [some (.ref 19), some (.int 1), some (.int p3)] [.int 0, .ref 19] M169 _
        refine z_xP zt281 27 92 [some (.ref 19), some (.int 1), some (.int p3)] [.int p3, .int 0, .ref 19] rfl rfl ?_
        refine z_xcV (vs := [.ref 19, .int 0, .int p3]) (r := []) (L2 := [some (.ref 19), some (.int 0), some (.int p3)]) zt281 28 rfl zo281 zzcV12_399 (Or.inl rfl) rfl X176 f19 rfl rfl rfl (Nat.le_of_ble_eq_true rfl) zzm281 (Nat.le_of_ble_eq_true rfl) rfl ?_
        refine z_xP zt281 0 1 [some (.ref 19), some (.int 0), some (.int p3)] [.int 0] rfl rfl ?_
        refine z_xSW zt281 1 36 rfl rfl ?_
        refine z_xP zt281 2 39 [some (.ref 19), some (.int 0), some (.int p3)] [.int 11, .ref 19] rfl rfl ?_
        refine z_xcV (vs := [.ref 19, .int 11]) (r := []) (L2 := [some (.ref 19), some (.int 11)]) zt281 3 rfl zo281 zzcV12_384 (Or.inl rfl) rfl X176 f19 rfl rfl rfl (Nat.le_of_ble_eq_true rfl) zzm278 (Nat.le_of_ble_eq_true rfl) rfl ?_
        have q11 : ((11 : Int32)).toInt = 11 := rfl
        have q11 : ((11 : Int32)).toInt = 11 := rfl
        refine zNC278 X176.1 h173 ⟨by omega, by omega⟩ (fun M186 X187 h188 z189 h190 h191 h192 => ?_)
        have X193 := X176.go X187 (z_sb (by decide))
        show z_ev (d + 38) 281 42 [some (.ref 19), some (.int 0), some (.int p3)] [] M186 _
        have h196 : (z172 : Int32).toInt.toNat = 1 := by omega
        have n195 : z_Ar M186 48 = z_nrs 0 [40, 11] (z_Ar M0 48) := by rw [h188, n179, h196]; rfl
        refine z_xP zt281 4 44 [some (.ref 19), some (.int 0), some (.int p3)] [.ref 19, .int p3] rfl rfl ?_
        have h197 := (X187.2.f f19 (by decide) (X170.2.f f19 (by decide) h25))
        refine z_xgv zt281 5 rfl zo281 zzf12_387 X193 f19 (by decide) h197 ?_
        refine z_xI zt281 6 rfl rfl (fun (x198 : Int32) (h199 : x198 = p3 ^^^ p1) => ?_) (rfl)
        refine z_xri zt281 7 rfl zzr281 ?_
        show z_ev (d + 39) 281 95 [some (.ref 19), some (.int 1), some (.int p3)] [.int x198] M186 _
        refine z_xri zt281 29 rfl zzr281 ?_
        show z_ev (d + 40) 281 64 [some (.ref 19), some (.int x162), some (.int p3)] [.int x198] M186 _
        refine z_xP zt281 14 65 [some (.ref 19), some (.int x162), some (.int p3)] [.int 3, .int x198] rfl rfl ?_
        have h200 := z_b32 x198
        refine z_xI zt281 15 rfl rfl (fun (x201 : Int32) (h202 : x201 = x198 * 3) => ?_) (rfl)
        refine z_xri zt281 16 rfl zzr281 ?_
        show z_ev (d + 41) 276 85 [some (.ref 19), some (.int p1), some (.int p2), some (.int p3)] [.int x201] M186 _
        refine z_xP zt276 41 99 [some (.ref 19), some (.int p1), some (.int p2), some (.int p3)] [.int x201] rfl rfl ?_
        exact z_xri zt276 48 rfl zzr276 (kk x201 M186 X193 (fun hq => by exfalso; omega) (fun hq => by exfalso; omega) (fun _ => ⟨(by rw [h202, h199]), n195, _, h190, by omega⟩) (fun hq => by exfalso; omega) (fun hq => by exfalso; omega))
      exfalso; omega
    refine z_xP zt276 26 57 [some (.ref 19), some (.int p1), some (.int p2), some (.int p3)] [.ref 19, .ref 19] rfl rfl ?_
    refine z_xgX (b := 36) zt276 27 rfl zo276 zzf12_58 X23 f19 (by decide) (by decide) rfl ?_
    refine z_xP zt276 28 61 [some (.ref 19), some (.int p1), some (.int p2), some (.int p3)] [.int p1, .ref 36, .ref 19] rfl rfl ?_
    have f36 : T[36]? = some (.inr (36, 0, 20, 0, 7)) := X23.1.k rfl (by decide)
    refine z_xil zt276 29 rfl X23 f36 (by decide) (by omega) (by omega) (fun (x203 : Int32) h204 (h205 : 0 ≤ x203.toInt) (h206 : x203.toInt ≤ 7) => ?_)
    have h207 := congrArg Int32.toInt (h204.symm.trans ((congrFun (e24.a f36 (by decide)) _).trans ((congrFun (e3.a f36 (by decide)) _).trans hk36)))
    refine z_xP zt276 30 63 [some (.ref 19), some (.int p1), some (.int p2), some (.int p3)] [.int p3, .int x203, .ref 19] rfl rfl ?_
    refine z_xcV (vs := [.ref 19, .int x203, .int p3]) (r := []) (L2 := [some (.ref 19), some (.int x203), some (.int p3), none]) zt276 31 rfl zo276 zzcV12_396 (Or.inl rfl) rfl X23 f19 rfl rfl rfl (Nat.le_of_ble_eq_true rfl) zzm280 (Nat.le_of_ble_eq_true rfl) rfl ?_
    refine z_xP zt280 0 1 [some (.ref 19), some (.int x203), some (.int p3), none] [.int x203] rfl rfl ?_
    by_cases h208 : x203.toInt = 3
    · refine z_xSC zt280 1 (z_sub (k := 3) h208 rfl) 144 rfl rfl ?_
      refine z_xP zt280 50 146 [some (.ref 19), some (.int x203), some (.int p3), none] [.int x203, .ref 19] rfl rfl ?_
      refine z_xcS (vs := [.int x203]) (r := [.ref 19]) (L2 := [some (.int x203)]) zt280 51 rfl zo280 zzcS12_390 (Or.inl rfl) (Nat.le_of_ble_eq_true rfl) rfl rfl (Nat.le_of_ble_eq_true rfl) zzm279 (Nat.le_of_ble_eq_true rfl) rfl ?_
      refine z_xP zt279 0 2 [some (.int x203)] [.int 2, .int x203] rfl rfl ?_
      refine z_xJ zt279 1 rfl rfl (fun (h209 : x203.toInt = 2) => absurd h209 (by omega)) (fun (h209 : x203.toInt ≠ 2) => ?_)
      refine z_xP zt279 2 7 [some (.int x203)] [.int 3, .int x203] rfl rfl ?_
      refine z_xJ zt279 3 rfl rfl (fun (h210 : x203.toInt ≠ 3) => absurd h210 (by omega)) (fun (h210 : x203.toInt = 3) => ?_)
      refine z_xP zt279 4 25 [some (.int x203)] [.int 1] rfl rfl ?_
      refine z_xri zt279 9 rfl zzr279 ?_
      show z_ev (d + 40) 280 149 [some (.ref 19), some (.int x203), some (.int p3), none] [.int 1, .ref 19] M22 _
      refine z_xP zt280 52 150 [some (.ref 19), some (.int x203), some (.int p3), none] [.int p3, .int 1, .ref 19] rfl rfl ?_
      refine z_xcV (vs := [.ref 19, .int 1, .int p3]) (r := []) (L2 := [some (.ref 19), some (.int 1), some (.int p3), none]) zt280 53 rfl zo280 zzcV12_396 (Or.inl rfl) rfl X23 f19 rfl rfl rfl (Nat.le_of_ble_eq_true rfl) zzm280 (Nat.le_of_ble_eq_true rfl) rfl ?_
      refine z_xP zt280 0 1 [some (.ref 19), some (.int 1), some (.int p3), none] [.int 1] rfl rfl ?_
      refine z_xSW zt280 1 144 rfl rfl ?_
      refine z_xP zt280 50 146 [some (.ref 19), some (.int 1), some (.int p3), none] [.int 1, .ref 19] rfl rfl ?_
      refine z_xcS (vs := [.int 1]) (r := [.ref 19]) (L2 := [some (.int 1)]) zt280 51 rfl zo280 zzcS12_390 (Or.inl rfl) (Nat.le_of_ble_eq_true rfl) rfl rfl (Nat.le_of_ble_eq_true rfl) zzm279 (Nat.le_of_ble_eq_true rfl) rfl ?_
      refine z_xP zt279 0 2 [some (.int 1)] [.int 2, .int 1] rfl rfl ?_
      refine z_xJ zt279 1 rfl rfl (fun (h211 : (1 : Int) = 2) => absurd h211 (by omega)) (fun (h211 : (1 : Int) ≠ 2) => ?_)
      refine z_xP zt279 2 7 [some (.int 1)] [.int 3, .int 1] rfl rfl ?_
      refine z_xJ zt279 3 rfl rfl (fun (h212 : (1 : Int) ≠ 3) => ?_) (fun (h212 : (1 : Int) = 3) => absurd h212 (by omega))
      refine z_xP zt279 5 17 [some (.int 1)] [.int 6, .int 1] rfl rfl ?_
      refine z_xJ zt279 6 rfl rfl (fun (h213 : (1 : Int) ≠ 6) => ?_) (fun (h213 : (1 : Int) = 6) => absurd h213 (by omega))
      refine z_xP zt279 8 25 [some (.int 1)] [.int 0] rfl rfl ?_
      refine z_xri zt279 9 rfl zzr279 ?_
      show z_ev (d + 39) 280 149 [some (.ref 19), some (.int 1), some (.int p3), none] [.int 0, .ref 19] M22 _
      refine z_xP zt280 52 150 [some (.ref 19), some (.int 1), some (.int p3), none] [.int p3, .int 0, .ref 19] rfl rfl ?_
      refine z_xcV (vs := [.ref 19, .int 0, .int p3]) (r := []) (L2 := [some (.ref 19), some (.int 0), some (.int p3), none]) zt280 53 rfl zo280 zzcV12_396 (Or.inl rfl) rfl X23 f19 rfl rfl rfl (Nat.le_of_ble_eq_true rfl) zzm280 (Nat.le_of_ble_eq_true rfl) rfl ?_
      refine z_xP zt280 0 1 [some (.ref 19), some (.int 0), some (.int p3), none] [.int 0] rfl rfl ?_
      refine z_xSW zt280 1 44 rfl rfl ?_
      refine z_xP zt280 2 47 [some (.ref 19), some (.int 0), some (.int p3), none] [.int 10, .ref 19] rfl rfl ?_
      refine z_xcV (vs := [.ref 19, .int 10]) (r := []) (L2 := [some (.ref 19), some (.int 10)]) zt280 3 rfl zo280 zzcV12_384 (Or.inl rfl) rfl X23 f19 rfl rfl rfl (Nat.le_of_ble_eq_true rfl) zzm278 (Nat.le_of_ble_eq_true rfl) rfl ?_
      have q10 : ((10 : Int32)).toInt = 10 := rfl
      have h214 := (e24.f f19 (by decide) h4)
      have q0 : ((0 : Int32)).toInt = 0 := rfl
      have q10 : ((10 : Int32)).toInt = 10 := rfl
      refine zNC278 X23.1 h214 ⟨by omega, by omega⟩ (fun M215 X216 h217 z218 h219 h220 h221 => ?_)
      have X222 := X23.go X216 (z_sb (by decide))
      show z_ev (d + 38) 280 50 [some (.ref 19), some (.int 0), some (.int p3), none] [] M215 _
      have f48 : T[48]? = some (.inr (48, 0, 24, (-2147483648), 2147483647)) := X222.1.k rfl (by decide)
      have n224 : z_Ar M22 48 = z_Ar M0 48 := ((e24.a f48 (by decide)).trans (e3.a f48 (by decide)))
      have h226 : (0 : Int32).toInt.toNat = 0 := by omega
      have n225 : z_Ar M215 48 = z_nrs 0 [10] (z_Ar M0 48) := by rw [h217, n224, h226]; rfl
      refine z_xP zt280 4 52 [some (.ref 19), some (.int 0), some (.int p3), none] [.ref 19, .ref 19] rfl rfl ?_
      refine z_xgX (b := 36) zt280 5 rfl zo280 zzf12_58 X222 f19 (by decide) (by decide) rfl ?_
      refine z_xP zt280 6 56 [some (.ref 19), some (.int 0), some (.int p3), none] [.ref 19, .ref 36, .ref 19] rfl rfl ?_
      have h227 := (X216.2.f f19 (by decide) h25)
      refine z_xgv zt280 7 rfl zo280 zzf12_387 X222 f19 (by decide) h227 ?_
      refine z_xil zt280 8 rfl X222 f36 (by decide) (by omega) (by omega) (fun (x228 : Int32) h229 (h230 : 0 ≤ x228.toInt) (h231 : x228.toInt ≤ 7) => ?_)
      have h232 := congrArg Int32.toInt (h229.symm.trans ((congrFun (X216.2.a f36 (by decide)) _).trans ((congrFun (e24.a f36 (by decide)) _).trans ((congrFun (e3.a f36 (by decide)) _).trans hk36))))
      refine z_xP zt280 9 61 [some (.ref 19), some (.int 0), some (.int p3), none] [.int p3, .int x228, .ref 19] rfl rfl ?_
      refine z_xcV (vs := [.ref 19, .int x228, .int p3]) (r := []) (L2 := [some (.ref 19), some (.int x228), some (.int p3)]) zt280 10 rfl zo280 zzcV12_393 (Or.inl rfl) rfl X222 f19 rfl rfl rfl (Nat.le_of_ble_eq_true rfl) zzm277 (Nat.le_of_ble_eq_true rfl) rfl ?_
      refine z_xP zt277 0 1 [some (.ref 19), some (.int x228), some (.int p3)] [.int x228] rfl rfl ?_
      by_cases h233 : x228.toInt = 3
      · refine z_xSC zt277 1 (z_sub (k := 3) h233 rfl) 84 rfl rfl ?_
        refine z_xP zt277 26 86 [some (.ref 19), some (.int x228), some (.int p3)] [.int x228, .ref 19] rfl rfl ?_
        refine z_xcS (vs := [.int x228]) (r := [.ref 19]) (L2 := [some (.int x228)]) zt277 27 rfl zo277 zzcS12_390 (Or.inl rfl) (Nat.le_of_ble_eq_true rfl) rfl rfl (Nat.le_of_ble_eq_true rfl) zzm279 (Nat.le_of_ble_eq_true rfl) rfl ?_
        refine z_xP zt279 0 2 [some (.int x228)] [.int 2, .int x228] rfl rfl ?_
        refine z_xJ zt279 1 rfl rfl (fun (h234 : x228.toInt = 2) => absurd h234 (by omega)) (fun (h234 : x228.toInt ≠ 2) => ?_)
        refine z_xP zt279 2 7 [some (.int x228)] [.int 3, .int x228] rfl rfl ?_
        refine z_xJ zt279 3 rfl rfl (fun (h235 : x228.toInt ≠ 3) => absurd h235 (by omega)) (fun (h235 : x228.toInt = 3) => ?_)
        refine z_xP zt279 4 25 [some (.int x228)] [.int 1] rfl rfl ?_
        refine z_xri zt279 9 rfl zzr279 ?_
        show z_ev (d + 37) 277 89 [some (.ref 19), some (.int x228), some (.int p3)] [.int 1, .ref 19] M215 _
        refine z_xP zt277 28 90 [some (.ref 19), some (.int x228), some (.int p3)] [.int p3, .int 1, .ref 19] rfl rfl ?_
        refine z_xcV (vs := [.ref 19, .int 1, .int p3]) (r := []) (L2 := [some (.ref 19), some (.int 1), some (.int p3)]) zt277 29 rfl zo277 zzcV12_393 (Or.inl rfl) rfl X222 f19 rfl rfl rfl (Nat.le_of_ble_eq_true rfl) zzm277 (Nat.le_of_ble_eq_true rfl) rfl ?_
        refine z_xP zt277 0 1 [some (.ref 19), some (.int 1), some (.int p3)] [.int 1] rfl rfl ?_
        refine z_xSW zt277 1 48 rfl rfl ?_
        refine z_xP zt277 8 51 [some (.ref 19), some (.int 1), some (.int p3)] [.int 20, .ref 19] rfl rfl ?_
        refine z_xcV (vs := [.ref 19, .int 20]) (r := []) (L2 := [some (.ref 19), some (.int 20)]) zt277 9 rfl zo277 zzcV12_384 (Or.inl rfl) rfl X222 f19 rfl rfl rfl (Nat.le_of_ble_eq_true rfl) zzm278 (Nat.le_of_ble_eq_true rfl) rfl ?_
        have q20 : ((20 : Int32)).toInt = 20 := rfl
        have q20 : ((20 : Int32)).toInt = 20 := rfl
        refine zNC278 X222.1 h219 ⟨by omega, by omega⟩ (fun M236 X237 h238 z239 h240 h241 h242 => ?_)
        have X243 := X222.go X237 (z_sb (by decide))
        show z_ev (d + 36) 277 54 [some (.ref 19), some (.int 1), some (.int p3)] [] M236 _
        have h246 : (z218 : Int32).toInt.toNat = 1 := by omega
        have n245 : z_Ar M236 48 = z_nrs 0 [10, 20] (z_Ar M0 48) := by rw [h238, n225, h246]; rfl
        refine z_xP zt277 10 56 [some (.ref 19), some (.int 1), some (.int p3)] [.int 1, .ref 19] rfl rfl ?_
        refine z_xcS (vs := [.int 1]) (r := [.ref 19]) (L2 := [some (.int 1)]) zt277 11 rfl zo277 zzcS12_390 (Or.inl rfl) (Nat.le_of_ble_eq_true rfl) rfl rfl (Nat.le_of_ble_eq_true rfl) zzm279 (Nat.le_of_ble_eq_true rfl) rfl ?_
        refine z_xP zt279 0 2 [some (.int 1)] [.int 2, .int 1] rfl rfl ?_
        refine z_xJ zt279 1 rfl rfl (fun (h247 : (1 : Int) = 2) => absurd h247 (by omega)) (fun (h247 : (1 : Int) ≠ 2) => ?_)
        refine z_xP zt279 2 7 [some (.int 1)] [.int 3, .int 1] rfl rfl ?_
        refine z_xJ zt279 3 rfl rfl (fun (h248 : (1 : Int) ≠ 3) => ?_) (fun (h248 : (1 : Int) = 3) => absurd h248 (by omega))
        refine z_xP zt279 5 17 [some (.int 1)] [.int 6, .int 1] rfl rfl ?_
        refine z_xJ zt279 6 rfl rfl (fun (h249 : (1 : Int) ≠ 6) => ?_) (fun (h249 : (1 : Int) = 6) => absurd h249 (by omega))
        refine z_xP zt279 8 25 [some (.int 1)] [.int 0] rfl rfl ?_
        refine z_xri zt279 9 rfl zzr279 ?_
        show z_ev (d + 36) 277 59 [some (.ref 19), some (.int 1), some (.int p3)] [.int 0, .ref 19] M236 _
        refine z_xP zt277 12 60 [some (.ref 19), some (.int 1), some (.int p3)] [.int p3, .int 0, .ref 19] rfl rfl ?_
        refine z_xcV (vs := [.ref 19, .int 0, .int p3]) (r := []) (L2 := [some (.ref 19), some (.int 0), some (.int p3)]) zt277 13 rfl zo277 zzcV12_393 (Or.inl rfl) rfl X243 f19 rfl rfl rfl (Nat.le_of_ble_eq_true rfl) zzm277 (Nat.le_of_ble_eq_true rfl) rfl ?_
        refine z_xP zt277 0 1 [some (.ref 19), some (.int 0), some (.int p3)] [.int 0] rfl rfl ?_
        refine z_xSW zt277 1 36 rfl rfl ?_
        refine z_xP zt277 2 38 [some (.ref 19), some (.int 0), some (.int p3)] [.int 1, .ref 19] rfl rfl ?_
        refine z_xcV (vs := [.ref 19, .int 1]) (r := []) (L2 := [some (.ref 19), some (.int 1)]) zt277 3 rfl zo277 zzcV12_384 (Or.inl rfl) rfl X243 f19 rfl rfl rfl (Nat.le_of_ble_eq_true rfl) zzm278 (Nat.le_of_ble_eq_true rfl) rfl ?_
        have q1 : ((1 : Int32)).toInt = 1 := rfl
        have q1 : ((1 : Int32)).toInt = 1 := rfl
        refine zNC278 X243.1 h240 ⟨by omega, by omega⟩ (fun M250 X251 h252 z253 h254 h255 h256 => ?_)
        have X257 := X243.go X251 (z_sb (by decide))
        show z_ev (d + 35) 277 41 [some (.ref 19), some (.int 0), some (.int p3)] [] M250 _
        have h260 : (z239 : Int32).toInt.toNat = 2 := by omega
        have n259 : z_Ar M250 48 = z_nrs 0 [10, 20, 1] (z_Ar M0 48) := by rw [h252, n245, h260]; rfl
        refine z_xP zt277 4 43 [some (.ref 19), some (.int 0), some (.int p3)] [.ref 19, .int p3] rfl rfl ?_
        have h261 := (X251.2.f f19 (by decide) (X237.2.f f19 (by decide) h227))
        refine z_xgv zt277 5 rfl zo277 zzf12_387 X257 f19 (by decide) h261 ?_
        have h262 := z_b32 p3
        refine z_xI zt277 6 rfl rfl (fun (x263 : Int32) (h264 : x263 = p3 + p1) => ?_) (rfl)
        refine z_xri zt277 7 rfl zzr277 ?_
        show z_ev (d + 36) 277 63 [some (.ref 19), some (.int 1), some (.int p3)] [.int x263] M250 _
        refine z_xP zt277 14 64 [some (.ref 19), some (.int 1), some (.int p3)] [.int 1, .int x263] rfl rfl ?_
        have h265 := z_b32 x263
        refine z_xI zt277 15 rfl rfl (fun (x266 : Int32) (h267 : x266 = x263 - 1) => ?_) (rfl)
        refine z_xri zt277 16 rfl zzr277 ?_
        show z_ev (d + 37) 277 93 [some (.ref 19), some (.int x228), some (.int p3)] [.int x266] M250 _
        refine z_xri zt277 30 rfl zzr277 ?_
        show z_ev (d + 38) 280 64 [some (.ref 19), some (.int 0), some (.int p3), none] [.int x266] M250 _
        refine z_xP zt280 11 65 [some (.ref 19), some (.int 0), some (.int p3), none] [.int 2, .int x266] rfl rfl ?_
        have h268 := z_b32 x266
        refine z_xI zt280 12 rfl rfl (fun (x269 : Int32) (h270 : x269 = x266 * 2) => ?_) (rfl)
        refine z_xri zt280 13 rfl zzr280 ?_
        show z_ev (d + 39) 280 153 [some (.ref 19), some (.int 1), some (.int p3), none] [.int x269] M250 _
        refine z_xri zt280 54 rfl zzr280 ?_
        show z_ev (d + 40) 280 153 [some (.ref 19), some (.int x203), some (.int p3), none] [.int x269] M250 _
        refine z_xri zt280 54 rfl zzr280 ?_
        show z_ev (d + 41) 276 66 [some (.ref 19), some (.int p1), some (.int p2), some (.int p3)] [.int x269] M250 _
        refine z_xP zt276 32 99 [some (.ref 19), some (.int p1), some (.int p2), some (.int p3)] [.int x269] rfl rfl ?_
        exact z_xri zt276 48 rfl zzr276 (kk x269 M250 X257 (fun hq => by exfalso; omega) (fun _ => ⟨(by rw [h270, h267, h264]), n259, _, h254, by omega⟩) (fun hq => by exfalso; omega) (fun hq => by exfalso; omega) (fun hq => by exfalso; omega))
      exfalso; omega
    exfalso; omega
  refine z_xP zt276 17 38 [some (.ref 19), some (.int p1), some (.int p2), some (.int p3)] [.ref 19, .ref 19] rfl rfl ?_
  refine z_xgX (b := 36) zt276 18 rfl zo276 zzf12_58 X23 f19 (by decide) (by decide) rfl ?_
  refine z_xP zt276 19 42 [some (.ref 19), some (.int p1), some (.int p2), some (.int p3)] [.int p1, .ref 36, .ref 19] rfl rfl ?_
  have f36 : T[36]? = some (.inr (36, 0, 20, 0, 7)) := X23.1.k rfl (by decide)
  refine z_xil zt276 20 rfl X23 f36 (by decide) (by omega) (by omega) (fun (x271 : Int32) h272 (h273 : 0 ≤ x271.toInt) (h274 : x271.toInt ≤ 7) => ?_)
  have h275 := congrArg Int32.toInt (h272.symm.trans ((congrFun (e24.a f36 (by decide)) _).trans ((congrFun (e3.a f36 (by decide)) _).trans hk36)))
  refine z_xP zt276 21 44 [some (.ref 19), some (.int p1), some (.int p2), some (.int p3)] [.int p3, .int x271, .ref 19] rfl rfl ?_
  refine z_xcV (vs := [.ref 19, .int x271, .int p3]) (r := []) (L2 := [some (.ref 19), some (.int x271), some (.int p3)]) zt276 22 rfl zo276 zzcV12_393 (Or.inl rfl) rfl X23 f19 rfl rfl rfl (Nat.le_of_ble_eq_true rfl) zzm277 (Nat.le_of_ble_eq_true rfl) rfl ?_
  refine z_xP zt277 0 1 [some (.ref 19), some (.int x271), some (.int p3)] [.int x271] rfl rfl ?_
  by_cases h276 : x271.toInt = 3
  · refine z_xSC zt277 1 (z_sub (k := 3) h276 rfl) 84 rfl rfl ?_
    refine z_xP zt277 26 86 [some (.ref 19), some (.int x271), some (.int p3)] [.int x271, .ref 19] rfl rfl ?_
    refine z_xcS (vs := [.int x271]) (r := [.ref 19]) (L2 := [some (.int x271)]) zt277 27 rfl zo277 zzcS12_390 (Or.inl rfl) (Nat.le_of_ble_eq_true rfl) rfl rfl (Nat.le_of_ble_eq_true rfl) zzm279 (Nat.le_of_ble_eq_true rfl) rfl ?_
    refine z_xP zt279 0 2 [some (.int x271)] [.int 2, .int x271] rfl rfl ?_
    refine z_xJ zt279 1 rfl rfl (fun (h277 : x271.toInt = 2) => absurd h277 (by omega)) (fun (h277 : x271.toInt ≠ 2) => ?_)
    refine z_xP zt279 2 7 [some (.int x271)] [.int 3, .int x271] rfl rfl ?_
    refine z_xJ zt279 3 rfl rfl (fun (h278 : x271.toInt ≠ 3) => absurd h278 (by omega)) (fun (h278 : x271.toInt = 3) => ?_)
    refine z_xP zt279 4 25 [some (.int x271)] [.int 1] rfl rfl ?_
    refine z_xri zt279 9 rfl zzr279 ?_
    show z_ev (d + 40) 277 89 [some (.ref 19), some (.int x271), some (.int p3)] [.int 1, .ref 19] M22 _
    refine z_xP zt277 28 90 [some (.ref 19), some (.int x271), some (.int p3)] [.int p3, .int 1, .ref 19] rfl rfl ?_
    refine z_xcV (vs := [.ref 19, .int 1, .int p3]) (r := []) (L2 := [some (.ref 19), some (.int 1), some (.int p3)]) zt277 29 rfl zo277 zzcV12_393 (Or.inl rfl) rfl X23 f19 rfl rfl rfl (Nat.le_of_ble_eq_true rfl) zzm277 (Nat.le_of_ble_eq_true rfl) rfl ?_
    refine z_xP zt277 0 1 [some (.ref 19), some (.int 1), some (.int p3)] [.int 1] rfl rfl ?_
    refine z_xSW zt277 1 48 rfl rfl ?_
    refine z_xP zt277 8 51 [some (.ref 19), some (.int 1), some (.int p3)] [.int 20, .ref 19] rfl rfl ?_
    refine z_xcV (vs := [.ref 19, .int 20]) (r := []) (L2 := [some (.ref 19), some (.int 20)]) zt277 9 rfl zo277 zzcV12_384 (Or.inl rfl) rfl X23 f19 rfl rfl rfl (Nat.le_of_ble_eq_true rfl) zzm278 (Nat.le_of_ble_eq_true rfl) rfl ?_
    have q20 : ((20 : Int32)).toInt = 20 := rfl
    have h279 := (e24.f f19 (by decide) h4)
    have q0 : ((0 : Int32)).toInt = 0 := rfl
    have q20 : ((20 : Int32)).toInt = 20 := rfl
    refine zNC278 X23.1 h279 ⟨by omega, by omega⟩ (fun M280 X281 h282 z283 h284 h285 h286 => ?_)
    have X287 := X23.go X281 (z_sb (by decide))
    show z_ev (d + 39) 277 54 [some (.ref 19), some (.int 1), some (.int p3)] [] M280 _
    have f48 : T[48]? = some (.inr (48, 0, 24, (-2147483648), 2147483647)) := X287.1.k rfl (by decide)
    have n289 : z_Ar M22 48 = z_Ar M0 48 := ((e24.a f48 (by decide)).trans (e3.a f48 (by decide)))
    have h291 : (0 : Int32).toInt.toNat = 0 := by omega
    have n290 : z_Ar M280 48 = z_nrs 0 [20] (z_Ar M0 48) := by rw [h282, n289, h291]; rfl
    refine z_xP zt277 10 56 [some (.ref 19), some (.int 1), some (.int p3)] [.int 1, .ref 19] rfl rfl ?_
    refine z_xcS (vs := [.int 1]) (r := [.ref 19]) (L2 := [some (.int 1)]) zt277 11 rfl zo277 zzcS12_390 (Or.inl rfl) (Nat.le_of_ble_eq_true rfl) rfl rfl (Nat.le_of_ble_eq_true rfl) zzm279 (Nat.le_of_ble_eq_true rfl) rfl ?_
    refine z_xP zt279 0 2 [some (.int 1)] [.int 2, .int 1] rfl rfl ?_
    refine z_xJ zt279 1 rfl rfl (fun (h292 : (1 : Int) = 2) => absurd h292 (by omega)) (fun (h292 : (1 : Int) ≠ 2) => ?_)
    refine z_xP zt279 2 7 [some (.int 1)] [.int 3, .int 1] rfl rfl ?_
    refine z_xJ zt279 3 rfl rfl (fun (h293 : (1 : Int) ≠ 3) => ?_) (fun (h293 : (1 : Int) = 3) => absurd h293 (by omega))
    refine z_xP zt279 5 17 [some (.int 1)] [.int 6, .int 1] rfl rfl ?_
    refine z_xJ zt279 6 rfl rfl (fun (h294 : (1 : Int) ≠ 6) => ?_) (fun (h294 : (1 : Int) = 6) => absurd h294 (by omega))
    refine z_xP zt279 8 25 [some (.int 1)] [.int 0] rfl rfl ?_
    refine z_xri zt279 9 rfl zzr279 ?_
    show z_ev (d + 39) 277 59 [some (.ref 19), some (.int 1), some (.int p3)] [.int 0, .ref 19] M280 _
    refine z_xP zt277 12 60 [some (.ref 19), some (.int 1), some (.int p3)] [.int p3, .int 0, .ref 19] rfl rfl ?_
    refine z_xcV (vs := [.ref 19, .int 0, .int p3]) (r := []) (L2 := [some (.ref 19), some (.int 0), some (.int p3)]) zt277 13 rfl zo277 zzcV12_393 (Or.inl rfl) rfl X287 f19 rfl rfl rfl (Nat.le_of_ble_eq_true rfl) zzm277 (Nat.le_of_ble_eq_true rfl) rfl ?_
    refine z_xP zt277 0 1 [some (.ref 19), some (.int 0), some (.int p3)] [.int 0] rfl rfl ?_
    refine z_xSW zt277 1 36 rfl rfl ?_
    refine z_xP zt277 2 38 [some (.ref 19), some (.int 0), some (.int p3)] [.int 1, .ref 19] rfl rfl ?_
    refine z_xcV (vs := [.ref 19, .int 1]) (r := []) (L2 := [some (.ref 19), some (.int 1)]) zt277 3 rfl zo277 zzcV12_384 (Or.inl rfl) rfl X287 f19 rfl rfl rfl (Nat.le_of_ble_eq_true rfl) zzm278 (Nat.le_of_ble_eq_true rfl) rfl ?_
    have q1 : ((1 : Int32)).toInt = 1 := rfl
    have q1 : ((1 : Int32)).toInt = 1 := rfl
    refine zNC278 X287.1 h284 ⟨by omega, by omega⟩ (fun M295 X296 h297 z298 h299 h300 h301 => ?_)
    have X302 := X287.go X296 (z_sb (by decide))
    show z_ev (d + 38) 277 41 [some (.ref 19), some (.int 0), some (.int p3)] [] M295 _
    have h305 : (z283 : Int32).toInt.toNat = 1 := by omega
    have n304 : z_Ar M295 48 = z_nrs 0 [20, 1] (z_Ar M0 48) := by rw [h297, n290, h305]; rfl
    refine z_xP zt277 4 43 [some (.ref 19), some (.int 0), some (.int p3)] [.ref 19, .int p3] rfl rfl ?_
    have h306 := (X296.2.f f19 (by decide) (X281.2.f f19 (by decide) h25))
    refine z_xgv zt277 5 rfl zo277 zzf12_387 X302 f19 (by decide) h306 ?_
    have h307 := z_b32 p3
    refine z_xI zt277 6 rfl rfl (fun (x308 : Int32) (h309 : x308 = p3 + p1) => ?_) (rfl)
    refine z_xri zt277 7 rfl zzr277 ?_
    show z_ev (d + 39) 277 63 [some (.ref 19), some (.int 1), some (.int p3)] [.int x308] M295 _
    refine z_xP zt277 14 64 [some (.ref 19), some (.int 1), some (.int p3)] [.int 1, .int x308] rfl rfl ?_
    have h310 := z_b32 x308
    refine z_xI zt277 15 rfl rfl (fun (x311 : Int32) (h312 : x311 = x308 - 1) => ?_) (rfl)
    refine z_xri zt277 16 rfl zzr277 ?_
    show z_ev (d + 40) 277 93 [some (.ref 19), some (.int x271), some (.int p3)] [.int x311] M295 _
    refine z_xri zt277 30 rfl zzr277 ?_
    show z_ev (d + 41) 276 47 [some (.ref 19), some (.int p1), some (.int p2), some (.int p3)] [.int x311] M295 _
    refine z_xP zt276 23 99 [some (.ref 19), some (.int p1), some (.int p2), some (.int p3)] [.int x311] rfl rfl ?_
    exact z_xri zt276 48 rfl zzr276 (kk x311 M295 X302 (fun _ => ⟨(by rw [h312, h309]), n304, _, h299, by omega⟩) (fun hq => by exfalso; omega) (fun hq => by exfalso; omega) (fun hq => by exfalso; omega) (fun hq => by exfalso; omega))
  exfalso; omega
