/-! act of both sides, told by kind -/
theorem zNC159_4 {T : List zK} {d : Nat} {K : Option Value → zH → Prop} {p1 : Int32} {p2 : Int32} {p3 : Int32} {ww : Int32} {bb : Nat} {nn sh jd : Int32} {M0 : zH} (hW : z_W M0 T) (hww : z_F M0 4 5 = some (.int ww)) (hwr : 0 ≤ p1.toInt ∧ p1.toInt < ww.toInt ∧ ww.toInt ≤ 20) (hbb : z_O M0 12 p1.toNatClampNeg = some bb) (kbb : T[bb]? = some (.inl (8, 0, 0, 0, 0))) (hf1 : z_F M0 bb 1 = some (.int sh)) (hf2 : z_F M0 bb 2 = some (.int jd)) (hf3 : z_F M0 bb 3 = some (.int nn)) (hG : z_GG T M0) (kk : ∀ (x : Int32) (M1 : zH), z_X T zw159 M0 M1 → (p2.toInt = 0 → x = ((p3 + nn) ^^^ 5) ∧ z_Ar M1 13 = z_nts [50, 1] (upd (z_Ar M0 13) 0 0)) → (p2.toInt = 1 → x = (((p3 + nn) ^^^ 5) * 2) ∧ z_Ar M1 13 = z_nts [10, 50, 1] (upd (z_Ar M0 13) 0 0)) → (p2.toInt = 2 → x = (p3 ^^^ nn) ∧ z_Ar M1 13 = z_nts [11] (upd (z_Ar M0 13) 0 0)) → (p2.toInt = 3 → x = ((((p3 + nn) ^^^ 5) * 2) - (1 ^^^ nn)) ∧ z_Ar M1 13 = z_nts [2, 10, 50, 1, 11] (upd (z_Ar M0 13) 0 0)) → (p2.toInt < 0 ∨ 3 < p2.toInt → x = 0 ∧ z_Ar M1 13 = upd (z_Ar M0 13) 0 0) → K (some (.int x)) M1) : z_ev (d + 8) 159 0 [some (.ref 4), some (.int p1), some (.int p2), some (.int p3), none] [] M0 K := by
  have X : z_X T zw159 M0 M0 := .refl hW
  refine z_xP zt159 0 1 [some (.ref 4), some (.int p1), some (.int p2), some (.int p3), none] [.ref 4] rfl rfl ?_
  have f4 : T[4]? = some (.inl (0, 0, 0, 0, 0)) := X.1.k rfl (by decide)
  refine z_xgX (b := 13) zt159 1 rfl zo159 zzf0_31 X f4 (by decide) (by decide) rfl ?_
  refine z_xP zt159 2 6 [some (.ref 4), some (.int p1), some (.int p2), some (.int p3), none] [.int 0, .int 0, .ref 13] rfl rfl ?_
  have f13 : T[13]? = some (.inr (13, 0, 25, (-2147483648), 2147483647)) := X.1.k rfl (by decide)
  have q0 : ((0 : Int32)).toInt = 0 := rfl
  refine z_xis zt159 3 rfl X f13 (by decide) (by decide) (by decide) (by decide) (by omega) (by omega) (by decide) (fun M1 X2 e3 h4 => ?_)
  have q0 : ((0 : Int32)).toInt = 0 := rfl
  have h5 := z_u0 h4 (by omega)
  have n6 : z_Ar M1 13 = upd (z_Ar M0 13) 0 0 := h4
  refine z_xP zt159 4 9 [some (.ref 4), some (.int p1), some (.int p2), some (.int p3), none] [.int p1, .ref 4] rfl rfl ?_
  refine z_xcV (vs := [.ref 4, .int p1]) (r := []) (L2 := [some (.ref 4), some (.int p1)]) zt159 5 rfl zo159 zzcV0_221 (Or.inl rfl) rfl X2 f4 rfl rfl rfl (Nat.le_of_ble_eq_true rfl) zzm84 (Nat.le_of_ble_eq_true rfl) rfl ?_
  refine z_xP zt84 0 1 [some (.ref 4), some (.int p1)] [.int p1] rfl rfl ?_
  refine z_xZ zt84 1 rfl rfl (fun (h7 : p1.toInt < 0) => absurd h7 (by omega)) (fun (h7 : 0 ≤ p1.toInt) => ?_)
  refine z_xP zt84 2 6 [some (.ref 4), some (.int p1)] [.ref 4, .int p1] rfl rfl ?_
  have h8 := (e3.f f4 (by decide) hww)
  refine z_xgv zt84 3 rfl zo84 zzf0_188 X2 f4 (by decide) h8 ?_
  refine z_xJ zt84 4 rfl rfl (fun (h9 : p1.toInt < ww.toInt) => ?_) (fun (h9 : ww.toInt ≤ p1.toInt) => ?_)
  · skip
    refine z_xP zt84 6 17 [some (.ref 4), some (.int p1)] [.ref 4] rfl rfl ?_
    refine z_xgX (b := 12) zt84 7 rfl zo84 zzf0_27 X2 f4 (by decide) (by decide) rfl ?_
    refine z_xP zt84 8 21 [some (.ref 4), some (.int p1)] [.int p1, .ref 12] rfl rfl ?_
    have f12 : T[12]? = some (.inr (12, 3, 20, 0, 0)) := X2.1.k rfl (by decide)
    refine z_xalv zt84 9 rfl X2 f12 (by decide) (by decide) (by decide) (by omega) (by omega) ((congrFun (e3.o f12 (by decide)) _).trans hbb) ?_
    refine z_xra zt84 10 rfl zzr84 ?_
    show z_ev (d + 8) 159 12 [some (.ref 4), some (.int p1), some (.int p2), some (.int p3), none] [.ref bb] M1 _
    refine z_xP zt159 6 21 [some (.ref 4), some (.int p1), some (.int p2), some (.int p3), some (.ref bb)] [] rfl rfl ?_
    refine z_xP zt159 9 22 [some (.ref 4), some (.int p1), some (.int p2), some (.int p3), some (.ref bb)] [.int p2] rfl rfl ?_
    by_cases h10 : p2.toInt = 0
    · refine z_xSC zt159 10 (z_sub (k := 0) h10 rfl) 52 rfl rfl ?_
      refine z_xP zt159 11 55 [some (.ref 4), some (.int p1), some (.int p2), some (.int p3), some (.ref bb)] [.int p3, .ref bb] rfl rfl ?_
      refine z_xcV (vs := [.ref bb, .int p3]) (r := []) (L2 := [some (.ref bb), some (.int p3)]) zt159 12 rfl zo159 zzcV0_295 (Or.inr rfl) rfl X2 kbb rfl rfl rfl (Nat.le_of_ble_eq_true rfl) zzm162 (Nat.le_of_ble_eq_true rfl) rfl ?_
      refine z_xP zt162 0 3 [some (.ref bb), some (.int p3)] [.int 50, .ref bb] rfl rfl ?_
      refine z_xcV (vs := [.ref bb, .int 50]) (r := []) (L2 := [some (.ref bb), some (.int 50)]) zt162 1 rfl zo162 zzcV8_28 (Or.inr rfl) rfl X2 kbb rfl rfl rfl (Nat.le_of_ble_eq_true rfl) zzm161 (Nat.le_of_ble_eq_true rfl) rfl ?_
      have q50 : ((50 : Int32)).toInt = 50 := rfl
      have q50 : ((50 : Int32)).toInt = 50 := rfl
      refine zNC161 X2.1 (by decide) kbb ⟨by omega, by omega⟩ (fun M11 X12 h13 h14 => ?_)
      have X15 := X2.go X12 (z_sb (by decide))
      show z_ev (d + 7) 162 6 [some (.ref bb), some (.int p3)] [] M11 _
      have n17 : z_Ar M11 13 = z_nts [50] (upd (z_Ar M0 13) 0 0) := z_ntsS [] n6 h14
      refine z_xP zt162 2 8 [some (.ref bb), some (.int p3)] [.int p3, .ref bb] rfl rfl ?_
      refine z_xcI (vs := [.ref bb, .int p3]) (r := []) (L2 := [some (.ref bb), some (.int p3)]) zt162 3 rfl zo162 zzcI8_34 (Or.inr (Or.inl rfl)) rfl X15 kbb rfl rfl (Nat.le_of_ble_eq_true rfl) zzm163 (Nat.le_of_ble_eq_true rfl) rfl ?_
      refine z_xP zt163 0 2 [some (.ref bb), some (.int p3)] [.int 1, .ref bb] rfl rfl ?_
      refine z_xcV (vs := [.ref bb, .int 1]) (r := []) (L2 := [some (.ref bb), some (.int 1)]) zt163 1 rfl zo163 zzcV4_31 (Or.inr rfl) rfl X15 kbb rfl rfl rfl (Nat.le_of_ble_eq_true rfl) zzm161 (Nat.le_of_ble_eq_true rfl) rfl ?_
      have q1 : ((1 : Int32)).toInt = 1 := rfl
      have q1 : ((1 : Int32)).toInt = 1 := rfl
      refine zNC161 X15.1 (by decide) kbb ⟨by omega, by omega⟩ (fun M18 X19 h20 h21 => ?_)
      have X22 := X15.go X19 (z_sb (by decide))
      show z_ev (d + 6) 163 5 [some (.ref bb), some (.int p3)] [] M18 _
      have n24 : z_Ar M18 13 = z_nts [50, 1] (upd (z_Ar M0 13) 0 0) := z_ntsS [50] n17 h21
      refine z_xP zt163 2 7 [some (.ref bb), some (.int p3)] [.ref bb, .int p3] rfl rfl ?_
      have h25 := (X19.2.f kbb (by decide) (X12.2.f kbb (by decide) (e3.f kbb (by decide) hf3)))
      refine z_xgv zt163 3 rfl zo163 zzf4_15 X22 kbb (by decide) h25 ?_
      have h26 := z_b32 p3
      have h27 := z_b32 nn
      refine z_xI zt163 4 rfl rfl (fun (x28 : Int32) (h29 : x28 = p3 + nn) => ?_) (rfl)
      refine z_xri zt163 5 rfl zzr163 ?_
      show z_ev (d + 7) 162 11 [some (.ref bb), some (.int p3)] [.int x28] M18 _
      refine z_xP zt162 4 12 [some (.ref bb), some (.int p3)] [.int 5, .int x28] rfl rfl ?_
      refine z_xI zt162 5 rfl rfl (fun (x30 : Int32) (h31 : x30 = x28 ^^^ 5) => ?_) (rfl)
      refine z_xri zt162 6 rfl zzr162 ?_
      show z_ev (d + 8) 159 58 [some (.ref 4), some (.int p1), some (.int p2), some (.int p3), some (.ref bb)] [.int x30] M18 _
      exact z_xri zt159 13 rfl zzr159 (kk x30 M18 X22 (fun _ => ⟨(by rw [h31, h29]), n24⟩) (fun hq => by exfalso; omega) (fun hq => by exfalso; omega) (fun hq => by exfalso; omega) (fun hq => by exfalso; omega))
    by_cases h32 : p2.toInt = 1
    · refine z_xSC zt159 10 (z_sub (k := 1) h32 rfl) 59 rfl rfl ?_
      refine z_xP zt159 14 62 [some (.ref 4), some (.int p1), some (.int p2), some (.int p3), some (.ref bb)] [.int p3, .ref bb] rfl rfl ?_
      refine z_xcV (vs := [.ref bb, .int p3]) (r := []) (L2 := [some (.ref bb), some (.int p3)]) zt159 15 rfl zo159 zzcV0_298 (Or.inr rfl) rfl X2 kbb rfl rfl rfl (Nat.le_of_ble_eq_true rfl) zzm167 (Nat.le_of_ble_eq_true rfl) rfl ?_
      refine z_xP zt167 0 3 [some (.ref bb), some (.int p3)] [.int 10, .ref bb] rfl rfl ?_
      refine z_xcV (vs := [.ref bb, .int 10]) (r := []) (L2 := [some (.ref bb), some (.int 10)]) zt167 1 rfl zo167 zzcV4_31 (Or.inr rfl) rfl X2 kbb rfl rfl rfl (Nat.le_of_ble_eq_true rfl) zzm161 (Nat.le_of_ble_eq_true rfl) rfl ?_
      have q10 : ((10 : Int32)).toInt = 10 := rfl
      have q10 : ((10 : Int32)).toInt = 10 := rfl
      refine zNC161 X2.1 (by decide) kbb ⟨by omega, by omega⟩ (fun M33 X34 h35 h36 => ?_)
      have X37 := X2.go X34 (z_sb (by decide))
      show z_ev (d + 7) 167 6 [some (.ref bb), some (.int p3)] [] M33 _
      have n39 : z_Ar M33 13 = z_nts [10] (upd (z_Ar M0 13) 0 0) := z_ntsS [] n6 h36
      refine z_xP zt167 2 8 [some (.ref bb), some (.int p3)] [.int p3, .ref bb] rfl rfl ?_
      refine z_xcV (vs := [.ref bb, .int p3]) (r := []) (L2 := [some (.ref bb), some (.int p3)]) zt167 3 rfl zo167 zzcV4_35 (Or.inr rfl) rfl X37 kbb rfl rfl rfl (Nat.le_of_ble_eq_true rfl) zzm162 (Nat.le_of_ble_eq_true rfl) rfl ?_
      refine z_xP zt162 0 3 [some (.ref bb), some (.int p3)] [.int 50, .ref bb] rfl rfl ?_
      refine z_xcV (vs := [.ref bb, .int 50]) (r := []) (L2 := [some (.ref bb), some (.int 50)]) zt162 1 rfl zo162 zzcV8_28 (Or.inr rfl) rfl X37 kbb rfl rfl rfl (Nat.le_of_ble_eq_true rfl) zzm161 (Nat.le_of_ble_eq_true rfl) rfl ?_
      have q50 : ((50 : Int32)).toInt = 50 := rfl
      have q50 : ((50 : Int32)).toInt = 50 := rfl
      refine zNC161 X37.1 (by decide) kbb ⟨by omega, by omega⟩ (fun M40 X41 h42 h43 => ?_)
      have X44 := X37.go X41 (z_sb (by decide))
      show z_ev (d + 6) 162 6 [some (.ref bb), some (.int p3)] [] M40 _
      have n46 : z_Ar M40 13 = z_nts [10, 50] (upd (z_Ar M0 13) 0 0) := z_ntsS [10] n39 h43
      refine z_xP zt162 2 8 [some (.ref bb), some (.int p3)] [.int p3, .ref bb] rfl rfl ?_
      refine z_xcI (vs := [.ref bb, .int p3]) (r := []) (L2 := [some (.ref bb), some (.int p3)]) zt162 3 rfl zo162 zzcI8_34 (Or.inr (Or.inl rfl)) rfl X44 kbb rfl rfl (Nat.le_of_ble_eq_true rfl) zzm163 (Nat.le_of_ble_eq_true rfl) rfl ?_
      refine z_xP zt163 0 2 [some (.ref bb), some (.int p3)] [.int 1, .ref bb] rfl rfl ?_
      refine z_xcV (vs := [.ref bb, .int 1]) (r := []) (L2 := [some (.ref bb), some (.int 1)]) zt163 1 rfl zo163 zzcV4_31 (Or.inr rfl) rfl X44 kbb rfl rfl rfl (Nat.le_of_ble_eq_true rfl) zzm161 (Nat.le_of_ble_eq_true rfl) rfl ?_
      have q1 : ((1 : Int32)).toInt = 1 := rfl
      have q1 : ((1 : Int32)).toInt = 1 := rfl
      refine zNC161 X44.1 (by decide) kbb ⟨by omega, by omega⟩ (fun M47 X48 h49 h50 => ?_)
      have X51 := X44.go X48 (z_sb (by decide))
      show z_ev (d + 5) 163 5 [some (.ref bb), some (.int p3)] [] M47 _
      have n53 : z_Ar M47 13 = z_nts [10, 50, 1] (upd (z_Ar M0 13) 0 0) := z_ntsS [10, 50] n46 h50
      refine z_xP zt163 2 7 [some (.ref bb), some (.int p3)] [.ref bb, .int p3] rfl rfl ?_
      have h54 := (X48.2.f kbb (by decide) (X41.2.f kbb (by decide) (X34.2.f kbb (by decide) (e3.f kbb (by decide) hf3))))
      refine z_xgv zt163 3 rfl zo163 zzf4_15 X51 kbb (by decide) h54 ?_
      have h55 := z_b32 p3
      have h56 := z_b32 nn
      refine z_xI zt163 4 rfl rfl (fun (x57 : Int32) (h58 : x57 = p3 + nn) => ?_) (rfl)
      refine z_xri zt163 5 rfl zzr163 ?_
      show z_ev (d + 6) 162 11 [some (.ref bb), some (.int p3)] [.int x57] M47 _
      refine z_xP zt162 4 12 [some (.ref bb), some (.int p3)] [.int 5, .int x57] rfl rfl ?_
      refine z_xI zt162 5 rfl rfl (fun (x59 : Int32) (h60 : x59 = x57 ^^^ 5) => ?_) (rfl)
      refine z_xri zt162 6 rfl zzr162 ?_
      show z_ev (d + 7) 167 11 [some (.ref bb), some (.int p3)] [.int x59] M47 _
      refine z_xP zt167 4 12 [some (.ref bb), some (.int p3)] [.int 2, .int x59] rfl rfl ?_
      have h61 := z_b32 x59
      refine z_xI zt167 5 rfl rfl (fun (x62 : Int32) (h63 : x62 = x59 * 2) => ?_) (rfl)
      refine z_xri zt167 6 rfl zzr167 ?_
      show z_ev (d + 8) 159 65 [some (.ref 4), some (.int p1), some (.int p2), some (.int p3), some (.ref bb)] [.int x62] M47 _
      exact z_xri zt159 16 rfl zzr159 (kk x62 M47 X51 (fun hq => by exfalso; omega) (fun _ => ⟨(by rw [h63, h60, h58]), n53⟩) (fun hq => by exfalso; omega) (fun hq => by exfalso; omega) (fun hq => by exfalso; omega))
    by_cases h64 : p2.toInt = 2
    · refine z_xSC zt159 10 (z_sub (k := 2) h64 rfl) 66 rfl rfl ?_
      refine z_xP zt159 17 69 [some (.ref 4), some (.int p1), some (.int p2), some (.int p3), some (.ref bb)] [.int p3, .ref bb] rfl rfl ?_
      refine z_xcV (vs := [.ref bb, .int p3]) (r := []) (L2 := [some (.ref bb), some (.int p3)]) zt159 18 rfl zo159 zzcV0_301 (Or.inr rfl) rfl X2 kbb rfl rfl rfl (Nat.le_of_ble_eq_true rfl) zzm170 (Nat.le_of_ble_eq_true rfl) rfl ?_
      refine z_xP zt170 0 3 [some (.ref bb), some (.int p3)] [.int 11, .ref bb] rfl rfl ?_
      refine z_xcV (vs := [.ref bb, .int 11]) (r := []) (L2 := [some (.ref bb), some (.int 11)]) zt170 1 rfl zo170 zzcV4_31 (Or.inr rfl) rfl X2 kbb rfl rfl rfl (Nat.le_of_ble_eq_true rfl) zzm161 (Nat.le_of_ble_eq_true rfl) rfl ?_
      have q11 : ((11 : Int32)).toInt = 11 := rfl
      have q11 : ((11 : Int32)).toInt = 11 := rfl
      refine zNC161 X2.1 (by decide) kbb ⟨by omega, by omega⟩ (fun M65 X66 h67 h68 => ?_)
      have X69 := X2.go X66 (z_sb (by decide))
      show z_ev (d + 7) 170 6 [some (.ref bb), some (.int p3)] [] M65 _
      have n71 : z_Ar M65 13 = z_nts [11] (upd (z_Ar M0 13) 0 0) := z_ntsS [] n6 h68
      refine z_xP zt170 2 8 [some (.ref bb), some (.int p3)] [.ref bb, .int p3] rfl rfl ?_
      have h72 := (X66.2.f kbb (by decide) (e3.f kbb (by decide) hf3))
      refine z_xgv zt170 3 rfl zo170 zzf4_15 X69 kbb (by decide) h72 ?_
      refine z_xI zt170 4 rfl rfl (fun (x73 : Int32) (h74 : x73 = p3 ^^^ nn) => ?_) (rfl)
      refine z_xri zt170 5 rfl zzr170 ?_
      show z_ev (d + 8) 159 72 [some (.ref 4), some (.int p1), some (.int p2), some (.int p3), some (.ref bb)] [.int x73] M65 _
      exact z_xri zt159 19 rfl zzr159 (kk x73 M65 X69 (fun hq => by exfalso; omega) (fun hq => by exfalso; omega) (fun _ => ⟨(by rw [h74]), n71⟩) (fun hq => by exfalso; omega) (fun hq => by exfalso; omega))
    by_cases h75 : p2.toInt = 3
    · refine z_xSC zt159 10 (z_sub (k := 3) h75 rfl) 73 rfl rfl ?_
      refine z_xP zt159 20 76 [some (.ref 4), some (.int p1), some (.int p2), some (.int p3), some (.ref bb)] [.int p3, .ref bb] rfl rfl ?_
      refine z_xcV (vs := [.ref bb, .int p3]) (r := []) (L2 := [some (.ref bb), some (.int p3)]) zt159 21 rfl zo159 zzcV0_304 (Or.inr rfl) rfl X2 kbb rfl rfl rfl (Nat.le_of_ble_eq_true rfl) zzm173 (Nat.le_of_ble_eq_true rfl) rfl ?_
      refine z_xP zt173 0 2 [some (.ref bb), some (.int p3)] [.int 2, .ref bb] rfl rfl ?_
      refine z_xcV (vs := [.ref bb, .int 2]) (r := []) (L2 := [some (.ref bb), some (.int 2)]) zt173 1 rfl zo173 zzcV4_31 (Or.inr rfl) rfl X2 kbb rfl rfl rfl (Nat.le_of_ble_eq_true rfl) zzm161 (Nat.le_of_ble_eq_true rfl) rfl ?_
      have q2 : ((2 : Int32)).toInt = 2 := rfl
      have q2 : ((2 : Int32)).toInt = 2 := rfl
      refine zNC161 X2.1 (by decide) kbb ⟨by omega, by omega⟩ (fun M76 X77 h78 h79 => ?_)
      have X80 := X2.go X77 (z_sb (by decide))
      show z_ev (d + 7) 173 5 [some (.ref bb), some (.int p3)] [] M76 _
      have n82 : z_Ar M76 13 = z_nts [2] (upd (z_Ar M0 13) 0 0) := z_ntsS [] n6 h79
      refine z_xP zt173 2 7 [some (.ref bb), some (.int p3)] [.int p3, .ref bb] rfl rfl ?_
      refine z_xcV (vs := [.ref bb, .int p3]) (r := []) (L2 := [some (.ref bb), some (.int p3)]) zt173 3 rfl zo173 zzcV4_39 (Or.inr rfl) rfl X80 kbb rfl rfl rfl (Nat.le_of_ble_eq_true rfl) zzm167 (Nat.le_of_ble_eq_true rfl) rfl ?_
      refine z_xP zt167 0 3 [some (.ref bb), some (.int p3)] [.int 10, .ref bb] rfl rfl ?_
      refine z_xcV (vs := [.ref bb, .int 10]) (r := []) (L2 := [some (.ref bb), some (.int 10)]) zt167 1 rfl zo167 zzcV4_31 (Or.inr rfl) rfl X80 kbb rfl rfl rfl (Nat.le_of_ble_eq_true rfl) zzm161 (Nat.le_of_ble_eq_true rfl) rfl ?_
      have q10 : ((10 : Int32)).toInt = 10 := rfl
      have q10 : ((10 : Int32)).toInt = 10 := rfl
      refine zNC161 X80.1 (by decide) kbb ⟨by omega, by omega⟩ (fun M83 X84 h85 h86 => ?_)
      have X87 := X80.go X84 (z_sb (by decide))
      show z_ev (d + 6) 167 6 [some (.ref bb), some (.int p3)] [] M83 _
      have n89 : z_Ar M83 13 = z_nts [2, 10] (upd (z_Ar M0 13) 0 0) := z_ntsS [2] n82 h86
      refine z_xP zt167 2 8 [some (.ref bb), some (.int p3)] [.int p3, .ref bb] rfl rfl ?_
      refine z_xcV (vs := [.ref bb, .int p3]) (r := []) (L2 := [some (.ref bb), some (.int p3)]) zt167 3 rfl zo167 zzcV4_35 (Or.inr rfl) rfl X87 kbb rfl rfl rfl (Nat.le_of_ble_eq_true rfl) zzm162 (Nat.le_of_ble_eq_true rfl) rfl ?_
      refine z_xP zt162 0 3 [some (.ref bb), some (.int p3)] [.int 50, .ref bb] rfl rfl ?_
      refine z_xcV (vs := [.ref bb, .int 50]) (r := []) (L2 := [some (.ref bb), some (.int 50)]) zt162 1 rfl zo162 zzcV8_28 (Or.inr rfl) rfl X87 kbb rfl rfl rfl (Nat.le_of_ble_eq_true rfl) zzm161 (Nat.le_of_ble_eq_true rfl) rfl ?_
      have q50 : ((50 : Int32)).toInt = 50 := rfl
      have q50 : ((50 : Int32)).toInt = 50 := rfl
      refine zNC161 X87.1 (by decide) kbb ⟨by omega, by omega⟩ (fun M90 X91 h92 h93 => ?_)
      have X94 := X87.go X91 (z_sb (by decide))
      show z_ev (d + 5) 162 6 [some (.ref bb), some (.int p3)] [] M90 _
      have n96 : z_Ar M90 13 = z_nts [2, 10, 50] (upd (z_Ar M0 13) 0 0) := z_ntsS [2, 10] n89 h93
      refine z_xP zt162 2 8 [some (.ref bb), some (.int p3)] [.int p3, .ref bb] rfl rfl ?_
      refine z_xcI (vs := [.ref bb, .int p3]) (r := []) (L2 := [some (.ref bb), some (.int p3)]) zt162 3 rfl zo162 zzcI8_34 (Or.inr (Or.inl rfl)) rfl X94 kbb rfl rfl (Nat.le_of_ble_eq_true rfl) zzm163 (Nat.le_of_ble_eq_true rfl) rfl ?_
      refine z_xP zt163 0 2 [some (.ref bb), some (.int p3)] [.int 1, .ref bb] rfl rfl ?_
      refine z_xcV (vs := [.ref bb, .int 1]) (r := []) (L2 := [some (.ref bb), some (.int 1)]) zt163 1 rfl zo163 zzcV4_31 (Or.inr rfl) rfl X94 kbb rfl rfl rfl (Nat.le_of_ble_eq_true rfl) zzm161 (Nat.le_of_ble_eq_true rfl) rfl ?_
      have q1 : ((1 : Int32)).toInt = 1 := rfl
      have q1 : ((1 : Int32)).toInt = 1 := rfl
      refine zNC161 X94.1 (by decide) kbb ⟨by omega, by omega⟩ (fun M97 X98 h99 h100 => ?_)
      have X101 := X94.go X98 (z_sb (by decide))
      show z_ev (d + 4) 163 5 [some (.ref bb), some (.int p3)] [] M97 _
      have n103 : z_Ar M97 13 = z_nts [2, 10, 50, 1] (upd (z_Ar M0 13) 0 0) := z_ntsS [2, 10, 50] n96 h100
      refine z_xP zt163 2 7 [some (.ref bb), some (.int p3)] [.ref bb, .int p3] rfl rfl ?_
      have h104 := (X98.2.f kbb (by decide) (X91.2.f kbb (by decide) (X84.2.f kbb (by decide) (X77.2.f kbb (by decide) (e3.f kbb (by decide) hf3)))))
      refine z_xgv zt163 3 rfl zo163 zzf4_15 X101 kbb (by decide) h104 ?_
      have h105 := z_b32 p3
      have h106 := z_b32 nn
      refine z_xI zt163 4 rfl rfl (fun (x107 : Int32) (h108 : x107 = p3 + nn) => ?_) (rfl)
      refine z_xri zt163 5 rfl zzr163 ?_
      show z_ev (d + 5) 162 11 [some (.ref bb), some (.int p3)] [.int x107] M97 _
      refine z_xP zt162 4 12 [some (.ref bb), some (.int p3)] [.int 5, .int x107] rfl rfl ?_
      refine z_xI zt162 5 rfl rfl (fun (x109 : Int32) (h110 : x109 = x107 ^^^ 5) => ?_) (rfl)
      refine z_xri zt162 6 rfl zzr162 ?_
      show z_ev (d + 6) 167 11 [some (.ref bb), some (.int p3)] [.int x109] M97 _
      refine z_xP zt167 4 12 [some (.ref bb), some (.int p3)] [.int 2, .int x109] rfl rfl ?_
      have h111 := z_b32 x109
      refine z_xI zt167 5 rfl rfl (fun (x112 : Int32) (h113 : x112 = x109 * 2) => ?_) (rfl)
      refine z_xri zt167 6 rfl zzr167 ?_
      show z_ev (d + 7) 173 10 [some (.ref bb), some (.int p3)] [.int x112] M97 _
      refine z_xP zt173 4 12 [some (.ref bb), some (.int p3)] [.int 1, .ref bb, .int x112] rfl rfl ?_
      refine z_xcV (vs := [.ref bb, .int 1]) (r := [.int x112]) (L2 := [some (.ref bb), some (.int 1)]) zt173 5 rfl zo173 zzcV4_42 (Or.inr rfl) rfl X101 kbb rfl rfl rfl (Nat.le_of_ble_eq_true rfl) zzm170 (Nat.le_of_ble_eq_true rfl) rfl ?_
      refine z_xP zt170 0 3 [some (.ref bb), some (.int 1)] [.int 11, .ref bb] rfl rfl ?_
      refine z_xcV (vs := [.ref bb, .int 11]) (r := []) (L2 := [some (.ref bb), some (.int 11)]) zt170 1 rfl zo170 zzcV4_31 (Or.inr rfl) rfl X101 kbb rfl rfl rfl (Nat.le_of_ble_eq_true rfl) zzm161 (Nat.le_of_ble_eq_true rfl) rfl ?_
      have q11 : ((11 : Int32)).toInt = 11 := rfl
      have q11 : ((11 : Int32)).toInt = 11 := rfl
      refine zNC161 X101.1 (by decide) kbb ⟨by omega, by omega⟩ (fun M114 X115 h116 h117 => ?_)
      have X118 := X101.go X115 (z_sb (by decide))
      show z_ev (d + 6) 170 6 [some (.ref bb), some (.int 1)] [] M114 _
      have n120 : z_Ar M114 13 = z_nts [2, 10, 50, 1, 11] (upd (z_Ar M0 13) 0 0) := z_ntsS [2, 10, 50, 1] n103 h117
      refine z_xP zt170 2 8 [some (.ref bb), some (.int 1)] [.ref bb, .int 1] rfl rfl ?_
      have h121 := (X115.2.f kbb (by decide) h104)
      refine z_xgv zt170 3 rfl zo170 zzf4_15 X118 kbb (by decide) h121 ?_
      refine z_xI zt170 4 rfl rfl (fun (x122 : Int32) (h123 : x122 = 1 ^^^ nn) => ?_) (rfl)
      refine z_xri zt170 5 rfl zzr170 ?_
      show z_ev (d + 7) 173 15 [some (.ref bb), some (.int p3)] [.int x122, .int x112] M114 _
      have h124 := z_b32 x112
      have h125 := z_b32 x122
      refine z_xI zt173 6 rfl rfl (fun (x126 : Int32) (h127 : x126 = x112 - x122) => ?_) (rfl)
      refine z_xri zt173 7 rfl zzr173 ?_
      show z_ev (d + 8) 159 79 [some (.ref 4), some (.int p1), some (.int p2), some (.int p3), some (.ref bb)] [.int x126] M114 _
      exact z_xri zt159 22 rfl zzr159 (kk x126 M114 X118 (fun hq => by exfalso; omega) (fun hq => by exfalso; omega) (fun hq => by exfalso; omega) (fun _ => ⟨(by rw [h127, h123, h113, h110, h108]), n120⟩) (fun hq => by exfalso; omega))
    refine z_xSD zt159 10 rfl rfl (by omega) ?_
    refine z_xP zt159 23 81 [some (.ref 4), some (.int p1), some (.int p2), some (.int p3), some (.ref bb)] [.int 0] rfl rfl ?_
    have q0 : ((0 : Int32)).toInt = 0 := rfl
    exact z_xri zt159 24 rfl zzr159 (kk 0 M1 X2 (fun hq => by exfalso; omega) (fun hq => by exfalso; omega) (fun hq => by exfalso; omega) (fun hq => by exfalso; omega) (fun _ => ⟨rfl, n6⟩))
  refine z_xP zt84 5 22 [some (.ref 4), some (.int p1)] [.null] rfl rfl ?_
  refine z_xrn zt84 10 rfl zzr84 ?_
  show z_ev (d + 8) 159 12 [some (.ref 4), some (.int p1), some (.int p2), some (.int p3), none] [.null] M1 _
  refine z_xP zt159 6 19 [some (.ref 4), some (.int p1), some (.int p2), some (.int p3), some (.null)] [] rfl rfl ?_
  refine z_xP zt159 7 20 [some (.ref 4), some (.int p1), some (.int p2), some (.int p3), some (.null)] [.int 0] rfl rfl ?_
  have q0 : ((0 : Int32)).toInt = 0 := rfl
  exact z_xri zt159 8 rfl zzr159 (kk 0 M1 X2 (fun hq => by exfalso; omega) (fun hq => by exfalso; omega) (fun hq => by exfalso; omega) (fun hq => by exfalso; omega) (fun _ => ⟨rfl, n6⟩))
theorem zNC276_4 {T : List zK} {d : Nat} {K : Option Value → zH → Prop} {p1 : Int32} {p2 : Int32} {p3 : Int32} {ww : Int32} {kn sh jd : Int32} {M0 : zH} (hW : z_W M0 T) (hww : z_F M0 19 21 = some (.int ww)) (hwr : 0 ≤ p1.toInt ∧ p1.toInt < ww.toInt ∧ ww.toInt ≤ 20) (hk36 : z_Ar M0 36 p1.toNatClampNeg = kn) (hkn : kn.toInt = 4) (hk37 : z_Ar M0 37 p1.toNatClampNeg = sh) (hk38 : z_Ar M0 38 p1.toNatClampNeg = jd) (kk : ∀ (x : Int32) (M1 : zH), z_X T zw276 M0 M1 → (p2.toInt = 0 → x = ((p3 + p1) ^^^ 5) ∧ z_Ar M1 48 = z_nrs 0 [50, 1] (z_Ar M0 48) ∧ ∃ n : Int32, z_F M1 19 47 = some (.int n) ∧ n.toInt = 2) → (p2.toInt = 1 → x = (((p3 + p1) ^^^ 5) * 2) ∧ z_Ar M1 48 = z_nrs 0 [10, 50, 1] (z_Ar M0 48) ∧ ∃ n : Int32, z_F M1 19 47 = some (.int n) ∧ n.toInt = 3) → (p2.toInt = 2 → x = (p3 ^^^ p1) ∧ z_Ar M1 48 = z_nrs 0 [11] (z_Ar M0 48) ∧ ∃ n : Int32, z_F M1 19 47 = some (.int n) ∧ n.toInt = 1) → (p2.toInt = 3 → x = ((((p3 + p1) ^^^ 5) * 2) - (1 ^^^ p1)) ∧ z_Ar M1 48 = z_nrs 0 [2, 10, 50, 1, 11] (z_Ar M0 48) ∧ ∃ n : Int32, z_F M1 19 47 = some (.int n) ∧ n.toInt = 5) → (p2.toInt < 0 ∨ 3 < p2.toInt → x = 0 ∧ z_Ar M1 48 = z_Ar M0 48 ∧ ∃ n : Int32, z_F M1 19 47 = some (.int n) ∧ n.toInt = 0) → K (some (.int x)) M1) : z_ev (d + 41) 276 0 [some (.ref 19), some (.int p1), some (.int p2), some (.int p3)] [] M0 K := by
  have X : z_X T zw276 M0 M0 := .refl hW
  refine z_xP zt276 0 2 [some (.ref 19), some (.int p1), some (.int p2), some (.int p3)] [.int 0, .ref 19] rfl rfl ?_
  have f19 : T[19]? = some (.inl (12, 0, 0, 0, 0)) := X.1.k rfl (by decide)
  have q0 : ((0 : Int32)).toInt = 0 := rfl
  refine z_xpf zt276 1 rfl zo276 zzf12_381 X f19 (by decide) (by decide) ⟨by omega, by omega⟩ rfl (by decide) zw12_47 (fun M1 X2 e3 h4 => ?_)
  refine z_xP zt276 2 7 [some (.ref 19), some (.int p1), some (.int p2), some (.int p3)] [.int p1, .ref 19] rfl rfl ?_
  refine z_xcV (vs := [.ref 19, .int p1]) (r := []) (L2 := [some (.ref 19), some (.int p1)]) zt276 3 rfl zo276 zzcV12_272 (Or.inl rfl) rfl X2 f19 rfl rfl rfl (Nat.le_of_ble_eq_true rfl) zzm237 (Nat.le_of_ble_eq_true rfl) rfl ?_
  refine z_xP zt237 0 1 [some (.ref 19), some (.int p1)] [.int p1] rfl rfl ?_
  refine z_xZ zt237 1 rfl rfl (fun (h5 : p1.toInt < 0) => absurd h5 (by omega)) (fun (h5 : 0 ≤ p1.toInt) => ?_)
  refine z_xP zt237 2 6 [some (.ref 19), some (.int p1)] [.ref 19, .int p1] rfl rfl ?_
  have h6 := (e3.f f19 (by decide) hww)
  refine z_xgv zt237 3 rfl zo237 zzf12_269 X2 f19 (by decide) h6 ?_
  refine z_xJ zt237 4 rfl rfl (fun (h7 : ww.toInt ≤ p1.toInt) => ?_) (fun (h7 : p1.toInt < ww.toInt) => ?_)
  · skip
    refine z_xP zt237 6 17 [some (.ref 19), some (.int p1)] [.int 0] rfl rfl ?_
    refine z_xrz zt237 7 rfl zzr237 (by decide) (by decide) ?_
    show z_ev (d + 41) 276 10 [some (.ref 19), some (.int p1), some (.int p2), some (.int p3)] [.int 0] M1 _
    refine z_xZ zt276 4 rfl rfl (fun (h8 : (0 : Int) = 0) => ?_) (fun (h8 : (0 : Int) ≠ 0) => absurd h8 (by omega))
    refine z_xP zt276 11 26 [some (.ref 19), some (.int p1), some (.int p2), some (.int p3)] [.int 0] rfl rfl ?_
    have q0 : ((0 : Int32)).toInt = 0 := rfl
    have f48 : T[48]? = some (.inr (48, 0, 24, (-2147483648), 2147483647)) := X2.1.k rfl (by decide)
    have q0 : ((0 : Int32)).toInt = 0 := rfl
    exact z_xri zt276 12 rfl zzr276 (kk 0 M1 X2 (fun hq => by exfalso; omega) (fun hq => by exfalso; omega) (fun hq => by exfalso; omega) (fun hq => by exfalso; omega) (fun _ => ⟨rfl, (e3.a f48 (by decide)), _, h4, by omega⟩))
  refine z_xP zt237 5 17 [some (.ref 19), some (.int p1)] [.int 1] rfl rfl ?_
  refine z_xrz zt237 7 rfl zzr237 (by decide) (by decide) ?_
  show z_ev (d + 41) 276 10 [some (.ref 19), some (.int p1), some (.int p2), some (.int p3)] [.int 1] M1 _
  refine z_xZ zt276 4 rfl rfl (fun (h9 : (1 : Int) = 0) => absurd h9 (by omega)) (fun (h9 : (1 : Int) ≠ 0) => ?_)
  refine z_xP zt276 5 14 [some (.ref 19), some (.int p1), some (.int p2), some (.int p3)] [.int p2] rfl rfl ?_
  have h10 := z_b32 p2
  refine z_xL zt276 6 rfl rfl (fun (y11 : Int64) (h12 : y11.toInt = p2.toInt) => ?_) (z_qI2L rfl)
  refine z_xP zt276 7 16 [some (.ref 19), some (.int p1), some (.int p2), some (.int p3)] [.long 0, .long y11] rfl rfl ?_
  refine z_xl2 zt276 8 rfl zo276 zkl12_358 ?_
  refine z_xcS (vs := [.long y11, .long 0, .long 3]) (r := []) (L2 := [some (.long y11), none, some (.long 0), none, some (.long 3), none]) zt276 9 rfl zo276 zzcS12_116 (Or.inl rfl) (Nat.le_of_ble_eq_true rfl) rfl rfl (Nat.le_of_ble_eq_true rfl) zzm189 (Nat.le_of_ble_eq_true rfl) rfl ?_
  refine z_xP zt189 0 2 [some (.long y11), none, some (.long 0), none, some (.long 3), none] [.long 0, .long y11] rfl rfl ?_
  refine z_xI zt189 1 rfl rfl (fun (x13 : Int32) (h14 : (x13.toInt < 0 ∧ y11.toInt < 0) ∨ (x13.toInt = 0 ∧ y11.toInt = 0) ∨ (0 < x13.toInt ∧ 0 < y11.toInt)) => ?_) (z_qCmp rfl rfl)
  refine z_xZ zt189 2 rfl rfl (fun (h15 : x13.toInt < 0) => ?_) (fun (h15 : 0 ≤ x13.toInt) => ?_)
  · skip
    refine z_xP zt189 7 18 [some (.long y11), none, some (.long 0), none, some (.long 3), none] [.int 0] rfl rfl ?_
    refine z_xrz zt189 8 rfl zzr189 (by decide) (by decide) ?_
    show z_ev (d + 41) 276 22 [some (.ref 19), some (.int p1), some (.int p2), some (.int p3)] [.int 0] M1 _
    refine z_xZ zt276 10 rfl rfl (fun (h16 : (0 : Int) ≠ 0) => absurd h16 (by omega)) (fun (h16 : (0 : Int) = 0) => ?_)
    refine z_xP zt276 11 26 [some (.ref 19), some (.int p1), some (.int p2), some (.int p3)] [.int 0] rfl rfl ?_
    have q0 : ((0 : Int32)).toInt = 0 := rfl
    have f48 : T[48]? = some (.inr (48, 0, 24, (-2147483648), 2147483647)) := X2.1.k rfl (by decide)
    have q0 : ((0 : Int32)).toInt = 0 := rfl
    exact z_xri zt276 12 rfl zzr276 (kk 0 M1 X2 (fun hq => by exfalso; omega) (fun hq => by exfalso; omega) (fun hq => by exfalso; omega) (fun hq => by exfalso; omega) (fun _ => ⟨rfl, (e3.a f48 (by decide)), _, h4, by omega⟩))
  refine z_xP zt189 3 9 [some (.long y11), none, some (.long 0), none, some (.long 3), none] [.long 3, .long y11] rfl rfl ?_
  refine z_xI zt189 4 rfl rfl (fun (x17 : Int32) (h18 : (x17.toInt < 0 ∧ y11.toInt < 3) ∨ (x17.toInt = 0 ∧ y11.toInt = 3) ∨ (0 < x17.toInt ∧ 3 < y11.toInt)) => ?_) (z_qCmp rfl rfl)
  refine z_xZ zt189 5 rfl rfl (fun (h19 : 0 < x17.toInt) => ?_) (fun (h19 : x17.toInt ≤ 0) => ?_)
  · skip
    refine z_xP zt189 7 18 [some (.long y11), none, some (.long 0), none, some (.long 3), none] [.int 0] rfl rfl ?_
    refine z_xrz zt189 8 rfl zzr189 (by decide) (by decide) ?_
    show z_ev (d + 41) 276 22 [some (.ref 19), some (.int p1), some (.int p2), some (.int p3)] [.int 0] M1 _
    refine z_xZ zt276 10 rfl rfl (fun (h20 : (0 : Int) ≠ 0) => absurd h20 (by omega)) (fun (h20 : (0 : Int) = 0) => ?_)
    refine z_xP zt276 11 26 [some (.ref 19), some (.int p1), some (.int p2), some (.int p3)] [.int 0] rfl rfl ?_
    have q0 : ((0 : Int32)).toInt = 0 := rfl
    have f48 : T[48]? = some (.inr (48, 0, 24, (-2147483648), 2147483647)) := X2.1.k rfl (by decide)
    have q0 : ((0 : Int32)).toInt = 0 := rfl
    exact z_xri zt276 12 rfl zzr276 (kk 0 M1 X2 (fun hq => by exfalso; omega) (fun hq => by exfalso; omega) (fun hq => by exfalso; omega) (fun hq => by exfalso; omega) (fun _ => ⟨rfl, (e3.a f48 (by decide)), _, h4, by omega⟩))
  refine z_xP zt189 6 18 [some (.long y11), none, some (.long 0), none, some (.long 3), none] [.int 1] rfl rfl ?_
  refine z_xrz zt189 8 rfl zzr189 (by decide) (by decide) ?_
  show z_ev (d + 41) 276 22 [some (.ref 19), some (.int p1), some (.int p2), some (.int p3)] [.int 1] M1 _
  refine z_xZ zt276 10 rfl rfl (fun (h21 : (1 : Int) ≠ 0) => ?_) (fun (h21 : (1 : Int) = 0) => absurd h21 (by omega))
  refine z_xP zt276 13 29 [some (.ref 19), some (.int p1), some (.int p2), some (.int p3)] [.int p1, .ref 19] rfl rfl ?_
  refine z_xpf zt276 14 rfl zo276 zzf12_387 X2 f19 (by decide) (by decide) ⟨by omega, by omega⟩ rfl (by decide) zw12_48 (fun M22 X23 e24 h25 => ?_)
  refine z_xP zt276 15 33 [some (.ref 19), some (.int p1), some (.int p2), some (.int p3)] [.int p2] rfl rfl ?_
  refine z_xZ zt276 16 rfl rfl (fun (h26 : p2.toInt ≠ 0) => ?_) (fun (h26 : p2.toInt = 0) => ?_)
  · skip
    refine z_xP zt276 24 52 [some (.ref 19), some (.int p1), some (.int p2), some (.int p3)] [.int 1, .int p2] rfl rfl ?_
    refine z_xJ zt276 25 rfl rfl (fun (h27 : p2.toInt ≠ 1) => ?_) (fun (h27 : p2.toInt = 1) => ?_)
    · skip
      refine z_xP zt276 33 71 [some (.ref 19), some (.int p1), some (.int p2), some (.int p3)] [.int 2, .int p2] rfl rfl ?_
      refine z_xJ zt276 34 rfl rfl (fun (h28 : p2.toInt ≠ 2) => ?_) (fun (h28 : p2.toInt = 2) => ?_)
      · skip
        refine z_xP zt276 42 90 [some (.ref 19), some (.int p1), some (.int p2), some (.int p3)] [.ref 19, .ref 19] rfl rfl ?_
        refine z_xgX (b := 36) zt276 43 rfl zo276 zzf12_58 X23 f19 (by decide) (by decide) rfl ?_
        refine z_xP zt276 44 94 [some (.ref 19), some (.int p1), some (.int p2), some (.int p3)] [.int p1, .ref 36, .ref 19] rfl rfl ?_
        have f36 : T[36]? = some (.inr (36, 0, 20, 0, 7)) := X23.1.k rfl (by decide)
        refine z_xil zt276 45 rfl X23 f36 (by decide) (by omega) (by omega) (fun (x29 : Int32) h30 (h31 : 0 ≤ x29.toInt) (h32 : x29.toInt ≤ 7) => ?_)
        have h33 := congrArg Int32.toInt (h30.symm.trans ((congrFun (e24.a f36 (by decide)) _).trans ((congrFun (e3.a f36 (by decide)) _).trans hk36)))
        refine z_xP zt276 46 96 [some (.ref 19), some (.int p1), some (.int p2), some (.int p3)] [.int p3, .int x29, .ref 19] rfl rfl ?_
        refine z_xcV (vs := [.ref 19, .int x29, .int p3]) (r := []) (L2 := [some (.ref 19), some (.int x29), some (.int p3), none]) zt276 47 rfl zo276 zzcV12_402 (Or.inl rfl) rfl X23 f19 rfl rfl rfl (Nat.le_of_ble_eq_true rfl) zzm282 (Nat.le_of_ble_eq_true rfl) rfl ?_
        refine z_xP zt282 0 3 [some (.ref 19), some (.int x29), some (.int p3), some (.int 0)] [.int x29] rfl rfl ?_
        refine z_xSL zt282 1 rfl (by decide) (z_lsd (List.forall_mem_cons.mpr ⟨show (0 : Int) ≠ x29.toInt from by omega, (List.forall_mem_cons.mpr ⟨show (5 : Int) ≠ x29.toInt from by omega, (List.forall_mem_cons.mpr ⟨show (7 : Int) ≠ x29.toInt from by omega, (List.forall_mem_nil _)⟩)⟩)⟩)) rfl ?_
        refine z_xP zt282 47 133 [some (.ref 19), some (.int x29), some (.int p3), some (.int 0)] [.int x29, .ref 19] rfl rfl ?_
        refine z_xcS (vs := [.int x29]) (r := [.ref 19]) (L2 := [some (.int x29)]) zt282 48 rfl zo282 zzcS12_390 (Or.inl rfl) (Nat.le_of_ble_eq_true rfl) rfl rfl (Nat.le_of_ble_eq_true rfl) zzm279 (Nat.le_of_ble_eq_true rfl) rfl ?_
        refine z_xP zt279 0 2 [some (.int x29)] [.int 2, .int x29] rfl rfl ?_
        refine z_xJ zt279 1 rfl rfl (fun (h34 : x29.toInt = 2) => absurd h34 (by omega)) (fun (h34 : x29.toInt ≠ 2) => ?_)
        refine z_xP zt279 2 7 [some (.int x29)] [.int 3, .int x29] rfl rfl ?_
        refine z_xJ zt279 3 rfl rfl (fun (h35 : x29.toInt ≠ 3) => ?_) (fun (h35 : x29.toInt = 3) => absurd h35 (by omega))
        refine z_xP zt279 5 17 [some (.int x29)] [.int 6, .int x29] rfl rfl ?_
        refine z_xJ zt279 6 rfl rfl (fun (h36 : x29.toInt ≠ 6) => ?_) (fun (h36 : x29.toInt = 6) => absurd h36 (by omega))
        refine z_xP zt279 8 25 [some (.int x29)] [.int 0] rfl rfl ?_
        refine z_xri zt279 9 rfl zzr279 ?_
        show z_ev (d + 40) 282 136 [some (.ref 19), some (.int x29), some (.int p3), some (.int 0)] [.int 0, .ref 19] M22 _
        refine z_xP zt282 49 137 [some (.ref 19), some (.int x29), some (.int p3), some (.int 0)] [.int p3, .int 0, .ref 19] rfl rfl ?_
        refine z_xcV (vs := [.ref 19, .int 0, .int p3]) (r := []) (L2 := [some (.ref 19), some (.int 0), some (.int p3), none]) zt282 50 rfl zo282 zzcV12_402 (Or.inl rfl) rfl X23 f19 rfl rfl rfl (Nat.le_of_ble_eq_true rfl) zzm282 (Nat.le_of_ble_eq_true rfl) rfl ?_
        refine z_xP zt282 0 3 [some (.ref 19), some (.int 0), some (.int p3), some (.int 0)] [.int 0] rfl rfl ?_
        refine z_xSW zt282 1 36 rfl rfl ?_
        refine z_xP zt282 2 38 [some (.ref 19), some (.int 0), some (.int p3), some (.int 0)] [.int 2, .ref 19] rfl rfl ?_
        refine z_xcV (vs := [.ref 19, .int 2]) (r := []) (L2 := [some (.ref 19), some (.int 2)]) zt282 3 rfl zo282 zzcV12_384 (Or.inl rfl) rfl X23 f19 rfl rfl rfl (Nat.le_of_ble_eq_true rfl) zzm278 (Nat.le_of_ble_eq_true rfl) rfl ?_
        have q2 : ((2 : Int32)).toInt = 2 := rfl
        have h37 := (e24.f f19 (by decide) h4)
        have q0 : ((0 : Int32)).toInt = 0 := rfl
        have q2 : ((2 : Int32)).toInt = 2 := rfl
        refine zNC278 X23.1 h37 ⟨by omega, by omega⟩ (fun M38 X39 h40 z41 h42 h43 h44 => ?_)
        have X45 := X23.go X39 (z_sb (by decide))
        show z_ev (d + 39) 282 41 [some (.ref 19), some (.int 0), some (.int p3), some (.int 0)] [] M38 _
        have f48 : T[48]? = some (.inr (48, 0, 24, (-2147483648), 2147483647)) := X45.1.k rfl (by decide)
        have n47 : z_Ar M22 48 = z_Ar M0 48 := ((e24.a f48 (by decide)).trans (e3.a f48 (by decide)))
        have h49 : (0 : Int32).toInt.toNat = 0 := by omega
        have n48 : z_Ar M38 48 = z_nrs 0 [2] (z_Ar M0 48) := by rw [h40, n47, h49]; rfl
        refine z_xP zt282 4 43 [some (.ref 19), some (.int 0), some (.int p3), some (.int 0)] [.ref 19, .ref 19] rfl rfl ?_
        refine z_xgX (b := 36) zt282 5 rfl zo282 zzf12_58 X45 f19 (by decide) (by decide) rfl ?_
        refine z_xP zt282 6 47 [some (.ref 19), some (.int 0), some (.int p3), some (.int 0)] [.ref 19, .ref 36, .ref 19] rfl rfl ?_
        have h50 := (X39.2.f f19 (by decide) h25)
        refine z_xgv zt282 7 rfl zo282 zzf12_387 X45 f19 (by decide) h50 ?_
        refine z_xil zt282 8 rfl X45 f36 (by decide) (by omega) (by omega) (fun (x51 : Int32) h52 (h53 : 0 ≤ x51.toInt) (h54 : x51.toInt ≤ 7) => ?_)
        have h55 := congrArg Int32.toInt (h52.symm.trans ((congrFun (X39.2.a f36 (by decide)) _).trans ((congrFun (e24.a f36 (by decide)) _).trans ((congrFun (e3.a f36 (by decide)) _).trans hk36))))
        refine z_xP zt282 9 52 [some (.ref 19), some (.int 0), some (.int p3), some (.int 0)] [.int p3, .int x51, .ref 19] rfl rfl ?_
        refine z_xcV (vs := [.ref 19, .int x51, .int p3]) (r := []) (L2 := [some (.ref 19), some (.int x51), some (.int p3), none]) zt282 10 rfl zo282 zzcV12_396 (Or.inl rfl) rfl X45 f19 rfl rfl rfl (Nat.le_of_ble_eq_true rfl) zzm280 (Nat.le_of_ble_eq_true rfl) rfl ?_
        refine z_xP zt280 0 1 [some (.ref 19), some (.int x51), some (.int p3), none] [.int x51] rfl rfl ?_
        by_cases h56 : x51.toInt = 4
        · refine z_xSC zt280 1 (z_sub (k := 4) h56 rfl) 144 rfl rfl ?_
          refine z_xP zt280 50 146 [some (.ref 19), some (.int x51), some (.int p3), none] [.int x51, .ref 19] rfl rfl ?_
          refine z_xcS (vs := [.int x51]) (r := [.ref 19]) (L2 := [some (.int x51)]) zt280 51 rfl zo280 zzcS12_390 (Or.inl rfl) (Nat.le_of_ble_eq_true rfl) rfl rfl (Nat.le_of_ble_eq_true rfl) zzm279 (Nat.le_of_ble_eq_true rfl) rfl ?_
          refine z_xP zt279 0 2 [some (.int x51)] [.int 2, .int x51] rfl rfl ?_
          refine z_xJ zt279 1 rfl rfl (fun (h57 : x51.toInt = 2) => absurd h57 (by omega)) (fun (h57 : x51.toInt ≠ 2) => ?_)
          refine z_xP zt279 2 7 [some (.int x51)] [.int 3, .int x51] rfl rfl ?_
          refine z_xJ zt279 3 rfl rfl (fun (h58 : x51.toInt ≠ 3) => ?_) (fun (h58 : x51.toInt = 3) => absurd h58 (by omega))
          refine z_xP zt279 5 17 [some (.int x51)] [.int 6, .int x51] rfl rfl ?_
          refine z_xJ zt279 6 rfl rfl (fun (h59 : x51.toInt ≠ 6) => ?_) (fun (h59 : x51.toInt = 6) => absurd h59 (by omega))
          refine z_xP zt279 8 25 [some (.int x51)] [.int 0] rfl rfl ?_
          refine z_xri zt279 9 rfl zzr279 ?_
          show z_ev (d + 38) 280 149 [some (.ref 19), some (.int x51), some (.int p3), none] [.int 0, .ref 19] M38 _
          refine z_xP zt280 52 150 [some (.ref 19), some (.int x51), some (.int p3), none] [.int p3, .int 0, .ref 19] rfl rfl ?_
          refine z_xcV (vs := [.ref 19, .int 0, .int p3]) (r := []) (L2 := [some (.ref 19), some (.int 0), some (.int p3), none]) zt280 53 rfl zo280 zzcV12_396 (Or.inl rfl) rfl X45 f19 rfl rfl rfl (Nat.le_of_ble_eq_true rfl) zzm280 (Nat.le_of_ble_eq_true rfl) rfl ?_
          refine z_xP zt280 0 1 [some (.ref 19), some (.int 0), some (.int p3), none] [.int 0] rfl rfl ?_
          refine z_xSW zt280 1 44 rfl rfl ?_
          refine z_xP zt280 2 47 [some (.ref 19), some (.int 0), some (.int p3), none] [.int 10, .ref 19] rfl rfl ?_
          refine z_xcV (vs := [.ref 19, .int 10]) (r := []) (L2 := [some (.ref 19), some (.int 10)]) zt280 3 rfl zo280 zzcV12_384 (Or.inl rfl) rfl X45 f19 rfl rfl rfl (Nat.le_of_ble_eq_true rfl) zzm278 (Nat.le_of_ble_eq_true rfl) rfl ?_
          have q10 : ((10 : Int32)).toInt = 10 := rfl
          have q10 : ((10 : Int32)).toInt = 10 := rfl
          refine zNC278 X45.1 h42 ⟨by omega, by omega⟩ (fun M60 X61 h62 z63 h64 h65 h66 => ?_)
          have X67 := X45.go X61 (z_sb (by decide))
          show z_ev (d + 37) 280 50 [some (.ref 19), some (.int 0), some (.int p3), none] [] M60 _
          have h70 : (z41 : Int32).toInt.toNat = 1 := by omega
          have n69 : z_Ar M60 48 = z_nrs 0 [2, 10] (z_Ar M0 48) := by rw [h62, n48, h70]; rfl
          refine z_xP zt280 4 52 [some (.ref 19), some (.int 0), some (.int p3), none] [.ref 19, .ref 19] rfl rfl ?_
          refine z_xgX (b := 36) zt280 5 rfl zo280 zzf12_58 X67 f19 (by decide) (by decide) rfl ?_
          refine z_xP zt280 6 56 [some (.ref 19), some (.int 0), some (.int p3), none] [.ref 19, .ref 36, .ref 19] rfl rfl ?_
          have h71 := (X61.2.f f19 (by decide) h50)
          refine z_xgv zt280 7 rfl zo280 zzf12_387 X67 f19 (by decide) h71 ?_
          refine z_xil zt280 8 rfl X67 f36 (by decide) (by omega) (by omega) (fun (x72 : Int32) h73 (h74 : 0 ≤ x72.toInt) (h75 : x72.toInt ≤ 7) => ?_)
          have h76 := congrArg Int32.toInt (h73.symm.trans ((congrFun (X61.2.a f36 (by decide)) _).trans ((congrFun (X39.2.a f36 (by decide)) _).trans ((congrFun (e24.a f36 (by decide)) _).trans ((congrFun (e3.a f36 (by decide)) _).trans hk36)))))
          refine z_xP zt280 9 61 [some (.ref 19), some (.int 0), some (.int p3), none] [.int p3, .int x72, .ref 19] rfl rfl ?_
          refine z_xcV (vs := [.ref 19, .int x72, .int p3]) (r := []) (L2 := [some (.ref 19), some (.int x72), some (.int p3)]) zt280 10 rfl zo280 zzcV12_393 (Or.inl rfl) rfl X67 f19 rfl rfl rfl (Nat.le_of_ble_eq_true rfl) zzm277 (Nat.le_of_ble_eq_true rfl) rfl ?_
          refine z_xP zt277 0 1 [some (.ref 19), some (.int x72), some (.int p3)] [.int x72] rfl rfl ?_
          by_cases h77 : x72.toInt = 4
          · refine z_xSC zt277 1 (z_sub (k := 4) h77 rfl) 66 rfl rfl ?_
            refine z_xP zt277 17 69 [some (.ref 19), some (.int x72), some (.int p3)] [.int 50, .ref 19] rfl rfl ?_
            refine z_xcV (vs := [.ref 19, .int 50]) (r := []) (L2 := [some (.ref 19), some (.int 50)]) zt277 18 rfl zo277 zzcV12_384 (Or.inl rfl) rfl X67 f19 rfl rfl rfl (Nat.le_of_ble_eq_true rfl) zzm278 (Nat.le_of_ble_eq_true rfl) rfl ?_
            have q50 : ((50 : Int32)).toInt = 50 := rfl
            have q50 : ((50 : Int32)).toInt = 50 := rfl
            refine zNC278 X67.1 h64 ⟨by omega, by omega⟩ (fun M78 X79 h80 z81 h82 h83 h84 => ?_)
            have X85 := X67.go X79 (z_sb (by decide))
            show z_ev (d + 36) 277 72 [some (.ref 19), some (.int x72), some (.int p3)] [] M78 _
            have h88 : (z63 : Int32).toInt.toNat = 2 := by omega
            have n87 : z_Ar M78 48 = z_nrs 0 [2, 10, 50] (z_Ar M0 48) := by rw [h80, n69, h88]; rfl
            refine z_xP zt277 19 74 [some (.ref 19), some (.int x72), some (.int p3)] [.int 4, .ref 19] rfl rfl ?_
            refine z_xcS (vs := [.int 4]) (r := [.ref 19]) (L2 := [some (.int 4)]) zt277 20 rfl zo277 zzcS12_390 (Or.inl rfl) (Nat.le_of_ble_eq_true rfl) rfl rfl (Nat.le_of_ble_eq_true rfl) zzm279 (Nat.le_of_ble_eq_true rfl) rfl ?_
            refine z_xP zt279 0 2 [some (.int 4)] [.int 2, .int 4] rfl rfl ?_
            refine z_xJ zt279 1 rfl rfl (fun (h89 : (4 : Int) = 2) => absurd h89 (by omega)) (fun (h89 : (4 : Int) ≠ 2) => ?_)
            refine z_xP zt279 2 7 [some (.int 4)] [.int 3, .int 4] rfl rfl ?_
            refine z_xJ zt279 3 rfl rfl (fun (h90 : (4 : Int) ≠ 3) => ?_) (fun (h90 : (4 : Int) = 3) => absurd h90 (by omega))
            refine z_xP zt279 5 17 [some (.int 4)] [.int 6, .int 4] rfl rfl ?_
            refine z_xJ zt279 6 rfl rfl (fun (h91 : (4 : Int) ≠ 6) => ?_) (fun (h91 : (4 : Int) = 6) => absurd h91 (by omega))
            refine z_xP zt279 8 25 [some (.int 4)] [.int 0] rfl rfl ?_
            refine z_xri zt279 9 rfl zzr279 ?_
            show z_ev (d + 36) 277 77 [some (.ref 19), some (.int x72), some (.int p3)] [.int 0, .ref 19] M78 _
            refine z_xP zt277 21 78 [some (.ref 19), some (.int x72), some (.int p3)] [.int p3, .int 0, .ref 19] rfl rfl ?_
            refine z_xcV (vs := [.ref 19, .int 0, .int p3]) (r := []) (L2 := [some (.ref 19), some (.int 0), some (.int p3)]) zt277 22 rfl zo277 zzcV12_393 (Or.inl rfl) rfl X85 f19 rfl rfl rfl (Nat.le_of_ble_eq_true rfl) zzm277 (Nat.le_of_ble_eq_true rfl) rfl ?_
            refine z_xP zt277 0 1 [some (.ref 19), some (.int 0), some (.int p3)] [.int 0] rfl rfl ?_
            refine z_xSW zt277 1 36 rfl rfl ?_
            refine z_xP zt277 2 38 [some (.ref 19), some (.int 0), some (.int p3)] [.int 1, .ref 19] rfl rfl ?_
            refine z_xcV (vs := [.ref 19, .int 1]) (r := []) (L2 := [some (.ref 19), some (.int 1)]) zt277 3 rfl zo277 zzcV12_384 (Or.inl rfl) rfl X85 f19 rfl rfl rfl (Nat.le_of_ble_eq_true rfl) zzm278 (Nat.le_of_ble_eq_true rfl) rfl ?_
            have q1 : ((1 : Int32)).toInt = 1 := rfl
            have q1 : ((1 : Int32)).toInt = 1 := rfl
            refine zNC278 X85.1 h82 ⟨by omega, by omega⟩ (fun M92 X93 h94 z95 h96 h97 h98 => ?_)
            have X99 := X85.go X93 (z_sb (by decide))
            show z_ev (d + 35) 277 41 [some (.ref 19), some (.int 0), some (.int p3)] [] M92 _
            have h102 : (z81 : Int32).toInt.toNat = 3 := by omega
            have n101 : z_Ar M92 48 = z_nrs 0 [2, 10, 50, 1] (z_Ar M0 48) := by rw [h94, n87, h102]; rfl
            refine z_xP zt277 4 43 [some (.ref 19), some (.int 0), some (.int p3)] [.ref 19, .int p3] rfl rfl ?_
            have h103 := (X93.2.f f19 (by decide) (X79.2.f f19 (by decide) h71))
            refine z_xgv zt277 5 rfl zo277 zzf12_387 X99 f19 (by decide) h103 ?_
            have h104 := z_b32 p3
            refine z_xI zt277 6 rfl rfl (fun (x105 : Int32) (h106 : x105 = p3 + p1) => ?_) (rfl)
            refine z_xri zt277 7 rfl zzr277 ?_
            show z_ev (d + 36) 277 81 [some (.ref 19), some (.int x72), some (.int p3)] [.int x105] M92 _
            refine z_xP zt277 23 82 [some (.ref 19), some (.int x72), some (.int p3)] [.int 5, .int x105] rfl rfl ?_
            refine z_xI zt277 24 rfl rfl (fun (x107 : Int32) (h108 : x107 = x105 ^^^ 5) => ?_) (rfl)
            refine z_xri zt277 25 rfl zzr277 ?_
            show z_ev (d + 37) 280 64 [some (.ref 19), some (.int 0), some (.int p3), none] [.int x107] M92 _
            refine z_xP zt280 11 65 [some (.ref 19), some (.int 0), some (.int p3), none] [.int 2, .int x107] rfl rfl ?_
            have h109 := z_b32 x107
            refine z_xI zt280 12 rfl rfl (fun (x110 : Int32) (h111 : x110 = x107 * 2) => ?_) (rfl)
            refine z_xri zt280 13 rfl zzr280 ?_
            show z_ev (d + 38) 280 153 [some (.ref 19), some (.int x51), some (.int p3), none] [.int x110] M92 _
            refine z_xri zt280 54 rfl zzr280 ?_
            show z_ev (d + 39) 282 55 [some (.ref 19), some (.int 0), some (.int p3), some (.int 0)] [.int x110] M92 _
            refine z_xP zt282 11 59 [some (.ref 19), some (.int 0), some (.int p3), some (.int x110)] [.ref 19, .ref 19, .int x110] rfl rfl ?_
            refine z_xgX (b := 36) zt282 12 rfl zo282 zzf12_58 X99 f19 (by decide) (by decide) rfl ?_
            refine z_xP zt282 13 63 [some (.ref 19), some (.int 0), some (.int p3), some (.int x110)] [.ref 19, .ref 36, .ref 19, .int x110] rfl rfl ?_
            refine z_xgv zt282 14 rfl zo282 zzf12_387 X99 f19 (by decide) h103 ?_
            refine z_xil zt282 15 rfl X99 f36 (by decide) (by omega) (by omega) (fun (x112 : Int32) h113 (h114 : 0 ≤ x112.toInt) (h115 : x112.toInt ≤ 7) => ?_)
            have h116 := congrArg Int32.toInt (h113.symm.trans ((congrFun (X93.2.a f36 (by decide)) _).trans ((congrFun (X79.2.a f36 (by decide)) _).trans ((congrFun (X61.2.a f36 (by decide)) _).trans ((congrFun (X39.2.a f36 (by decide)) _).trans ((congrFun (e24.a f36 (by decide)) _).trans ((congrFun (e3.a f36 (by decide)) _).trans hk36)))))))
            refine z_xP zt282 16 68 [some (.ref 19), some (.int 0), some (.int p3), some (.int x110)] [.int 1, .int x112, .ref 19, .int x110] rfl rfl ?_
            refine z_xcV (vs := [.ref 19, .int x112, .int 1]) (r := [.int x110]) (L2 := [some (.ref 19), some (.int x112), some (.int 1)]) zt282 17 rfl zo282 zzcV12_399 (Or.inl rfl) rfl X99 f19 rfl rfl rfl (Nat.le_of_ble_eq_true rfl) zzm281 (Nat.le_of_ble_eq_true rfl) rfl ?_
            refine z_xP zt281 0 1 [some (.ref 19), some (.int x112), some (.int 1)] [.int x112] rfl rfl ?_
            refine z_xSL zt281 1 rfl (by decide) (z_lsd (List.forall_mem_cons.mpr ⟨show (0 : Int) ≠ x112.toInt from by omega, (List.forall_mem_cons.mpr ⟨show (3 : Int) ≠ x112.toInt from by omega, (List.forall_mem_cons.mpr ⟨show (6 : Int) ≠ x112.toInt from by omega, (List.forall_mem_nil _)⟩)⟩)⟩)) rfl ?_
            refine z_xP zt281 25 88 [some (.ref 19), some (.int x112), some (.int 1)] [.int x112, .ref 19] rfl rfl ?_
            refine z_xcS (vs := [.int x112]) (r := [.ref 19]) (L2 := [some (.int x112)]) zt281 26 rfl zo281 zzcS12_390 (Or.inl rfl) (Nat.le_of_ble_eq_true rfl) rfl rfl (Nat.le_of_ble_eq_true rfl) zzm279 (Nat.le_of_ble_eq_true rfl) rfl ?_
            refine z_xP zt279 0 2 [some (.int x112)] [.int 2, .int x112] rfl rfl ?_
            refine z_xJ zt279 1 rfl rfl (fun (h117 : x112.toInt = 2) => absurd h117 (by omega)) (fun (h117 : x112.toInt ≠ 2) => ?_)
            refine z_xP zt279 2 7 [some (.int x112)] [.int 3, .int x112] rfl rfl ?_
            refine z_xJ zt279 3 rfl rfl (fun (h118 : x112.toInt ≠ 3) => ?_) (fun (h118 : x112.toInt = 3) => absurd h118 (by omega))
            refine z_xP zt279 5 17 [some (.int x112)] [.int 6, .int x112] rfl rfl ?_
            refine z_xJ zt279 6 rfl rfl (fun (h119 : x112.toInt ≠ 6) => ?_) (fun (h119 : x112.toInt = 6) => absurd h119 (by omega))
            refine z_xP zt279 8 25 [some (.int x112)] [.int 0] rfl rfl ?_
            refine z_xri zt279 9 rfl zzr279 ?_
            show z_ev (d + 38) 281 91 [some (.ref 19), some (.int x112), some (.int 1)] [.int 0, .ref 19] M92 _
            refine z_xP zt281 27 92 [some (.ref 19), some (.int x112), some (.int 1)] [.int 1, .int 0, .ref 19] rfl rfl ?_
            refine z_xcV (vs := [.ref 19, .int 0, .int 1]) (r := []) (L2 := [some (.ref 19), some (.int 0), some (.int 1)]) zt281 28 rfl zo281 zzcV12_399 (Or.inl rfl) rfl X99 f19 rfl rfl rfl (Nat.le_of_ble_eq_true rfl) zzm281 (Nat.le_of_ble_eq_true rfl) rfl ?_
            refine z_xP zt281 0 1 [some (.ref 19), some (.int 0), some (.int 1)] [.int 0] rfl rfl ?_
            refine z_xSW zt281 1 36 rfl rfl ?_
            refine z_xP zt281 2 39 [some (.ref 19), some (.int 0), some (.int 1)] [.int 11, .ref 19] rfl rfl ?_
            refine z_xcV (vs := [.ref 19, .int 11]) (r := []) (L2 := [some (.ref 19), some (.int 11)]) zt281 3 rfl zo281 zzcV12_384 (Or.inl rfl) rfl X99 f19 rfl rfl rfl (Nat.le_of_ble_eq_true rfl) zzm278 (Nat.le_of_ble_eq_true rfl) rfl ?_
            have q11 : ((11 : Int32)).toInt = 11 := rfl
            have q11 : ((11 : Int32)).toInt = 11 := rfl
            refine zNC278 X99.1 h96 ⟨by omega, by omega⟩ (fun M120 X121 h122 z123 h124 h125 h126 => ?_)
            have X127 := X99.go X121 (z_sb (by decide))
            show z_ev (d + 37) 281 42 [some (.ref 19), some (.int 0), some (.int 1)] [] M120 _
            have h130 : (z95 : Int32).toInt.toNat = 4 := by omega
            have n129 : z_Ar M120 48 = z_nrs 0 [2, 10, 50, 1, 11] (z_Ar M0 48) := by rw [h122, n101, h130]; rfl
            refine z_xP zt281 4 44 [some (.ref 19), some (.int 0), some (.int 1)] [.ref 19, .int 1] rfl rfl ?_
            have h131 := (X121.2.f f19 (by decide) h103)
            refine z_xgv zt281 5 rfl zo281 zzf12_387 X127 f19 (by decide) h131 ?_
            refine z_xI zt281 6 rfl rfl (fun (x132 : Int32) (h133 : x132 = 1 ^^^ p1) => ?_) (rfl)
            refine z_xri zt281 7 rfl zzr281 ?_
            show z_ev (d + 38) 281 95 [some (.ref 19), some (.int x112), some (.int 1)] [.int x132] M120 _
            refine z_xri zt281 29 rfl zzr281 ?_
            show z_ev (d + 39) 282 71 [some (.ref 19), some (.int 0), some (.int p3), some (.int x110)] [.int x132, .int x110] M120 _
            have h134 := z_b32 x110
            have h135 := z_b32 x132
            refine z_xI zt282 18 rfl rfl (fun (x136 : Int32) (h137 : x136 = x110 - x132) => ?_) (rfl)
            refine z_xri zt282 19 rfl zzr282 ?_
            show z_ev (d + 40) 282 140 [some (.ref 19), some (.int x29), some (.int p3), some (.int 0)] [.int x136] M120 _
            refine z_xri zt282 51 rfl zzr282 ?_
            show z_ev (d + 41) 276 99 [some (.ref 19), some (.int p1), some (.int p2), some (.int p3)] [.int x136] M120 _
            exact z_xri zt276 48 rfl zzr276 (kk x136 M120 X127 (fun hq => by exfalso; omega) (fun hq => by exfalso; omega) (fun hq => by exfalso; omega) (fun _ => ⟨(by rw [h137, h133, h111, h108, h106]), n129, _, h124, by omega⟩) (fun hq => by exfalso; omega))
          exfalso; omega
        exfalso; omega
      refine z_xP zt276 35 76 [some (.ref 19), some (.int p1), some (.int p2), some (.int p3)] [.ref 19, .ref 19] rfl rfl ?_
      refine z_xgX (b := 36) zt276 36 rfl zo276 zzf12_58 X23 f19 (by decide) (by decide) rfl ?_
      refine z_xP zt276 37 80 [some (.ref 19), some (.int p1), some (.int p2), some (.int p3)] [.int p1, .ref 36, .ref 19] rfl rfl ?_
      have f36 : T[36]? = some (.inr (36, 0, 20, 0, 7)) := X23.1.k rfl (by decide)
      refine z_xil zt276 38 rfl X23 f36 (by decide) (by omega) (by omega) (fun (x138 : Int32) h139 (h140 : 0 ≤ x138.toInt) (h141 : x138.toInt ≤ 7) => ?_)
      have h142 := congrArg Int32.toInt (h139.symm.trans ((congrFun (e24.a f36 (by decide)) _).trans ((congrFun (e3.a f36 (by decide)) _).trans hk36)))
      refine z_xP zt276 39 82 [some (.ref 19), some (.int p1), some (.int p2), some (.int p3)] [.int p3, .int x138, .ref 19] rfl rfl ?_
      refine z_xcV (vs := [.ref 19, .int x138, .int p3]) (r := []) (L2 := [some (.ref 19), some (.int x138), some (.int p3)]) zt276 40 rfl zo276 zzcV12_399 (Or.inl rfl) rfl X23 f19 rfl rfl rfl (Nat.le_of_ble_eq_true rfl) zzm281 (Nat.le_of_ble_eq_true rfl) rfl ?_
      refine z_xP zt281 0 1 [some (.ref 19), some (.int x138), some (.int p3)] [.int x138] rfl rfl ?_
      refine z_xSL zt281 1 rfl (by decide) (z_lsd (List.forall_mem_cons.mpr ⟨show (0 : Int) ≠ x138.toInt from by omega, (List.forall_mem_cons.mpr ⟨show (3 : Int) ≠ x138.toInt from by omega, (List.forall_mem_cons.mpr ⟨show (6 : Int) ≠ x138.toInt from by omega, (List.forall_mem_nil _)⟩)⟩)⟩)) rfl ?_
      refine z_xP zt281 25 88 [some (.ref 19), some (.int x138), some (.int p3)] [.int x138, .ref 19] rfl rfl ?_
      refine z_xcS (vs := [.int x138]) (r := [.ref 19]) (L2 := [some (.int x138)]) zt281 26 rfl zo281 zzcS12_390 (Or.inl rfl) (Nat.le_of_ble_eq_true rfl) rfl rfl (Nat.le_of_ble_eq_true rfl) zzm279 (Nat.le_of_ble_eq_true rfl) rfl ?_
      refine z_xP zt279 0 2 [some (.int x138)] [.int 2, .int x138] rfl rfl ?_
      refine z_xJ zt279 1 rfl rfl (fun (h143 : x138.toInt = 2) => absurd h143 (by omega)) (fun (h143 : x138.toInt ≠ 2) => ?_)
      refine z_xP zt279 2 7 [some (.int x138)] [.int 3, .int x138] rfl rfl ?_
      refine z_xJ zt279 3 rfl rfl (fun (h144 : x138.toInt ≠ 3) => ?_) (fun (h144 : x138.toInt = 3) => absurd h144 (by omega))
      refine z_xP zt279 5 17 [some (.int x138)] [.int 6, .int x138] rfl rfl ?_
      refine z_xJ zt279 6 rfl rfl (fun (h145 : x138.toInt ≠ 6) => ?_) (fun (h145 : x138.toInt = 6) => absurd h145 (by omega))
      refine z_xP zt279 8 25 [some (.int x138)] [.int 0] rfl rfl ?_
      refine z_xri zt279 9 rfl zzr279 ?_
      show z_ev (d + 40) 281 91 [some (.ref 19), some (.int x138), some (.int p3)] [.int 0, .ref 19] M22 _
      refine z_xP zt281 27 92 [some (.ref 19), some (.int x138), some (.int p3)] [.int p3, .int 0, .ref 19] rfl rfl ?_
      refine z_xcV (vs := [.ref 19, .int 0, .int p3]) (r := []) (L2 := [some (.ref 19), some (.int 0), some (.int p3)]) zt281 28 rfl zo281 zzcV12_399 (Or.inl rfl) rfl X23 f19 rfl rfl rfl (Nat.le_of_ble_eq_true rfl) zzm281 (Nat.le_of_ble_eq_true rfl) rfl ?_
      refine z_xP zt281 0 1 [some (.ref 19), some (.int 0), some (.int p3)] [.int 0] rfl rfl ?_
      refine z_xSW zt281 1 36 rfl rfl ?_
      refine z_xP zt281 2 39 [some (.ref 19), some (.int 0), some (.int p3)] [.int 11, .ref 19] rfl rfl ?_
      refine z_xcV (vs := [.ref 19, .int 11]) (r := []) (L2 := [some (.ref 19), some (.int 11)]) zt281 3 rfl zo281 zzcV12_384 (Or.inl rfl) rfl X23 f19 rfl rfl rfl (Nat.le_of_ble_eq_true rfl) zzm278 (Nat.le_of_ble_eq_true rfl) rfl ?_
      have q11 : ((11 : Int32)).toInt = 11 := rfl
      have h146 := (e24.f f19 (by decide) h4)
      have q0 : ((0 : Int32)).toInt = 0 := rfl
      have q11 : ((11 : Int32)).toInt = 11 := rfl
      refine zNC278 X23.1 h146 ⟨by omega, by omega⟩ (fun M147 X148 h149 z150 h151 h152 h153 => ?_)
      have X154 := X23.go X148 (z_sb (by decide))
      show z_ev (d + 39) 281 42 [some (.ref 19), some (.int 0), some (.int p3)] [] M147 _
      have f48 : T[48]? = some (.inr (48, 0, 24, (-2147483648), 2147483647)) := X154.1.k rfl (by decide)
      have n156 : z_Ar M22 48 = z_Ar M0 48 := ((e24.a f48 (by decide)).trans (e3.a f48 (by decide)))
      have h158 : (0 : Int32).toInt.toNat = 0 := by omega
      have n157 : z_Ar M147 48 = z_nrs 0 [11] (z_Ar M0 48) := by rw [h149, n156, h158]; rfl
      refine z_xP zt281 4 44 [some (.ref 19), some (.int 0), some (.int p3)] [.ref 19, .int p3] rfl rfl ?_
      have h159 := (X148.2.f f19 (by decide) h25)
      refine z_xgv zt281 5 rfl zo281 zzf12_387 X154 f19 (by decide) h159 ?_
      refine z_xI zt281 6 rfl rfl (fun (x160 : Int32) (h161 : x160 = p3 ^^^ p1) => ?_) (rfl)
      refine z_xri zt281 7 rfl zzr281 ?_
      show z_ev (d + 40) 281 95 [some (.ref 19), some (.int x138), some (.int p3)] [.int x160] M147 _
      refine z_xri zt281 29 rfl zzr281 ?_
      show z_ev (d + 41) 276 85 [some (.ref 19), some (.int p1), some (.int p2), some (.int p3)] [.int x160] M147 _
      refine z_xP zt276 41 99 [some (.ref 19), some (.int p1), some (.int p2), some (.int p3)] [.int x160] rfl rfl ?_
      exact z_xri zt276 48 rfl zzr276 (kk x160 M147 X154 (fun hq => by exfalso; omega) (fun hq => by exfalso; omega) (fun _ => ⟨(by rw [h161]), n157, _, h151, by omega⟩) (fun hq => by exfalso; omega) (fun hq => by exfalso; omega))
    refine z_xP zt276 26 57 [some (.ref 19), some (.int p1), some (.int p2), some (.int p3)] [.ref 19, .ref 19] rfl rfl ?_
    refine z_xgX (b := 36) zt276 27 rfl zo276 zzf12_58 X23 f19 (by decide) (by decide) rfl ?_
    refine z_xP zt276 28 61 [some (.ref 19), some (.int p1), some (.int p2), some (.int p3)] [.int p1, .ref 36, .ref 19] rfl rfl ?_
    have f36 : T[36]? = some (.inr (36, 0, 20, 0, 7)) := X23.1.k rfl (by decide)
    refine z_xil zt276 29 rfl X23 f36 (by decide) (by omega) (by omega) (fun (x162 : Int32) h163 (h164 : 0 ≤ x162.toInt) (h165 : x162.toInt ≤ 7) => ?_)
    have h166 := congrArg Int32.toInt (h163.symm.trans ((congrFun (e24.a f36 (by decide)) _).trans ((congrFun (e3.a f36 (by decide)) _).trans hk36)))
    refine z_xP zt276 30 63 [some (.ref 19), some (.int p1), some (.int p2), some (.int p3)] [.int p3, .int x162, .ref 19] rfl rfl ?_
    refine z_xcV (vs := [.ref 19, .int x162, .int p3]) (r := []) (L2 := [some (.ref 19), some (.int x162), some (.int p3), none]) zt276 31 rfl zo276 zzcV12_396 (Or.inl rfl) rfl X23 f19 rfl rfl rfl (Nat.le_of_ble_eq_true rfl) zzm280 (Nat.le_of_ble_eq_true rfl) rfl ?_
    refine z_xP zt280 0 1 [some (.ref 19), some (.int x162), some (.int p3), none] [.int x162] rfl rfl ?_
    by_cases h167 : x162.toInt = 4
    · refine z_xSC zt280 1 (z_sub (k := 4) h167 rfl) 144 rfl rfl ?_
      refine z_xP zt280 50 146 [some (.ref 19), some (.int x162), some (.int p3), none] [.int x162, .ref 19] rfl rfl ?_
      refine z_xcS (vs := [.int x162]) (r := [.ref 19]) (L2 := [some (.int x162)]) zt280 51 rfl zo280 zzcS12_390 (Or.inl rfl) (Nat.le_of_ble_eq_true rfl) rfl rfl (Nat.le_of_ble_eq_true rfl) zzm279 (Nat.le_of_ble_eq_true rfl) rfl ?_
      refine z_xP zt279 0 2 [some (.int x162)] [.int 2, .int x162] rfl rfl ?_
      refine z_xJ zt279 1 rfl rfl (fun (h168 : x162.toInt = 2) => absurd h168 (by omega)) (fun (h168 : x162.toInt ≠ 2) => ?_)
      refine z_xP zt279 2 7 [some (.int x162)] [.int 3, .int x162] rfl rfl ?_
      refine z_xJ zt279 3 rfl rfl (fun (h169 : x162.toInt ≠ 3) => ?_) (fun (h169 : x162.toInt = 3) => absurd h169 (by omega))
      refine z_xP zt279 5 17 [some (.int x162)] [.int 6, .int x162] rfl rfl ?_
      refine z_xJ zt279 6 rfl rfl (fun (h170 : x162.toInt ≠ 6) => ?_) (fun (h170 : x162.toInt = 6) => absurd h170 (by omega))
      refine z_xP zt279 8 25 [some (.int x162)] [.int 0] rfl rfl ?_
      refine z_xri zt279 9 rfl zzr279 ?_
      show z_ev (d + 40) 280 149 [some (.ref 19), some (.int x162), some (.int p3), none] [.int 0, .ref 19] M22 _
      refine z_xP zt280 52 150 [some (.ref 19), some (.int x162), some (.int p3), none] [.int p3, .int 0, .ref 19] rfl rfl ?_
      refine z_xcV (vs := [.ref 19, .int 0, .int p3]) (r := []) (L2 := [some (.ref 19), some (.int 0), some (.int p3), none]) zt280 53 rfl zo280 zzcV12_396 (Or.inl rfl) rfl X23 f19 rfl rfl rfl (Nat.le_of_ble_eq_true rfl) zzm280 (Nat.le_of_ble_eq_true rfl) rfl ?_
      refine z_xP zt280 0 1 [some (.ref 19), some (.int 0), some (.int p3), none] [.int 0] rfl rfl ?_
      refine z_xSW zt280 1 44 rfl rfl ?_
      refine z_xP zt280 2 47 [some (.ref 19), some (.int 0), some (.int p3), none] [.int 10, .ref 19] rfl rfl ?_
      refine z_xcV (vs := [.ref 19, .int 10]) (r := []) (L2 := [some (.ref 19), some (.int 10)]) zt280 3 rfl zo280 zzcV12_384 (Or.inl rfl) rfl X23 f19 rfl rfl rfl (Nat.le_of_ble_eq_true rfl) zzm278 (Nat.le_of_ble_eq_true rfl) rfl ?_
      have q10 : ((10 : Int32)).toInt = 10 := rfl
      have h171 := (e24.f f19 (by decide) h4)
      have q0 : ((0 : Int32)).toInt = 0 := rfl
      have q10 : ((10 : Int32)).toInt = 10 := rfl
      refine zNC278 X23.1 h171 ⟨by omega, by omega⟩ (fun M172 X173 h174 z175 h176 h177 h178 => ?_)
      have X179 := X23.go X173 (z_sb (by decide))
      show z_ev (d + 39) 280 50 [some (.ref 19), some (.int 0), some (.int p3), none] [] M172 _
      have f48 : T[48]? = some (.inr (48, 0, 24, (-2147483648), 2147483647)) := X179.1.k rfl (by decide)
      have n181 : z_Ar M22 48 = z_Ar M0 48 := ((e24.a f48 (by decide)).trans (e3.a f48 (by decide)))
      have h183 : (0 : Int32).toInt.toNat = 0 := by omega
      have n182 : z_Ar M172 48 = z_nrs 0 [10] (z_Ar M0 48) := by rw [h174, n181, h183]; rfl
      refine z_xP zt280 4 52 [some (.ref 19), some (.int 0), some (.int p3), none] [.ref 19, .ref 19] rfl rfl ?_
      refine z_xgX (b := 36) zt280 5 rfl zo280 zzf12_58 X179 f19 (by decide) (by decide) rfl ?_
      refine z_xP zt280 6 56 [some (.ref 19), some (.int 0), some (.int p3), none] [.ref 19, .ref 36, .ref 19] rfl rfl ?_
      have h184 := (X173.2.f f19 (by decide) h25)
      refine z_xgv zt280 7 rfl zo280 zzf12_387 X179 f19 (by decide) h184 ?_
      refine z_xil zt280 8 rfl X179 f36 (by decide) (by omega) (by omega) (fun (x185 : Int32) h186 (h187 : 0 ≤ x185.toInt) (h188 : x185.toInt ≤ 7) => ?_)
      have h189 := congrArg Int32.toInt (h186.symm.trans ((congrFun (X173.2.a f36 (by decide)) _).trans ((congrFun (e24.a f36 (by decide)) _).trans ((congrFun (e3.a f36 (by decide)) _).trans hk36))))
      refine z_xP zt280 9 61 [some (.ref 19), some (.int 0), some (.int p3), none] [.int p3, .int x185, .ref 19] rfl rfl ?_
      refine z_xcV (vs := [.ref 19, .int x185, .int p3]) (r := []) (L2 := [some (.ref 19), some (.int x185), some (.int p3)]) zt280 10 rfl zo280 zzcV12_393 (Or.inl rfl) rfl X179 f19 rfl rfl rfl (Nat.le_of_ble_eq_true rfl) zzm277 (Nat.le_of_ble_eq_true rfl) rfl ?_
      refine z_xP zt277 0 1 [some (.ref 19), some (.int x185), some (.int p3)] [.int x185] rfl rfl ?_
      by_cases h190 : x185.toInt = 4
      · refine z_xSC zt277 1 (z_sub (k := 4) h190 rfl) 66 rfl rfl ?_
        refine z_xP zt277 17 69 [some (.ref 19), some (.int x185), some (.int p3)] [.int 50, .ref 19] rfl rfl ?_
        refine z_xcV (vs := [.ref 19, .int 50]) (r := []) (L2 := [some (.ref 19), some (.int 50)]) zt277 18 rfl zo277 zzcV12_384 (Or.inl rfl) rfl X179 f19 rfl rfl rfl (Nat.le_of_ble_eq_true rfl) zzm278 (Nat.le_of_ble_eq_true rfl) rfl ?_
        have q50 : ((50 : Int32)).toInt = 50 := rfl
        have q50 : ((50 : Int32)).toInt = 50 := rfl
        refine zNC278 X179.1 h176 ⟨by omega, by omega⟩ (fun M191 X192 h193 z194 h195 h196 h197 => ?_)
        have X198 := X179.go X192 (z_sb (by decide))
        show z_ev (d + 38) 277 72 [some (.ref 19), some (.int x185), some (.int p3)] [] M191 _
        have h201 : (z175 : Int32).toInt.toNat = 1 := by omega
        have n200 : z_Ar M191 48 = z_nrs 0 [10, 50] (z_Ar M0 48) := by rw [h193, n182, h201]; rfl
        refine z_xP zt277 19 74 [some (.ref 19), some (.int x185), some (.int p3)] [.int 4, .ref 19] rfl rfl ?_
        refine z_xcS (vs := [.int 4]) (r := [.ref 19]) (L2 := [some (.int 4)]) zt277 20 rfl zo277 zzcS12_390 (Or.inl rfl) (Nat.le_of_ble_eq_true rfl) rfl rfl (Nat.le_of_ble_eq_true rfl) zzm279 (Nat.le_of_ble_eq_true rfl) rfl ?_
        refine z_xP zt279 0 2 [some (.int 4)] [.int 2, .int 4] rfl rfl ?_
        refine z_xJ zt279 1 rfl rfl (fun (h202 : (4 : Int) = 2) => absurd h202 (by omega)) (fun (h202 : (4 : Int) ≠ 2) => ?_)
        refine z_xP zt279 2 7 [some (.int 4)] [.int 3, .int 4] rfl rfl ?_
        refine z_xJ zt279 3 rfl rfl (fun (h203 : (4 : Int) ≠ 3) => ?_) (fun (h203 : (4 : Int) = 3) => absurd h203 (by omega))
        refine z_xP zt279 5 17 [some (.int 4)] [.int 6, .int 4] rfl rfl ?_
        refine z_xJ zt279 6 rfl rfl (fun (h204 : (4 : Int) ≠ 6) => ?_) (fun (h204 : (4 : Int) = 6) => absurd h204 (by omega))
        refine z_xP zt279 8 25 [some (.int 4)] [.int 0] rfl rfl ?_
        refine z_xri zt279 9 rfl zzr279 ?_
        show z_ev (d + 38) 277 77 [some (.ref 19), some (.int x185), some (.int p3)] [.int 0, .ref 19] M191 _
        refine z_xP zt277 21 78 [some (.ref 19), some (.int x185), some (.int p3)] [.int p3, .int 0, .ref 19] rfl rfl ?_
        refine z_xcV (vs := [.ref 19, .int 0, .int p3]) (r := []) (L2 := [some (.ref 19), some (.int 0), some (.int p3)]) zt277 22 rfl zo277 zzcV12_393 (Or.inl rfl) rfl X198 f19 rfl rfl rfl (Nat.le_of_ble_eq_true rfl) zzm277 (Nat.le_of_ble_eq_true rfl) rfl ?_
        refine z_xP zt277 0 1 [some (.ref 19), some (.int 0), some (.int p3)] [.int 0] rfl rfl ?_
        refine z_xSW zt277 1 36 rfl rfl ?_
        refine z_xP zt277 2 38 [some (.ref 19), some (.int 0), some (.int p3)] [.int 1, .ref 19] rfl rfl ?_
        refine z_xcV (vs := [.ref 19, .int 1]) (r := []) (L2 := [some (.ref 19), some (.int 1)]) zt277 3 rfl zo277 zzcV12_384 (Or.inl rfl) rfl X198 f19 rfl rfl rfl (Nat.le_of_ble_eq_true rfl) zzm278 (Nat.le_of_ble_eq_true rfl) rfl ?_
        have q1 : ((1 : Int32)).toInt = 1 := rfl
        have q1 : ((1 : Int32)).toInt = 1 := rfl
        refine zNC278 X198.1 h195 ⟨by omega, by omega⟩ (fun M205 X206 h207 z208 h209 h210 h211 => ?_)
        have X212 := X198.go X206 (z_sb (by decide))
        show z_ev (d + 37) 277 41 [some (.ref 19), some (.int 0), some (.int p3)] [] M205 _
        have h215 : (z194 : Int32).toInt.toNat = 2 := by omega
        have n214 : z_Ar M205 48 = z_nrs 0 [10, 50, 1] (z_Ar M0 48) := by rw [h207, n200, h215]; rfl
        refine z_xP zt277 4 43 [some (.ref 19), some (.int 0), some (.int p3)] [.ref 19, .int p3] rfl rfl ?_
        have h216 := (X206.2.f f19 (by decide) (X192.2.f f19 (by decide) h184))
        refine z_xgv zt277 5 rfl zo277 zzf12_387 X212 f19 (by decide) h216 ?_
        have h217 := z_b32 p3
        refine z_xI zt277 6 rfl rfl (fun (x218 : Int32) (h219 : x218 = p3 + p1) => ?_) (rfl)
        refine z_xri zt277 7 rfl zzr277 ?_
        show z_ev (d + 38) 277 81 [some (.ref 19), some (.int x185), some (.int p3)] [.int x218] M205 _
        refine z_xP zt277 23 82 [some (.ref 19), some (.int x185), some (.int p3)] [.int 5, .int x218] rfl rfl ?_
        refine z_xI zt277 24 rfl rfl (fun (x220 : Int32) (h221 : x220 = x218 ^^^ 5) => ?_) (rfl)
        refine z_xri zt277 25 rfl zzr277 ?_
        show z_ev (d + 39) 280 64 [some (.ref 19), some (.int 0), some (.int p3), none] [.int x220] M205 _
        refine z_xP zt280 11 65 [some (.ref 19), some (.int 0), some (.int p3), none] [.int 2, .int x220] rfl rfl ?_
        have h222 := z_b32 x220
        refine z_xI zt280 12 rfl rfl (fun (x223 : Int32) (h224 : x223 = x220 * 2) => ?_) (rfl)
        refine z_xri zt280 13 rfl zzr280 ?_
        show z_ev (d + 40) 280 153 [some (.ref 19), some (.int x162), some (.int p3), none] [.int x223] M205 _
        refine z_xri zt280 54 rfl zzr280 ?_
        show z_ev (d + 41) 276 66 [some (.ref 19), some (.int p1), some (.int p2), some (.int p3)] [.int x223] M205 _
        refine z_xP zt276 32 99 [some (.ref 19), some (.int p1), some (.int p2), some (.int p3)] [.int x223] rfl rfl ?_
        exact z_xri zt276 48 rfl zzr276 (kk x223 M205 X212 (fun hq => by exfalso; omega) (fun _ => ⟨(by rw [h224, h221, h219]), n214, _, h209, by omega⟩) (fun hq => by exfalso; omega) (fun hq => by exfalso; omega) (fun hq => by exfalso; omega))
      exfalso; omega
    exfalso; omega
  refine z_xP zt276 17 38 [some (.ref 19), some (.int p1), some (.int p2), some (.int p3)] [.ref 19, .ref 19] rfl rfl ?_
  refine z_xgX (b := 36) zt276 18 rfl zo276 zzf12_58 X23 f19 (by decide) (by decide) rfl ?_
  refine z_xP zt276 19 42 [some (.ref 19), some (.int p1), some (.int p2), some (.int p3)] [.int p1, .ref 36, .ref 19] rfl rfl ?_
  have f36 : T[36]? = some (.inr (36, 0, 20, 0, 7)) := X23.1.k rfl (by decide)
  refine z_xil zt276 20 rfl X23 f36 (by decide) (by omega) (by omega) (fun (x225 : Int32) h226 (h227 : 0 ≤ x225.toInt) (h228 : x225.toInt ≤ 7) => ?_)
  have h229 := congrArg Int32.toInt (h226.symm.trans ((congrFun (e24.a f36 (by decide)) _).trans ((congrFun (e3.a f36 (by decide)) _).trans hk36)))
  refine z_xP zt276 21 44 [some (.ref 19), some (.int p1), some (.int p2), some (.int p3)] [.int p3, .int x225, .ref 19] rfl rfl ?_
  refine z_xcV (vs := [.ref 19, .int x225, .int p3]) (r := []) (L2 := [some (.ref 19), some (.int x225), some (.int p3)]) zt276 22 rfl zo276 zzcV12_393 (Or.inl rfl) rfl X23 f19 rfl rfl rfl (Nat.le_of_ble_eq_true rfl) zzm277 (Nat.le_of_ble_eq_true rfl) rfl ?_
  refine z_xP zt277 0 1 [some (.ref 19), some (.int x225), some (.int p3)] [.int x225] rfl rfl ?_
  by_cases h230 : x225.toInt = 4
  · refine z_xSC zt277 1 (z_sub (k := 4) h230 rfl) 66 rfl rfl ?_
    refine z_xP zt277 17 69 [some (.ref 19), some (.int x225), some (.int p3)] [.int 50, .ref 19] rfl rfl ?_
    refine z_xcV (vs := [.ref 19, .int 50]) (r := []) (L2 := [some (.ref 19), some (.int 50)]) zt277 18 rfl zo277 zzcV12_384 (Or.inl rfl) rfl X23 f19 rfl rfl rfl (Nat.le_of_ble_eq_true rfl) zzm278 (Nat.le_of_ble_eq_true rfl) rfl ?_
    have q50 : ((50 : Int32)).toInt = 50 := rfl
    have h231 := (e24.f f19 (by decide) h4)
    have q0 : ((0 : Int32)).toInt = 0 := rfl
    have q50 : ((50 : Int32)).toInt = 50 := rfl
    refine zNC278 X23.1 h231 ⟨by omega, by omega⟩ (fun M232 X233 h234 z235 h236 h237 h238 => ?_)
    have X239 := X23.go X233 (z_sb (by decide))
    show z_ev (d + 40) 277 72 [some (.ref 19), some (.int x225), some (.int p3)] [] M232 _
    have f48 : T[48]? = some (.inr (48, 0, 24, (-2147483648), 2147483647)) := X239.1.k rfl (by decide)
    have n241 : z_Ar M22 48 = z_Ar M0 48 := ((e24.a f48 (by decide)).trans (e3.a f48 (by decide)))
    have h243 : (0 : Int32).toInt.toNat = 0 := by omega
    have n242 : z_Ar M232 48 = z_nrs 0 [50] (z_Ar M0 48) := by rw [h234, n241, h243]; rfl
    refine z_xP zt277 19 74 [some (.ref 19), some (.int x225), some (.int p3)] [.int 4, .ref 19] rfl rfl ?_
    refine z_xcS (vs := [.int 4]) (r := [.ref 19]) (L2 := [some (.int 4)]) zt277 20 rfl zo277 zzcS12_390 (Or.inl rfl) (Nat.le_of_ble_eq_true rfl) rfl rfl (Nat.le_of_ble_eq_true rfl) zzm279 (Nat.le_of_ble_eq_true rfl) rfl ?_
    refine z_xP zt279 0 2 [some (.int 4)] [.int 2, .int 4] rfl rfl ?_
    refine z_xJ zt279 1 rfl rfl (fun (h244 : (4 : Int) = 2) => absurd h244 (by omega)) (fun (h244 : (4 : Int) ≠ 2) => ?_)
    refine z_xP zt279 2 7 [some (.int 4)] [.int 3, .int 4] rfl rfl ?_
    refine z_xJ zt279 3 rfl rfl (fun (h245 : (4 : Int) ≠ 3) => ?_) (fun (h245 : (4 : Int) = 3) => absurd h245 (by omega))
    refine z_xP zt279 5 17 [some (.int 4)] [.int 6, .int 4] rfl rfl ?_
    refine z_xJ zt279 6 rfl rfl (fun (h246 : (4 : Int) ≠ 6) => ?_) (fun (h246 : (4 : Int) = 6) => absurd h246 (by omega))
    refine z_xP zt279 8 25 [some (.int 4)] [.int 0] rfl rfl ?_
    refine z_xri zt279 9 rfl zzr279 ?_
    show z_ev (d + 40) 277 77 [some (.ref 19), some (.int x225), some (.int p3)] [.int 0, .ref 19] M232 _
    refine z_xP zt277 21 78 [some (.ref 19), some (.int x225), some (.int p3)] [.int p3, .int 0, .ref 19] rfl rfl ?_
    refine z_xcV (vs := [.ref 19, .int 0, .int p3]) (r := []) (L2 := [some (.ref 19), some (.int 0), some (.int p3)]) zt277 22 rfl zo277 zzcV12_393 (Or.inl rfl) rfl X239 f19 rfl rfl rfl (Nat.le_of_ble_eq_true rfl) zzm277 (Nat.le_of_ble_eq_true rfl) rfl ?_
    refine z_xP zt277 0 1 [some (.ref 19), some (.int 0), some (.int p3)] [.int 0] rfl rfl ?_
    refine z_xSW zt277 1 36 rfl rfl ?_
    refine z_xP zt277 2 38 [some (.ref 19), some (.int 0), some (.int p3)] [.int 1, .ref 19] rfl rfl ?_
    refine z_xcV (vs := [.ref 19, .int 1]) (r := []) (L2 := [some (.ref 19), some (.int 1)]) zt277 3 rfl zo277 zzcV12_384 (Or.inl rfl) rfl X239 f19 rfl rfl rfl (Nat.le_of_ble_eq_true rfl) zzm278 (Nat.le_of_ble_eq_true rfl) rfl ?_
    have q1 : ((1 : Int32)).toInt = 1 := rfl
    have q1 : ((1 : Int32)).toInt = 1 := rfl
    refine zNC278 X239.1 h236 ⟨by omega, by omega⟩ (fun M247 X248 h249 z250 h251 h252 h253 => ?_)
    have X254 := X239.go X248 (z_sb (by decide))
    show z_ev (d + 39) 277 41 [some (.ref 19), some (.int 0), some (.int p3)] [] M247 _
    have h257 : (z235 : Int32).toInt.toNat = 1 := by omega
    have n256 : z_Ar M247 48 = z_nrs 0 [50, 1] (z_Ar M0 48) := by rw [h249, n242, h257]; rfl
    refine z_xP zt277 4 43 [some (.ref 19), some (.int 0), some (.int p3)] [.ref 19, .int p3] rfl rfl ?_
    have h258 := (X248.2.f f19 (by decide) (X233.2.f f19 (by decide) h25))
    refine z_xgv zt277 5 rfl zo277 zzf12_387 X254 f19 (by decide) h258 ?_
    have h259 := z_b32 p3
    refine z_xI zt277 6 rfl rfl (fun (x260 : Int32) (h261 : x260 = p3 + p1) => ?_) (rfl)
    refine z_xri zt277 7 rfl zzr277 ?_
    show z_ev (d + 40) 277 81 [some (.ref 19), some (.int x225), some (.int p3)] [.int x260] M247 _
    refine z_xP zt277 23 82 [some (.ref 19), some (.int x225), some (.int p3)] [.int 5, .int x260] rfl rfl ?_
    refine z_xI zt277 24 rfl rfl (fun (x262 : Int32) (h263 : x262 = x260 ^^^ 5) => ?_) (rfl)
    refine z_xri zt277 25 rfl zzr277 ?_
    show z_ev (d + 41) 276 47 [some (.ref 19), some (.int p1), some (.int p2), some (.int p3)] [.int x262] M247 _
    refine z_xP zt276 23 99 [some (.ref 19), some (.int p1), some (.int p2), some (.int p3)] [.int x262] rfl rfl ?_
    exact z_xri zt276 48 rfl zzr276 (kk x262 M247 X254 (fun _ => ⟨(by rw [h263, h261]), n256, _, h251, by omega⟩) (fun hq => by exfalso; omega) (fun hq => by exfalso; omega) (fun hq => by exfalso; omega) (fun hq => by exfalso; omega))
  exfalso; omega
theorem zNC159_5 {T : List zK} {d : Nat} {K : Option Value → zH → Prop} {p1 : Int32} {p2 : Int32} {p3 : Int32} {ww : Int32} {bb : Nat} {nn sh jd : Int32} {M0 : zH} (hW : z_W M0 T) (hww : z_F M0 4 5 = some (.int ww)) (hwr : 0 ≤ p1.toInt ∧ p1.toInt < ww.toInt ∧ ww.toInt ≤ 20) (hbb : z_O M0 12 p1.toNatClampNeg = some bb) (kbb : T[bb]? = some (.inl (9, 0, 0, 0, 0))) (hf1 : z_F M0 bb 1 = some (.int sh)) (hf2 : z_F M0 bb 2 = some (.int jd)) (hf3 : z_F M0 bb 3 = some (.int nn)) (hG : z_GG T M0) (kk : ∀ (x : Int32) (M1 : zH), z_X T zw159 M0 M1 → (p2.toInt = 0 → x = (p3 + nn) ∧ z_Ar M1 13 = z_nts [1] (upd (z_Ar M0 13) 0 0)) → (p2.toInt = 1 → x = (-((p3 + nn) * 2)) ∧ z_Ar M1 13 = z_nts [60, 10, 1] (upd (z_Ar M0 13) 0 0)) → (p2.toInt = 2 → x = (p3 ^^^ nn) ∧ z_Ar M1 13 = z_nts [11] (upd (z_Ar M0 13) 0 0)) → (p2.toInt = 3 → x = (((-((p3 + nn) * 2)) - (1 ^^^ nn)) + sh) ∧ z_Ar M1 13 = z_nts [61, 2, 60, 10, 1, 11] (upd (z_Ar M0 13) 0 0)) → (p2.toInt < 0 ∨ 3 < p2.toInt → x = 0 ∧ z_Ar M1 13 = upd (z_Ar M0 13) 0 0) → K (some (.int x)) M1) : z_ev (d + 8) 159 0 [some (.ref 4), some (.int p1), some (.int p2), some (.int p3), none] [] M0 K := by
  have X : z_X T zw159 M0 M0 := .refl hW
  refine z_xP zt159 0 1 [some (.ref 4), some (.int p1), some (.int p2), some (.int p3), none] [.ref 4] rfl rfl ?_
  have f4 : T[4]? = some (.inl (0, 0, 0, 0, 0)) := X.1.k rfl (by decide)
  refine z_xgX (b := 13) zt159 1 rfl zo159 zzf0_31 X f4 (by decide) (by decide) rfl ?_
  refine z_xP zt159 2 6 [some (.ref 4), some (.int p1), some (.int p2), some (.int p3), none] [.int 0, .int 0, .ref 13] rfl rfl ?_
  have f13 : T[13]? = some (.inr (13, 0, 25, (-2147483648), 2147483647)) := X.1.k rfl (by decide)
  have q0 : ((0 : Int32)).toInt = 0 := rfl
  refine z_xis zt159 3 rfl X f13 (by decide) (by decide) (by decide) (by decide) (by omega) (by omega) (by decide) (fun M1 X2 e3 h4 => ?_)
  have q0 : ((0 : Int32)).toInt = 0 := rfl
  have h5 := z_u0 h4 (by omega)
  have n6 : z_Ar M1 13 = upd (z_Ar M0 13) 0 0 := h4
  refine z_xP zt159 4 9 [some (.ref 4), some (.int p1), some (.int p2), some (.int p3), none] [.int p1, .ref 4] rfl rfl ?_
  refine z_xcV (vs := [.ref 4, .int p1]) (r := []) (L2 := [some (.ref 4), some (.int p1)]) zt159 5 rfl zo159 zzcV0_221 (Or.inl rfl) rfl X2 f4 rfl rfl rfl (Nat.le_of_ble_eq_true rfl) zzm84 (Nat.le_of_ble_eq_true rfl) rfl ?_
  refine z_xP zt84 0 1 [some (.ref 4), some (.int p1)] [.int p1] rfl rfl ?_
  refine z_xZ zt84 1 rfl rfl (fun (h7 : p1.toInt < 0) => absurd h7 (by omega)) (fun (h7 : 0 ≤ p1.toInt) => ?_)
  refine z_xP zt84 2 6 [some (.ref 4), some (.int p1)] [.ref 4, .int p1] rfl rfl ?_
  have h8 := (e3.f f4 (by decide) hww)
  refine z_xgv zt84 3 rfl zo84 zzf0_188 X2 f4 (by decide) h8 ?_
  refine z_xJ zt84 4 rfl rfl (fun (h9 : p1.toInt < ww.toInt) => ?_) (fun (h9 : ww.toInt ≤ p1.toInt) => ?_)
  · skip
    refine z_xP zt84 6 17 [some (.ref 4), some (.int p1)] [.ref 4] rfl rfl ?_
    refine z_xgX (b := 12) zt84 7 rfl zo84 zzf0_27 X2 f4 (by decide) (by decide) rfl ?_
    refine z_xP zt84 8 21 [some (.ref 4), some (.int p1)] [.int p1, .ref 12] rfl rfl ?_
    have f12 : T[12]? = some (.inr (12, 3, 20, 0, 0)) := X2.1.k rfl (by decide)
    refine z_xalv zt84 9 rfl X2 f12 (by decide) (by decide) (by decide) (by omega) (by omega) ((congrFun (e3.o f12 (by decide)) _).trans hbb) ?_
    refine z_xra zt84 10 rfl zzr84 ?_
    show z_ev (d + 8) 159 12 [some (.ref 4), some (.int p1), some (.int p2), some (.int p3), none] [.ref bb] M1 _
    refine z_xP zt159 6 21 [some (.ref 4), some (.int p1), some (.int p2), some (.int p3), some (.ref bb)] [] rfl rfl ?_
    refine z_xP zt159 9 22 [some (.ref 4), some (.int p1), some (.int p2), some (.int p3), some (.ref bb)] [.int p2] rfl rfl ?_
    by_cases h10 : p2.toInt = 0
    · refine z_xSC zt159 10 (z_sub (k := 0) h10 rfl) 52 rfl rfl ?_
      refine z_xP zt159 11 55 [some (.ref 4), some (.int p1), some (.int p2), some (.int p3), some (.ref bb)] [.int p3, .ref bb] rfl rfl ?_
      refine z_xcV (vs := [.ref bb, .int p3]) (r := []) (L2 := [some (.ref bb), some (.int p3)]) zt159 12 rfl zo159 zzcV0_295 (Or.inr rfl) rfl X2 kbb rfl rfl rfl (Nat.le_of_ble_eq_true rfl) zzm163 (Nat.le_of_ble_eq_true rfl) rfl ?_
      refine z_xP zt163 0 2 [some (.ref bb), some (.int p3)] [.int 1, .ref bb] rfl rfl ?_
      refine z_xcV (vs := [.ref bb, .int 1]) (r := []) (L2 := [some (.ref bb), some (.int 1)]) zt163 1 rfl zo163 zzcV4_31 (Or.inr rfl) rfl X2 kbb rfl rfl rfl (Nat.le_of_ble_eq_true rfl) zzm161 (Nat.le_of_ble_eq_true rfl) rfl ?_
      have q1 : ((1 : Int32)).toInt = 1 := rfl
      have q1 : ((1 : Int32)).toInt = 1 := rfl
      refine zNC161 X2.1 (by decide) kbb ⟨by omega, by omega⟩ (fun M11 X12 h13 h14 => ?_)
      have X15 := X2.go X12 (z_sb (by decide))
      show z_ev (d + 7) 163 5 [some (.ref bb), some (.int p3)] [] M11 _
      have n17 : z_Ar M11 13 = z_nts [1] (upd (z_Ar M0 13) 0 0) := z_ntsS [] n6 h14
      refine z_xP zt163 2 7 [some (.ref bb), some (.int p3)] [.ref bb, .int p3] rfl rfl ?_
      have h18 := (X12.2.f kbb (by decide) (e3.f kbb (by decide) hf3))
      refine z_xgv zt163 3 rfl zo163 zzf4_15 X15 kbb (by decide) h18 ?_
      have h19 := z_b32 p3
      have h20 := z_b32 nn
      refine z_xI zt163 4 rfl rfl (fun (x21 : Int32) (h22 : x21 = p3 + nn) => ?_) (rfl)
      refine z_xri zt163 5 rfl zzr163 ?_
      show z_ev (d + 8) 159 58 [some (.ref 4), some (.int p1), some (.int p2), some (.int p3), some (.ref bb)] [.int x21] M11 _
      exact z_xri zt159 13 rfl zzr159 (kk x21 M11 X15 (fun _ => ⟨(by rw [h22]), n17⟩) (fun hq => by exfalso; omega) (fun hq => by exfalso; omega) (fun hq => by exfalso; omega) (fun hq => by exfalso; omega))
    by_cases h23 : p2.toInt = 1
    · refine z_xSC zt159 10 (z_sub (k := 1) h23 rfl) 59 rfl rfl ?_
      refine z_xP zt159 14 62 [some (.ref 4), some (.int p1), some (.int p2), some (.int p3), some (.ref bb)] [.int p3, .ref bb] rfl rfl ?_
      refine z_xcV (vs := [.ref bb, .int p3]) (r := []) (L2 := [some (.ref bb), some (.int p3)]) zt159 15 rfl zo159 zzcV0_298 (Or.inr rfl) rfl X2 kbb rfl rfl rfl (Nat.le_of_ble_eq_true rfl) zzm165 (Nat.le_of_ble_eq_true rfl) rfl ?_
      refine z_xP zt165 0 3 [some (.ref bb), some (.int p3)] [.int 60, .ref bb] rfl rfl ?_
      refine z_xcV (vs := [.ref bb, .int 60]) (r := []) (L2 := [some (.ref bb), some (.int 60)]) zt165 1 rfl zo165 zzcV9_27 (Or.inr rfl) rfl X2 kbb rfl rfl rfl (Nat.le_of_ble_eq_true rfl) zzm161 (Nat.le_of_ble_eq_true rfl) rfl ?_
      have q60 : ((60 : Int32)).toInt = 60 := rfl
      have q60 : ((60 : Int32)).toInt = 60 := rfl
      refine zNC161 X2.1 (by decide) kbb ⟨by omega, by omega⟩ (fun M24 X25 h26 h27 => ?_)
      have X28 := X2.go X25 (z_sb (by decide))
      show z_ev (d + 7) 165 6 [some (.ref bb), some (.int p3)] [] M24 _
      have n30 : z_Ar M24 13 = z_nts [60] (upd (z_Ar M0 13) 0 0) := z_ntsS [] n6 h27
      refine z_xP zt165 2 8 [some (.ref bb), some (.int p3)] [.int p3, .ref bb] rfl rfl ?_
      refine z_xcI (vs := [.ref bb, .int p3]) (r := []) (L2 := [some (.ref bb), some (.int p3)]) zt165 3 rfl zo165 zzcI9_30 (Or.inr (Or.inl rfl)) rfl X28 kbb rfl rfl (Nat.le_of_ble_eq_true rfl) zzm167 (Nat.le_of_ble_eq_true rfl) rfl ?_
      refine z_xP zt167 0 3 [some (.ref bb), some (.int p3)] [.int 10, .ref bb] rfl rfl ?_
      refine z_xcV (vs := [.ref bb, .int 10]) (r := []) (L2 := [some (.ref bb), some (.int 10)]) zt167 1 rfl zo167 zzcV4_31 (Or.inr rfl) rfl X28 kbb rfl rfl rfl (Nat.le_of_ble_eq_true rfl) zzm161 (Nat.le_of_ble_eq_true rfl) rfl ?_
      have q10 : ((10 : Int32)).toInt = 10 := rfl
      have q10 : ((10 : Int32)).toInt = 10 := rfl
      refine zNC161 X28.1 (by decide) kbb ⟨by omega, by omega⟩ (fun M31 X32 h33 h34 => ?_)
      have X35 := X28.go X32 (z_sb (by decide))
      show z_ev (d + 6) 167 6 [some (.ref bb), some (.int p3)] [] M31 _
      have n37 : z_Ar M31 13 = z_nts [60, 10] (upd (z_Ar M0 13) 0 0) := z_ntsS [60] n30 h34
      refine z_xP zt167 2 8 [some (.ref bb), some (.int p3)] [.int p3, .ref bb] rfl rfl ?_
      refine z_xcV (vs := [.ref bb, .int p3]) (r := []) (L2 := [some (.ref bb), some (.int p3)]) zt167 3 rfl zo167 zzcV4_35 (Or.inr rfl) rfl X35 kbb rfl rfl rfl (Nat.le_of_ble_eq_true rfl) zzm163 (Nat.le_of_ble_eq_true rfl) rfl ?_
      refine z_xP zt163 0 2 [some (.ref bb), some (.int p3)] [.int 1, .ref bb] rfl rfl ?_
      refine z_xcV (vs := [.ref bb, .int 1]) (r := []) (L2 := [some (.ref bb), some (.int 1)]) zt163 1 rfl zo163 zzcV4_31 (Or.inr rfl) rfl X35 kbb rfl rfl rfl (Nat.le_of_ble_eq_true rfl) zzm161 (Nat.le_of_ble_eq_true rfl) rfl ?_
      have q1 : ((1 : Int32)).toInt = 1 := rfl
      have q1 : ((1 : Int32)).toInt = 1 := rfl
      refine zNC161 X35.1 (by decide) kbb ⟨by omega, by omega⟩ (fun M38 X39 h40 h41 => ?_)
      have X42 := X35.go X39 (z_sb (by decide))
      show z_ev (d + 5) 163 5 [some (.ref bb), some (.int p3)] [] M38 _
      have n44 : z_Ar M38 13 = z_nts [60, 10, 1] (upd (z_Ar M0 13) 0 0) := z_ntsS [60, 10] n37 h41
      refine z_xP zt163 2 7 [some (.ref bb), some (.int p3)] [.ref bb, .int p3] rfl rfl ?_
      have h45 := (X39.2.f kbb (by decide) (X32.2.f kbb (by decide) (X25.2.f kbb (by decide) (e3.f kbb (by decide) hf3))))
      refine z_xgv zt163 3 rfl zo163 zzf4_15 X42 kbb (by decide) h45 ?_
      have h46 := z_b32 p3
      have h47 := z_b32 nn
      refine z_xI zt163 4 rfl rfl (fun (x48 : Int32) (h49 : x48 = p3 + nn) => ?_) (rfl)
      refine z_xri zt163 5 rfl zzr163 ?_
      show z_ev (d + 6) 167 11 [some (.ref bb), some (.int p3)] [.int x48] M38 _
      refine z_xP zt167 4 12 [some (.ref bb), some (.int p3)] [.int 2, .int x48] rfl rfl ?_
      have h50 := z_b32 x48
      refine z_xI zt167 5 rfl rfl (fun (x51 : Int32) (h52 : x51 = x48 * 2) => ?_) (rfl)
      refine z_xri zt167 6 rfl zzr167 ?_
      show z_ev (d + 7) 165 11 [some (.ref bb), some (.int p3)] [.int x51] M38 _
      have h53 := z_b32 x51
      refine z_xI zt165 4 rfl rfl (fun (x54 : Int32) (h55 : x54 = -x51) => ?_) (rfl)
      refine z_xri zt165 5 rfl zzr165 ?_
      show z_ev (d + 8) 159 65 [some (.ref 4), some (.int p1), some (.int p2), some (.int p3), some (.ref bb)] [.int x54] M38 _
      exact z_xri zt159 16 rfl zzr159 (kk x54 M38 X42 (fun hq => by exfalso; omega) (fun _ => ⟨(by rw [h55, h52, h49]), n44⟩) (fun hq => by exfalso; omega) (fun hq => by exfalso; omega) (fun hq => by exfalso; omega))
    by_cases h56 : p2.toInt = 2
    · refine z_xSC zt159 10 (z_sub (k := 2) h56 rfl) 66 rfl rfl ?_
      refine z_xP zt159 17 69 [some (.ref 4), some (.int p1), some (.int p2), some (.int p3), some (.ref bb)] [.int p3, .ref bb] rfl rfl ?_
      refine z_xcV (vs := [.ref bb, .int p3]) (r := []) (L2 := [some (.ref bb), some (.int p3)]) zt159 18 rfl zo159 zzcV0_301 (Or.inr rfl) rfl X2 kbb rfl rfl rfl (Nat.le_of_ble_eq_true rfl) zzm170 (Nat.le_of_ble_eq_true rfl) rfl ?_
      refine z_xP zt170 0 3 [some (.ref bb), some (.int p3)] [.int 11, .ref bb] rfl rfl ?_
      refine z_xcV (vs := [.ref bb, .int 11]) (r := []) (L2 := [some (.ref bb), some (.int 11)]) zt170 1 rfl zo170 zzcV4_31 (Or.inr rfl) rfl X2 kbb rfl rfl rfl (Nat.le_of_ble_eq_true rfl) zzm161 (Nat.le_of_ble_eq_true rfl) rfl ?_
      have q11 : ((11 : Int32)).toInt = 11 := rfl
      have q11 : ((11 : Int32)).toInt = 11 := rfl
      refine zNC161 X2.1 (by decide) kbb ⟨by omega, by omega⟩ (fun M57 X58 h59 h60 => ?_)
      have X61 := X2.go X58 (z_sb (by decide))
      show z_ev (d + 7) 170 6 [some (.ref bb), some (.int p3)] [] M57 _
      have n63 : z_Ar M57 13 = z_nts [11] (upd (z_Ar M0 13) 0 0) := z_ntsS [] n6 h60
      refine z_xP zt170 2 8 [some (.ref bb), some (.int p3)] [.ref bb, .int p3] rfl rfl ?_
      have h64 := (X58.2.f kbb (by decide) (e3.f kbb (by decide) hf3))
      refine z_xgv zt170 3 rfl zo170 zzf4_15 X61 kbb (by decide) h64 ?_
      refine z_xI zt170 4 rfl rfl (fun (x65 : Int32) (h66 : x65 = p3 ^^^ nn) => ?_) (rfl)
      refine z_xri zt170 5 rfl zzr170 ?_
      show z_ev (d + 8) 159 72 [some (.ref 4), some (.int p1), some (.int p2), some (.int p3), some (.ref bb)] [.int x65] M57 _
      exact z_xri zt159 19 rfl zzr159 (kk x65 M57 X61 (fun hq => by exfalso; omega) (fun hq => by exfalso; omega) (fun _ => ⟨(by rw [h66]), n63⟩) (fun hq => by exfalso; omega) (fun hq => by exfalso; omega))
    by_cases h67 : p2.toInt = 3
    · refine z_xSC zt159 10 (z_sub (k := 3) h67 rfl) 73 rfl rfl ?_
      refine z_xP zt159 20 76 [some (.ref 4), some (.int p1), some (.int p2), some (.int p3), some (.ref bb)] [.int p3, .ref bb] rfl rfl ?_
      refine z_xcV (vs := [.ref bb, .int p3]) (r := []) (L2 := [some (.ref bb), some (.int p3)]) zt159 21 rfl zo159 zzcV0_304 (Or.inr rfl) rfl X2 kbb rfl rfl rfl (Nat.le_of_ble_eq_true rfl) zzm171 (Nat.le_of_ble_eq_true rfl) rfl ?_
      refine z_xP zt171 0 3 [some (.ref bb), some (.int p3)] [.int 61, .ref bb] rfl rfl ?_
      refine z_xcV (vs := [.ref bb, .int 61]) (r := []) (L2 := [some (.ref bb), some (.int 61)]) zt171 1 rfl zo171 zzcV9_27 (Or.inr rfl) rfl X2 kbb rfl rfl rfl (Nat.le_of_ble_eq_true rfl) zzm161 (Nat.le_of_ble_eq_true rfl) rfl ?_
      have q61 : ((61 : Int32)).toInt = 61 := rfl
      have q61 : ((61 : Int32)).toInt = 61 := rfl
      refine zNC161 X2.1 (by decide) kbb ⟨by omega, by omega⟩ (fun M68 X69 h70 h71 => ?_)
      have X72 := X2.go X69 (z_sb (by decide))
      show z_ev (d + 7) 171 6 [some (.ref bb), some (.int p3)] [] M68 _
      have n74 : z_Ar M68 13 = z_nts [61] (upd (z_Ar M0 13) 0 0) := z_ntsS [] n6 h71
      refine z_xP zt171 2 8 [some (.ref bb), some (.int p3)] [.int p3, .ref bb] rfl rfl ?_
      refine z_xcI (vs := [.ref bb, .int p3]) (r := []) (L2 := [some (.ref bb), some (.int p3)]) zt171 3 rfl zo171 zzcI9_33 (Or.inr (Or.inl rfl)) rfl X72 kbb rfl rfl (Nat.le_of_ble_eq_true rfl) zzm173 (Nat.le_of_ble_eq_true rfl) rfl ?_
      refine z_xP zt173 0 2 [some (.ref bb), some (.int p3)] [.int 2, .ref bb] rfl rfl ?_
      refine z_xcV (vs := [.ref bb, .int 2]) (r := []) (L2 := [some (.ref bb), some (.int 2)]) zt173 1 rfl zo173 zzcV4_31 (Or.inr rfl) rfl X72 kbb rfl rfl rfl (Nat.le_of_ble_eq_true rfl) zzm161 (Nat.le_of_ble_eq_true rfl) rfl ?_
      have q2 : ((2 : Int32)).toInt = 2 := rfl
      have q2 : ((2 : Int32)).toInt = 2 := rfl
      refine zNC161 X72.1 (by decide) kbb ⟨by omega, by omega⟩ (fun M75 X76 h77 h78 => ?_)
      have X79 := X72.go X76 (z_sb (by decide))
      show z_ev (d + 6) 173 5 [some (.ref bb), some (.int p3)] [] M75 _
      have n81 : z_Ar M75 13 = z_nts [61, 2] (upd (z_Ar M0 13) 0 0) := z_ntsS [61] n74 h78
      refine z_xP zt173 2 7 [some (.ref bb), some (.int p3)] [.int p3, .ref bb] rfl rfl ?_
      refine z_xcV (vs := [.ref bb, .int p3]) (r := []) (L2 := [some (.ref bb), some (.int p3)]) zt173 3 rfl zo173 zzcV4_39 (Or.inr rfl) rfl X79 kbb rfl rfl rfl (Nat.le_of_ble_eq_true rfl) zzm165 (Nat.le_of_ble_eq_true rfl) rfl ?_
      refine z_xP zt165 0 3 [some (.ref bb), some (.int p3)] [.int 60, .ref bb] rfl rfl ?_
      refine z_xcV (vs := [.ref bb, .int 60]) (r := []) (L2 := [some (.ref bb), some (.int 60)]) zt165 1 rfl zo165 zzcV9_27 (Or.inr rfl) rfl X79 kbb rfl rfl rfl (Nat.le_of_ble_eq_true rfl) zzm161 (Nat.le_of_ble_eq_true rfl) rfl ?_
      have q60 : ((60 : Int32)).toInt = 60 := rfl
      have q60 : ((60 : Int32)).toInt = 60 := rfl
      refine zNC161 X79.1 (by decide) kbb ⟨by omega, by omega⟩ (fun M82 X83 h84 h85 => ?_)
      have X86 := X79.go X83 (z_sb (by decide))
      show z_ev (d + 5) 165 6 [some (.ref bb), some (.int p3)] [] M82 _
      have n88 : z_Ar M82 13 = z_nts [61, 2, 60] (upd (z_Ar M0 13) 0 0) := z_ntsS [61, 2] n81 h85
      refine z_xP zt165 2 8 [some (.ref bb), some (.int p3)] [.int p3, .ref bb] rfl rfl ?_
      refine z_xcI (vs := [.ref bb, .int p3]) (r := []) (L2 := [some (.ref bb), some (.int p3)]) zt165 3 rfl zo165 zzcI9_30 (Or.inr (Or.inl rfl)) rfl X86 kbb rfl rfl (Nat.le_of_ble_eq_true rfl) zzm167 (Nat.le_of_ble_eq_true rfl) rfl ?_
      refine z_xP zt167 0 3 [some (.ref bb), some (.int p3)] [.int 10, .ref bb] rfl rfl ?_
      refine z_xcV (vs := [.ref bb, .int 10]) (r := []) (L2 := [some (.ref bb), some (.int 10)]) zt167 1 rfl zo167 zzcV4_31 (Or.inr rfl) rfl X86 kbb rfl rfl rfl (Nat.le_of_ble_eq_true rfl) zzm161 (Nat.le_of_ble_eq_true rfl) rfl ?_
      have q10 : ((10 : Int32)).toInt = 10 := rfl
      have q10 : ((10 : Int32)).toInt = 10 := rfl
      refine zNC161 X86.1 (by decide) kbb ⟨by omega, by omega⟩ (fun M89 X90 h91 h92 => ?_)
      have X93 := X86.go X90 (z_sb (by decide))
      show z_ev (d + 4) 167 6 [some (.ref bb), some (.int p3)] [] M89 _
      have n95 : z_Ar M89 13 = z_nts [61, 2, 60, 10] (upd (z_Ar M0 13) 0 0) := z_ntsS [61, 2, 60] n88 h92
      refine z_xP zt167 2 8 [some (.ref bb), some (.int p3)] [.int p3, .ref bb] rfl rfl ?_
      refine z_xcV (vs := [.ref bb, .int p3]) (r := []) (L2 := [some (.ref bb), some (.int p3)]) zt167 3 rfl zo167 zzcV4_35 (Or.inr rfl) rfl X93 kbb rfl rfl rfl (Nat.le_of_ble_eq_true rfl) zzm163 (Nat.le_of_ble_eq_true rfl) rfl ?_
      refine z_xP zt163 0 2 [some (.ref bb), some (.int p3)] [.int 1, .ref bb] rfl rfl ?_
      refine z_xcV (vs := [.ref bb, .int 1]) (r := []) (L2 := [some (.ref bb), some (.int 1)]) zt163 1 rfl zo163 zzcV4_31 (Or.inr rfl) rfl X93 kbb rfl rfl rfl (Nat.le_of_ble_eq_true rfl) zzm161 (Nat.le_of_ble_eq_true rfl) rfl ?_
      have q1 : ((1 : Int32)).toInt = 1 := rfl
      have q1 : ((1 : Int32)).toInt = 1 := rfl
      refine zNC161 X93.1 (by decide) kbb ⟨by omega, by omega⟩ (fun M96 X97 h98 h99 => ?_)
      have X100 := X93.go X97 (z_sb (by decide))
      show z_ev (d + 3) 163 5 [some (.ref bb), some (.int p3)] [] M96 _
      have n102 : z_Ar M96 13 = z_nts [61, 2, 60, 10, 1] (upd (z_Ar M0 13) 0 0) := z_ntsS [61, 2, 60, 10] n95 h99
      refine z_xP zt163 2 7 [some (.ref bb), some (.int p3)] [.ref bb, .int p3] rfl rfl ?_
      have h103 := (X97.2.f kbb (by decide) (X90.2.f kbb (by decide) (X83.2.f kbb (by decide) (X76.2.f kbb (by decide) (X69.2.f kbb (by decide) (e3.f kbb (by decide) hf3))))))
      refine z_xgv zt163 3 rfl zo163 zzf4_15 X100 kbb (by decide) h103 ?_
      have h104 := z_b32 p3
      have h105 := z_b32 nn
      refine z_xI zt163 4 rfl rfl (fun (x106 : Int32) (h107 : x106 = p3 + nn) => ?_) (rfl)
      refine z_xri zt163 5 rfl zzr163 ?_
      show z_ev (d + 4) 167 11 [some (.ref bb), some (.int p3)] [.int x106] M96 _
      refine z_xP zt167 4 12 [some (.ref bb), some (.int p3)] [.int 2, .int x106] rfl rfl ?_
      have h108 := z_b32 x106
      refine z_xI zt167 5 rfl rfl (fun (x109 : Int32) (h110 : x109 = x106 * 2) => ?_) (rfl)
      refine z_xri zt167 6 rfl zzr167 ?_
      show z_ev (d + 5) 165 11 [some (.ref bb), some (.int p3)] [.int x109] M96 _
      have h111 := z_b32 x109
      refine z_xI zt165 4 rfl rfl (fun (x112 : Int32) (h113 : x112 = -x109) => ?_) (rfl)
      refine z_xri zt165 5 rfl zzr165 ?_
      show z_ev (d + 6) 173 10 [some (.ref bb), some (.int p3)] [.int x112] M96 _
      refine z_xP zt173 4 12 [some (.ref bb), some (.int p3)] [.int 1, .ref bb, .int x112] rfl rfl ?_
      refine z_xcV (vs := [.ref bb, .int 1]) (r := [.int x112]) (L2 := [some (.ref bb), some (.int 1)]) zt173 5 rfl zo173 zzcV4_42 (Or.inr rfl) rfl X100 kbb rfl rfl rfl (Nat.le_of_ble_eq_true rfl) zzm170 (Nat.le_of_ble_eq_true rfl) rfl ?_
      refine z_xP zt170 0 3 [some (.ref bb), some (.int 1)] [.int 11, .ref bb] rfl rfl ?_
      refine z_xcV (vs := [.ref bb, .int 11]) (r := []) (L2 := [some (.ref bb), some (.int 11)]) zt170 1 rfl zo170 zzcV4_31 (Or.inr rfl) rfl X100 kbb rfl rfl rfl (Nat.le_of_ble_eq_true rfl) zzm161 (Nat.le_of_ble_eq_true rfl) rfl ?_
      have q11 : ((11 : Int32)).toInt = 11 := rfl
      have q11 : ((11 : Int32)).toInt = 11 := rfl
      refine zNC161 X100.1 (by decide) kbb ⟨by omega, by omega⟩ (fun M114 X115 h116 h117 => ?_)
      have X118 := X100.go X115 (z_sb (by decide))
      show z_ev (d + 5) 170 6 [some (.ref bb), some (.int 1)] [] M114 _
      have n120 : z_Ar M114 13 = z_nts [61, 2, 60, 10, 1, 11] (upd (z_Ar M0 13) 0 0) := z_ntsS [61, 2, 60, 10, 1] n102 h117
      refine z_xP zt170 2 8 [some (.ref bb), some (.int 1)] [.ref bb, .int 1] rfl rfl ?_
      have h121 := (X115.2.f kbb (by decide) h103)
      refine z_xgv zt170 3 rfl zo170 zzf4_15 X118 kbb (by decide) h121 ?_
      refine z_xI zt170 4 rfl rfl (fun (x122 : Int32) (h123 : x122 = 1 ^^^ nn) => ?_) (rfl)
      refine z_xri zt170 5 rfl zzr170 ?_
      show z_ev (d + 6) 173 15 [some (.ref bb), some (.int p3)] [.int x122, .int x112] M114 _
      have h124 := z_b32 x112
      have h125 := z_b32 x122
      refine z_xI zt173 6 rfl rfl (fun (x126 : Int32) (h127 : x126 = x112 - x122) => ?_) (rfl)
      refine z_xri zt173 7 rfl zzr173 ?_
      show z_ev (d + 7) 171 11 [some (.ref bb), some (.int p3)] [.int x126] M114 _
      refine z_xP zt171 4 12 [some (.ref bb), some (.int p3)] [.ref bb, .int x126] rfl rfl ?_
      have h128 := (X115.2.f kbb (by decide) (X97.2.f kbb (by decide) (X90.2.f kbb (by decide) (X83.2.f kbb (by decide) (X76.2.f kbb (by decide) (X69.2.f kbb (by decide) (e3.f kbb (by decide) hf1)))))))
      refine z_xgv zt171 5 rfl zo171 zzf9_7 X118 kbb (by decide) h128 ?_
      have h129 := z_b32 x126
      have h130 := z_b32 sh
      refine z_xI zt171 6 rfl rfl (fun (x131 : Int32) (h132 : x131 = x126 + sh) => ?_) (rfl)
      refine z_xri zt171 7 rfl zzr171 ?_
      show z_ev (d + 8) 159 79 [some (.ref 4), some (.int p1), some (.int p2), some (.int p3), some (.ref bb)] [.int x131] M114 _
      exact z_xri zt159 22 rfl zzr159 (kk x131 M114 X118 (fun hq => by exfalso; omega) (fun hq => by exfalso; omega) (fun hq => by exfalso; omega) (fun _ => ⟨(by rw [h132, h127, h123, h113, h110, h107]), n120⟩) (fun hq => by exfalso; omega))
    refine z_xSD zt159 10 rfl rfl (by omega) ?_
    refine z_xP zt159 23 81 [some (.ref 4), some (.int p1), some (.int p2), some (.int p3), some (.ref bb)] [.int 0] rfl rfl ?_
    have q0 : ((0 : Int32)).toInt = 0 := rfl
    exact z_xri zt159 24 rfl zzr159 (kk 0 M1 X2 (fun hq => by exfalso; omega) (fun hq => by exfalso; omega) (fun hq => by exfalso; omega) (fun hq => by exfalso; omega) (fun _ => ⟨rfl, n6⟩))
  refine z_xP zt84 5 22 [some (.ref 4), some (.int p1)] [.null] rfl rfl ?_
  refine z_xrn zt84 10 rfl zzr84 ?_
  show z_ev (d + 8) 159 12 [some (.ref 4), some (.int p1), some (.int p2), some (.int p3), none] [.null] M1 _
  refine z_xP zt159 6 19 [some (.ref 4), some (.int p1), some (.int p2), some (.int p3), some (.null)] [] rfl rfl ?_
  refine z_xP zt159 7 20 [some (.ref 4), some (.int p1), some (.int p2), some (.int p3), some (.null)] [.int 0] rfl rfl ?_
  have q0 : ((0 : Int32)).toInt = 0 := rfl
  exact z_xri zt159 8 rfl zzr159 (kk 0 M1 X2 (fun hq => by exfalso; omega) (fun hq => by exfalso; omega) (fun hq => by exfalso; omega) (fun hq => by exfalso; omega) (fun _ => ⟨rfl, n6⟩))
theorem zNC276_5 {T : List zK} {d : Nat} {K : Option Value → zH → Prop} {p1 : Int32} {p2 : Int32} {p3 : Int32} {ww : Int32} {kn sh jd : Int32} {M0 : zH} (hW : z_W M0 T) (hww : z_F M0 19 21 = some (.int ww)) (hwr : 0 ≤ p1.toInt ∧ p1.toInt < ww.toInt ∧ ww.toInt ≤ 20) (hk36 : z_Ar M0 36 p1.toNatClampNeg = kn) (hkn : kn.toInt = 5) (hk37 : z_Ar M0 37 p1.toNatClampNeg = sh) (hk38 : z_Ar M0 38 p1.toNatClampNeg = jd) (kk : ∀ (x : Int32) (M1 : zH), z_X T zw276 M0 M1 → (p2.toInt = 0 → x = (p3 + p1) ∧ z_Ar M1 48 = z_nrs 0 [1] (z_Ar M0 48) ∧ ∃ n : Int32, z_F M1 19 47 = some (.int n) ∧ n.toInt = 1) → (p2.toInt = 1 → x = (-((p3 + p1) * 2)) ∧ z_Ar M1 48 = z_nrs 0 [60, 10, 1] (z_Ar M0 48) ∧ ∃ n : Int32, z_F M1 19 47 = some (.int n) ∧ n.toInt = 3) → (p2.toInt = 2 → x = (p3 ^^^ p1) ∧ z_Ar M1 48 = z_nrs 0 [11] (z_Ar M0 48) ∧ ∃ n : Int32, z_F M1 19 47 = some (.int n) ∧ n.toInt = 1) → (p2.toInt = 3 → x = (((-((p3 + p1) * 2)) - (1 ^^^ p1)) + sh) ∧ z_Ar M1 48 = z_nrs 0 [61, 2, 60, 10, 1, 11] (z_Ar M0 48) ∧ ∃ n : Int32, z_F M1 19 47 = some (.int n) ∧ n.toInt = 6) → (p2.toInt < 0 ∨ 3 < p2.toInt → x = 0 ∧ z_Ar M1 48 = z_Ar M0 48 ∧ ∃ n : Int32, z_F M1 19 47 = some (.int n) ∧ n.toInt = 0) → K (some (.int x)) M1) : z_ev (d + 41) 276 0 [some (.ref 19), some (.int p1), some (.int p2), some (.int p3)] [] M0 K := by
  have X : z_X T zw276 M0 M0 := .refl hW
  refine z_xP zt276 0 2 [some (.ref 19), some (.int p1), some (.int p2), some (.int p3)] [.int 0, .ref 19] rfl rfl ?_
  have f19 : T[19]? = some (.inl (12, 0, 0, 0, 0)) := X.1.k rfl (by decide)
  have q0 : ((0 : Int32)).toInt = 0 := rfl
  refine z_xpf zt276 1 rfl zo276 zzf12_381 X f19 (by decide) (by decide) ⟨by omega, by omega⟩ rfl (by decide) zw12_47 (fun M1 X2 e3 h4 => ?_)
  refine z_xP zt276 2 7 [some (.ref 19), some (.int p1), some (.int p2), some (.int p3)] [.int p1, .ref 19] rfl rfl ?_
  refine z_xcV (vs := [.ref 19, .int p1]) (r := []) (L2 := [some (.ref 19), some (.int p1)]) zt276 3 rfl zo276 zzcV12_272 (Or.inl rfl) rfl X2 f19 rfl rfl rfl (Nat.le_of_ble_eq_true rfl) zzm237 (Nat.le_of_ble_eq_true rfl) rfl ?_
  refine z_xP zt237 0 1 [some (.ref 19), some (.int p1)] [.int p1] rfl rfl ?_
  refine z_xZ zt237 1 rfl rfl (fun (h5 : p1.toInt < 0) => absurd h5 (by omega)) (fun (h5 : 0 ≤ p1.toInt) => ?_)
  refine z_xP zt237 2 6 [some (.ref 19), some (.int p1)] [.ref 19, .int p1] rfl rfl ?_
  have h6 := (e3.f f19 (by decide) hww)
  refine z_xgv zt237 3 rfl zo237 zzf12_269 X2 f19 (by decide) h6 ?_
  refine z_xJ zt237 4 rfl rfl (fun (h7 : ww.toInt ≤ p1.toInt) => ?_) (fun (h7 : p1.toInt < ww.toInt) => ?_)
  · skip
    refine z_xP zt237 6 17 [some (.ref 19), some (.int p1)] [.int 0] rfl rfl ?_
    refine z_xrz zt237 7 rfl zzr237 (by decide) (by decide) ?_
    show z_ev (d + 41) 276 10 [some (.ref 19), some (.int p1), some (.int p2), some (.int p3)] [.int 0] M1 _
    refine z_xZ zt276 4 rfl rfl (fun (h8 : (0 : Int) = 0) => ?_) (fun (h8 : (0 : Int) ≠ 0) => absurd h8 (by omega))
    refine z_xP zt276 11 26 [some (.ref 19), some (.int p1), some (.int p2), some (.int p3)] [.int 0] rfl rfl ?_
    have q0 : ((0 : Int32)).toInt = 0 := rfl
    have f48 : T[48]? = some (.inr (48, 0, 24, (-2147483648), 2147483647)) := X2.1.k rfl (by decide)
    have q0 : ((0 : Int32)).toInt = 0 := rfl
    exact z_xri zt276 12 rfl zzr276 (kk 0 M1 X2 (fun hq => by exfalso; omega) (fun hq => by exfalso; omega) (fun hq => by exfalso; omega) (fun hq => by exfalso; omega) (fun _ => ⟨rfl, (e3.a f48 (by decide)), _, h4, by omega⟩))
  refine z_xP zt237 5 17 [some (.ref 19), some (.int p1)] [.int 1] rfl rfl ?_
  refine z_xrz zt237 7 rfl zzr237 (by decide) (by decide) ?_
  show z_ev (d + 41) 276 10 [some (.ref 19), some (.int p1), some (.int p2), some (.int p3)] [.int 1] M1 _
  refine z_xZ zt276 4 rfl rfl (fun (h9 : (1 : Int) = 0) => absurd h9 (by omega)) (fun (h9 : (1 : Int) ≠ 0) => ?_)
  refine z_xP zt276 5 14 [some (.ref 19), some (.int p1), some (.int p2), some (.int p3)] [.int p2] rfl rfl ?_
  have h10 := z_b32 p2
  refine z_xL zt276 6 rfl rfl (fun (y11 : Int64) (h12 : y11.toInt = p2.toInt) => ?_) (z_qI2L rfl)
  refine z_xP zt276 7 16 [some (.ref 19), some (.int p1), some (.int p2), some (.int p3)] [.long 0, .long y11] rfl rfl ?_
  refine z_xl2 zt276 8 rfl zo276 zkl12_358 ?_
  refine z_xcS (vs := [.long y11, .long 0, .long 3]) (r := []) (L2 := [some (.long y11), none, some (.long 0), none, some (.long 3), none]) zt276 9 rfl zo276 zzcS12_116 (Or.inl rfl) (Nat.le_of_ble_eq_true rfl) rfl rfl (Nat.le_of_ble_eq_true rfl) zzm189 (Nat.le_of_ble_eq_true rfl) rfl ?_
  refine z_xP zt189 0 2 [some (.long y11), none, some (.long 0), none, some (.long 3), none] [.long 0, .long y11] rfl rfl ?_
  refine z_xI zt189 1 rfl rfl (fun (x13 : Int32) (h14 : (x13.toInt < 0 ∧ y11.toInt < 0) ∨ (x13.toInt = 0 ∧ y11.toInt = 0) ∨ (0 < x13.toInt ∧ 0 < y11.toInt)) => ?_) (z_qCmp rfl rfl)
  refine z_xZ zt189 2 rfl rfl (fun (h15 : x13.toInt < 0) => ?_) (fun (h15 : 0 ≤ x13.toInt) => ?_)
  · skip
    refine z_xP zt189 7 18 [some (.long y11), none, some (.long 0), none, some (.long 3), none] [.int 0] rfl rfl ?_
    refine z_xrz zt189 8 rfl zzr189 (by decide) (by decide) ?_
    show z_ev (d + 41) 276 22 [some (.ref 19), some (.int p1), some (.int p2), some (.int p3)] [.int 0] M1 _
    refine z_xZ zt276 10 rfl rfl (fun (h16 : (0 : Int) ≠ 0) => absurd h16 (by omega)) (fun (h16 : (0 : Int) = 0) => ?_)
    refine z_xP zt276 11 26 [some (.ref 19), some (.int p1), some (.int p2), some (.int p3)] [.int 0] rfl rfl ?_
    have q0 : ((0 : Int32)).toInt = 0 := rfl
    have f48 : T[48]? = some (.inr (48, 0, 24, (-2147483648), 2147483647)) := X2.1.k rfl (by decide)
    have q0 : ((0 : Int32)).toInt = 0 := rfl
    exact z_xri zt276 12 rfl zzr276 (kk 0 M1 X2 (fun hq => by exfalso; omega) (fun hq => by exfalso; omega) (fun hq => by exfalso; omega) (fun hq => by exfalso; omega) (fun _ => ⟨rfl, (e3.a f48 (by decide)), _, h4, by omega⟩))
  refine z_xP zt189 3 9 [some (.long y11), none, some (.long 0), none, some (.long 3), none] [.long 3, .long y11] rfl rfl ?_
  refine z_xI zt189 4 rfl rfl (fun (x17 : Int32) (h18 : (x17.toInt < 0 ∧ y11.toInt < 3) ∨ (x17.toInt = 0 ∧ y11.toInt = 3) ∨ (0 < x17.toInt ∧ 3 < y11.toInt)) => ?_) (z_qCmp rfl rfl)
  refine z_xZ zt189 5 rfl rfl (fun (h19 : 0 < x17.toInt) => ?_) (fun (h19 : x17.toInt ≤ 0) => ?_)
  · skip
    refine z_xP zt189 7 18 [some (.long y11), none, some (.long 0), none, some (.long 3), none] [.int 0] rfl rfl ?_
    refine z_xrz zt189 8 rfl zzr189 (by decide) (by decide) ?_
    show z_ev (d + 41) 276 22 [some (.ref 19), some (.int p1), some (.int p2), some (.int p3)] [.int 0] M1 _
    refine z_xZ zt276 10 rfl rfl (fun (h20 : (0 : Int) ≠ 0) => absurd h20 (by omega)) (fun (h20 : (0 : Int) = 0) => ?_)
    refine z_xP zt276 11 26 [some (.ref 19), some (.int p1), some (.int p2), some (.int p3)] [.int 0] rfl rfl ?_
    have q0 : ((0 : Int32)).toInt = 0 := rfl
    have f48 : T[48]? = some (.inr (48, 0, 24, (-2147483648), 2147483647)) := X2.1.k rfl (by decide)
    have q0 : ((0 : Int32)).toInt = 0 := rfl
    exact z_xri zt276 12 rfl zzr276 (kk 0 M1 X2 (fun hq => by exfalso; omega) (fun hq => by exfalso; omega) (fun hq => by exfalso; omega) (fun hq => by exfalso; omega) (fun _ => ⟨rfl, (e3.a f48 (by decide)), _, h4, by omega⟩))
  refine z_xP zt189 6 18 [some (.long y11), none, some (.long 0), none, some (.long 3), none] [.int 1] rfl rfl ?_
  refine z_xrz zt189 8 rfl zzr189 (by decide) (by decide) ?_
  show z_ev (d + 41) 276 22 [some (.ref 19), some (.int p1), some (.int p2), some (.int p3)] [.int 1] M1 _
  refine z_xZ zt276 10 rfl rfl (fun (h21 : (1 : Int) ≠ 0) => ?_) (fun (h21 : (1 : Int) = 0) => absurd h21 (by omega))
  refine z_xP zt276 13 29 [some (.ref 19), some (.int p1), some (.int p2), some (.int p3)] [.int p1, .ref 19] rfl rfl ?_
  refine z_xpf zt276 14 rfl zo276 zzf12_387 X2 f19 (by decide) (by decide) ⟨by omega, by omega⟩ rfl (by decide) zw12_48 (fun M22 X23 e24 h25 => ?_)
  refine z_xP zt276 15 33 [some (.ref 19), some (.int p1), some (.int p2), some (.int p3)] [.int p2] rfl rfl ?_
  refine z_xZ zt276 16 rfl rfl (fun (h26 : p2.toInt ≠ 0) => ?_) (fun (h26 : p2.toInt = 0) => ?_)
  · skip
    refine z_xP zt276 24 52 [some (.ref 19), some (.int p1), some (.int p2), some (.int p3)] [.int 1, .int p2] rfl rfl ?_
    refine z_xJ zt276 25 rfl rfl (fun (h27 : p2.toInt ≠ 1) => ?_) (fun (h27 : p2.toInt = 1) => ?_)
    · skip
      refine z_xP zt276 33 71 [some (.ref 19), some (.int p1), some (.int p2), some (.int p3)] [.int 2, .int p2] rfl rfl ?_
      refine z_xJ zt276 34 rfl rfl (fun (h28 : p2.toInt ≠ 2) => ?_) (fun (h28 : p2.toInt = 2) => ?_)
      · skip
        refine z_xP zt276 42 90 [some (.ref 19), some (.int p1), some (.int p2), some (.int p3)] [.ref 19, .ref 19] rfl rfl ?_
        refine z_xgX (b := 36) zt276 43 rfl zo276 zzf12_58 X23 f19 (by decide) (by decide) rfl ?_
        refine z_xP zt276 44 94 [some (.ref 19), some (.int p1), some (.int p2), some (.int p3)] [.int p1, .ref 36, .ref 19] rfl rfl ?_
        have f36 : T[36]? = some (.inr (36, 0, 20, 0, 7)) := X23.1.k rfl (by decide)
        refine z_xil zt276 45 rfl X23 f36 (by decide) (by omega) (by omega) (fun (x29 : Int32) h30 (h31 : 0 ≤ x29.toInt) (h32 : x29.toInt ≤ 7) => ?_)
        have h33 := congrArg Int32.toInt (h30.symm.trans ((congrFun (e24.a f36 (by decide)) _).trans ((congrFun (e3.a f36 (by decide)) _).trans hk36)))
        refine z_xP zt276 46 96 [some (.ref 19), some (.int p1), some (.int p2), some (.int p3)] [.int p3, .int x29, .ref 19] rfl rfl ?_
        refine z_xcV (vs := [.ref 19, .int x29, .int p3]) (r := []) (L2 := [some (.ref 19), some (.int x29), some (.int p3), none]) zt276 47 rfl zo276 zzcV12_402 (Or.inl rfl) rfl X23 f19 rfl rfl rfl (Nat.le_of_ble_eq_true rfl) zzm282 (Nat.le_of_ble_eq_true rfl) rfl ?_
        refine z_xP zt282 0 3 [some (.ref 19), some (.int x29), some (.int p3), some (.int 0)] [.int x29] rfl rfl ?_
        by_cases h34 : x29.toInt = 5
        · refine z_xSC zt282 1 (z_sub (k := 5) h34 rfl) 73 rfl rfl ?_
          refine z_xP zt282 20 76 [some (.ref 19), some (.int x29), some (.int p3), some (.int 0)] [.int 61, .ref 19] rfl rfl ?_
          refine z_xcV (vs := [.ref 19, .int 61]) (r := []) (L2 := [some (.ref 19), some (.int 61)]) zt282 21 rfl zo282 zzcV12_384 (Or.inl rfl) rfl X23 f19 rfl rfl rfl (Nat.le_of_ble_eq_true rfl) zzm278 (Nat.le_of_ble_eq_true rfl) rfl ?_
          have q61 : ((61 : Int32)).toInt = 61 := rfl
          have h35 := (e24.f f19 (by decide) h4)
          have q0 : ((0 : Int32)).toInt = 0 := rfl
          have q61 : ((61 : Int32)).toInt = 61 := rfl
          refine zNC278 X23.1 h35 ⟨by omega, by omega⟩ (fun M36 X37 h38 z39 h40 h41 h42 => ?_)
          have X43 := X23.go X37 (z_sb (by decide))
          show z_ev (d + 40) 282 79 [some (.ref 19), some (.int x29), some (.int p3), some (.int 0)] [] M36 _
          have f48 : T[48]? = some (.inr (48, 0, 24, (-2147483648), 2147483647)) := X43.1.k rfl (by decide)
          have n45 : z_Ar M22 48 = z_Ar M0 48 := ((e24.a f48 (by decide)).trans (e3.a f48 (by decide)))
          have h47 : (0 : Int32).toInt.toNat = 0 := by omega
          have n46 : z_Ar M36 48 = z_nrs 0 [61] (z_Ar M0 48) := by rw [h38, n45, h47]; rfl
          refine z_xP zt282 22 81 [some (.ref 19), some (.int x29), some (.int p3), some (.int 0)] [.int 5, .ref 19] rfl rfl ?_
          refine z_xcS (vs := [.int 5]) (r := [.ref 19]) (L2 := [some (.int 5)]) zt282 23 rfl zo282 zzcS12_390 (Or.inl rfl) (Nat.le_of_ble_eq_true rfl) rfl rfl (Nat.le_of_ble_eq_true rfl) zzm279 (Nat.le_of_ble_eq_true rfl) rfl ?_
          refine z_xP zt279 0 2 [some (.int 5)] [.int 2, .int 5] rfl rfl ?_
          refine z_xJ zt279 1 rfl rfl (fun (h48 : (5 : Int) = 2) => absurd h48 (by omega)) (fun (h48 : (5 : Int) ≠ 2) => ?_)
          refine z_xP zt279 2 7 [some (.int 5)] [.int 3, .int 5] rfl rfl ?_
          refine z_xJ zt279 3 rfl rfl (fun (h49 : (5 : Int) ≠ 3) => ?_) (fun (h49 : (5 : Int) = 3) => absurd h49 (by omega))
          refine z_xP zt279 5 17 [some (.int 5)] [.int 6, .int 5] rfl rfl ?_
          refine z_xJ zt279 6 rfl rfl (fun (h50 : (5 : Int) ≠ 6) => ?_) (fun (h50 : (5 : Int) = 6) => absurd h50 (by omega))
          refine z_xP zt279 8 25 [some (.int 5)] [.int 0] rfl rfl ?_
          refine z_xri zt279 9 rfl zzr279 ?_
          show z_ev (d + 40) 282 84 [some (.ref 19), some (.int x29), some (.int p3), some (.int 0)] [.int 0, .ref 19] M36 _
          refine z_xP zt282 24 85 [some (.ref 19), some (.int x29), some (.int p3), some (.int 0)] [.int p3, .int 0, .ref 19] rfl rfl ?_
          refine z_xcV (vs := [.ref 19, .int 0, .int p3]) (r := []) (L2 := [some (.ref 19), some (.int 0), some (.int p3), none]) zt282 25 rfl zo282 zzcV12_402 (Or.inl rfl) rfl X43 f19 rfl rfl rfl (Nat.le_of_ble_eq_true rfl) zzm282 (Nat.le_of_ble_eq_true rfl) rfl ?_
          refine z_xP zt282 0 3 [some (.ref 19), some (.int 0), some (.int p3), some (.int 0)] [.int 0] rfl rfl ?_
          refine z_xSW zt282 1 36 rfl rfl ?_
          refine z_xP zt282 2 38 [some (.ref 19), some (.int 0), some (.int p3), some (.int 0)] [.int 2, .ref 19] rfl rfl ?_
          refine z_xcV (vs := [.ref 19, .int 2]) (r := []) (L2 := [some (.ref 19), some (.int 2)]) zt282 3 rfl zo282 zzcV12_384 (Or.inl rfl) rfl X43 f19 rfl rfl rfl (Nat.le_of_ble_eq_true rfl) zzm278 (Nat.le_of_ble_eq_true rfl) rfl ?_
          have q2 : ((2 : Int32)).toInt = 2 := rfl
          have q2 : ((2 : Int32)).toInt = 2 := rfl
          refine zNC278 X43.1 h40 ⟨by omega, by omega⟩ (fun M51 X52 h53 z54 h55 h56 h57 => ?_)
          have X58 := X43.go X52 (z_sb (by decide))
          show z_ev (d + 39) 282 41 [some (.ref 19), some (.int 0), some (.int p3), some (.int 0)] [] M51 _
          have h61 : (z39 : Int32).toInt.toNat = 1 := by omega
          have n60 : z_Ar M51 48 = z_nrs 0 [61, 2] (z_Ar M0 48) := by rw [h53, n46, h61]; rfl
          refine z_xP zt282 4 43 [some (.ref 19), some (.int 0), some (.int p3), some (.int 0)] [.ref 19, .ref 19] rfl rfl ?_
          refine z_xgX (b := 36) zt282 5 rfl zo282 zzf12_58 X58 f19 (by decide) (by decide) rfl ?_
          refine z_xP zt282 6 47 [some (.ref 19), some (.int 0), some (.int p3), some (.int 0)] [.ref 19, .ref 36, .ref 19] rfl rfl ?_
          have h62 := (X52.2.f f19 (by decide) (X37.2.f f19 (by decide) h25))
          refine z_xgv zt282 7 rfl zo282 zzf12_387 X58 f19 (by decide) h62 ?_
          refine z_xil zt282 8 rfl X58 f36 (by decide) (by omega) (by omega) (fun (x63 : Int32) h64 (h65 : 0 ≤ x63.toInt) (h66 : x63.toInt ≤ 7) => ?_)
          have h67 := congrArg Int32.toInt (h64.symm.trans ((congrFun (X52.2.a f36 (by decide)) _).trans ((congrFun (X37.2.a f36 (by decide)) _).trans ((congrFun (e24.a f36 (by decide)) _).trans ((congrFun (e3.a f36 (by decide)) _).trans hk36)))))
          refine z_xP zt282 9 52 [some (.ref 19), some (.int 0), some (.int p3), some (.int 0)] [.int p3, .int x63, .ref 19] rfl rfl ?_
          refine z_xcV (vs := [.ref 19, .int x63, .int p3]) (r := []) (L2 := [some (.ref 19), some (.int x63), some (.int p3), none]) zt282 10 rfl zo282 zzcV12_396 (Or.inl rfl) rfl X58 f19 rfl rfl rfl (Nat.le_of_ble_eq_true rfl) zzm280 (Nat.le_of_ble_eq_true rfl) rfl ?_
          refine z_xP zt280 0 1 [some (.ref 19), some (.int x63), some (.int p3), none] [.int x63] rfl rfl ?_
          by_cases h68 : x63.toInt = 5
          · refine z_xSC zt280 1 (z_sub (k := 5) h68 rfl) 100 rfl rfl ?_
            refine z_xP zt280 29 103 [some (.ref 19), some (.int x63), some (.int p3), none] [.int 60, .ref 19] rfl rfl ?_
            refine z_xcV (vs := [.ref 19, .int 60]) (r := []) (L2 := [some (.ref 19), some (.int 60)]) zt280 30 rfl zo280 zzcV12_384 (Or.inl rfl) rfl X58 f19 rfl rfl rfl (Nat.le_of_ble_eq_true rfl) zzm278 (Nat.le_of_ble_eq_true rfl) rfl ?_
            have q60 : ((60 : Int32)).toInt = 60 := rfl
            have q60 : ((60 : Int32)).toInt = 60 := rfl
            refine zNC278 X58.1 h55 ⟨by omega, by omega⟩ (fun M69 X70 h71 z72 h73 h74 h75 => ?_)
            have X76 := X58.go X70 (z_sb (by decide))
            show z_ev (d + 38) 280 106 [some (.ref 19), some (.int x63), some (.int p3), none] [] M69 _
            have h79 : (z54 : Int32).toInt.toNat = 2 := by omega
            have n78 : z_Ar M69 48 = z_nrs 0 [61, 2, 60] (z_Ar M0 48) := by rw [h71, n60, h79]; rfl
            refine z_xP zt280 31 108 [some (.ref 19), some (.int x63), some (.int p3), none] [.int 5, .ref 19] rfl rfl ?_
            refine z_xcS (vs := [.int 5]) (r := [.ref 19]) (L2 := [some (.int 5)]) zt280 32 rfl zo280 zzcS12_390 (Or.inl rfl) (Nat.le_of_ble_eq_true rfl) rfl rfl (Nat.le_of_ble_eq_true rfl) zzm279 (Nat.le_of_ble_eq_true rfl) rfl ?_
            refine z_xP zt279 0 2 [some (.int 5)] [.int 2, .int 5] rfl rfl ?_
            refine z_xJ zt279 1 rfl rfl (fun (h80 : (5 : Int) = 2) => absurd h80 (by omega)) (fun (h80 : (5 : Int) ≠ 2) => ?_)
            refine z_xP zt279 2 7 [some (.int 5)] [.int 3, .int 5] rfl rfl ?_
            refine z_xJ zt279 3 rfl rfl (fun (h81 : (5 : Int) ≠ 3) => ?_) (fun (h81 : (5 : Int) = 3) => absurd h81 (by omega))
            refine z_xP zt279 5 17 [some (.int 5)] [.int 6, .int 5] rfl rfl ?_
            refine z_xJ zt279 6 rfl rfl (fun (h82 : (5 : Int) ≠ 6) => ?_) (fun (h82 : (5 : Int) = 6) => absurd h82 (by omega))
            refine z_xP zt279 8 25 [some (.int 5)] [.int 0] rfl rfl ?_
            refine z_xri zt279 9 rfl zzr279 ?_
            show z_ev (d + 38) 280 111 [some (.ref 19), some (.int x63), some (.int p3), none] [.int 0, .ref 19] M69 _
            refine z_xP zt280 33 112 [some (.ref 19), some (.int x63), some (.int p3), none] [.int p3, .int 0, .ref 19] rfl rfl ?_
            refine z_xcV (vs := [.ref 19, .int 0, .int p3]) (r := []) (L2 := [some (.ref 19), some (.int 0), some (.int p3), none]) zt280 34 rfl zo280 zzcV12_396 (Or.inl rfl) rfl X76 f19 rfl rfl rfl (Nat.le_of_ble_eq_true rfl) zzm280 (Nat.le_of_ble_eq_true rfl) rfl ?_
            refine z_xP zt280 0 1 [some (.ref 19), some (.int 0), some (.int p3), none] [.int 0] rfl rfl ?_
            refine z_xSW zt280 1 44 rfl rfl ?_
            refine z_xP zt280 2 47 [some (.ref 19), some (.int 0), some (.int p3), none] [.int 10, .ref 19] rfl rfl ?_
            refine z_xcV (vs := [.ref 19, .int 10]) (r := []) (L2 := [some (.ref 19), some (.int 10)]) zt280 3 rfl zo280 zzcV12_384 (Or.inl rfl) rfl X76 f19 rfl rfl rfl (Nat.le_of_ble_eq_true rfl) zzm278 (Nat.le_of_ble_eq_true rfl) rfl ?_
            have q10 : ((10 : Int32)).toInt = 10 := rfl
            have q10 : ((10 : Int32)).toInt = 10 := rfl
            refine zNC278 X76.1 h73 ⟨by omega, by omega⟩ (fun M83 X84 h85 z86 h87 h88 h89 => ?_)
            have X90 := X76.go X84 (z_sb (by decide))
            show z_ev (d + 37) 280 50 [some (.ref 19), some (.int 0), some (.int p3), none] [] M83 _
            have h93 : (z72 : Int32).toInt.toNat = 3 := by omega
            have n92 : z_Ar M83 48 = z_nrs 0 [61, 2, 60, 10] (z_Ar M0 48) := by rw [h85, n78, h93]; rfl
            refine z_xP zt280 4 52 [some (.ref 19), some (.int 0), some (.int p3), none] [.ref 19, .ref 19] rfl rfl ?_
            refine z_xgX (b := 36) zt280 5 rfl zo280 zzf12_58 X90 f19 (by decide) (by decide) rfl ?_
            refine z_xP zt280 6 56 [some (.ref 19), some (.int 0), some (.int p3), none] [.ref 19, .ref 36, .ref 19] rfl rfl ?_
            have h94 := (X84.2.f f19 (by decide) (X70.2.f f19 (by decide) h62))
            refine z_xgv zt280 7 rfl zo280 zzf12_387 X90 f19 (by decide) h94 ?_
            refine z_xil zt280 8 rfl X90 f36 (by decide) (by omega) (by omega) (fun (x95 : Int32) h96 (h97 : 0 ≤ x95.toInt) (h98 : x95.toInt ≤ 7) => ?_)
            have h99 := congrArg Int32.toInt (h96.symm.trans ((congrFun (X84.2.a f36 (by decide)) _).trans ((congrFun (X70.2.a f36 (by decide)) _).trans ((congrFun (X52.2.a f36 (by decide)) _).trans ((congrFun (X37.2.a f36 (by decide)) _).trans ((congrFun (e24.a f36 (by decide)) _).trans ((congrFun (e3.a f36 (by decide)) _).trans hk36)))))))
            refine z_xP zt280 9 61 [some (.ref 19), some (.int 0), some (.int p3), none] [.int p3, .int x95, .ref 19] rfl rfl ?_
            refine z_xcV (vs := [.ref 19, .int x95, .int p3]) (r := []) (L2 := [some (.ref 19), some (.int x95), some (.int p3)]) zt280 10 rfl zo280 zzcV12_393 (Or.inl rfl) rfl X90 f19 rfl rfl rfl (Nat.le_of_ble_eq_true rfl) zzm277 (Nat.le_of_ble_eq_true rfl) rfl ?_
            refine z_xP zt277 0 1 [some (.ref 19), some (.int x95), some (.int p3)] [.int x95] rfl rfl ?_
            refine z_xSD zt277 1 rfl rfl (by omega) ?_
            refine z_xP zt277 26 86 [some (.ref 19), some (.int x95), some (.int p3)] [.int x95, .ref 19] rfl rfl ?_
            refine z_xcS (vs := [.int x95]) (r := [.ref 19]) (L2 := [some (.int x95)]) zt277 27 rfl zo277 zzcS12_390 (Or.inl rfl) (Nat.le_of_ble_eq_true rfl) rfl rfl (Nat.le_of_ble_eq_true rfl) zzm279 (Nat.le_of_ble_eq_true rfl) rfl ?_
            refine z_xP zt279 0 2 [some (.int x95)] [.int 2, .int x95] rfl rfl ?_
            refine z_xJ zt279 1 rfl rfl (fun (h100 : x95.toInt = 2) => absurd h100 (by omega)) (fun (h100 : x95.toInt ≠ 2) => ?_)
            refine z_xP zt279 2 7 [some (.int x95)] [.int 3, .int x95] rfl rfl ?_
            refine z_xJ zt279 3 rfl rfl (fun (h101 : x95.toInt ≠ 3) => ?_) (fun (h101 : x95.toInt = 3) => absurd h101 (by omega))
            refine z_xP zt279 5 17 [some (.int x95)] [.int 6, .int x95] rfl rfl ?_
            refine z_xJ zt279 6 rfl rfl (fun (h102 : x95.toInt ≠ 6) => ?_) (fun (h102 : x95.toInt = 6) => absurd h102 (by omega))
            refine z_xP zt279 8 25 [some (.int x95)] [.int 0] rfl rfl ?_
            refine z_xri zt279 9 rfl zzr279 ?_
            show z_ev (d + 36) 277 89 [some (.ref 19), some (.int x95), some (.int p3)] [.int 0, .ref 19] M83 _
            refine z_xP zt277 28 90 [some (.ref 19), some (.int x95), some (.int p3)] [.int p3, .int 0, .ref 19] rfl rfl ?_
            refine z_xcV (vs := [.ref 19, .int 0, .int p3]) (r := []) (L2 := [some (.ref 19), some (.int 0), some (.int p3)]) zt277 29 rfl zo277 zzcV12_393 (Or.inl rfl) rfl X90 f19 rfl rfl rfl (Nat.le_of_ble_eq_true rfl) zzm277 (Nat.le_of_ble_eq_true rfl) rfl ?_
            refine z_xP zt277 0 1 [some (.ref 19), some (.int 0), some (.int p3)] [.int 0] rfl rfl ?_
            refine z_xSW zt277 1 36 rfl rfl ?_
            refine z_xP zt277 2 38 [some (.ref 19), some (.int 0), some (.int p3)] [.int 1, .ref 19] rfl rfl ?_
            refine z_xcV (vs := [.ref 19, .int 1]) (r := []) (L2 := [some (.ref 19), some (.int 1)]) zt277 3 rfl zo277 zzcV12_384 (Or.inl rfl) rfl X90 f19 rfl rfl rfl (Nat.le_of_ble_eq_true rfl) zzm278 (Nat.le_of_ble_eq_true rfl) rfl ?_
            have q1 : ((1 : Int32)).toInt = 1 := rfl
            have q1 : ((1 : Int32)).toInt = 1 := rfl
            refine zNC278 X90.1 h87 ⟨by omega, by omega⟩ (fun M103 X104 h105 z106 h107 h108 h109 => ?_)
            have X110 := X90.go X104 (z_sb (by decide))
            show z_ev (d + 35) 277 41 [some (.ref 19), some (.int 0), some (.int p3)] [] M103 _
            have h113 : (z86 : Int32).toInt.toNat = 4 := by omega
            have n112 : z_Ar M103 48 = z_nrs 0 [61, 2, 60, 10, 1] (z_Ar M0 48) := by rw [h105, n92, h113]; rfl
            refine z_xP zt277 4 43 [some (.ref 19), some (.int 0), some (.int p3)] [.ref 19, .int p3] rfl rfl ?_
            have h114 := (X104.2.f f19 (by decide) h94)
            refine z_xgv zt277 5 rfl zo277 zzf12_387 X110 f19 (by decide) h114 ?_
            have h115 := z_b32 p3
            refine z_xI zt277 6 rfl rfl (fun (x116 : Int32) (h117 : x116 = p3 + p1) => ?_) (rfl)
            refine z_xri zt277 7 rfl zzr277 ?_
            show z_ev (d + 36) 277 93 [some (.ref 19), some (.int x95), some (.int p3)] [.int x116] M103 _
            refine z_xri zt277 30 rfl zzr277 ?_
            show z_ev (d + 37) 280 64 [some (.ref 19), some (.int 0), some (.int p3), none] [.int x116] M103 _
            refine z_xP zt280 11 65 [some (.ref 19), some (.int 0), some (.int p3), none] [.int 2, .int x116] rfl rfl ?_
            have h118 := z_b32 x116
            refine z_xI zt280 12 rfl rfl (fun (x119 : Int32) (h120 : x119 = x116 * 2) => ?_) (rfl)
            refine z_xri zt280 13 rfl zzr280 ?_
            show z_ev (d + 38) 280 115 [some (.ref 19), some (.int x63), some (.int p3), none] [.int x119] M103 _
            have h121 := z_b32 x119
            refine z_xI zt280 35 rfl rfl (fun (x122 : Int32) (h123 : x122 = -x119) => ?_) (rfl)
            refine z_xri zt280 36 rfl zzr280 ?_
            show z_ev (d + 39) 282 55 [some (.ref 19), some (.int 0), some (.int p3), some (.int 0)] [.int x122] M103 _
            refine z_xP zt282 11 59 [some (.ref 19), some (.int 0), some (.int p3), some (.int x122)] [.ref 19, .ref 19, .int x122] rfl rfl ?_
            refine z_xgX (b := 36) zt282 12 rfl zo282 zzf12_58 X110 f19 (by decide) (by decide) rfl ?_
            refine z_xP zt282 13 63 [some (.ref 19), some (.int 0), some (.int p3), some (.int x122)] [.ref 19, .ref 36, .ref 19, .int x122] rfl rfl ?_
            refine z_xgv zt282 14 rfl zo282 zzf12_387 X110 f19 (by decide) h114 ?_
            refine z_xil zt282 15 rfl X110 f36 (by decide) (by omega) (by omega) (fun (x124 : Int32) h125 (h126 : 0 ≤ x124.toInt) (h127 : x124.toInt ≤ 7) => ?_)
            have h128 := congrArg Int32.toInt (h125.symm.trans ((congrFun (X104.2.a f36 (by decide)) _).trans ((congrFun (X84.2.a f36 (by decide)) _).trans ((congrFun (X70.2.a f36 (by decide)) _).trans ((congrFun (X52.2.a f36 (by decide)) _).trans ((congrFun (X37.2.a f36 (by decide)) _).trans ((congrFun (e24.a f36 (by decide)) _).trans ((congrFun (e3.a f36 (by decide)) _).trans hk36))))))))
            refine z_xP zt282 16 68 [some (.ref 19), some (.int 0), some (.int p3), some (.int x122)] [.int 1, .int x124, .ref 19, .int x122] rfl rfl ?_
            refine z_xcV (vs := [.ref 19, .int x124, .int 1]) (r := [.int x122]) (L2 := [some (.ref 19), some (.int x124), some (.int 1)]) zt282 17 rfl zo282 zzcV12_399 (Or.inl rfl) rfl X110 f19 rfl rfl rfl (Nat.le_of_ble_eq_true rfl) zzm281 (Nat.le_of_ble_eq_true rfl) rfl ?_
            refine z_xP zt281 0 1 [some (.ref 19), some (.int x124), some (.int 1)] [.int x124] rfl rfl ?_
            refine z_xSL zt281 1 rfl (by decide) (z_lsd (List.forall_mem_cons.mpr ⟨show (0 : Int) ≠ x124.toInt from by omega, (List.forall_mem_cons.mpr ⟨show (3 : Int) ≠ x124.toInt from by omega, (List.forall_mem_cons.mpr ⟨show (6 : Int) ≠ x124.toInt from by omega, (List.forall_mem_nil _)⟩)⟩)⟩)) rfl ?_
            refine z_xP zt281 25 88 [some (.ref 19), some (.int x124), some (.int 1)] [.int x124, .ref 19] rfl rfl ?_
            refine z_xcS (vs := [.int x124]) (r := [.ref 19]) (L2 := [some (.int x124)]) zt281 26 rfl zo281 zzcS12_390 (Or.inl rfl) (Nat.le_of_ble_eq_true rfl) rfl rfl (Nat.le_of_ble_eq_true rfl) zzm279 (Nat.le_of_ble_eq_true rfl) rfl ?_
            refine z_xP zt279 0 2 [some (.int x124)] [.int 2, .int x124] rfl rfl ?_
            refine z_xJ zt279 1 rfl rfl (fun (h129 : x124.toInt = 2) => absurd h129 (by omega)) (fun (h129 : x124.toInt ≠ 2) => ?_)
            refine z_xP zt279 2 7 [some (.int x124)] [.int 3, .int x124] rfl rfl ?_
            refine z_xJ zt279 3 rfl rfl (fun (h130 : x124.toInt ≠ 3) => ?_) (fun (h130 : x124.toInt = 3) => absurd h130 (by omega))
            refine z_xP zt279 5 17 [some (.int x124)] [.int 6, .int x124] rfl rfl ?_
            refine z_xJ zt279 6 rfl rfl (fun (h131 : x124.toInt ≠ 6) => ?_) (fun (h131 : x124.toInt = 6) => absurd h131 (by omega))
            refine z_xP zt279 8 25 [some (.int x124)] [.int 0] rfl rfl ?_
            refine z_xri zt279 9 rfl zzr279 ?_
            show z_ev (d + 38) 281 91 [some (.ref 19), some (.int x124), some (.int 1)] [.int 0, .ref 19] M103 _
            refine z_xP zt281 27 92 [some (.ref 19), some (.int x124), some (.int 1)] [.int 1, .int 0, .ref 19] rfl rfl ?_
            refine z_xcV (vs := [.ref 19, .int 0, .int 1]) (r := []) (L2 := [some (.ref 19), some (.int 0), some (.int 1)]) zt281 28 rfl zo281 zzcV12_399 (Or.inl rfl) rfl X110 f19 rfl rfl rfl (Nat.le_of_ble_eq_true rfl) zzm281 (Nat.le_of_ble_eq_true rfl) rfl ?_
            refine z_xP zt281 0 1 [some (.ref 19), some (.int 0), some (.int 1)] [.int 0] rfl rfl ?_
            refine z_xSW zt281 1 36 rfl rfl ?_
            refine z_xP zt281 2 39 [some (.ref 19), some (.int 0), some (.int 1)] [.int 11, .ref 19] rfl rfl ?_
            refine z_xcV (vs := [.ref 19, .int 11]) (r := []) (L2 := [some (.ref 19), some (.int 11)]) zt281 3 rfl zo281 zzcV12_384 (Or.inl rfl) rfl X110 f19 rfl rfl rfl (Nat.le_of_ble_eq_true rfl) zzm278 (Nat.le_of_ble_eq_true rfl) rfl ?_
            have q11 : ((11 : Int32)).toInt = 11 := rfl
            have q11 : ((11 : Int32)).toInt = 11 := rfl
            refine zNC278 X110.1 h107 ⟨by omega, by omega⟩ (fun M132 X133 h134 z135 h136 h137 h138 => ?_)
            have X139 := X110.go X133 (z_sb (by decide))
            show z_ev (d + 37) 281 42 [some (.ref 19), some (.int 0), some (.int 1)] [] M132 _
            have h142 : (z106 : Int32).toInt.toNat = 5 := by omega
            have n141 : z_Ar M132 48 = z_nrs 0 [61, 2, 60, 10, 1, 11] (z_Ar M0 48) := by rw [h134, n112, h142]; rfl
            refine z_xP zt281 4 44 [some (.ref 19), some (.int 0), some (.int 1)] [.ref 19, .int 1] rfl rfl ?_
            have h143 := (X133.2.f f19 (by decide) h114)
            refine z_xgv zt281 5 rfl zo281 zzf12_387 X139 f19 (by decide) h143 ?_
            refine z_xI zt281 6 rfl rfl (fun (x144 : Int32) (h145 : x144 = 1 ^^^ p1) => ?_) (rfl)
            refine z_xri zt281 7 rfl zzr281 ?_
            show z_ev (d + 38) 281 95 [some (.ref 19), some (.int x124), some (.int 1)] [.int x144] M132 _
            refine z_xri zt281 29 rfl zzr281 ?_
            show z_ev (d + 39) 282 71 [some (.ref 19), some (.int 0), some (.int p3), some (.int x122)] [.int x144, .int x122] M132 _
            have h146 := z_b32 x122
            have h147 := z_b32 x144
            refine z_xI zt282 18 rfl rfl (fun (x148 : Int32) (h149 : x148 = x122 - x144) => ?_) (rfl)
            refine z_xri zt282 19 rfl zzr282 ?_
            show z_ev (d + 40) 282 88 [some (.ref 19), some (.int x29), some (.int p3), some (.int 0)] [.int x148] M132 _
            refine z_xP zt282 26 89 [some (.ref 19), some (.int x29), some (.int p3), some (.int 0)] [.ref 19, .int x148] rfl rfl ?_
            refine z_xgX (b := 37) zt282 27 rfl zo282 zzf12_61 X139 f19 (by decide) (by decide) rfl ?_
            refine z_xP zt282 28 93 [some (.ref 19), some (.int x29), some (.int p3), some (.int 0)] [.ref 19, .ref 37, .int x148] rfl rfl ?_
            refine z_xgv zt282 29 rfl zo282 zzf12_387 X139 f19 (by decide) h143 ?_
            have f37 : T[37]? = some (.inr (37, 0, 20, 0, 9)) := X139.1.k rfl (by decide)
            refine z_xil zt282 30 rfl X139 f37 (by decide) (by omega) (by omega) (fun (x150 : Int32) h151 (h152 : 0 ≤ x150.toInt) (h153 : x150.toInt ≤ 9) => ?_)
            have h154 : x150 = sh := by rw [← hk37, ← X139.2.a f37 (by decide), h151]
            have h155 := z_b32 x148
            refine z_xI zt282 31 rfl rfl (fun (x156 : Int32) (h157 : x156 = x148 + x150) => ?_) (rfl)
            refine z_xri zt282 32 rfl zzr282 ?_
            show z_ev (d + 41) 276 99 [some (.ref 19), some (.int p1), some (.int p2), some (.int p3)] [.int x156] M132 _
            exact z_xri zt276 48 rfl zzr276 (kk x156 M132 X139 (fun hq => by exfalso; omega) (fun hq => by exfalso; omega) (fun hq => by exfalso; omega) (fun _ => ⟨(by rw [h157, h154, h149, h145, h123, h120, h117]), n141, _, h136, by omega⟩) (fun hq => by exfalso; omega))
          exfalso; omega
        exfalso; omega
      refine z_xP zt276 35 76 [some (.ref 19), some (.int p1), some (.int p2), some (.int p3)] [.ref 19, .ref 19] rfl rfl ?_
      refine z_xgX (b := 36) zt276 36 rfl zo276 zzf12_58 X23 f19 (by decide) (by decide) rfl ?_
      refine z_xP zt276 37 80 [some (.ref 19), some (.int p1), some (.int p2), some (.int p3)] [.int p1, .ref 36, .ref 19] rfl rfl ?_
      have f36 : T[36]? = some (.inr (36, 0, 20, 0, 7)) := X23.1.k rfl (by decide)
      refine z_xil zt276 38 rfl X23 f36 (by decide) (by omega) (by omega) (fun (x158 : Int32) h159 (h160 : 0 ≤ x158.toInt) (h161 : x158.toInt ≤ 7) => ?_)
      have h162 := congrArg Int32.toInt (h159.symm.trans ((congrFun (e24.a f36 (by decide)) _).trans ((congrFun (e3.a f36 (by decide)) _).trans hk36)))
      refine z_xP zt276 39 82 [some (.ref 19), some (.int p1), some (.int p2), some (.int p3)] [.int p3, .int x158, .ref 19] rfl rfl ?_
      refine z_xcV (vs := [.ref 19, .int x158, .int p3]) (r := []) (L2 := [some (.ref 19), some (.int x158), some (.int p3)]) zt276 40 rfl zo276 zzcV12_399 (Or.inl rfl) rfl X23 f19 rfl rfl rfl (Nat.le_of_ble_eq_true rfl) zzm281 (Nat.le_of_ble_eq_true rfl) rfl ?_
      refine z_xP zt281 0 1 [some (.ref 19), some (.int x158), some (.int p3)] [.int x158] rfl rfl ?_
      refine z_xSL zt281 1 rfl (by decide) (z_lsd (List.forall_mem_cons.mpr ⟨show (0 : Int) ≠ x158.toInt from by omega, (List.forall_mem_cons.mpr ⟨show (3 : Int) ≠ x158.toInt from by omega, (List.forall_mem_cons.mpr ⟨show (6 : Int) ≠ x158.toInt from by omega, (List.forall_mem_nil _)⟩)⟩)⟩)) rfl ?_
      refine z_xP zt281 25 88 [some (.ref 19), some (.int x158), some (.int p3)] [.int x158, .ref 19] rfl rfl ?_
      refine z_xcS (vs := [.int x158]) (r := [.ref 19]) (L2 := [some (.int x158)]) zt281 26 rfl zo281 zzcS12_390 (Or.inl rfl) (Nat.le_of_ble_eq_true rfl) rfl rfl (Nat.le_of_ble_eq_true rfl) zzm279 (Nat.le_of_ble_eq_true rfl) rfl ?_
      refine z_xP zt279 0 2 [some (.int x158)] [.int 2, .int x158] rfl rfl ?_
      refine z_xJ zt279 1 rfl rfl (fun (h163 : x158.toInt = 2) => absurd h163 (by omega)) (fun (h163 : x158.toInt ≠ 2) => ?_)
      refine z_xP zt279 2 7 [some (.int x158)] [.int 3, .int x158] rfl rfl ?_
      refine z_xJ zt279 3 rfl rfl (fun (h164 : x158.toInt ≠ 3) => ?_) (fun (h164 : x158.toInt = 3) => absurd h164 (by omega))
      refine z_xP zt279 5 17 [some (.int x158)] [.int 6, .int x158] rfl rfl ?_
      refine z_xJ zt279 6 rfl rfl (fun (h165 : x158.toInt ≠ 6) => ?_) (fun (h165 : x158.toInt = 6) => absurd h165 (by omega))
      refine z_xP zt279 8 25 [some (.int x158)] [.int 0] rfl rfl ?_
      refine z_xri zt279 9 rfl zzr279 ?_
      show z_ev (d + 40) 281 91 [some (.ref 19), some (.int x158), some (.int p3)] [.int 0, .ref 19] M22 _
      refine z_xP zt281 27 92 [some (.ref 19), some (.int x158), some (.int p3)] [.int p3, .int 0, .ref 19] rfl rfl ?_
      refine z_xcV (vs := [.ref 19, .int 0, .int p3]) (r := []) (L2 := [some (.ref 19), some (.int 0), some (.int p3)]) zt281 28 rfl zo281 zzcV12_399 (Or.inl rfl) rfl X23 f19 rfl rfl rfl (Nat.le_of_ble_eq_true rfl) zzm281 (Nat.le_of_ble_eq_true rfl) rfl ?_
      refine z_xP zt281 0 1 [some (.ref 19), some (.int 0), some (.int p3)] [.int 0] rfl rfl ?_
      refine z_xSW zt281 1 36 rfl rfl ?_
      refine z_xP zt281 2 39 [some (.ref 19), some (.int 0), some (.int p3)] [.int 11, .ref 19] rfl rfl ?_
      refine z_xcV (vs := [.ref 19, .int 11]) (r := []) (L2 := [some (.ref 19), some (.int 11)]) zt281 3 rfl zo281 zzcV12_384 (Or.inl rfl) rfl X23 f19 rfl rfl rfl (Nat.le_of_ble_eq_true rfl) zzm278 (Nat.le_of_ble_eq_true rfl) rfl ?_
      have q11 : ((11 : Int32)).toInt = 11 := rfl
      have h166 := (e24.f f19 (by decide) h4)
      have q0 : ((0 : Int32)).toInt = 0 := rfl
      have q11 : ((11 : Int32)).toInt = 11 := rfl
      refine zNC278 X23.1 h166 ⟨by omega, by omega⟩ (fun M167 X168 h169 z170 h171 h172 h173 => ?_)
      have X174 := X23.go X168 (z_sb (by decide))
      show z_ev (d + 39) 281 42 [some (.ref 19), some (.int 0), some (.int p3)] [] M167 _
      have f48 : T[48]? = some (.inr (48, 0, 24, (-2147483648), 2147483647)) := X174.1.k rfl (by decide)
      have n176 : z_Ar M22 48 = z_Ar M0 48 := ((e24.a f48 (by decide)).trans (e3.a f48 (by decide)))
      have h178 : (0 : Int32).toInt.toNat = 0 := by omega
      have n177 : z_Ar M167 48 = z_nrs 0 [11] (z_Ar M0 48) := by rw [h169, n176, h178]; rfl
      refine z_xP zt281 4 44 [some (.ref 19), some (.int 0), some (.int p3)] [.ref 19, .int p3] rfl rfl ?_
      have h179 := (X168.2.f f19 (by decide) h25)
      refine z_xgv zt281 5 rfl zo281 zzf12_387 X174 f19 (by decide) h179 ?_
      refine z_xI zt281 6 rfl rfl (fun (x180 : Int32) (h181 : x180 = p3 ^^^ p1) => ?_) (rfl)
      refine z_xri zt281 7 rfl zzr281 ?_
      show z_ev (d + 40) 281 95 [some (.ref 19), some (.int x158), some (.int p3)] [.int x180] M167 _
      refine z_xri zt281 29 rfl zzr281 ?_
      show z_ev (d + 41) 276 85 [some (.ref 19), some (.int p1), some (.int p2), some (.int p3)] [.int x180] M167 _
      refine z_xP zt276 41 99 [some (.ref 19), some (.int p1), some (.int p2), some (.int p3)] [.int x180] rfl rfl ?_
      exact z_xri zt276 48 rfl zzr276 (kk x180 M167 X174 (fun hq => by exfalso; omega) (fun hq => by exfalso; omega) (fun _ => ⟨(by rw [h181]), n177, _, h171, by omega⟩) (fun hq => by exfalso; omega) (fun hq => by exfalso; omega))
    refine z_xP zt276 26 57 [some (.ref 19), some (.int p1), some (.int p2), some (.int p3)] [.ref 19, .ref 19] rfl rfl ?_
    refine z_xgX (b := 36) zt276 27 rfl zo276 zzf12_58 X23 f19 (by decide) (by decide) rfl ?_
    refine z_xP zt276 28 61 [some (.ref 19), some (.int p1), some (.int p2), some (.int p3)] [.int p1, .ref 36, .ref 19] rfl rfl ?_
    have f36 : T[36]? = some (.inr (36, 0, 20, 0, 7)) := X23.1.k rfl (by decide)
    refine z_xil zt276 29 rfl X23 f36 (by decide) (by omega) (by omega) (fun (x182 : Int32) h183 (h184 : 0 ≤ x182.toInt) (h185 : x182.toInt ≤ 7) => ?_)
    have h186 := congrArg Int32.toInt (h183.symm.trans ((congrFun (e24.a f36 (by decide)) _).trans ((congrFun (e3.a f36 (by decide)) _).trans hk36)))
    refine z_xP zt276 30 63 [some (.ref 19), some (.int p1), some (.int p2), some (.int p3)] [.int p3, .int x182, .ref 19] rfl rfl ?_
    refine z_xcV (vs := [.ref 19, .int x182, .int p3]) (r := []) (L2 := [some (.ref 19), some (.int x182), some (.int p3), none]) zt276 31 rfl zo276 zzcV12_396 (Or.inl rfl) rfl X23 f19 rfl rfl rfl (Nat.le_of_ble_eq_true rfl) zzm280 (Nat.le_of_ble_eq_true rfl) rfl ?_
    refine z_xP zt280 0 1 [some (.ref 19), some (.int x182), some (.int p3), none] [.int x182] rfl rfl ?_
    by_cases h187 : x182.toInt = 5
    · refine z_xSC zt280 1 (z_sub (k := 5) h187 rfl) 100 rfl rfl ?_
      refine z_xP zt280 29 103 [some (.ref 19), some (.int x182), some (.int p3), none] [.int 60, .ref 19] rfl rfl ?_
      refine z_xcV (vs := [.ref 19, .int 60]) (r := []) (L2 := [some (.ref 19), some (.int 60)]) zt280 30 rfl zo280 zzcV12_384 (Or.inl rfl) rfl X23 f19 rfl rfl rfl (Nat.le_of_ble_eq_true rfl) zzm278 (Nat.le_of_ble_eq_true rfl) rfl ?_
      have q60 : ((60 : Int32)).toInt = 60 := rfl
      have h188 := (e24.f f19 (by decide) h4)
      have q0 : ((0 : Int32)).toInt = 0 := rfl
      have q60 : ((60 : Int32)).toInt = 60 := rfl
      refine zNC278 X23.1 h188 ⟨by omega, by omega⟩ (fun M189 X190 h191 z192 h193 h194 h195 => ?_)
      have X196 := X23.go X190 (z_sb (by decide))
      show z_ev (d + 40) 280 106 [some (.ref 19), some (.int x182), some (.int p3), none] [] M189 _
      have f48 : T[48]? = some (.inr (48, 0, 24, (-2147483648), 2147483647)) := X196.1.k rfl (by decide)
      have n198 : z_Ar M22 48 = z_Ar M0 48 := ((e24.a f48 (by decide)).trans (e3.a f48 (by decide)))
      have h200 : (0 : Int32).toInt.toNat = 0 := by omega
      have n199 : z_Ar M189 48 = z_nrs 0 [60] (z_Ar M0 48) := by rw [h191, n198, h200]; rfl
      refine z_xP zt280 31 108 [some (.ref 19), some (.int x182), some (.int p3), none] [.int 5, .ref 19] rfl rfl ?_
      refine z_xcS (vs := [.int 5]) (r := [.ref 19]) (L2 := [some (.int 5)]) zt280 32 rfl zo280 zzcS12_390 (Or.inl rfl) (Nat.le_of_ble_eq_true rfl) rfl rfl (Nat.le_of_ble_eq_true rfl) zzm279 (Nat.le_of_ble_eq_true rfl) rfl ?_
      refine z_xP zt279 0 2 [some (.int 5)] [.int 2, .int 5] rfl rfl ?_
      refine z_xJ zt279 1 rfl rfl (fun (h201 : (5 : Int) = 2) => absurd h201 (by omega)) (fun (h201 : (5 : Int) ≠ 2) => ?_)
      refine z_xP zt279 2 7 [some (.int 5)] [.int 3, .int 5] rfl rfl ?_
      refine z_xJ zt279 3 rfl rfl (fun (h202 : (5 : Int) ≠ 3) => ?_) (fun (h202 : (5 : Int) = 3) => absurd h202 (by omega))
      refine z_xP zt279 5 17 [some (.int 5)] [.int 6, .int 5] rfl rfl ?_
      refine z_xJ zt279 6 rfl rfl (fun (h203 : (5 : Int) ≠ 6) => ?_) (fun (h203 : (5 : Int) = 6) => absurd h203 (by omega))
      refine z_xP zt279 8 25 [some (.int 5)] [.int 0] rfl rfl ?_
      refine z_xri zt279 9 rfl zzr279 ?_
      show z_ev (d + 40) 280 111 [some (.ref 19), some (.int x182), some (.int p3), none] [.int 0, .ref 19] M189 _
      refine z_xP zt280 33 112 [some (.ref 19), some (.int x182), some (.int p3), none] [.int p3, .int 0, .ref 19] rfl rfl ?_
      refine z_xcV (vs := [.ref 19, .int 0, .int p3]) (r := []) (L2 := [some (.ref 19), some (.int 0), some (.int p3), none]) zt280 34 rfl zo280 zzcV12_396 (Or.inl rfl) rfl X196 f19 rfl rfl rfl (Nat.le_of_ble_eq_true rfl) zzm280 (Nat.le_of_ble_eq_true rfl) rfl ?_
      refine z_xP zt280 0 1 [some (.ref 19), some (.int 0), some (.int p3), none] [.int 0] rfl rfl ?_
      refine z_xSW zt280 1 44 rfl rfl ?_
      refine z_xP zt280 2 47 [some (.ref 19), some (.int 0), some (.int p3), none] [.int 10, .ref 19] rfl rfl ?_
      refine z_xcV (vs := [.ref 19, .int 10]) (r := []) (L2 := [some (.ref 19), some (.int 10)]) zt280 3 rfl zo280 zzcV12_384 (Or.inl rfl) rfl X196 f19 rfl rfl rfl (Nat.le_of_ble_eq_true rfl) zzm278 (Nat.le_of_ble_eq_true rfl) rfl ?_
      have q10 : ((10 : Int32)).toInt = 10 := rfl
      have q10 : ((10 : Int32)).toInt = 10 := rfl
      refine zNC278 X196.1 h193 ⟨by omega, by omega⟩ (fun M204 X205 h206 z207 h208 h209 h210 => ?_)
      have X211 := X196.go X205 (z_sb (by decide))
      show z_ev (d + 39) 280 50 [some (.ref 19), some (.int 0), some (.int p3), none] [] M204 _
      have h214 : (z192 : Int32).toInt.toNat = 1 := by omega
      have n213 : z_Ar M204 48 = z_nrs 0 [60, 10] (z_Ar M0 48) := by rw [h206, n199, h214]; rfl
      refine z_xP zt280 4 52 [some (.ref 19), some (.int 0), some (.int p3), none] [.ref 19, .ref 19] rfl rfl ?_
      refine z_xgX (b := 36) zt280 5 rfl zo280 zzf12_58 X211 f19 (by decide) (by decide) rfl ?_
      refine z_xP zt280 6 56 [some (.ref 19), some (.int 0), some (.int p3), none] [.ref 19, .ref 36, .ref 19] rfl rfl ?_
      have h215 := (X205.2.f f19 (by decide) (X190.2.f f19 (by decide) h25))
      refine z_xgv zt280 7 rfl zo280 zzf12_387 X211 f19 (by decide) h215 ?_
      refine z_xil zt280 8 rfl X211 f36 (by decide) (by omega) (by omega) (fun (x216 : Int32) h217 (h218 : 0 ≤ x216.toInt) (h219 : x216.toInt ≤ 7) => ?_)
      have h220 := congrArg Int32.toInt (h217.symm.trans ((congrFun (X205.2.a f36 (by decide)) _).trans ((congrFun (X190.2.a f36 (by decide)) _).trans ((congrFun (e24.a f36 (by decide)) _).trans ((congrFun (e3.a f36 (by decide)) _).trans hk36)))))
      refine z_xP zt280 9 61 [some (.ref 19), some (.int 0), some (.int p3), none] [.int p3, .int x216, .ref 19] rfl rfl ?_
      refine z_xcV (vs := [.ref 19, .int x216, .int p3]) (r := []) (L2 := [some (.ref 19), some (.int x216), some (.int p3)]) zt280 10 rfl zo280 zzcV12_393 (Or.inl rfl) rfl X211 f19 rfl rfl rfl (Nat.le_of_ble_eq_true rfl) zzm277 (Nat.le_of_ble_eq_true rfl) rfl ?_
      refine z_xP zt277 0 1 [some (.ref 19), some (.int x216), some (.int p3)] [.int x216] rfl rfl ?_
      refine z_xSD zt277 1 rfl rfl (by omega) ?_
      refine z_xP zt277 26 86 [some (.ref 19), some (.int x216), some (.int p3)] [.int x216, .ref 19] rfl rfl ?_
      refine z_xcS (vs := [.int x216]) (r := [.ref 19]) (L2 := [some (.int x216)]) zt277 27 rfl zo277 zzcS12_390 (Or.inl rfl) (Nat.le_of_ble_eq_true rfl) rfl rfl (Nat.le_of_ble_eq_true rfl) zzm279 (Nat.le_of_ble_eq_true rfl) rfl ?_
      refine z_xP zt279 0 2 [some (.int x216)] [.int 2, .int x216] rfl rfl ?_
      refine z_xJ zt279 1 rfl rfl (fun (h221 : x216.toInt = 2) => absurd h221 (by omega)) (fun (h221 : x216.toInt ≠ 2) => ?_)
      refine z_xP zt279 2 7 [some (.int x216)] [.int 3, .int x216] rfl rfl ?_
      refine z_xJ zt279 3 rfl rfl (fun (h222 : x216.toInt ≠ 3) => ?_) (fun (h222 : x216.toInt = 3) => absurd h222 (by omega))
      refine z_xP zt279 5 17 [some (.int x216)] [.int 6, .int x216] rfl rfl ?_
      refine z_xJ zt279 6 rfl rfl (fun (h223 : x216.toInt ≠ 6) => ?_) (fun (h223 : x216.toInt = 6) => absurd h223 (by omega))
      refine z_xP zt279 8 25 [some (.int x216)] [.int 0] rfl rfl ?_
      refine z_xri zt279 9 rfl zzr279 ?_
      show z_ev (d + 38) 277 89 [some (.ref 19), some (.int x216), some (.int p3)] [.int 0, .ref 19] M204 _
      refine z_xP zt277 28 90 [some (.ref 19), some (.int x216), some (.int p3)] [.int p3, .int 0, .ref 19] rfl rfl ?_
      refine z_xcV (vs := [.ref 19, .int 0, .int p3]) (r := []) (L2 := [some (.ref 19), some (.int 0), some (.int p3)]) zt277 29 rfl zo277 zzcV12_393 (Or.inl rfl) rfl X211 f19 rfl rfl rfl (Nat.le_of_ble_eq_true rfl) zzm277 (Nat.le_of_ble_eq_true rfl) rfl ?_
      refine z_xP zt277 0 1 [some (.ref 19), some (.int 0), some (.int p3)] [.int 0] rfl rfl ?_
      refine z_xSW zt277 1 36 rfl rfl ?_
      refine z_xP zt277 2 38 [some (.ref 19), some (.int 0), some (.int p3)] [.int 1, .ref 19] rfl rfl ?_
      refine z_xcV (vs := [.ref 19, .int 1]) (r := []) (L2 := [some (.ref 19), some (.int 1)]) zt277 3 rfl zo277 zzcV12_384 (Or.inl rfl) rfl X211 f19 rfl rfl rfl (Nat.le_of_ble_eq_true rfl) zzm278 (Nat.le_of_ble_eq_true rfl) rfl ?_
      have q1 : ((1 : Int32)).toInt = 1 := rfl
      have q1 : ((1 : Int32)).toInt = 1 := rfl
      refine zNC278 X211.1 h208 ⟨by omega, by omega⟩ (fun M224 X225 h226 z227 h228 h229 h230 => ?_)
      have X231 := X211.go X225 (z_sb (by decide))
      show z_ev (d + 37) 277 41 [some (.ref 19), some (.int 0), some (.int p3)] [] M224 _
      have h234 : (z207 : Int32).toInt.toNat = 2 := by omega
      have n233 : z_Ar M224 48 = z_nrs 0 [60, 10, 1] (z_Ar M0 48) := by rw [h226, n213, h234]; rfl
      refine z_xP zt277 4 43 [some (.ref 19), some (.int 0), some (.int p3)] [.ref 19, .int p3] rfl rfl ?_
      have h235 := (X225.2.f f19 (by decide) h215)
      refine z_xgv zt277 5 rfl zo277 zzf12_387 X231 f19 (by decide) h235 ?_
      have h236 := z_b32 p3
      refine z_xI zt277 6 rfl rfl (fun (x237 : Int32) (h238 : x237 = p3 + p1) => ?_) (rfl)
      refine z_xri zt277 7 rfl zzr277 ?_
      show z_ev (d + 38) 277 93 [some (.ref 19), some (.int x216), some (.int p3)] [.int x237] M224 _
      refine z_xri zt277 30 rfl zzr277 ?_
      show z_ev (d + 39) 280 64 [some (.ref 19), some (.int 0), some (.int p3), none] [.int x237] M224 _
      refine z_xP zt280 11 65 [some (.ref 19), some (.int 0), some (.int p3), none] [.int 2, .int x237] rfl rfl ?_
      have h239 := z_b32 x237
      refine z_xI zt280 12 rfl rfl (fun (x240 : Int32) (h241 : x240 = x237 * 2) => ?_) (rfl)
      refine z_xri zt280 13 rfl zzr280 ?_
      show z_ev (d + 40) 280 115 [some (.ref 19), some (.int x182), some (.int p3), none] [.int x240] M224 _
      have h242 := z_b32 x240
      refine z_xI zt280 35 rfl rfl (fun (x243 : Int32) (h244 : x243 = -x240) => ?_) (rfl)
      refine z_xri zt280 36 rfl zzr280 ?_
      show z_ev (d + 41) 276 66 [some (.ref 19), some (.int p1), some (.int p2), some (.int p3)] [.int x243] M224 _
      refine z_xP zt276 32 99 [some (.ref 19), some (.int p1), some (.int p2), some (.int p3)] [.int x243] rfl rfl ?_
      exact z_xri zt276 48 rfl zzr276 (kk x243 M224 X231 (fun hq => by exfalso; omega) (fun _ => ⟨(by rw [h244, h241, h238]), n233, _, h228, by omega⟩) (fun hq => by exfalso; omega) (fun hq => by exfalso; omega) (fun hq => by exfalso; omega))
    exfalso; omega
  refine z_xP zt276 17 38 [some (.ref 19), some (.int p1), some (.int p2), some (.int p3)] [.ref 19, .ref 19] rfl rfl ?_
  refine z_xgX (b := 36) zt276 18 rfl zo276 zzf12_58 X23 f19 (by decide) (by decide) rfl ?_
  refine z_xP zt276 19 42 [some (.ref 19), some (.int p1), some (.int p2), some (.int p3)] [.int p1, .ref 36, .ref 19] rfl rfl ?_
  have f36 : T[36]? = some (.inr (36, 0, 20, 0, 7)) := X23.1.k rfl (by decide)
  refine z_xil zt276 20 rfl X23 f36 (by decide) (by omega) (by omega) (fun (x245 : Int32) h246 (h247 : 0 ≤ x245.toInt) (h248 : x245.toInt ≤ 7) => ?_)
  have h249 := congrArg Int32.toInt (h246.symm.trans ((congrFun (e24.a f36 (by decide)) _).trans ((congrFun (e3.a f36 (by decide)) _).trans hk36)))
  refine z_xP zt276 21 44 [some (.ref 19), some (.int p1), some (.int p2), some (.int p3)] [.int p3, .int x245, .ref 19] rfl rfl ?_
  refine z_xcV (vs := [.ref 19, .int x245, .int p3]) (r := []) (L2 := [some (.ref 19), some (.int x245), some (.int p3)]) zt276 22 rfl zo276 zzcV12_393 (Or.inl rfl) rfl X23 f19 rfl rfl rfl (Nat.le_of_ble_eq_true rfl) zzm277 (Nat.le_of_ble_eq_true rfl) rfl ?_
  refine z_xP zt277 0 1 [some (.ref 19), some (.int x245), some (.int p3)] [.int x245] rfl rfl ?_
  refine z_xSD zt277 1 rfl rfl (by omega) ?_
  refine z_xP zt277 26 86 [some (.ref 19), some (.int x245), some (.int p3)] [.int x245, .ref 19] rfl rfl ?_
  refine z_xcS (vs := [.int x245]) (r := [.ref 19]) (L2 := [some (.int x245)]) zt277 27 rfl zo277 zzcS12_390 (Or.inl rfl) (Nat.le_of_ble_eq_true rfl) rfl rfl (Nat.le_of_ble_eq_true rfl) zzm279 (Nat.le_of_ble_eq_true rfl) rfl ?_
  refine z_xP zt279 0 2 [some (.int x245)] [.int 2, .int x245] rfl rfl ?_
  refine z_xJ zt279 1 rfl rfl (fun (h250 : x245.toInt = 2) => absurd h250 (by omega)) (fun (h250 : x245.toInt ≠ 2) => ?_)
  refine z_xP zt279 2 7 [some (.int x245)] [.int 3, .int x245] rfl rfl ?_
  refine z_xJ zt279 3 rfl rfl (fun (h251 : x245.toInt ≠ 3) => ?_) (fun (h251 : x245.toInt = 3) => absurd h251 (by omega))
  refine z_xP zt279 5 17 [some (.int x245)] [.int 6, .int x245] rfl rfl ?_
  refine z_xJ zt279 6 rfl rfl (fun (h252 : x245.toInt ≠ 6) => ?_) (fun (h252 : x245.toInt = 6) => absurd h252 (by omega))
  refine z_xP zt279 8 25 [some (.int x245)] [.int 0] rfl rfl ?_
  refine z_xri zt279 9 rfl zzr279 ?_
  show z_ev (d + 40) 277 89 [some (.ref 19), some (.int x245), some (.int p3)] [.int 0, .ref 19] M22 _
  refine z_xP zt277 28 90 [some (.ref 19), some (.int x245), some (.int p3)] [.int p3, .int 0, .ref 19] rfl rfl ?_
  refine z_xcV (vs := [.ref 19, .int 0, .int p3]) (r := []) (L2 := [some (.ref 19), some (.int 0), some (.int p3)]) zt277 29 rfl zo277 zzcV12_393 (Or.inl rfl) rfl X23 f19 rfl rfl rfl (Nat.le_of_ble_eq_true rfl) zzm277 (Nat.le_of_ble_eq_true rfl) rfl ?_
  refine z_xP zt277 0 1 [some (.ref 19), some (.int 0), some (.int p3)] [.int 0] rfl rfl ?_
  refine z_xSW zt277 1 36 rfl rfl ?_
  refine z_xP zt277 2 38 [some (.ref 19), some (.int 0), some (.int p3)] [.int 1, .ref 19] rfl rfl ?_
  refine z_xcV (vs := [.ref 19, .int 1]) (r := []) (L2 := [some (.ref 19), some (.int 1)]) zt277 3 rfl zo277 zzcV12_384 (Or.inl rfl) rfl X23 f19 rfl rfl rfl (Nat.le_of_ble_eq_true rfl) zzm278 (Nat.le_of_ble_eq_true rfl) rfl ?_
  have q1 : ((1 : Int32)).toInt = 1 := rfl
  have h253 := (e24.f f19 (by decide) h4)
  have q0 : ((0 : Int32)).toInt = 0 := rfl
  have q1 : ((1 : Int32)).toInt = 1 := rfl
  refine zNC278 X23.1 h253 ⟨by omega, by omega⟩ (fun M254 X255 h256 z257 h258 h259 h260 => ?_)
  have X261 := X23.go X255 (z_sb (by decide))
  show z_ev (d + 39) 277 41 [some (.ref 19), some (.int 0), some (.int p3)] [] M254 _
  have f48 : T[48]? = some (.inr (48, 0, 24, (-2147483648), 2147483647)) := X261.1.k rfl (by decide)
  have n263 : z_Ar M22 48 = z_Ar M0 48 := ((e24.a f48 (by decide)).trans (e3.a f48 (by decide)))
  have h265 : (0 : Int32).toInt.toNat = 0 := by omega
  have n264 : z_Ar M254 48 = z_nrs 0 [1] (z_Ar M0 48) := by rw [h256, n263, h265]; rfl
  refine z_xP zt277 4 43 [some (.ref 19), some (.int 0), some (.int p3)] [.ref 19, .int p3] rfl rfl ?_
  have h266 := (X255.2.f f19 (by decide) h25)
  refine z_xgv zt277 5 rfl zo277 zzf12_387 X261 f19 (by decide) h266 ?_
  have h267 := z_b32 p3
  refine z_xI zt277 6 rfl rfl (fun (x268 : Int32) (h269 : x268 = p3 + p1) => ?_) (rfl)
  refine z_xri zt277 7 rfl zzr277 ?_
  show z_ev (d + 40) 277 93 [some (.ref 19), some (.int x245), some (.int p3)] [.int x268] M254 _
  refine z_xri zt277 30 rfl zzr277 ?_
  show z_ev (d + 41) 276 47 [some (.ref 19), some (.int p1), some (.int p2), some (.int p3)] [.int x268] M254 _
  refine z_xP zt276 23 99 [some (.ref 19), some (.int p1), some (.int p2), some (.int p3)] [.int x268] rfl rfl ?_
  exact z_xri zt276 48 rfl zzr276 (kk x268 M254 X261 (fun _ => ⟨(by rw [h269]), n264, _, h258, by omega⟩) (fun hq => by exfalso; omega) (fun hq => by exfalso; omega) (fun hq => by exfalso; omega) (fun hq => by exfalso; omega))
theorem zNC159_6 {T : List zK} {d : Nat} {K : Option Value → zH → Prop} {p1 : Int32} {p2 : Int32} {p3 : Int32} {ww : Int32} {bb : Nat} {nn sh jd : Int32} {M0 : zH} (hW : z_W M0 T) (hww : z_F M0 4 5 = some (.int ww)) (hwr : 0 ≤ p1.toInt ∧ p1.toInt < ww.toInt ∧ ww.toInt ≤ 20) (hbb : z_O M0 12 p1.toNatClampNeg = some bb) (kbb : T[bb]? = some (.inl (10, 0, 0, 0, 0))) (hf1 : z_F M0 bb 1 = some (.int sh)) (hf2 : z_F M0 bb 2 = some (.int jd)) (hf3 : z_F M0 bb 3 = some (.int nn)) (hG : z_GG T M0) (kk : ∀ (x : Int32) (M1 : zH), z_X T zw159 M0 M1 → (p2.toInt = 0 → x = (p3 + nn) ∧ z_Ar M1 13 = z_nts [1] (upd (z_Ar M0 13) 0 0)) → (p2.toInt = 1 → x = ((-((p3 + nn) * 2)) - jd) ∧ z_Ar M1 13 = z_nts [71, 60, 10, 1] (upd (z_Ar M0 13) 0 0)) → (p2.toInt = 2 → x = ((p3 + 1) ^^^ nn) ∧ z_Ar M1 13 = z_nts [70, 11] (upd (z_Ar M0 13) 0 0)) → (p2.toInt = 3 → x = ((((-((p3 + nn) * 2)) - jd) - ((1 + 1) ^^^ nn)) + sh) ∧ z_Ar M1 13 = z_nts [61, 2, 71, 60, 10, 1, 70, 11] (upd (z_Ar M0 13) 0 0)) → (p2.toInt < 0 ∨ 3 < p2.toInt → x = 0 ∧ z_Ar M1 13 = upd (z_Ar M0 13) 0 0) → K (some (.int x)) M1) : z_ev (d + 8) 159 0 [some (.ref 4), some (.int p1), some (.int p2), some (.int p3), none] [] M0 K := by
  have X : z_X T zw159 M0 M0 := .refl hW
  refine z_xP zt159 0 1 [some (.ref 4), some (.int p1), some (.int p2), some (.int p3), none] [.ref 4] rfl rfl ?_
  have f4 : T[4]? = some (.inl (0, 0, 0, 0, 0)) := X.1.k rfl (by decide)
  refine z_xgX (b := 13) zt159 1 rfl zo159 zzf0_31 X f4 (by decide) (by decide) rfl ?_
  refine z_xP zt159 2 6 [some (.ref 4), some (.int p1), some (.int p2), some (.int p3), none] [.int 0, .int 0, .ref 13] rfl rfl ?_
  have f13 : T[13]? = some (.inr (13, 0, 25, (-2147483648), 2147483647)) := X.1.k rfl (by decide)
  have q0 : ((0 : Int32)).toInt = 0 := rfl
  refine z_xis zt159 3 rfl X f13 (by decide) (by decide) (by decide) (by decide) (by omega) (by omega) (by decide) (fun M1 X2 e3 h4 => ?_)
  have q0 : ((0 : Int32)).toInt = 0 := rfl
  have h5 := z_u0 h4 (by omega)
  have n6 : z_Ar M1 13 = upd (z_Ar M0 13) 0 0 := h4
  refine z_xP zt159 4 9 [some (.ref 4), some (.int p1), some (.int p2), some (.int p3), none] [.int p1, .ref 4] rfl rfl ?_
  refine z_xcV (vs := [.ref 4, .int p1]) (r := []) (L2 := [some (.ref 4), some (.int p1)]) zt159 5 rfl zo159 zzcV0_221 (Or.inl rfl) rfl X2 f4 rfl rfl rfl (Nat.le_of_ble_eq_true rfl) zzm84 (Nat.le_of_ble_eq_true rfl) rfl ?_
  refine z_xP zt84 0 1 [some (.ref 4), some (.int p1)] [.int p1] rfl rfl ?_
  refine z_xZ zt84 1 rfl rfl (fun (h7 : p1.toInt < 0) => absurd h7 (by omega)) (fun (h7 : 0 ≤ p1.toInt) => ?_)
  refine z_xP zt84 2 6 [some (.ref 4), some (.int p1)] [.ref 4, .int p1] rfl rfl ?_
  have h8 := (e3.f f4 (by decide) hww)
  refine z_xgv zt84 3 rfl zo84 zzf0_188 X2 f4 (by decide) h8 ?_
  refine z_xJ zt84 4 rfl rfl (fun (h9 : p1.toInt < ww.toInt) => ?_) (fun (h9 : ww.toInt ≤ p1.toInt) => ?_)
  · skip
    refine z_xP zt84 6 17 [some (.ref 4), some (.int p1)] [.ref 4] rfl rfl ?_
    refine z_xgX (b := 12) zt84 7 rfl zo84 zzf0_27 X2 f4 (by decide) (by decide) rfl ?_
    refine z_xP zt84 8 21 [some (.ref 4), some (.int p1)] [.int p1, .ref 12] rfl rfl ?_
    have f12 : T[12]? = some (.inr (12, 3, 20, 0, 0)) := X2.1.k rfl (by decide)
    refine z_xalv zt84 9 rfl X2 f12 (by decide) (by decide) (by decide) (by omega) (by omega) ((congrFun (e3.o f12 (by decide)) _).trans hbb) ?_
    refine z_xra zt84 10 rfl zzr84 ?_
    show z_ev (d + 8) 159 12 [some (.ref 4), some (.int p1), some (.int p2), some (.int p3), none] [.ref bb] M1 _
    refine z_xP zt159 6 21 [some (.ref 4), some (.int p1), some (.int p2), some (.int p3), some (.ref bb)] [] rfl rfl ?_
    refine z_xP zt159 9 22 [some (.ref 4), some (.int p1), some (.int p2), some (.int p3), some (.ref bb)] [.int p2] rfl rfl ?_
    by_cases h10 : p2.toInt = 0
    · refine z_xSC zt159 10 (z_sub (k := 0) h10 rfl) 52 rfl rfl ?_
      refine z_xP zt159 11 55 [some (.ref 4), some (.int p1), some (.int p2), some (.int p3), some (.ref bb)] [.int p3, .ref bb] rfl rfl ?_
      refine z_xcV (vs := [.ref bb, .int p3]) (r := []) (L2 := [some (.ref bb), some (.int p3)]) zt159 12 rfl zo159 zzcV0_295 (Or.inr rfl) rfl X2 kbb rfl rfl rfl (Nat.le_of_ble_eq_true rfl) zzm163 (Nat.le_of_ble_eq_true rfl) rfl ?_
      refine z_xP zt163 0 2 [some (.ref bb), some (.int p3)] [.int 1, .ref bb] rfl rfl ?_
      refine z_xcV (vs := [.ref bb, .int 1]) (r := []) (L2 := [some (.ref bb), some (.int 1)]) zt163 1 rfl zo163 zzcV4_31 (Or.inr rfl) rfl X2 kbb rfl rfl rfl (Nat.le_of_ble_eq_true rfl) zzm161 (Nat.le_of_ble_eq_true rfl) rfl ?_
      have q1 : ((1 : Int32)).toInt = 1 := rfl
      have q1 : ((1 : Int32)).toInt = 1 := rfl
      refine zNC161 X2.1 (by decide) kbb ⟨by omega, by omega⟩ (fun M11 X12 h13 h14 => ?_)
      have X15 := X2.go X12 (z_sb (by decide))
      show z_ev (d + 7) 163 5 [some (.ref bb), some (.int p3)] [] M11 _
      have n17 : z_Ar M11 13 = z_nts [1] (upd (z_Ar M0 13) 0 0) := z_ntsS [] n6 h14
      refine z_xP zt163 2 7 [some (.ref bb), some (.int p3)] [.ref bb, .int p3] rfl rfl ?_
      have h18 := (X12.2.f kbb (by decide) (e3.f kbb (by decide) hf3))
      refine z_xgv zt163 3 rfl zo163 zzf4_15 X15 kbb (by decide) h18 ?_
      have h19 := z_b32 p3
      have h20 := z_b32 nn
      refine z_xI zt163 4 rfl rfl (fun (x21 : Int32) (h22 : x21 = p3 + nn) => ?_) (rfl)
      refine z_xri zt163 5 rfl zzr163 ?_
      show z_ev (d + 8) 159 58 [some (.ref 4), some (.int p1), some (.int p2), some (.int p3), some (.ref bb)] [.int x21] M11 _
      exact z_xri zt159 13 rfl zzr159 (kk x21 M11 X15 (fun _ => ⟨(by rw [h22]), n17⟩) (fun hq => by exfalso; omega) (fun hq => by exfalso; omega) (fun hq => by exfalso; omega) (fun hq => by exfalso; omega))
    by_cases h23 : p2.toInt = 1
    · refine z_xSC zt159 10 (z_sub (k := 1) h23 rfl) 59 rfl rfl ?_
      refine z_xP zt159 14 62 [some (.ref 4), some (.int p1), some (.int p2), some (.int p3), some (.ref bb)] [.int p3, .ref bb] rfl rfl ?_
      refine z_xcV (vs := [.ref bb, .int p3]) (r := []) (L2 := [some (.ref bb), some (.int p3)]) zt159 15 rfl zo159 zzcV0_298 (Or.inr rfl) rfl X2 kbb rfl rfl rfl (Nat.le_of_ble_eq_true rfl) zzm164 (Nat.le_of_ble_eq_true rfl) rfl ?_
      refine z_xP zt164 0 3 [some (.ref bb), some (.int p3)] [.int 71, .ref bb] rfl rfl ?_
      refine z_xcV (vs := [.ref bb, .int 71]) (r := []) (L2 := [some (.ref bb), some (.int 71)]) zt164 1 rfl zo164 zzcV10_38 (Or.inr rfl) rfl X2 kbb rfl rfl rfl (Nat.le_of_ble_eq_true rfl) zzm161 (Nat.le_of_ble_eq_true rfl) rfl ?_
      have q71 : ((71 : Int32)).toInt = 71 := rfl
      have q71 : ((71 : Int32)).toInt = 71 := rfl
      refine zNC161 X2.1 (by decide) kbb ⟨by omega, by omega⟩ (fun M24 X25 h26 h27 => ?_)
      have X28 := X2.go X25 (z_sb (by decide))
      show z_ev (d + 7) 164 6 [some (.ref bb), some (.int p3)] [] M24 _
      have n30 : z_Ar M24 13 = z_nts [71] (upd (z_Ar M0 13) 0 0) := z_ntsS [] n6 h27
      refine z_xP zt164 2 8 [some (.ref bb), some (.int p3)] [.int p3, .ref bb] rfl rfl ?_
      refine z_xcI (vs := [.ref bb, .int p3]) (r := []) (L2 := [some (.ref bb), some (.int p3)]) zt164 3 rfl zo164 zzcI10_46 (Or.inr (Or.inl rfl)) rfl X28 kbb rfl rfl (Nat.le_of_ble_eq_true rfl) zzm165 (Nat.le_of_ble_eq_true rfl) rfl ?_
      refine z_xP zt165 0 3 [some (.ref bb), some (.int p3)] [.int 60, .ref bb] rfl rfl ?_
      refine z_xcV (vs := [.ref bb, .int 60]) (r := []) (L2 := [some (.ref bb), some (.int 60)]) zt165 1 rfl zo165 zzcV9_27 (Or.inr rfl) rfl X28 kbb rfl rfl rfl (Nat.le_of_ble_eq_true rfl) zzm161 (Nat.le_of_ble_eq_true rfl) rfl ?_
      have q60 : ((60 : Int32)).toInt = 60 := rfl
      have q60 : ((60 : Int32)).toInt = 60 := rfl
      refine zNC161 X28.1 (by decide) kbb ⟨by omega, by omega⟩ (fun M31 X32 h33 h34 => ?_)
      have X35 := X28.go X32 (z_sb (by decide))
      show z_ev (d + 6) 165 6 [some (.ref bb), some (.int p3)] [] M31 _
      have n37 : z_Ar M31 13 = z_nts [71, 60] (upd (z_Ar M0 13) 0 0) := z_ntsS [71] n30 h34
      refine z_xP zt165 2 8 [some (.ref bb), some (.int p3)] [.int p3, .ref bb] rfl rfl ?_
      refine z_xcI (vs := [.ref bb, .int p3]) (r := []) (L2 := [some (.ref bb), some (.int p3)]) zt165 3 rfl zo165 zzcI9_30 (Or.inr (Or.inl rfl)) rfl X35 kbb rfl rfl (Nat.le_of_ble_eq_true rfl) zzm167 (Nat.le_of_ble_eq_true rfl) rfl ?_
      refine z_xP zt167 0 3 [some (.ref bb), some (.int p3)] [.int 10, .ref bb] rfl rfl ?_
      refine z_xcV (vs := [.ref bb, .int 10]) (r := []) (L2 := [some (.ref bb), some (.int 10)]) zt167 1 rfl zo167 zzcV4_31 (Or.inr rfl) rfl X35 kbb rfl rfl rfl (Nat.le_of_ble_eq_true rfl) zzm161 (Nat.le_of_ble_eq_true rfl) rfl ?_
      have q10 : ((10 : Int32)).toInt = 10 := rfl
      have q10 : ((10 : Int32)).toInt = 10 := rfl
      refine zNC161 X35.1 (by decide) kbb ⟨by omega, by omega⟩ (fun M38 X39 h40 h41 => ?_)
      have X42 := X35.go X39 (z_sb (by decide))
      show z_ev (d + 5) 167 6 [some (.ref bb), some (.int p3)] [] M38 _
      have n44 : z_Ar M38 13 = z_nts [71, 60, 10] (upd (z_Ar M0 13) 0 0) := z_ntsS [71, 60] n37 h41
      refine z_xP zt167 2 8 [some (.ref bb), some (.int p3)] [.int p3, .ref bb] rfl rfl ?_
      refine z_xcV (vs := [.ref bb, .int p3]) (r := []) (L2 := [some (.ref bb), some (.int p3)]) zt167 3 rfl zo167 zzcV4_35 (Or.inr rfl) rfl X42 kbb rfl rfl rfl (Nat.le_of_ble_eq_true rfl) zzm163 (Nat.le_of_ble_eq_true rfl) rfl ?_
      refine z_xP zt163 0 2 [some (.ref bb), some (.int p3)] [.int 1, .ref bb] rfl rfl ?_
      refine z_xcV (vs := [.ref bb, .int 1]) (r := []) (L2 := [some (.ref bb), some (.int 1)]) zt163 1 rfl zo163 zzcV4_31 (Or.inr rfl) rfl X42 kbb rfl rfl rfl (Nat.le_of_ble_eq_true rfl) zzm161 (Nat.le_of_ble_eq_true rfl) rfl ?_
      have q1 : ((1 : Int32)).toInt = 1 := rfl
      have q1 : ((1 : Int32)).toInt = 1 := rfl
      refine zNC161 X42.1 (by decide) kbb ⟨by omega, by omega⟩ (fun M45 X46 h47 h48 => ?_)
      have X49 := X42.go X46 (z_sb (by decide))
      show z_ev (d + 4) 163 5 [some (.ref bb), some (.int p3)] [] M45 _
      have n51 : z_Ar M45 13 = z_nts [71, 60, 10, 1] (upd (z_Ar M0 13) 0 0) := z_ntsS [71, 60, 10] n44 h48
      refine z_xP zt163 2 7 [some (.ref bb), some (.int p3)] [.ref bb, .int p3] rfl rfl ?_
      have h52 := (X46.2.f kbb (by decide) (X39.2.f kbb (by decide) (X32.2.f kbb (by decide) (X25.2.f kbb (by decide) (e3.f kbb (by decide) hf3)))))
      refine z_xgv zt163 3 rfl zo163 zzf4_15 X49 kbb (by decide) h52 ?_
      have h53 := z_b32 p3
      have h54 := z_b32 nn
      refine z_xI zt163 4 rfl rfl (fun (x55 : Int32) (h56 : x55 = p3 + nn) => ?_) (rfl)
      refine z_xri zt163 5 rfl zzr163 ?_
      show z_ev (d + 5) 167 11 [some (.ref bb), some (.int p3)] [.int x55] M45 _
      refine z_xP zt167 4 12 [some (.ref bb), some (.int p3)] [.int 2, .int x55] rfl rfl ?_
      have h57 := z_b32 x55
      refine z_xI zt167 5 rfl rfl (fun (x58 : Int32) (h59 : x58 = x55 * 2) => ?_) (rfl)
      refine z_xri zt167 6 rfl zzr167 ?_
      show z_ev (d + 6) 165 11 [some (.ref bb), some (.int p3)] [.int x58] M45 _
      have h60 := z_b32 x58
      refine z_xI zt165 4 rfl rfl (fun (x61 : Int32) (h62 : x61 = -x58) => ?_) (rfl)
      refine z_xri zt165 5 rfl zzr165 ?_
      show z_ev (d + 7) 164 11 [some (.ref bb), some (.int p3)] [.int x61] M45 _
      refine z_xP zt164 4 12 [some (.ref bb), some (.int p3)] [.ref bb, .int x61] rfl rfl ?_
      have h63 := (X46.2.f kbb (by decide) (X39.2.f kbb (by decide) (X32.2.f kbb (by decide) (X25.2.f kbb (by decide) (e3.f kbb (by decide) hf2)))))
      refine z_xgv zt164 5 rfl zo164 zzf10_7 X49 kbb (by decide) h63 ?_
      have h64 := z_b32 x61
      have h65 := z_b32 jd
      refine z_xI zt164 6 rfl rfl (fun (x66 : Int32) (h67 : x66 = x61 - jd) => ?_) (rfl)
      refine z_xri zt164 7 rfl zzr164 ?_
      show z_ev (d + 8) 159 65 [some (.ref 4), some (.int p1), some (.int p2), some (.int p3), some (.ref bb)] [.int x66] M45 _
      exact z_xri zt159 16 rfl zzr159 (kk x66 M45 X49 (fun hq => by exfalso; omega) (fun _ => ⟨(by rw [h67, h62, h59, h56]), n51⟩) (fun hq => by exfalso; omega) (fun hq => by exfalso; omega) (fun hq => by exfalso; omega))
    by_cases h68 : p2.toInt = 2
    · refine z_xSC zt159 10 (z_sub (k := 2) h68 rfl) 66 rfl rfl ?_
      refine z_xP zt159 17 69 [some (.ref 4), some (.int p1), some (.int p2), some (.int p3), some (.ref bb)] [.int p3, .ref bb] rfl rfl ?_
      refine z_xcV (vs := [.ref bb, .int p3]) (r := []) (L2 := [some (.ref bb), some (.int p3)]) zt159 18 rfl zo159 zzcV0_301 (Or.inr rfl) rfl X2 kbb rfl rfl rfl (Nat.le_of_ble_eq_true rfl) zzm168 (Nat.le_of_ble_eq_true rfl) rfl ?_
      refine z_xP zt168 0 3 [some (.ref bb), some (.int p3)] [.int 70, .ref bb] rfl rfl ?_
      refine z_xcV (vs := [.ref bb, .int 70]) (r := []) (L2 := [some (.ref bb), some (.int 70)]) zt168 1 rfl zo168 zzcV10_38 (Or.inr rfl) rfl X2 kbb rfl rfl rfl (Nat.le_of_ble_eq_true rfl) zzm161 (Nat.le_of_ble_eq_true rfl) rfl ?_
      have q70 : ((70 : Int32)).toInt = 70 := rfl
      have q70 : ((70 : Int32)).toInt = 70 := rfl
      refine zNC161 X2.1 (by decide) kbb ⟨by omega, by omega⟩ (fun M69 X70 h71 h72 => ?_)
      have X73 := X2.go X70 (z_sb (by decide))
      show z_ev (d + 7) 168 6 [some (.ref bb), some (.int p3)] [] M69 _
      have n75 : z_Ar M69 13 = z_nts [70] (upd (z_Ar M0 13) 0 0) := z_ntsS [] n6 h72
      refine z_xP zt168 2 9 [some (.ref bb), some (.int p3)] [.int 1, .int p3, .ref bb] rfl rfl ?_
      have h76 := z_b32 p3
      refine z_xI zt168 3 rfl rfl (fun (x77 : Int32) (h78 : x77 = p3 + 1) => ?_) (rfl)
      refine z_xcI (vs := [.ref bb, .int x77]) (r := []) (L2 := [some (.ref bb), some (.int x77)]) zt168 4 rfl zo168 zzcI10_42 (Or.inr (Or.inr (Or.inr rfl))) rfl X73 kbb rfl rfl (Nat.le_of_ble_eq_true rfl) zzm170 (Nat.le_of_ble_eq_true rfl) rfl ?_
      refine z_xP zt170 0 3 [some (.ref bb), some (.int x77)] [.int 11, .ref bb] rfl rfl ?_
      refine z_xcV (vs := [.ref bb, .int 11]) (r := []) (L2 := [some (.ref bb), some (.int 11)]) zt170 1 rfl zo170 zzcV4_31 (Or.inr rfl) rfl X73 kbb rfl rfl rfl (Nat.le_of_ble_eq_true rfl) zzm161 (Nat.le_of_ble_eq_true rfl) rfl ?_
      have q11 : ((11 : Int32)).toInt = 11 := rfl
      have q11 : ((11 : Int32)).toInt = 11 := rfl
      refine zNC161 X73.1 (by decide) kbb ⟨by omega, by omega⟩ (fun M79 X80 h81 h82 => ?_)
      have X83 := X73.go X80 (z_sb (by decide))
      show z_ev (d + 6) 170 6 [some (.ref bb), some (.int x77)] [] M79 _
      have n85 : z_Ar M79 13 = z_nts [70, 11] (upd (z_Ar M0 13) 0 0) := z_ntsS [70] n75 h82
      refine z_xP zt170 2 8 [some (.ref bb), some (.int x77)] [.ref bb, .int x77] rfl rfl ?_
      have h86 := (X80.2.f kbb (by decide) (X70.2.f kbb (by decide) (e3.f kbb (by decide) hf3)))
      refine z_xgv zt170 3 rfl zo170 zzf4_15 X83 kbb (by decide) h86 ?_
      refine z_xI zt170 4 rfl rfl (fun (x87 : Int32) (h88 : x87 = x77 ^^^ nn) => ?_) (rfl)
      refine z_xri zt170 5 rfl zzr170 ?_
      show z_ev (d + 7) 168 13 [some (.ref bb), some (.int p3)] [.int x87] M79 _
      refine z_xri zt168 5 rfl zzr168 ?_
      show z_ev (d + 8) 159 72 [some (.ref 4), some (.int p1), some (.int p2), some (.int p3), some (.ref bb)] [.int x87] M79 _
      exact z_xri zt159 19 rfl zzr159 (kk x87 M79 X83 (fun hq => by exfalso; omega) (fun hq => by exfalso; omega) (fun _ => ⟨(by rw [h88, h78]), n85⟩) (fun hq => by exfalso; omega) (fun hq => by exfalso; omega))
    by_cases h89 : p2.toInt = 3
    · refine z_xSC zt159 10 (z_sub (k := 3) h89 rfl) 73 rfl rfl ?_
      refine z_xP zt159 20 76 [some (.ref 4), some (.int p1), some (.int p2), some (.int p3), some (.ref bb)] [.int p3, .ref bb] rfl rfl ?_
      refine z_xcV (vs := [.ref bb, .int p3]) (r := []) (L2 := [some (.ref bb), some (.int p3)]) zt159 21 rfl zo159 zzcV0_304 (Or.inr rfl) rfl X2 kbb rfl rfl rfl (Nat.le_of_ble_eq_true rfl) zzm171 (Nat.le_of_ble_eq_true rfl) rfl ?_
      refine z_xP zt171 0 3 [some (.ref bb), some (.int p3)] [.int 61, .ref bb] rfl rfl ?_
      refine z_xcV (vs := [.ref bb, .int 61]) (r := []) (L2 := [some (.ref bb), some (.int 61)]) zt171 1 rfl zo171 zzcV9_27 (Or.inr rfl) rfl X2 kbb rfl rfl rfl (Nat.le_of_ble_eq_true rfl) zzm161 (Nat.le_of_ble_eq_true rfl) rfl ?_
      have q61 : ((61 : Int32)).toInt = 61 := rfl
      have q61 : ((61 : Int32)).toInt = 61 := rfl
      refine zNC161 X2.1 (by decide) kbb ⟨by omega, by omega⟩ (fun M90 X91 h92 h93 => ?_)
      have X94 := X2.go X91 (z_sb (by decide))
      show z_ev (d + 7) 171 6 [some (.ref bb), some (.int p3)] [] M90 _
      have n96 : z_Ar M90 13 = z_nts [61] (upd (z_Ar M0 13) 0 0) := z_ntsS [] n6 h93
      refine z_xP zt171 2 8 [some (.ref bb), some (.int p3)] [.int p3, .ref bb] rfl rfl ?_
      refine z_xcI (vs := [.ref bb, .int p3]) (r := []) (L2 := [some (.ref bb), some (.int p3)]) zt171 3 rfl zo171 zzcI9_33 (Or.inr (Or.inl rfl)) rfl X94 kbb rfl rfl (Nat.le_of_ble_eq_true rfl) zzm173 (Nat.le_of_ble_eq_true rfl) rfl ?_
      refine z_xP zt173 0 2 [some (.ref bb), some (.int p3)] [.int 2, .ref bb] rfl rfl ?_
      refine z_xcV (vs := [.ref bb, .int 2]) (r := []) (L2 := [some (.ref bb), some (.int 2)]) zt173 1 rfl zo173 zzcV4_31 (Or.inr rfl) rfl X94 kbb rfl rfl rfl (Nat.le_of_ble_eq_true rfl) zzm161 (Nat.le_of_ble_eq_true rfl) rfl ?_
      have q2 : ((2 : Int32)).toInt = 2 := rfl
      have q2 : ((2 : Int32)).toInt = 2 := rfl
      refine zNC161 X94.1 (by decide) kbb ⟨by omega, by omega⟩ (fun M97 X98 h99 h100 => ?_)
      have X101 := X94.go X98 (z_sb (by decide))
      show z_ev (d + 6) 173 5 [some (.ref bb), some (.int p3)] [] M97 _
      have n103 : z_Ar M97 13 = z_nts [61, 2] (upd (z_Ar M0 13) 0 0) := z_ntsS [61] n96 h100
      refine z_xP zt173 2 7 [some (.ref bb), some (.int p3)] [.int p3, .ref bb] rfl rfl ?_
      refine z_xcV (vs := [.ref bb, .int p3]) (r := []) (L2 := [some (.ref bb), some (.int p3)]) zt173 3 rfl zo173 zzcV4_39 (Or.inr rfl) rfl X101 kbb rfl rfl rfl (Nat.le_of_ble_eq_true rfl) zzm164 (Nat.le_of_ble_eq_true rfl) rfl ?_
      refine z_xP zt164 0 3 [some (.ref bb), some (.int p3)] [.int 71, .ref bb] rfl rfl ?_
      refine z_xcV (vs := [.ref bb, .int 71]) (r := []) (L2 := [some (.ref bb), some (.int 71)]) zt164 1 rfl zo164 zzcV10_38 (Or.inr rfl) rfl X101 kbb rfl rfl rfl (Nat.le_of_ble_eq_true rfl) zzm161 (Nat.le_of_ble_eq_true rfl) rfl ?_
      have q71 : ((71 : Int32)).toInt = 71 := rfl
      have q71 : ((71 : Int32)).toInt = 71 := rfl
      refine zNC161 X101.1 (by decide) kbb ⟨by omega, by omega⟩ (fun M104 X105 h106 h107 => ?_)
      have X108 := X101.go X105 (z_sb (by decide))
      show z_ev (d + 5) 164 6 [some (.ref bb), some (.int p3)] [] M104 _
      have n110 : z_Ar M104 13 = z_nts [61, 2, 71] (upd (z_Ar M0 13) 0 0) := z_ntsS [61, 2] n103 h107
      refine z_xP zt164 2 8 [some (.ref bb), some (.int p3)] [.int p3, .ref bb] rfl rfl ?_
      refine z_xcI (vs := [.ref bb, .int p3]) (r := []) (L2 := [some (.ref bb), some (.int p3)]) zt164 3 rfl zo164 zzcI10_46 (Or.inr (Or.inl rfl)) rfl X108 kbb rfl rfl (Nat.le_of_ble_eq_true rfl) zzm165 (Nat.le_of_ble_eq_true rfl) rfl ?_
      refine z_xP zt165 0 3 [some (.ref bb), some (.int p3)] [.int 60, .ref bb] rfl rfl ?_
      refine z_xcV (vs := [.ref bb, .int 60]) (r := []) (L2 := [some (.ref bb), some (.int 60)]) zt165 1 rfl zo165 zzcV9_27 (Or.inr rfl) rfl X108 kbb rfl rfl rfl (Nat.le_of_ble_eq_true rfl) zzm161 (Nat.le_of_ble_eq_true rfl) rfl ?_
      have q60 : ((60 : Int32)).toInt = 60 := rfl
      have q60 : ((60 : Int32)).toInt = 60 := rfl
      refine zNC161 X108.1 (by decide) kbb ⟨by omega, by omega⟩ (fun M111 X112 h113 h114 => ?_)
      have X115 := X108.go X112 (z_sb (by decide))
      show z_ev (d + 4) 165 6 [some (.ref bb), some (.int p3)] [] M111 _
      have n117 : z_Ar M111 13 = z_nts [61, 2, 71, 60] (upd (z_Ar M0 13) 0 0) := z_ntsS [61, 2, 71] n110 h114
      refine z_xP zt165 2 8 [some (.ref bb), some (.int p3)] [.int p3, .ref bb] rfl rfl ?_
      refine z_xcI (vs := [.ref bb, .int p3]) (r := []) (L2 := [some (.ref bb), some (.int p3)]) zt165 3 rfl zo165 zzcI9_30 (Or.inr (Or.inl rfl)) rfl X115 kbb rfl rfl (Nat.le_of_ble_eq_true rfl) zzm167 (Nat.le_of_ble_eq_true rfl) rfl ?_
      refine z_xP zt167 0 3 [some (.ref bb), some (.int p3)] [.int 10, .ref bb] rfl rfl ?_
      refine z_xcV (vs := [.ref bb, .int 10]) (r := []) (L2 := [some (.ref bb), some (.int 10)]) zt167 1 rfl zo167 zzcV4_31 (Or.inr rfl) rfl X115 kbb rfl rfl rfl (Nat.le_of_ble_eq_true rfl) zzm161 (Nat.le_of_ble_eq_true rfl) rfl ?_
      have q10 : ((10 : Int32)).toInt = 10 := rfl
      have q10 : ((10 : Int32)).toInt = 10 := rfl
      refine zNC161 X115.1 (by decide) kbb ⟨by omega, by omega⟩ (fun M118 X119 h120 h121 => ?_)
      have X122 := X115.go X119 (z_sb (by decide))
      show z_ev (d + 3) 167 6 [some (.ref bb), some (.int p3)] [] M118 _
      have n124 : z_Ar M118 13 = z_nts [61, 2, 71, 60, 10] (upd (z_Ar M0 13) 0 0) := z_ntsS [61, 2, 71, 60] n117 h121
      refine z_xP zt167 2 8 [some (.ref bb), some (.int p3)] [.int p3, .ref bb] rfl rfl ?_
      refine z_xcV (vs := [.ref bb, .int p3]) (r := []) (L2 := [some (.ref bb), some (.int p3)]) zt167 3 rfl zo167 zzcV4_35 (Or.inr rfl) rfl X122 kbb rfl rfl rfl (Nat.le_of_ble_eq_true rfl) zzm163 (Nat.le_of_ble_eq_true rfl) rfl ?_
      refine z_xP zt163 0 2 [some (.ref bb), some (.int p3)] [.int 1, .ref bb] rfl rfl ?_
      refine z_xcV (vs := [.ref bb, .int 1]) (r := []) (L2 := [some (.ref bb), some (.int 1)]) zt163 1 rfl zo163 zzcV4_31 (Or.inr rfl) rfl X122 kbb rfl rfl rfl (Nat.le_of_ble_eq_true rfl) zzm161 (Nat.le_of_ble_eq_true rfl) rfl ?_
      have q1 : ((1 : Int32)).toInt = 1 := rfl
      have q1 : ((1 : Int32)).toInt = 1 := rfl
      refine zNC161 X122.1 (by decide) kbb ⟨by omega, by omega⟩ (fun M125 X126 h127 h128 => ?_)
      have X129 := X122.go X126 (z_sb (by decide))
      show z_ev (d + 2) 163 5 [some (.ref bb), some (.int p3)] [] M125 _
      have n131 : z_Ar M125 13 = z_nts [61, 2, 71, 60, 10, 1] (upd (z_Ar M0 13) 0 0) := z_ntsS [61, 2, 71, 60, 10] n124 h128
      refine z_xP zt163 2 7 [some (.ref bb), some (.int p3)] [.ref bb, .int p3] rfl rfl ?_
      have h132 := (X126.2.f kbb (by decide) (X119.2.f kbb (by decide) (X112.2.f kbb (by decide) (X105.2.f kbb (by decide) (X98.2.f kbb (by decide) (X91.2.f kbb (by decide) (e3.f kbb (by decide) hf3)))))))
      refine z_xgv zt163 3 rfl zo163 zzf4_15 X129 kbb (by decide) h132 ?_
      have h133 := z_b32 p3
      have h134 := z_b32 nn
      refine z_xI zt163 4 rfl rfl (fun (x135 : Int32) (h136 : x135 = p3 + nn) => ?_) (rfl)
      refine z_xri zt163 5 rfl zzr163 ?_
      show z_ev (d + 3) 167 11 [some (.ref bb), some (.int p3)] [.int x135] M125 _
      refine z_xP zt167 4 12 [some (.ref bb), some (.int p3)] [.int 2, .int x135] rfl rfl ?_
      have h137 := z_b32 x135
      refine z_xI zt167 5 rfl rfl (fun (x138 : Int32) (h139 : x138 = x135 * 2) => ?_) (rfl)
      refine z_xri zt167 6 rfl zzr167 ?_
      show z_ev (d + 4) 165 11 [some (.ref bb), some (.int p3)] [.int x138] M125 _
      have h140 := z_b32 x138
      refine z_xI zt165 4 rfl rfl (fun (x141 : Int32) (h142 : x141 = -x138) => ?_) (rfl)
      refine z_xri zt165 5 rfl zzr165 ?_
      show z_ev (d + 5) 164 11 [some (.ref bb), some (.int p3)] [.int x141] M125 _
      refine z_xP zt164 4 12 [some (.ref bb), some (.int p3)] [.ref bb, .int x141] rfl rfl ?_
      have h143 := (X126.2.f kbb (by decide) (X119.2.f kbb (by decide) (X112.2.f kbb (by decide) (X105.2.f kbb (by decide) (X98.2.f kbb (by decide) (X91.2.f kbb (by decide) (e3.f kbb (by decide) hf2)))))))
      refine z_xgv zt164 5 rfl zo164 zzf10_7 X129 kbb (by decide) h143 ?_
      have h144 := z_b32 x141
      have h145 := z_b32 jd
      refine z_xI zt164 6 rfl rfl (fun (x146 : Int32) (h147 : x146 = x141 - jd) => ?_) (rfl)
      refine z_xri zt164 7 rfl zzr164 ?_
      show z_ev (d + 6) 173 10 [some (.ref bb), some (.int p3)] [.int x146] M125 _
      refine z_xP zt173 4 12 [some (.ref bb), some (.int p3)] [.int 1, .ref bb, .int x146] rfl rfl ?_
      refine z_xcV (vs := [.ref bb, .int 1]) (r := [.int x146]) (L2 := [some (.ref bb), some (.int 1)]) zt173 5 rfl zo173 zzcV4_42 (Or.inr rfl) rfl X129 kbb rfl rfl rfl (Nat.le_of_ble_eq_true rfl) zzm168 (Nat.le_of_ble_eq_true rfl) rfl ?_
      refine z_xP zt168 0 3 [some (.ref bb), some (.int 1)] [.int 70, .ref bb] rfl rfl ?_
      refine z_xcV (vs := [.ref bb, .int 70]) (r := []) (L2 := [some (.ref bb), some (.int 70)]) zt168 1 rfl zo168 zzcV10_38 (Or.inr rfl) rfl X129 kbb rfl rfl rfl (Nat.le_of_ble_eq_true rfl) zzm161 (Nat.le_of_ble_eq_true rfl) rfl ?_
      have q70 : ((70 : Int32)).toInt = 70 := rfl
      have q70 : ((70 : Int32)).toInt = 70 := rfl
      refine zNC161 X129.1 (by decide) kbb ⟨by omega, by omega⟩ (fun M148 X149 h150 h151 => ?_)
      have X152 := X129.go X149 (z_sb (by decide))
      show z_ev (d + 5) 168 6 [some (.ref bb), some (.int 1)] [] M148 _
      have n154 : z_Ar M148 13 = z_nts [61, 2, 71, 60, 10, 1, 70] (upd (z_Ar M0 13) 0 0) := z_ntsS [61, 2, 71, 60, 10, 1] n131 h151
      refine z_xP zt168 2 9 [some (.ref bb), some (.int 1)] [.int 1, .int 1, .ref bb] rfl rfl ?_
      refine z_xI zt168 3 rfl rfl (fun (x155 : Int32) (h156 : x155 = 1 + 1) => ?_) (rfl)
      refine z_xcI (vs := [.ref bb, .int x155]) (r := []) (L2 := [some (.ref bb), some (.int x155)]) zt168 4 rfl zo168 zzcI10_42 (Or.inr (Or.inr (Or.inr rfl))) rfl X152 kbb rfl rfl (Nat.le_of_ble_eq_true rfl) zzm170 (Nat.le_of_ble_eq_true rfl) rfl ?_
      refine z_xP zt170 0 3 [some (.ref bb), some (.int x155)] [.int 11, .ref bb] rfl rfl ?_
      refine z_xcV (vs := [.ref bb, .int 11]) (r := []) (L2 := [some (.ref bb), some (.int 11)]) zt170 1 rfl zo170 zzcV4_31 (Or.inr rfl) rfl X152 kbb rfl rfl rfl (Nat.le_of_ble_eq_true rfl) zzm161 (Nat.le_of_ble_eq_true rfl) rfl ?_
      have q11 : ((11 : Int32)).toInt = 11 := rfl
      have q11 : ((11 : Int32)).toInt = 11 := rfl
      refine zNC161 X152.1 (by decide) kbb ⟨by omega, by omega⟩ (fun M157 X158 h159 h160 => ?_)
      have X161 := X152.go X158 (z_sb (by decide))
      show z_ev (d + 4) 170 6 [some (.ref bb), some (.int x155)] [] M157 _
      have n163 : z_Ar M157 13 = z_nts [61, 2, 71, 60, 10, 1, 70, 11] (upd (z_Ar M0 13) 0 0) := z_ntsS [61, 2, 71, 60, 10, 1, 70] n154 h160
      refine z_xP zt170 2 8 [some (.ref bb), some (.int x155)] [.ref bb, .int x155] rfl rfl ?_
      have h164 := (X158.2.f kbb (by decide) (X149.2.f kbb (by decide) h132))
      refine z_xgv zt170 3 rfl zo170 zzf4_15 X161 kbb (by decide) h164 ?_
      refine z_xI zt170 4 rfl rfl (fun (x165 : Int32) (h166 : x165 = x155 ^^^ nn) => ?_) (rfl)
      refine z_xri zt170 5 rfl zzr170 ?_
      show z_ev (d + 5) 168 13 [some (.ref bb), some (.int 1)] [.int x165] M157 _
      refine z_xri zt168 5 rfl zzr168 ?_
      show z_ev (d + 6) 173 15 [some (.ref bb), some (.int p3)] [.int x165, .int x146] M157 _
      have h167 := z_b32 x146
      have h168 := z_b32 x165
      refine z_xI zt173 6 rfl rfl (fun (x169 : Int32) (h170 : x169 = x146 - x165) => ?_) (rfl)
      refine z_xri zt173 7 rfl zzr173 ?_
      show z_ev (d + 7) 171 11 [some (.ref bb), some (.int p3)] [.int x169] M157 _
      refine z_xP zt171 4 12 [some (.ref bb), some (.int p3)] [.ref bb, .int x169] rfl rfl ?_
      have h171 := (X158.2.f kbb (by decide) (X149.2.f kbb (by decide) (X126.2.f kbb (by decide) (X119.2.f kbb (by decide) (X112.2.f kbb (by decide) (X105.2.f kbb (by decide) (X98.2.f kbb (by decide) (X91.2.f kbb (by decide) (e3.f kbb (by decide) hf1)))))))))
      refine z_xgv zt171 5 rfl zo171 zzf9_7 X161 kbb (by decide) h171 ?_
      have h172 := z_b32 x169
      have h173 := z_b32 sh
      refine z_xI zt171 6 rfl rfl (fun (x174 : Int32) (h175 : x174 = x169 + sh) => ?_) (rfl)
      refine z_xri zt171 7 rfl zzr171 ?_
      show z_ev (d + 8) 159 79 [some (.ref 4), some (.int p1), some (.int p2), some (.int p3), some (.ref bb)] [.int x174] M157 _
      exact z_xri zt159 22 rfl zzr159 (kk x174 M157 X161 (fun hq => by exfalso; omega) (fun hq => by exfalso; omega) (fun hq => by exfalso; omega) (fun _ => ⟨(by rw [h175, h170, h166, h156, h147, h142, h139, h136]), n163⟩) (fun hq => by exfalso; omega))
    refine z_xSD zt159 10 rfl rfl (by omega) ?_
    refine z_xP zt159 23 81 [some (.ref 4), some (.int p1), some (.int p2), some (.int p3), some (.ref bb)] [.int 0] rfl rfl ?_
    have q0 : ((0 : Int32)).toInt = 0 := rfl
    exact z_xri zt159 24 rfl zzr159 (kk 0 M1 X2 (fun hq => by exfalso; omega) (fun hq => by exfalso; omega) (fun hq => by exfalso; omega) (fun hq => by exfalso; omega) (fun _ => ⟨rfl, n6⟩))
  refine z_xP zt84 5 22 [some (.ref 4), some (.int p1)] [.null] rfl rfl ?_
  refine z_xrn zt84 10 rfl zzr84 ?_
  show z_ev (d + 8) 159 12 [some (.ref 4), some (.int p1), some (.int p2), some (.int p3), none] [.null] M1 _
  refine z_xP zt159 6 19 [some (.ref 4), some (.int p1), some (.int p2), some (.int p3), some (.null)] [] rfl rfl ?_
  refine z_xP zt159 7 20 [some (.ref 4), some (.int p1), some (.int p2), some (.int p3), some (.null)] [.int 0] rfl rfl ?_
  have q0 : ((0 : Int32)).toInt = 0 := rfl
  exact z_xri zt159 8 rfl zzr159 (kk 0 M1 X2 (fun hq => by exfalso; omega) (fun hq => by exfalso; omega) (fun hq => by exfalso; omega) (fun hq => by exfalso; omega) (fun _ => ⟨rfl, n6⟩))
theorem zNC276_6 {T : List zK} {d : Nat} {K : Option Value → zH → Prop} {p1 : Int32} {p2 : Int32} {p3 : Int32} {ww : Int32} {kn sh jd : Int32} {M0 : zH} (hW : z_W M0 T) (hww : z_F M0 19 21 = some (.int ww)) (hwr : 0 ≤ p1.toInt ∧ p1.toInt < ww.toInt ∧ ww.toInt ≤ 20) (hk36 : z_Ar M0 36 p1.toNatClampNeg = kn) (hkn : kn.toInt = 6) (hk37 : z_Ar M0 37 p1.toNatClampNeg = sh) (hk38 : z_Ar M0 38 p1.toNatClampNeg = jd) (kk : ∀ (x : Int32) (M1 : zH), z_X T zw276 M0 M1 → (p2.toInt = 0 → x = (p3 + p1) ∧ z_Ar M1 48 = z_nrs 0 [1] (z_Ar M0 48) ∧ ∃ n : Int32, z_F M1 19 47 = some (.int n) ∧ n.toInt = 1) → (p2.toInt = 1 → x = ((-((p3 + p1) * 2)) - jd) ∧ z_Ar M1 48 = z_nrs 0 [71, 60, 10, 1] (z_Ar M0 48) ∧ ∃ n : Int32, z_F M1 19 47 = some (.int n) ∧ n.toInt = 4) → (p2.toInt = 2 → x = ((p3 + 1) ^^^ p1) ∧ z_Ar M1 48 = z_nrs 0 [70, 11] (z_Ar M0 48) ∧ ∃ n : Int32, z_F M1 19 47 = some (.int n) ∧ n.toInt = 2) → (p2.toInt = 3 → x = ((((-((p3 + p1) * 2)) - jd) - ((1 + 1) ^^^ p1)) + sh) ∧ z_Ar M1 48 = z_nrs 0 [61, 2, 71, 60, 10, 1, 70, 11] (z_Ar M0 48) ∧ ∃ n : Int32, z_F M1 19 47 = some (.int n) ∧ n.toInt = 8) → (p2.toInt < 0 ∨ 3 < p2.toInt → x = 0 ∧ z_Ar M1 48 = z_Ar M0 48 ∧ ∃ n : Int32, z_F M1 19 47 = some (.int n) ∧ n.toInt = 0) → K (some (.int x)) M1) : z_ev (d + 41) 276 0 [some (.ref 19), some (.int p1), some (.int p2), some (.int p3)] [] M0 K := by
  have X : z_X T zw276 M0 M0 := .refl hW
  refine z_xP zt276 0 2 [some (.ref 19), some (.int p1), some (.int p2), some (.int p3)] [.int 0, .ref 19] rfl rfl ?_
  have f19 : T[19]? = some (.inl (12, 0, 0, 0, 0)) := X.1.k rfl (by decide)
  have q0 : ((0 : Int32)).toInt = 0 := rfl
  refine z_xpf zt276 1 rfl zo276 zzf12_381 X f19 (by decide) (by decide) ⟨by omega, by omega⟩ rfl (by decide) zw12_47 (fun M1 X2 e3 h4 => ?_)
  refine z_xP zt276 2 7 [some (.ref 19), some (.int p1), some (.int p2), some (.int p3)] [.int p1, .ref 19] rfl rfl ?_
  refine z_xcV (vs := [.ref 19, .int p1]) (r := []) (L2 := [some (.ref 19), some (.int p1)]) zt276 3 rfl zo276 zzcV12_272 (Or.inl rfl) rfl X2 f19 rfl rfl rfl (Nat.le_of_ble_eq_true rfl) zzm237 (Nat.le_of_ble_eq_true rfl) rfl ?_
  refine z_xP zt237 0 1 [some (.ref 19), some (.int p1)] [.int p1] rfl rfl ?_
  refine z_xZ zt237 1 rfl rfl (fun (h5 : p1.toInt < 0) => absurd h5 (by omega)) (fun (h5 : 0 ≤ p1.toInt) => ?_)
  refine z_xP zt237 2 6 [some (.ref 19), some (.int p1)] [.ref 19, .int p1] rfl rfl ?_
  have h6 := (e3.f f19 (by decide) hww)
  refine z_xgv zt237 3 rfl zo237 zzf12_269 X2 f19 (by decide) h6 ?_
  refine z_xJ zt237 4 rfl rfl (fun (h7 : ww.toInt ≤ p1.toInt) => ?_) (fun (h7 : p1.toInt < ww.toInt) => ?_)
  · skip
    refine z_xP zt237 6 17 [some (.ref 19), some (.int p1)] [.int 0] rfl rfl ?_
    refine z_xrz zt237 7 rfl zzr237 (by decide) (by decide) ?_
    show z_ev (d + 41) 276 10 [some (.ref 19), some (.int p1), some (.int p2), some (.int p3)] [.int 0] M1 _
    refine z_xZ zt276 4 rfl rfl (fun (h8 : (0 : Int) = 0) => ?_) (fun (h8 : (0 : Int) ≠ 0) => absurd h8 (by omega))
    refine z_xP zt276 11 26 [some (.ref 19), some (.int p1), some (.int p2), some (.int p3)] [.int 0] rfl rfl ?_
    have q0 : ((0 : Int32)).toInt = 0 := rfl
    have f48 : T[48]? = some (.inr (48, 0, 24, (-2147483648), 2147483647)) := X2.1.k rfl (by decide)
    have q0 : ((0 : Int32)).toInt = 0 := rfl
    exact z_xri zt276 12 rfl zzr276 (kk 0 M1 X2 (fun hq => by exfalso; omega) (fun hq => by exfalso; omega) (fun hq => by exfalso; omega) (fun hq => by exfalso; omega) (fun _ => ⟨rfl, (e3.a f48 (by decide)), _, h4, by omega⟩))
  refine z_xP zt237 5 17 [some (.ref 19), some (.int p1)] [.int 1] rfl rfl ?_
  refine z_xrz zt237 7 rfl zzr237 (by decide) (by decide) ?_
  show z_ev (d + 41) 276 10 [some (.ref 19), some (.int p1), some (.int p2), some (.int p3)] [.int 1] M1 _
  refine z_xZ zt276 4 rfl rfl (fun (h9 : (1 : Int) = 0) => absurd h9 (by omega)) (fun (h9 : (1 : Int) ≠ 0) => ?_)
  refine z_xP zt276 5 14 [some (.ref 19), some (.int p1), some (.int p2), some (.int p3)] [.int p2] rfl rfl ?_
  have h10 := z_b32 p2
  refine z_xL zt276 6 rfl rfl (fun (y11 : Int64) (h12 : y11.toInt = p2.toInt) => ?_) (z_qI2L rfl)
  refine z_xP zt276 7 16 [some (.ref 19), some (.int p1), some (.int p2), some (.int p3)] [.long 0, .long y11] rfl rfl ?_
  refine z_xl2 zt276 8 rfl zo276 zkl12_358 ?_
  refine z_xcS (vs := [.long y11, .long 0, .long 3]) (r := []) (L2 := [some (.long y11), none, some (.long 0), none, some (.long 3), none]) zt276 9 rfl zo276 zzcS12_116 (Or.inl rfl) (Nat.le_of_ble_eq_true rfl) rfl rfl (Nat.le_of_ble_eq_true rfl) zzm189 (Nat.le_of_ble_eq_true rfl) rfl ?_
  refine z_xP zt189 0 2 [some (.long y11), none, some (.long 0), none, some (.long 3), none] [.long 0, .long y11] rfl rfl ?_
  refine z_xI zt189 1 rfl rfl (fun (x13 : Int32) (h14 : (x13.toInt < 0 ∧ y11.toInt < 0) ∨ (x13.toInt = 0 ∧ y11.toInt = 0) ∨ (0 < x13.toInt ∧ 0 < y11.toInt)) => ?_) (z_qCmp rfl rfl)
  refine z_xZ zt189 2 rfl rfl (fun (h15 : x13.toInt < 0) => ?_) (fun (h15 : 0 ≤ x13.toInt) => ?_)
  · skip
    refine z_xP zt189 7 18 [some (.long y11), none, some (.long 0), none, some (.long 3), none] [.int 0] rfl rfl ?_
    refine z_xrz zt189 8 rfl zzr189 (by decide) (by decide) ?_
    show z_ev (d + 41) 276 22 [some (.ref 19), some (.int p1), some (.int p2), some (.int p3)] [.int 0] M1 _
    refine z_xZ zt276 10 rfl rfl (fun (h16 : (0 : Int) ≠ 0) => absurd h16 (by omega)) (fun (h16 : (0 : Int) = 0) => ?_)
    refine z_xP zt276 11 26 [some (.ref 19), some (.int p1), some (.int p2), some (.int p3)] [.int 0] rfl rfl ?_
    have q0 : ((0 : Int32)).toInt = 0 := rfl
    have f48 : T[48]? = some (.inr (48, 0, 24, (-2147483648), 2147483647)) := X2.1.k rfl (by decide)
    have q0 : ((0 : Int32)).toInt = 0 := rfl
    exact z_xri zt276 12 rfl zzr276 (kk 0 M1 X2 (fun hq => by exfalso; omega) (fun hq => by exfalso; omega) (fun hq => by exfalso; omega) (fun hq => by exfalso; omega) (fun _ => ⟨rfl, (e3.a f48 (by decide)), _, h4, by omega⟩))
  refine z_xP zt189 3 9 [some (.long y11), none, some (.long 0), none, some (.long 3), none] [.long 3, .long y11] rfl rfl ?_
  refine z_xI zt189 4 rfl rfl (fun (x17 : Int32) (h18 : (x17.toInt < 0 ∧ y11.toInt < 3) ∨ (x17.toInt = 0 ∧ y11.toInt = 3) ∨ (0 < x17.toInt ∧ 3 < y11.toInt)) => ?_) (z_qCmp rfl rfl)
  refine z_xZ zt189 5 rfl rfl (fun (h19 : 0 < x17.toInt) => ?_) (fun (h19 : x17.toInt ≤ 0) => ?_)
  · skip
    refine z_xP zt189 7 18 [some (.long y11), none, some (.long 0), none, some (.long 3), none] [.int 0] rfl rfl ?_
    refine z_xrz zt189 8 rfl zzr189 (by decide) (by decide) ?_
    show z_ev (d + 41) 276 22 [some (.ref 19), some (.int p1), some (.int p2), some (.int p3)] [.int 0] M1 _
    refine z_xZ zt276 10 rfl rfl (fun (h20 : (0 : Int) ≠ 0) => absurd h20 (by omega)) (fun (h20 : (0 : Int) = 0) => ?_)
    refine z_xP zt276 11 26 [some (.ref 19), some (.int p1), some (.int p2), some (.int p3)] [.int 0] rfl rfl ?_
    have q0 : ((0 : Int32)).toInt = 0 := rfl
    have f48 : T[48]? = some (.inr (48, 0, 24, (-2147483648), 2147483647)) := X2.1.k rfl (by decide)
    have q0 : ((0 : Int32)).toInt = 0 := rfl
    exact z_xri zt276 12 rfl zzr276 (kk 0 M1 X2 (fun hq => by exfalso; omega) (fun hq => by exfalso; omega) (fun hq => by exfalso; omega) (fun hq => by exfalso; omega) (fun _ => ⟨rfl, (e3.a f48 (by decide)), _, h4, by omega⟩))
  refine z_xP zt189 6 18 [some (.long y11), none, some (.long 0), none, some (.long 3), none] [.int 1] rfl rfl ?_
  refine z_xrz zt189 8 rfl zzr189 (by decide) (by decide) ?_
  show z_ev (d + 41) 276 22 [some (.ref 19), some (.int p1), some (.int p2), some (.int p3)] [.int 1] M1 _
  refine z_xZ zt276 10 rfl rfl (fun (h21 : (1 : Int) ≠ 0) => ?_) (fun (h21 : (1 : Int) = 0) => absurd h21 (by omega))
  refine z_xP zt276 13 29 [some (.ref 19), some (.int p1), some (.int p2), some (.int p3)] [.int p1, .ref 19] rfl rfl ?_
  refine z_xpf zt276 14 rfl zo276 zzf12_387 X2 f19 (by decide) (by decide) ⟨by omega, by omega⟩ rfl (by decide) zw12_48 (fun M22 X23 e24 h25 => ?_)
  refine z_xP zt276 15 33 [some (.ref 19), some (.int p1), some (.int p2), some (.int p3)] [.int p2] rfl rfl ?_
  refine z_xZ zt276 16 rfl rfl (fun (h26 : p2.toInt ≠ 0) => ?_) (fun (h26 : p2.toInt = 0) => ?_)
  · skip
    refine z_xP zt276 24 52 [some (.ref 19), some (.int p1), some (.int p2), some (.int p3)] [.int 1, .int p2] rfl rfl ?_
    refine z_xJ zt276 25 rfl rfl (fun (h27 : p2.toInt ≠ 1) => ?_) (fun (h27 : p2.toInt = 1) => ?_)
    · skip
      refine z_xP zt276 33 71 [some (.ref 19), some (.int p1), some (.int p2), some (.int p3)] [.int 2, .int p2] rfl rfl ?_
      refine z_xJ zt276 34 rfl rfl (fun (h28 : p2.toInt ≠ 2) => ?_) (fun (h28 : p2.toInt = 2) => ?_)
      · skip
        refine z_xP zt276 42 90 [some (.ref 19), some (.int p1), some (.int p2), some (.int p3)] [.ref 19, .ref 19] rfl rfl ?_
        refine z_xgX (b := 36) zt276 43 rfl zo276 zzf12_58 X23 f19 (by decide) (by decide) rfl ?_
        refine z_xP zt276 44 94 [some (.ref 19), some (.int p1), some (.int p2), some (.int p3)] [.int p1, .ref 36, .ref 19] rfl rfl ?_
        have f36 : T[36]? = some (.inr (36, 0, 20, 0, 7)) := X23.1.k rfl (by decide)
        refine z_xil zt276 45 rfl X23 f36 (by decide) (by omega) (by omega) (fun (x29 : Int32) h30 (h31 : 0 ≤ x29.toInt) (h32 : x29.toInt ≤ 7) => ?_)
        have h33 := congrArg Int32.toInt (h30.symm.trans ((congrFun (e24.a f36 (by decide)) _).trans ((congrFun (e3.a f36 (by decide)) _).trans hk36)))
        refine z_xP zt276 46 96 [some (.ref 19), some (.int p1), some (.int p2), some (.int p3)] [.int p3, .int x29, .ref 19] rfl rfl ?_
        refine z_xcV (vs := [.ref 19, .int x29, .int p3]) (r := []) (L2 := [some (.ref 19), some (.int x29), some (.int p3), none]) zt276 47 rfl zo276 zzcV12_402 (Or.inl rfl) rfl X23 f19 rfl rfl rfl (Nat.le_of_ble_eq_true rfl) zzm282 (Nat.le_of_ble_eq_true rfl) rfl ?_
        refine z_xP zt282 0 3 [some (.ref 19), some (.int x29), some (.int p3), some (.int 0)] [.int x29] rfl rfl ?_
        refine z_xSL zt282 1 rfl (by decide) (z_lsd (List.forall_mem_cons.mpr ⟨show (0 : Int) ≠ x29.toInt from by omega, (List.forall_mem_cons.mpr ⟨show (5 : Int) ≠ x29.toInt from by omega, (List.forall_mem_cons.mpr ⟨show (7 : Int) ≠ x29.toInt from by omega, (List.forall_mem_nil _)⟩)⟩)⟩)) rfl ?_
        refine z_xP zt282 47 133 [some (.ref 19), some (.int x29), some (.int p3), some (.int 0)] [.int x29, .ref 19] rfl rfl ?_
        refine z_xcS (vs := [.int x29]) (r := [.ref 19]) (L2 := [some (.int x29)]) zt282 48 rfl zo282 zzcS12_390 (Or.inl rfl) (Nat.le_of_ble_eq_true rfl) rfl rfl (Nat.le_of_ble_eq_true rfl) zzm279 (Nat.le_of_ble_eq_true rfl) rfl ?_
        refine z_xP zt279 0 2 [some (.int x29)] [.int 2, .int x29] rfl rfl ?_
        refine z_xJ zt279 1 rfl rfl (fun (h34 : x29.toInt = 2) => absurd h34 (by omega)) (fun (h34 : x29.toInt ≠ 2) => ?_)
        refine z_xP zt279 2 7 [some (.int x29)] [.int 3, .int x29] rfl rfl ?_
        refine z_xJ zt279 3 rfl rfl (fun (h35 : x29.toInt ≠ 3) => ?_) (fun (h35 : x29.toInt = 3) => absurd h35 (by omega))
        refine z_xP zt279 5 17 [some (.int x29)] [.int 6, .int x29] rfl rfl ?_
        refine z_xJ zt279 6 rfl rfl (fun (h36 : x29.toInt ≠ 6) => absurd h36 (by omega)) (fun (h36 : x29.toInt = 6) => ?_)
        refine z_xP zt279 7 25 [some (.int x29)] [.int 5] rfl rfl ?_
        refine z_xri zt279 9 rfl zzr279 ?_
        show z_ev (d + 40) 282 136 [some (.ref 19), some (.int x29), some (.int p3), some (.int 0)] [.int 5, .ref 19] M22 _
        refine z_xP zt282 49 137 [some (.ref 19), some (.int x29), some (.int p3), some (.int 0)] [.int p3, .int 5, .ref 19] rfl rfl ?_
        refine z_xcV (vs := [.ref 19, .int 5, .int p3]) (r := []) (L2 := [some (.ref 19), some (.int 5), some (.int p3), none]) zt282 50 rfl zo282 zzcV12_402 (Or.inl rfl) rfl X23 f19 rfl rfl rfl (Nat.le_of_ble_eq_true rfl) zzm282 (Nat.le_of_ble_eq_true rfl) rfl ?_
        refine z_xP zt282 0 3 [some (.ref 19), some (.int 5), some (.int p3), some (.int 0)] [.int 5] rfl rfl ?_
        refine z_xSW zt282 1 73 rfl rfl ?_
        refine z_xP zt282 20 76 [some (.ref 19), some (.int 5), some (.int p3), some (.int 0)] [.int 61, .ref 19] rfl rfl ?_
        refine z_xcV (vs := [.ref 19, .int 61]) (r := []) (L2 := [some (.ref 19), some (.int 61)]) zt282 21 rfl zo282 zzcV12_384 (Or.inl rfl) rfl X23 f19 rfl rfl rfl (Nat.le_of_ble_eq_true rfl) zzm278 (Nat.le_of_ble_eq_true rfl) rfl ?_
        have q61 : ((61 : Int32)).toInt = 61 := rfl
        have h37 := (e24.f f19 (by decide) h4)
        have q0 : ((0 : Int32)).toInt = 0 := rfl
        have q61 : ((61 : Int32)).toInt = 61 := rfl
        refine zNC278 X23.1 h37 ⟨by omega, by omega⟩ (fun M38 X39 h40 z41 h42 h43 h44 => ?_)
        have X45 := X23.go X39 (z_sb (by decide))
        show z_ev (d + 39) 282 79 [some (.ref 19), some (.int 5), some (.int p3), some (.int 0)] [] M38 _
        have f48 : T[48]? = some (.inr (48, 0, 24, (-2147483648), 2147483647)) := X45.1.k rfl (by decide)
        have n47 : z_Ar M22 48 = z_Ar M0 48 := ((e24.a f48 (by decide)).trans (e3.a f48 (by decide)))
        have h49 : (0 : Int32).toInt.toNat = 0 := by omega
        have n48 : z_Ar M38 48 = z_nrs 0 [61] (z_Ar M0 48) := by rw [h40, n47, h49]; rfl
        refine z_xP zt282 22 81 [some (.ref 19), some (.int 5), some (.int p3), some (.int 0)] [.int 5, .ref 19] rfl rfl ?_
        refine z_xcS (vs := [.int 5]) (r := [.ref 19]) (L2 := [some (.int 5)]) zt282 23 rfl zo282 zzcS12_390 (Or.inl rfl) (Nat.le_of_ble_eq_true rfl) rfl rfl (Nat.le_of_ble_eq_true rfl) zzm279 (Nat.le_of_ble_eq_true rfl) rfl ?_
        refine z_xP zt279 0 2 [some (.int 5)] [.int 2, .int 5] rfl rfl ?_
        refine z_xJ zt279 1 rfl rfl (fun (h50 : (5 : Int) = 2) => absurd h50 (by omega)) (fun (h50 : (5 : Int) ≠ 2) => ?_)
        refine z_xP zt279 2 7 [some (.int 5)] [.int 3, .int 5] rfl rfl ?_
        refine z_xJ zt279 3 rfl rfl (fun (h51 : (5 : Int) ≠ 3) => ?_) (fun (h51 : (5 : Int) = 3) => absurd h51 (by omega))
        refine z_xP zt279 5 17 [some (.int 5)] [.int 6, .int 5] rfl rfl ?_
        refine z_xJ zt279 6 rfl rfl (fun (h52 : (5 : Int) ≠ 6) => ?_) (fun (h52 : (5 : Int) = 6) => absurd h52 (by omega))
        refine z_xP zt279 8 25 [some (.int 5)] [.int 0] rfl rfl ?_
        refine z_xri zt279 9 rfl zzr279 ?_
        show z_ev (d + 39) 282 84 [some (.ref 19), some (.int 5), some (.int p3), some (.int 0)] [.int 0, .ref 19] M38 _
        refine z_xP zt282 24 85 [some (.ref 19), some (.int 5), some (.int p3), some (.int 0)] [.int p3, .int 0, .ref 19] rfl rfl ?_
        refine z_xcV (vs := [.ref 19, .int 0, .int p3]) (r := []) (L2 := [some (.ref 19), some (.int 0), some (.int p3), none]) zt282 25 rfl zo282 zzcV12_402 (Or.inl rfl) rfl X45 f19 rfl rfl rfl (Nat.le_of_ble_eq_true rfl) zzm282 (Nat.le_of_ble_eq_true rfl) rfl ?_
        refine z_xP zt282 0 3 [some (.ref 19), some (.int 0), some (.int p3), some (.int 0)] [.int 0] rfl rfl ?_
        refine z_xSW zt282 1 36 rfl rfl ?_
        refine z_xP zt282 2 38 [some (.ref 19), some (.int 0), some (.int p3), some (.int 0)] [.int 2, .ref 19] rfl rfl ?_
        refine z_xcV (vs := [.ref 19, .int 2]) (r := []) (L2 := [some (.ref 19), some (.int 2)]) zt282 3 rfl zo282 zzcV12_384 (Or.inl rfl) rfl X45 f19 rfl rfl rfl (Nat.le_of_ble_eq_true rfl) zzm278 (Nat.le_of_ble_eq_true rfl) rfl ?_
        have q2 : ((2 : Int32)).toInt = 2 := rfl
        have q2 : ((2 : Int32)).toInt = 2 := rfl
        refine zNC278 X45.1 h42 ⟨by omega, by omega⟩ (fun M53 X54 h55 z56 h57 h58 h59 => ?_)
        have X60 := X45.go X54 (z_sb (by decide))
        show z_ev (d + 38) 282 41 [some (.ref 19), some (.int 0), some (.int p3), some (.int 0)] [] M53 _
        have h63 : (z41 : Int32).toInt.toNat = 1 := by omega
        have n62 : z_Ar M53 48 = z_nrs 0 [61, 2] (z_Ar M0 48) := by rw [h55, n48, h63]; rfl
        refine z_xP zt282 4 43 [some (.ref 19), some (.int 0), some (.int p3), some (.int 0)] [.ref 19, .ref 19] rfl rfl ?_
        refine z_xgX (b := 36) zt282 5 rfl zo282 zzf12_58 X60 f19 (by decide) (by decide) rfl ?_
        refine z_xP zt282 6 47 [some (.ref 19), some (.int 0), some (.int p3), some (.int 0)] [.ref 19, .ref 36, .ref 19] rfl rfl ?_
        have h64 := (X54.2.f f19 (by decide) (X39.2.f f19 (by decide) h25))
        refine z_xgv zt282 7 rfl zo282 zzf12_387 X60 f19 (by decide) h64 ?_
        refine z_xil zt282 8 rfl X60 f36 (by decide) (by omega) (by omega) (fun (x65 : Int32) h66 (h67 : 0 ≤ x65.toInt) (h68 : x65.toInt ≤ 7) => ?_)
        have h69 := congrArg Int32.toInt (h66.symm.trans ((congrFun (X54.2.a f36 (by decide)) _).trans ((congrFun (X39.2.a f36 (by decide)) _).trans ((congrFun (e24.a f36 (by decide)) _).trans ((congrFun (e3.a f36 (by decide)) _).trans hk36)))))
        refine z_xP zt282 9 52 [some (.ref 19), some (.int 0), some (.int p3), some (.int 0)] [.int p3, .int x65, .ref 19] rfl rfl ?_
        refine z_xcV (vs := [.ref 19, .int x65, .int p3]) (r := []) (L2 := [some (.ref 19), some (.int x65), some (.int p3), none]) zt282 10 rfl zo282 zzcV12_396 (Or.inl rfl) rfl X60 f19 rfl rfl rfl (Nat.le_of_ble_eq_true rfl) zzm280 (Nat.le_of_ble_eq_true rfl) rfl ?_
        refine z_xP zt280 0 1 [some (.ref 19), some (.int x65), some (.int p3), none] [.int x65] rfl rfl ?_
        by_cases h70 : x65.toInt = 6
        · refine z_xSC zt280 1 (z_sub (k := 6) h70 rfl) 117 rfl rfl ?_
          refine z_xP zt280 37 120 [some (.ref 19), some (.int x65), some (.int p3), none] [.int 71, .ref 19] rfl rfl ?_
          refine z_xcV (vs := [.ref 19, .int 71]) (r := []) (L2 := [some (.ref 19), some (.int 71)]) zt280 38 rfl zo280 zzcV12_384 (Or.inl rfl) rfl X60 f19 rfl rfl rfl (Nat.le_of_ble_eq_true rfl) zzm278 (Nat.le_of_ble_eq_true rfl) rfl ?_
          have q71 : ((71 : Int32)).toInt = 71 := rfl
          have q71 : ((71 : Int32)).toInt = 71 := rfl
          refine zNC278 X60.1 h57 ⟨by omega, by omega⟩ (fun M71 X72 h73 z74 h75 h76 h77 => ?_)
          have X78 := X60.go X72 (z_sb (by decide))
          show z_ev (d + 37) 280 123 [some (.ref 19), some (.int x65), some (.int p3), none] [] M71 _
          have h81 : (z56 : Int32).toInt.toNat = 2 := by omega
          have n80 : z_Ar M71 48 = z_nrs 0 [61, 2, 71] (z_Ar M0 48) := by rw [h73, n62, h81]; rfl
          refine z_xP zt280 39 126 [some (.ref 19), some (.int x65), some (.int p3), none] [.int 6, .ref 19] rfl rfl ?_
          refine z_xcS (vs := [.int 6]) (r := [.ref 19]) (L2 := [some (.int 6)]) zt280 40 rfl zo280 zzcS12_390 (Or.inl rfl) (Nat.le_of_ble_eq_true rfl) rfl rfl (Nat.le_of_ble_eq_true rfl) zzm279 (Nat.le_of_ble_eq_true rfl) rfl ?_
          refine z_xP zt279 0 2 [some (.int 6)] [.int 2, .int 6] rfl rfl ?_
          refine z_xJ zt279 1 rfl rfl (fun (h82 : (6 : Int) = 2) => absurd h82 (by omega)) (fun (h82 : (6 : Int) ≠ 2) => ?_)
          refine z_xP zt279 2 7 [some (.int 6)] [.int 3, .int 6] rfl rfl ?_
          refine z_xJ zt279 3 rfl rfl (fun (h83 : (6 : Int) ≠ 3) => ?_) (fun (h83 : (6 : Int) = 3) => absurd h83 (by omega))
          refine z_xP zt279 5 17 [some (.int 6)] [.int 6, .int 6] rfl rfl ?_
          refine z_xJ zt279 6 rfl rfl (fun (h84 : (6 : Int) ≠ 6) => absurd h84 (by omega)) (fun (h84 : (6 : Int) = 6) => ?_)
          refine z_xP zt279 7 25 [some (.int 6)] [.int 5] rfl rfl ?_
          refine z_xri zt279 9 rfl zzr279 ?_
          show z_ev (d + 37) 280 129 [some (.ref 19), some (.int x65), some (.int p3), none] [.int 5, .ref 19] M71 _
          refine z_xP zt280 41 130 [some (.ref 19), some (.int x65), some (.int p3), none] [.int p3, .int 5, .ref 19] rfl rfl ?_
          refine z_xcV (vs := [.ref 19, .int 5, .int p3]) (r := []) (L2 := [some (.ref 19), some (.int 5), some (.int p3), none]) zt280 42 rfl zo280 zzcV12_396 (Or.inl rfl) rfl X78 f19 rfl rfl rfl (Nat.le_of_ble_eq_true rfl) zzm280 (Nat.le_of_ble_eq_true rfl) rfl ?_
          refine z_xP zt280 0 1 [some (.ref 19), some (.int 5), some (.int p3), none] [.int 5] rfl rfl ?_
          refine z_xSW zt280 1 100 rfl rfl ?_
          refine z_xP zt280 29 103 [some (.ref 19), some (.int 5), some (.int p3), none] [.int 60, .ref 19] rfl rfl ?_
          refine z_xcV (vs := [.ref 19, .int 60]) (r := []) (L2 := [some (.ref 19), some (.int 60)]) zt280 30 rfl zo280 zzcV12_384 (Or.inl rfl) rfl X78 f19 rfl rfl rfl (Nat.le_of_ble_eq_true rfl) zzm278 (Nat.le_of_ble_eq_true rfl) rfl ?_
          have q60 : ((60 : Int32)).toInt = 60 := rfl
          have q60 : ((60 : Int32)).toInt = 60 := rfl
          refine zNC278 X78.1 h75 ⟨by omega, by omega⟩ (fun M85 X86 h87 z88 h89 h90 h91 => ?_)
          have X92 := X78.go X86 (z_sb (by decide))
          show z_ev (d + 36) 280 106 [some (.ref 19), some (.int 5), some (.int p3), none] [] M85 _
          have h95 : (z74 : Int32).toInt.toNat = 3 := by omega
          have n94 : z_Ar M85 48 = z_nrs 0 [61, 2, 71, 60] (z_Ar M0 48) := by rw [h87, n80, h95]; rfl
          refine z_xP zt280 31 108 [some (.ref 19), some (.int 5), some (.int p3), none] [.int 5, .ref 19] rfl rfl ?_
          refine z_xcS (vs := [.int 5]) (r := [.ref 19]) (L2 := [some (.int 5)]) zt280 32 rfl zo280 zzcS12_390 (Or.inl rfl) (Nat.le_of_ble_eq_true rfl) rfl rfl (Nat.le_of_ble_eq_true rfl) zzm279 (Nat.le_of_ble_eq_true rfl) rfl ?_
          refine z_xP zt279 0 2 [some (.int 5)] [.int 2, .int 5] rfl rfl ?_
          refine z_xJ zt279 1 rfl rfl (fun (h96 : (5 : Int) = 2) => absurd h96 (by omega)) (fun (h96 : (5 : Int) ≠ 2) => ?_)
          refine z_xP zt279 2 7 [some (.int 5)] [.int 3, .int 5] rfl rfl ?_
          refine z_xJ zt279 3 rfl rfl (fun (h97 : (5 : Int) ≠ 3) => ?_) (fun (h97 : (5 : Int) = 3) => absurd h97 (by omega))
          refine z_xP zt279 5 17 [some (.int 5)] [.int 6, .int 5] rfl rfl ?_
          refine z_xJ zt279 6 rfl rfl (fun (h98 : (5 : Int) ≠ 6) => ?_) (fun (h98 : (5 : Int) = 6) => absurd h98 (by omega))
          refine z_xP zt279 8 25 [some (.int 5)] [.int 0] rfl rfl ?_
          refine z_xri zt279 9 rfl zzr279 ?_
          show z_ev (d + 36) 280 111 [some (.ref 19), some (.int 5), some (.int p3), none] [.int 0, .ref 19] M85 _
          refine z_xP zt280 33 112 [some (.ref 19), some (.int 5), some (.int p3), none] [.int p3, .int 0, .ref 19] rfl rfl ?_
          refine z_xcV (vs := [.ref 19, .int 0, .int p3]) (r := []) (L2 := [some (.ref 19), some (.int 0), some (.int p3), none]) zt280 34 rfl zo280 zzcV12_396 (Or.inl rfl) rfl X92 f19 rfl rfl rfl (Nat.le_of_ble_eq_true rfl) zzm280 (Nat.le_of_ble_eq_true rfl) rfl ?_
          refine z_xP zt280 0 1 [some (.ref 19), some (.int 0), some (.int p3), none] [.int 0] rfl rfl ?_
          refine z_xSW zt280 1 44 rfl rfl ?_
          refine z_xP zt280 2 47 [some (.ref 19), some (.int 0), some (.int p3), none] [.int 10, .ref 19] rfl rfl ?_
          refine z_xcV (vs := [.ref 19, .int 10]) (r := []) (L2 := [some (.ref 19), some (.int 10)]) zt280 3 rfl zo280 zzcV12_384 (Or.inl rfl) rfl X92 f19 rfl rfl rfl (Nat.le_of_ble_eq_true rfl) zzm278 (Nat.le_of_ble_eq_true rfl) rfl ?_
          have q10 : ((10 : Int32)).toInt = 10 := rfl
          have q10 : ((10 : Int32)).toInt = 10 := rfl
          refine zNC278 X92.1 h89 ⟨by omega, by omega⟩ (fun M99 X100 h101 z102 h103 h104 h105 => ?_)
          have X106 := X92.go X100 (z_sb (by decide))
          show z_ev (d + 35) 280 50 [some (.ref 19), some (.int 0), some (.int p3), none] [] M99 _
          have h109 : (z88 : Int32).toInt.toNat = 4 := by omega
          have n108 : z_Ar M99 48 = z_nrs 0 [61, 2, 71, 60, 10] (z_Ar M0 48) := by rw [h101, n94, h109]; rfl
          refine z_xP zt280 4 52 [some (.ref 19), some (.int 0), some (.int p3), none] [.ref 19, .ref 19] rfl rfl ?_
          refine z_xgX (b := 36) zt280 5 rfl zo280 zzf12_58 X106 f19 (by decide) (by decide) rfl ?_
          refine z_xP zt280 6 56 [some (.ref 19), some (.int 0), some (.int p3), none] [.ref 19, .ref 36, .ref 19] rfl rfl ?_
          have h110 := (X100.2.f f19 (by decide) (X86.2.f f19 (by decide) (X72.2.f f19 (by decide) h64)))
          refine z_xgv zt280 7 rfl zo280 zzf12_387 X106 f19 (by decide) h110 ?_
          refine z_xil zt280 8 rfl X106 f36 (by decide) (by omega) (by omega) (fun (x111 : Int32) h112 (h113 : 0 ≤ x111.toInt) (h114 : x111.toInt ≤ 7) => ?_)
          have h115 := congrArg Int32.toInt (h112.symm.trans ((congrFun (X100.2.a f36 (by decide)) _).trans ((congrFun (X86.2.a f36 (by decide)) _).trans ((congrFun (X72.2.a f36 (by decide)) _).trans ((congrFun (X54.2.a f36 (by decide)) _).trans ((congrFun (X39.2.a f36 (by decide)) _).trans ((congrFun (e24.a f36 (by decide)) _).trans ((congrFun (e3.a f36 (by decide)) _).trans hk36))))))))
          refine z_xP zt280 9 61 [some (.ref 19), some (.int 0), some (.int p3), none] [.int p3, .int x111, .ref 19] rfl rfl ?_
          refine z_xcV (vs := [.ref 19, .int x111, .int p3]) (r := []) (L2 := [some (.ref 19), some (.int x111), some (.int p3)]) zt280 10 rfl zo280 zzcV12_393 (Or.inl rfl) rfl X106 f19 rfl rfl rfl (Nat.le_of_ble_eq_true rfl) zzm277 (Nat.le_of_ble_eq_true rfl) rfl ?_
          refine z_xP zt277 0 1 [some (.ref 19), some (.int x111), some (.int p3)] [.int x111] rfl rfl ?_
          refine z_xSD zt277 1 rfl rfl (by omega) ?_
          refine z_xP zt277 26 86 [some (.ref 19), some (.int x111), some (.int p3)] [.int x111, .ref 19] rfl rfl ?_
          refine z_xcS (vs := [.int x111]) (r := [.ref 19]) (L2 := [some (.int x111)]) zt277 27 rfl zo277 zzcS12_390 (Or.inl rfl) (Nat.le_of_ble_eq_true rfl) rfl rfl (Nat.le_of_ble_eq_true rfl) zzm279 (Nat.le_of_ble_eq_true rfl) rfl ?_
          refine z_xP zt279 0 2 [some (.int x111)] [.int 2, .int x111] rfl rfl ?_
          refine z_xJ zt279 1 rfl rfl (fun (h116 : x111.toInt = 2) => absurd h116 (by omega)) (fun (h116 : x111.toInt ≠ 2) => ?_)
          refine z_xP zt279 2 7 [some (.int x111)] [.int 3, .int x111] rfl rfl ?_
          refine z_xJ zt279 3 rfl rfl (fun (h117 : x111.toInt ≠ 3) => ?_) (fun (h117 : x111.toInt = 3) => absurd h117 (by omega))
          refine z_xP zt279 5 17 [some (.int x111)] [.int 6, .int x111] rfl rfl ?_
          refine z_xJ zt279 6 rfl rfl (fun (h118 : x111.toInt ≠ 6) => absurd h118 (by omega)) (fun (h118 : x111.toInt = 6) => ?_)
          refine z_xP zt279 7 25 [some (.int x111)] [.int 5] rfl rfl ?_
          refine z_xri zt279 9 rfl zzr279 ?_
          show z_ev (d + 34) 277 89 [some (.ref 19), some (.int x111), some (.int p3)] [.int 5, .ref 19] M99 _
          refine z_xP zt277 28 90 [some (.ref 19), some (.int x111), some (.int p3)] [.int p3, .int 5, .ref 19] rfl rfl ?_
          refine z_xcV (vs := [.ref 19, .int 5, .int p3]) (r := []) (L2 := [some (.ref 19), some (.int 5), some (.int p3)]) zt277 29 rfl zo277 zzcV12_393 (Or.inl rfl) rfl X106 f19 rfl rfl rfl (Nat.le_of_ble_eq_true rfl) zzm277 (Nat.le_of_ble_eq_true rfl) rfl ?_
          refine z_xP zt277 0 1 [some (.ref 19), some (.int 5), some (.int p3)] [.int 5] rfl rfl ?_
          refine z_xSW zt277 1 84 rfl rfl ?_
          refine z_xP zt277 26 86 [some (.ref 19), some (.int 5), some (.int p3)] [.int 5, .ref 19] rfl rfl ?_
          refine z_xcS (vs := [.int 5]) (r := [.ref 19]) (L2 := [some (.int 5)]) zt277 27 rfl zo277 zzcS12_390 (Or.inl rfl) (Nat.le_of_ble_eq_true rfl) rfl rfl (Nat.le_of_ble_eq_true rfl) zzm279 (Nat.le_of_ble_eq_true rfl) rfl ?_
          refine z_xP zt279 0 2 [some (.int 5)] [.int 2, .int 5] rfl rfl ?_
          refine z_xJ zt279 1 rfl rfl (fun (h119 : (5 : Int) = 2) => absurd h119 (by omega)) (fun (h119 : (5 : Int) ≠ 2) => ?_)
          refine z_xP zt279 2 7 [some (.int 5)] [.int 3, .int 5] rfl rfl ?_
          refine z_xJ zt279 3 rfl rfl (fun (h120 : (5 : Int) ≠ 3) => ?_) (fun (h120 : (5 : Int) = 3) => absurd h120 (by omega))
          refine z_xP zt279 5 17 [some (.int 5)] [.int 6, .int 5] rfl rfl ?_
          refine z_xJ zt279 6 rfl rfl (fun (h121 : (5 : Int) ≠ 6) => ?_) (fun (h121 : (5 : Int) = 6) => absurd h121 (by omega))
          refine z_xP zt279 8 25 [some (.int 5)] [.int 0] rfl rfl ?_
          refine z_xri zt279 9 rfl zzr279 ?_
          show z_ev (d + 33) 277 89 [some (.ref 19), some (.int 5), some (.int p3)] [.int 0, .ref 19] M99 _
          refine z_xP zt277 28 90 [some (.ref 19), some (.int 5), some (.int p3)] [.int p3, .int 0, .ref 19] rfl rfl ?_
          refine z_xcV (vs := [.ref 19, .int 0, .int p3]) (r := []) (L2 := [some (.ref 19), some (.int 0), some (.int p3)]) zt277 29 rfl zo277 zzcV12_393 (Or.inl rfl) rfl X106 f19 rfl rfl rfl (Nat.le_of_ble_eq_true rfl) zzm277 (Nat.le_of_ble_eq_true rfl) rfl ?_
          refine z_xP zt277 0 1 [some (.ref 19), some (.int 0), some (.int p3)] [.int 0] rfl rfl ?_
          refine z_xSW zt277 1 36 rfl rfl ?_
          refine z_xP zt277 2 38 [some (.ref 19), some (.int 0), some (.int p3)] [.int 1, .ref 19] rfl rfl ?_
          refine z_xcV (vs := [.ref 19, .int 1]) (r := []) (L2 := [some (.ref 19), some (.int 1)]) zt277 3 rfl zo277 zzcV12_384 (Or.inl rfl) rfl X106 f19 rfl rfl rfl (Nat.le_of_ble_eq_true rfl) zzm278 (Nat.le_of_ble_eq_true rfl) rfl ?_
          have q1 : ((1 : Int32)).toInt = 1 := rfl
          have q1 : ((1 : Int32)).toInt = 1 := rfl
          refine zNC278 X106.1 h103 ⟨by omega, by omega⟩ (fun M122 X123 h124 z125 h126 h127 h128 => ?_)
          have X129 := X106.go X123 (z_sb (by decide))
          show z_ev (d + 32) 277 41 [some (.ref 19), some (.int 0), some (.int p3)] [] M122 _
          have h132 : (z102 : Int32).toInt.toNat = 5 := by omega
          have n131 : z_Ar M122 48 = z_nrs 0 [61, 2, 71, 60, 10, 1] (z_Ar M0 48) := by rw [h124, n108, h132]; rfl
          refine z_xP zt277 4 43 [some (.ref 19), some (.int 0), some (.int p3)] [.ref 19, .int p3] rfl rfl ?_
          have h133 := (X123.2.f f19 (by decide) h110)
          refine z_xgv zt277 5 rfl zo277 zzf12_387 X129 f19 (by decide) h133 ?_
          have h134 := z_b32 p3
          refine z_xI zt277 6 rfl rfl (fun (x135 : Int32) (h136 : x135 = p3 + p1) => ?_) (rfl)
          refine z_xri zt277 7 rfl zzr277 ?_
          show z_ev (d + 33) 277 93 [some (.ref 19), some (.int 5), some (.int p3)] [.int x135] M122 _
          refine z_xri zt277 30 rfl zzr277 ?_
          show z_ev (d + 34) 277 93 [some (.ref 19), some (.int x111), some (.int p3)] [.int x135] M122 _
          refine z_xri zt277 30 rfl zzr277 ?_
          show z_ev (d + 35) 280 64 [some (.ref 19), some (.int 0), some (.int p3), none] [.int x135] M122 _
          refine z_xP zt280 11 65 [some (.ref 19), some (.int 0), some (.int p3), none] [.int 2, .int x135] rfl rfl ?_
          have h137 := z_b32 x135
          refine z_xI zt280 12 rfl rfl (fun (x138 : Int32) (h139 : x138 = x135 * 2) => ?_) (rfl)
          refine z_xri zt280 13 rfl zzr280 ?_
          show z_ev (d + 36) 280 115 [some (.ref 19), some (.int 5), some (.int p3), none] [.int x138] M122 _
          have h140 := z_b32 x138
          refine z_xI zt280 35 rfl rfl (fun (x141 : Int32) (h142 : x141 = -x138) => ?_) (rfl)
          refine z_xri zt280 36 rfl zzr280 ?_
          show z_ev (d + 37) 280 133 [some (.ref 19), some (.int x65), some (.int p3), none] [.int x141] M122 _
          refine z_xP zt280 43 134 [some (.ref 19), some (.int x65), some (.int p3), none] [.ref 19, .int x141] rfl rfl ?_
          refine z_xgX (b := 38) zt280 44 rfl zo280 zzf12_64 X129 f19 (by decide) (by decide) rfl ?_
          refine z_xP zt280 45 138 [some (.ref 19), some (.int x65), some (.int p3), none] [.ref 19, .ref 38, .int x141] rfl rfl ?_
          refine z_xgv zt280 46 rfl zo280 zzf12_387 X129 f19 (by decide) h133 ?_
          have f38 : T[38]? = some (.inr (38, 0, 20, 0, 8)) := X129.1.k rfl (by decide)
          refine z_xil zt280 47 rfl X129 f38 (by decide) (by omega) (by omega) (fun (x143 : Int32) h144 (h145 : 0 ≤ x143.toInt) (h146 : x143.toInt ≤ 8) => ?_)
          have h147 : x143 = jd := by rw [← hk38, ← X129.2.a f38 (by decide), h144]
          have h148 := z_b32 x141
          refine z_xI zt280 48 rfl rfl (fun (x149 : Int32) (h150 : x149 = x141 - x143) => ?_) (rfl)
          refine z_xri zt280 49 rfl zzr280 ?_
          show z_ev (d + 38) 282 55 [some (.ref 19), some (.int 0), some (.int p3), some (.int 0)] [.int x149] M122 _
          refine z_xP zt282 11 59 [some (.ref 19), some (.int 0), some (.int p3), some (.int x149)] [.ref 19, .ref 19, .int x149] rfl rfl ?_
          refine z_xgX (b := 36) zt282 12 rfl zo282 zzf12_58 X129 f19 (by decide) (by decide) rfl ?_
          refine z_xP zt282 13 63 [some (.ref 19), some (.int 0), some (.int p3), some (.int x149)] [.ref 19, .ref 36, .ref 19, .int x149] rfl rfl ?_
          refine z_xgv zt282 14 rfl zo282 zzf12_387 X129 f19 (by decide) h133 ?_
          refine z_xil zt282 15 rfl X129 f36 (by decide) (by omega) (by omega) (fun (x151 : Int32) h152 (h153 : 0 ≤ x151.toInt) (h154 : x151.toInt ≤ 7) => ?_)
          have h155 := congrArg Int32.toInt (h152.symm.trans ((congrFun (X123.2.a f36 (by decide)) _).trans ((congrFun (X100.2.a f36 (by decide)) _).trans ((congrFun (X86.2.a f36 (by decide)) _).trans ((congrFun (X72.2.a f36 (by decide)) _).trans ((congrFun (X54.2.a f36 (by decide)) _).trans ((congrFun (X39.2.a f36 (by decide)) _).trans ((congrFun (e24.a f36 (by decide)) _).trans ((congrFun (e3.a f36 (by decide)) _).trans hk36)))))))))
          refine z_xP zt282 16 68 [some (.ref 19), some (.int 0), some (.int p3), some (.int x149)] [.int 1, .int x151, .ref 19, .int x149] rfl rfl ?_
          refine z_xcV (vs := [.ref 19, .int x151, .int 1]) (r := [.int x149]) (L2 := [some (.ref 19), some (.int x151), some (.int 1)]) zt282 17 rfl zo282 zzcV12_399 (Or.inl rfl) rfl X129 f19 rfl rfl rfl (Nat.le_of_ble_eq_true rfl) zzm281 (Nat.le_of_ble_eq_true rfl) rfl ?_
          refine z_xP zt281 0 1 [some (.ref 19), some (.int x151), some (.int 1)] [.int x151] rfl rfl ?_
          by_cases h156 : x151.toInt = 6
          · refine z_xSC zt281 1 (z_sub (k := 6) h156 rfl) 67 rfl rfl ?_
            refine z_xP zt281 17 70 [some (.ref 19), some (.int x151), some (.int 1)] [.int 70, .ref 19] rfl rfl ?_
            refine z_xcV (vs := [.ref 19, .int 70]) (r := []) (L2 := [some (.ref 19), some (.int 70)]) zt281 18 rfl zo281 zzcV12_384 (Or.inl rfl) rfl X129 f19 rfl rfl rfl (Nat.le_of_ble_eq_true rfl) zzm278 (Nat.le_of_ble_eq_true rfl) rfl ?_
            have q70 : ((70 : Int32)).toInt = 70 := rfl
            have q70 : ((70 : Int32)).toInt = 70 := rfl
            refine zNC278 X129.1 h126 ⟨by omega, by omega⟩ (fun M157 X158 h159 z160 h161 h162 h163 => ?_)
            have X164 := X129.go X158 (z_sb (by decide))
            show z_ev (d + 37) 281 73 [some (.ref 19), some (.int x151), some (.int 1)] [] M157 _
            have h167 : (z125 : Int32).toInt.toNat = 6 := by omega
            have n166 : z_Ar M157 48 = z_nrs 0 [61, 2, 71, 60, 10, 1, 70] (z_Ar M0 48) := by rw [h159, n131, h167]; rfl
            refine z_xP zt281 19 76 [some (.ref 19), some (.int x151), some (.int 1)] [.int 6, .ref 19] rfl rfl ?_
            refine z_xcS (vs := [.int 6]) (r := [.ref 19]) (L2 := [some (.int 6)]) zt281 20 rfl zo281 zzcS12_390 (Or.inl rfl) (Nat.le_of_ble_eq_true rfl) rfl rfl (Nat.le_of_ble_eq_true rfl) zzm279 (Nat.le_of_ble_eq_true rfl) rfl ?_
            refine z_xP zt279 0 2 [some (.int 6)] [.int 2, .int 6] rfl rfl ?_
            refine z_xJ zt279 1 rfl rfl (fun (h168 : (6 : Int) = 2) => absurd h168 (by omega)) (fun (h168 : (6 : Int) ≠ 2) => ?_)
            refine z_xP zt279 2 7 [some (.int 6)] [.int 3, .int 6] rfl rfl ?_
            refine z_xJ zt279 3 rfl rfl (fun (h169 : (6 : Int) ≠ 3) => ?_) (fun (h169 : (6 : Int) = 3) => absurd h169 (by omega))
            refine z_xP zt279 5 17 [some (.int 6)] [.int 6, .int 6] rfl rfl ?_
            refine z_xJ zt279 6 rfl rfl (fun (h170 : (6 : Int) ≠ 6) => absurd h170 (by omega)) (fun (h170 : (6 : Int) = 6) => ?_)
            refine z_xP zt279 7 25 [some (.int 6)] [.int 5] rfl rfl ?_
            refine z_xri zt279 9 rfl zzr279 ?_
            show z_ev (d + 37) 281 79 [some (.ref 19), some (.int x151), some (.int 1)] [.int 5, .ref 19] M157 _
            refine z_xP zt281 21 81 [some (.ref 19), some (.int x151), some (.int 1)] [.int 1, .int 1, .int 5, .ref 19] rfl rfl ?_
            refine z_xI zt281 22 rfl rfl (fun (x171 : Int32) (h172 : x171 = 1 + 1) => ?_) (rfl)
            refine z_xcV (vs := [.ref 19, .int 5, .int x171]) (r := []) (L2 := [some (.ref 19), some (.int 5), some (.int x171)]) zt281 23 rfl zo281 zzcV12_399 (Or.inl rfl) rfl X164 f19 rfl rfl rfl (Nat.le_of_ble_eq_true rfl) zzm281 (Nat.le_of_ble_eq_true rfl) rfl ?_
            refine z_xP zt281 0 1 [some (.ref 19), some (.int 5), some (.int x171)] [.int 5] rfl rfl ?_
            refine z_xSW zt281 1 86 rfl rfl ?_
            refine z_xP zt281 25 88 [some (.ref 19), some (.int 5), some (.int x171)] [.int 5, .ref 19] rfl rfl ?_
            refine z_xcS (vs := [.int 5]) (r := [.ref 19]) (L2 := [some (.int 5)]) zt281 26 rfl zo281 zzcS12_390 (Or.inl rfl) (Nat.le_of_ble_eq_true rfl) rfl rfl (Nat.le_of_ble_eq_true rfl) zzm279 (Nat.le_of_ble_eq_true rfl) rfl ?_
            refine z_xP zt279 0 2 [some (.int 5)] [.int 2, .int 5] rfl rfl ?_
            refine z_xJ zt279 1 rfl rfl (fun (h173 : (5 : Int) = 2) => absurd h173 (by omega)) (fun (h173 : (5 : Int) ≠ 2) => ?_)
            refine z_xP zt279 2 7 [some (.int 5)] [.int 3, .int 5] rfl rfl ?_
            refine z_xJ zt279 3 rfl rfl (fun (h174 : (5 : Int) ≠ 3) => ?_) (fun (h174 : (5 : Int) = 3) => absurd h174 (by omega))
            refine z_xP zt279 5 17 [some (.int 5)] [.int 6, .int 5] rfl rfl ?_
            refine z_xJ zt279 6 rfl rfl (fun (h175 : (5 : Int) ≠ 6) => ?_) (fun (h175 : (5 : Int) = 6) => absurd h175 (by omega))
            refine z_xP zt279 8 25 [some (.int 5)] [.int 0] rfl rfl ?_
            refine z_xri zt279 9 rfl zzr279 ?_
            show z_ev (d + 36) 281 91 [some (.ref 19), some (.int 5), some (.int x171)] [.int 0, .ref 19] M157 _
            refine z_xP zt281 27 92 [some (.ref 19), some (.int 5), some (.int x171)] [.int x171, .int 0, .ref 19] rfl rfl ?_
            refine z_xcV (vs := [.ref 19, .int 0, .int x171]) (r := []) (L2 := [some (.ref 19), some (.int 0), some (.int x171)]) zt281 28 rfl zo281 zzcV12_399 (Or.inl rfl) rfl X164 f19 rfl rfl rfl (Nat.le_of_ble_eq_true rfl) zzm281 (Nat.le_of_ble_eq_true rfl) rfl ?_
            refine z_xP zt281 0 1 [some (.ref 19), some (.int 0), some (.int x171)] [.int 0] rfl rfl ?_
            refine z_xSW zt281 1 36 rfl rfl ?_
            refine z_xP zt281 2 39 [some (.ref 19), some (.int 0), some (.int x171)] [.int 11, .ref 19] rfl rfl ?_
            refine z_xcV (vs := [.ref 19, .int 11]) (r := []) (L2 := [some (.ref 19), some (.int 11)]) zt281 3 rfl zo281 zzcV12_384 (Or.inl rfl) rfl X164 f19 rfl rfl rfl (Nat.le_of_ble_eq_true rfl) zzm278 (Nat.le_of_ble_eq_true rfl) rfl ?_
            have q11 : ((11 : Int32)).toInt = 11 := rfl
            have q11 : ((11 : Int32)).toInt = 11 := rfl
            refine zNC278 X164.1 h161 ⟨by omega, by omega⟩ (fun M176 X177 h178 z179 h180 h181 h182 => ?_)
            have X183 := X164.go X177 (z_sb (by decide))
            show z_ev (d + 35) 281 42 [some (.ref 19), some (.int 0), some (.int x171)] [] M176 _
            have h186 : (z160 : Int32).toInt.toNat = 7 := by omega
            have n185 : z_Ar M176 48 = z_nrs 0 [61, 2, 71, 60, 10, 1, 70, 11] (z_Ar M0 48) := by rw [h178, n166, h186]; rfl
            refine z_xP zt281 4 44 [some (.ref 19), some (.int 0), some (.int x171)] [.ref 19, .int x171] rfl rfl ?_
            have h187 := (X177.2.f f19 (by decide) (X158.2.f f19 (by decide) h133))
            refine z_xgv zt281 5 rfl zo281 zzf12_387 X183 f19 (by decide) h187 ?_
            refine z_xI zt281 6 rfl rfl (fun (x188 : Int32) (h189 : x188 = x171 ^^^ p1) => ?_) (rfl)
            refine z_xri zt281 7 rfl zzr281 ?_
            show z_ev (d + 36) 281 95 [some (.ref 19), some (.int 5), some (.int x171)] [.int x188] M176 _
            refine z_xri zt281 29 rfl zzr281 ?_
            show z_ev (d + 37) 281 85 [some (.ref 19), some (.int x151), some (.int 1)] [.int x188] M176 _
            refine z_xri zt281 24 rfl zzr281 ?_
            show z_ev (d + 38) 282 71 [some (.ref 19), some (.int 0), some (.int p3), some (.int x149)] [.int x188, .int x149] M176 _
            have h190 := z_b32 x149
            have h191 := z_b32 x188
            refine z_xI zt282 18 rfl rfl (fun (x192 : Int32) (h193 : x192 = x149 - x188) => ?_) (rfl)
            refine z_xri zt282 19 rfl zzr282 ?_
            show z_ev (d + 39) 282 88 [some (.ref 19), some (.int 5), some (.int p3), some (.int 0)] [.int x192] M176 _
            refine z_xP zt282 26 89 [some (.ref 19), some (.int 5), some (.int p3), some (.int 0)] [.ref 19, .int x192] rfl rfl ?_
            refine z_xgX (b := 37) zt282 27 rfl zo282 zzf12_61 X183 f19 (by decide) (by decide) rfl ?_
            refine z_xP zt282 28 93 [some (.ref 19), some (.int 5), some (.int p3), some (.int 0)] [.ref 19, .ref 37, .int x192] rfl rfl ?_
            refine z_xgv zt282 29 rfl zo282 zzf12_387 X183 f19 (by decide) h187 ?_
            have f37 : T[37]? = some (.inr (37, 0, 20, 0, 9)) := X183.1.k rfl (by decide)
            refine z_xil zt282 30 rfl X183 f37 (by decide) (by omega) (by omega) (fun (x194 : Int32) h195 (h196 : 0 ≤ x194.toInt) (h197 : x194.toInt ≤ 9) => ?_)
            have h198 : x194 = sh := by rw [← hk37, ← X183.2.a f37 (by decide), h195]
            have h199 := z_b32 x192
            refine z_xI zt282 31 rfl rfl (fun (x200 : Int32) (h201 : x200 = x192 + x194) => ?_) (rfl)
            refine z_xri zt282 32 rfl zzr282 ?_
            show z_ev (d + 40) 282 140 [some (.ref 19), some (.int x29), some (.int p3), some (.int 0)] [.int x200] M176 _
            refine z_xri zt282 51 rfl zzr282 ?_
            show z_ev (d + 41) 276 99 [some (.ref 19), some (.int p1), some (.int p2), some (.int p3)] [.int x200] M176 _
            exact z_xri zt276 48 rfl zzr276 (kk x200 M176 X183 (fun hq => by exfalso; omega) (fun hq => by exfalso; omega) (fun hq => by exfalso; omega) (fun _ => ⟨(by rw [h201, h198, h193, h189, h172, h150, h147, h142, h139, h136]), n185, _, h180, by omega⟩) (fun hq => by exfalso; omega))
          exfalso; omega
        exfalso; omega
      refine z_xP zt276 35 76 [some (.ref 19), some (.int p1), some (.int p2), some (.int p3)] [.ref 19, .ref 19] rfl rfl ?_
      refine z_xgX (b := 36) zt276 36 rfl zo276 zzf12_58 X23 f19 (by decide) (by decide) rfl ?_
      refine z_xP zt276 37 80 [some (.ref 19), some (.int p1), some (.int p2), some (.int p3)] [.int p1, .ref 36, .ref 19] rfl rfl ?_
      have f36 : T[36]? = some (.inr (36, 0, 20, 0, 7)) := X23.1.k rfl (by decide)
      refine z_xil zt276 38 rfl X23 f36 (by decide) (by omega) (by omega) (fun (x202 : Int32) h203 (h204 : 0 ≤ x202.toInt) (h205 : x202.toInt ≤ 7) => ?_)
      have h206 := congrArg Int32.toInt (h203.symm.trans ((congrFun (e24.a f36 (by decide)) _).trans ((congrFun (e3.a f36 (by decide)) _).trans hk36)))
      refine z_xP zt276 39 82 [some (.ref 19), some (.int p1), some (.int p2), some (.int p3)] [.int p3, .int x202, .ref 19] rfl rfl ?_
      refine z_xcV (vs := [.ref 19, .int x202, .int p3]) (r := []) (L2 := [some (.ref 19), some (.int x202), some (.int p3)]) zt276 40 rfl zo276 zzcV12_399 (Or.inl rfl) rfl X23 f19 rfl rfl rfl (Nat.le_of_ble_eq_true rfl) zzm281 (Nat.le_of_ble_eq_true rfl) rfl ?_
      refine z_xP zt281 0 1 [some (.ref 19), some (.int x202), some (.int p3)] [.int x202] rfl rfl ?_
      by_cases h207 : x202.toInt = 6
      · refine z_xSC zt281 1 (z_sub (k := 6) h207 rfl) 67 rfl rfl ?_
        refine z_xP zt281 17 70 [some (.ref 19), some (.int x202), some (.int p3)] [.int 70, .ref 19] rfl rfl ?_
        refine z_xcV (vs := [.ref 19, .int 70]) (r := []) (L2 := [some (.ref 19), some (.int 70)]) zt281 18 rfl zo281 zzcV12_384 (Or.inl rfl) rfl X23 f19 rfl rfl rfl (Nat.le_of_ble_eq_true rfl) zzm278 (Nat.le_of_ble_eq_true rfl) rfl ?_
        have q70 : ((70 : Int32)).toInt = 70 := rfl
        have h208 := (e24.f f19 (by decide) h4)
        have q0 : ((0 : Int32)).toInt = 0 := rfl
        have q70 : ((70 : Int32)).toInt = 70 := rfl
        refine zNC278 X23.1 h208 ⟨by omega, by omega⟩ (fun M209 X210 h211 z212 h213 h214 h215 => ?_)
        have X216 := X23.go X210 (z_sb (by decide))
        show z_ev (d + 40) 281 73 [some (.ref 19), some (.int x202), some (.int p3)] [] M209 _
        have f48 : T[48]? = some (.inr (48, 0, 24, (-2147483648), 2147483647)) := X216.1.k rfl (by decide)
        have n218 : z_Ar M22 48 = z_Ar M0 48 := ((e24.a f48 (by decide)).trans (e3.a f48 (by decide)))
        have h220 : (0 : Int32).toInt.toNat = 0 := by omega
        have n219 : z_Ar M209 48 = z_nrs 0 [70] (z_Ar M0 48) := by rw [h211, n218, h220]; rfl
        refine z_xP zt281 19 76 [some (.ref 19), some (.int x202), some (.int p3)] [.int 6, .ref 19] rfl rfl ?_
        refine z_xcS (vs := [.int 6]) (r := [.ref 19]) (L2 := [some (.int 6)]) zt281 20 rfl zo281 zzcS12_390 (Or.inl rfl) (Nat.le_of_ble_eq_true rfl) rfl rfl (Nat.le_of_ble_eq_true rfl) zzm279 (Nat.le_of_ble_eq_true rfl) rfl ?_
        refine z_xP zt279 0 2 [some (.int 6)] [.int 2, .int 6] rfl rfl ?_
        refine z_xJ zt279 1 rfl rfl (fun (h221 : (6 : Int) = 2) => absurd h221 (by omega)) (fun (h221 : (6 : Int) ≠ 2) => ?_)
        refine z_xP zt279 2 7 [some (.int 6)] [.int 3, .int 6] rfl rfl ?_
        refine z_xJ zt279 3 rfl rfl (fun (h222 : (6 : Int) ≠ 3) => ?_) (fun (h222 : (6 : Int) = 3) => absurd h222 (by omega))
        refine z_xP zt279 5 17 [some (.int 6)] [.int 6, .int 6] rfl rfl ?_
        refine z_xJ zt279 6 rfl rfl (fun (h223 : (6 : Int) ≠ 6) => absurd h223 (by omega)) (fun (h223 : (6 : Int) = 6) => ?_)
        refine z_xP zt279 7 25 [some (.int 6)] [.int 5] rfl rfl ?_
        refine z_xri zt279 9 rfl zzr279 ?_
        show z_ev (d + 40) 281 79 [some (.ref 19), some (.int x202), some (.int p3)] [.int 5, .ref 19] M209 _
        refine z_xP zt281 21 81 [some (.ref 19), some (.int x202), some (.int p3)] [.int 1, .int p3, .int 5, .ref 19] rfl rfl ?_
        have h224 := z_b32 p3
        refine z_xI zt281 22 rfl rfl (fun (x225 : Int32) (h226 : x225 = p3 + 1) => ?_) (rfl)
        refine z_xcV (vs := [.ref 19, .int 5, .int x225]) (r := []) (L2 := [some (.ref 19), some (.int 5), some (.int x225)]) zt281 23 rfl zo281 zzcV12_399 (Or.inl rfl) rfl X216 f19 rfl rfl rfl (Nat.le_of_ble_eq_true rfl) zzm281 (Nat.le_of_ble_eq_true rfl) rfl ?_
        refine z_xP zt281 0 1 [some (.ref 19), some (.int 5), some (.int x225)] [.int 5] rfl rfl ?_
        refine z_xSW zt281 1 86 rfl rfl ?_
        refine z_xP zt281 25 88 [some (.ref 19), some (.int 5), some (.int x225)] [.int 5, .ref 19] rfl rfl ?_
        refine z_xcS (vs := [.int 5]) (r := [.ref 19]) (L2 := [some (.int 5)]) zt281 26 rfl zo281 zzcS12_390 (Or.inl rfl) (Nat.le_of_ble_eq_true rfl) rfl rfl (Nat.le_of_ble_eq_true rfl) zzm279 (Nat.le_of_ble_eq_true rfl) rfl ?_
        refine z_xP zt279 0 2 [some (.int 5)] [.int 2, .int 5] rfl rfl ?_
        refine z_xJ zt279 1 rfl rfl (fun (h227 : (5 : Int) = 2) => absurd h227 (by omega)) (fun (h227 : (5 : Int) ≠ 2) => ?_)
        refine z_xP zt279 2 7 [some (.int 5)] [.int 3, .int 5] rfl rfl ?_
        refine z_xJ zt279 3 rfl rfl (fun (h228 : (5 : Int) ≠ 3) => ?_) (fun (h228 : (5 : Int) = 3) => absurd h228 (by omega))
        refine z_xP zt279 5 17 [some (.int 5)] [.int 6, .int 5] rfl rfl ?_
        refine z_xJ zt279 6 rfl rfl (fun (h229 : (5 : Int) ≠ 6) => ?_) (fun (h229 : (5 : Int) = 6) => absurd h229 (by omega))
        refine z_xP zt279 8 25 [some (.int 5)] [.int 0] rfl rfl ?_
        refine z_xri zt279 9 rfl zzr279 ?_
        show z_ev (d + 39) 281 91 [some (.ref 19), some (.int 5), some (.int x225)] [.int 0, .ref 19] M209 _
        refine z_xP zt281 27 92 [some (.ref 19), some (.int 5), some (.int x225)] [.int x225, .int 0, .ref 19] rfl rfl ?_
        refine z_xcV (vs := [.ref 19, .int 0, .int x225]) (r := []) (L2 := [some (.ref 19), some (.int 0), some (.int x225)]) zt281 28 rfl zo281 zzcV12_399 (Or.inl rfl) rfl X216 f19 rfl rfl rfl (Nat.le_of_ble_eq_true rfl) zzm281 (Nat.le_of_ble_eq_true rfl) rfl ?_
        refine z_xP zt281 0 1 [some (.ref 19), some (.int 0), some (.int x225)] [.int 0] rfl rfl ?_
        refine z_xSW zt281 1 36 rfl rfl ?_
        refine z_xP zt281 2 39 [some (.ref 19), some (.int 0), some (.int x225)] [.int 11, .ref 19] rfl rfl ?_
        refine z_xcV (vs := [.ref 19, .int 11]) (r := []) (L2 := [some (.ref 19), some (.int 11)]) zt281 3 rfl zo281 zzcV12_384 (Or.inl rfl) rfl X216 f19 rfl rfl rfl (Nat.le_of_ble_eq_true rfl) zzm278 (Nat.le_of_ble_eq_true rfl) rfl ?_
        have q11 : ((11 : Int32)).toInt = 11 := rfl
        have q11 : ((11 : Int32)).toInt = 11 := rfl
        refine zNC278 X216.1 h213 ⟨by omega, by omega⟩ (fun M230 X231 h232 z233 h234 h235 h236 => ?_)
        have X237 := X216.go X231 (z_sb (by decide))
        show z_ev (d + 38) 281 42 [some (.ref 19), some (.int 0), some (.int x225)] [] M230 _
        have h240 : (z212 : Int32).toInt.toNat = 1 := by omega
        have n239 : z_Ar M230 48 = z_nrs 0 [70, 11] (z_Ar M0 48) := by rw [h232, n219, h240]; rfl
        refine z_xP zt281 4 44 [some (.ref 19), some (.int 0), some (.int x225)] [.ref 19, .int x225] rfl rfl ?_
        have h241 := (X231.2.f f19 (by decide) (X210.2.f f19 (by decide) h25))
        refine z_xgv zt281 5 rfl zo281 zzf12_387 X237 f19 (by decide) h241 ?_
        refine z_xI zt281 6 rfl rfl (fun (x242 : Int32) (h243 : x242 = x225 ^^^ p1) => ?_) (rfl)
        refine z_xri zt281 7 rfl zzr281 ?_
        show z_ev (d + 39) 281 95 [some (.ref 19), some (.int 5), some (.int x225)] [.int x242] M230 _
        refine z_xri zt281 29 rfl zzr281 ?_
        show z_ev (d + 40) 281 85 [some (.ref 19), some (.int x202), some (.int p3)] [.int x242] M230 _
        refine z_xri zt281 24 rfl zzr281 ?_
        show z_ev (d + 41) 276 85 [some (.ref 19), some (.int p1), some (.int p2), some (.int p3)] [.int x242] M230 _
        refine z_xP zt276 41 99 [some (.ref 19), some (.int p1), some (.int p2), some (.int p3)] [.int x242] rfl rfl ?_
        exact z_xri zt276 48 rfl zzr276 (kk x242 M230 X237 (fun hq => by exfalso; omega) (fun hq => by exfalso; omega) (fun _ => ⟨(by rw [h243, h226]), n239, _, h234, by omega⟩) (fun hq => by exfalso; omega) (fun hq => by exfalso; omega))
      exfalso; omega
    refine z_xP zt276 26 57 [some (.ref 19), some (.int p1), some (.int p2), some (.int p3)] [.ref 19, .ref 19] rfl rfl ?_
    refine z_xgX (b := 36) zt276 27 rfl zo276 zzf12_58 X23 f19 (by decide) (by decide) rfl ?_
    refine z_xP zt276 28 61 [some (.ref 19), some (.int p1), some (.int p2), some (.int p3)] [.int p1, .ref 36, .ref 19] rfl rfl ?_
    have f36 : T[36]? = some (.inr (36, 0, 20, 0, 7)) := X23.1.k rfl (by decide)
    refine z_xil zt276 29 rfl X23 f36 (by decide) (by omega) (by omega) (fun (x244 : Int32) h245 (h246 : 0 ≤ x244.toInt) (h247 : x244.toInt ≤ 7) => ?_)
    have h248 := congrArg Int32.toInt (h245.symm.trans ((congrFun (e24.a f36 (by decide)) _).trans ((congrFun (e3.a f36 (by decide)) _).trans hk36)))
    refine z_xP zt276 30 63 [some (.ref 19), some (.int p1), some (.int p2), some (.int p3)] [.int p3, .int x244, .ref 19] rfl rfl ?_
    refine z_xcV (vs := [.ref 19, .int x244, .int p3]) (r := []) (L2 := [some (.ref 19), some (.int x244), some (.int p3), none]) zt276 31 rfl zo276 zzcV12_396 (Or.inl rfl) rfl X23 f19 rfl rfl rfl (Nat.le_of_ble_eq_true rfl) zzm280 (Nat.le_of_ble_eq_true rfl) rfl ?_
    refine z_xP zt280 0 1 [some (.ref 19), some (.int x244), some (.int p3), none] [.int x244] rfl rfl ?_
    by_cases h249 : x244.toInt = 6
    · refine z_xSC zt280 1 (z_sub (k := 6) h249 rfl) 117 rfl rfl ?_
      refine z_xP zt280 37 120 [some (.ref 19), some (.int x244), some (.int p3), none] [.int 71, .ref 19] rfl rfl ?_
      refine z_xcV (vs := [.ref 19, .int 71]) (r := []) (L2 := [some (.ref 19), some (.int 71)]) zt280 38 rfl zo280 zzcV12_384 (Or.inl rfl) rfl X23 f19 rfl rfl rfl (Nat.le_of_ble_eq_true rfl) zzm278 (Nat.le_of_ble_eq_true rfl) rfl ?_
      have q71 : ((71 : Int32)).toInt = 71 := rfl
      have h250 := (e24.f f19 (by decide) h4)
      have q0 : ((0 : Int32)).toInt = 0 := rfl
      have q71 : ((71 : Int32)).toInt = 71 := rfl
      refine zNC278 X23.1 h250 ⟨by omega, by omega⟩ (fun M251 X252 h253 z254 h255 h256 h257 => ?_)
      have X258 := X23.go X252 (z_sb (by decide))
      show z_ev (d + 40) 280 123 [some (.ref 19), some (.int x244), some (.int p3), none] [] M251 _
      have f48 : T[48]? = some (.inr (48, 0, 24, (-2147483648), 2147483647)) := X258.1.k rfl (by decide)
      have n260 : z_Ar M22 48 = z_Ar M0 48 := ((e24.a f48 (by decide)).trans (e3.a f48 (by decide)))
      have h262 : (0 : Int32).toInt.toNat = 0 := by omega
      have n261 : z_Ar M251 48 = z_nrs 0 [71] (z_Ar M0 48) := by rw [h253, n260, h262]; rfl
      refine z_xP zt280 39 126 [some (.ref 19), some (.int x244), some (.int p3), none] [.int 6, .ref 19] rfl rfl ?_
      refine z_xcS (vs := [.int 6]) (r := [.ref 19]) (L2 := [some (.int 6)]) zt280 40 rfl zo280 zzcS12_390 (Or.inl rfl) (Nat.le_of_ble_eq_true rfl) rfl rfl (Nat.le_of_ble_eq_true rfl) zzm279 (Nat.le_of_ble_eq_true rfl) rfl ?_
      refine z_xP zt279 0 2 [some (.int 6)] [.int 2, .int 6] rfl rfl ?_
      refine z_xJ zt279 1 rfl rfl (fun (h263 : (6 : Int) = 2) => absurd h263 (by omega)) (fun (h263 : (6 : Int) ≠ 2) => ?_)
      refine z_xP zt279 2 7 [some (.int 6)] [.int 3, .int 6] rfl rfl ?_
      refine z_xJ zt279 3 rfl rfl (fun (h264 : (6 : Int) ≠ 3) => ?_) (fun (h264 : (6 : Int) = 3) => absurd h264 (by omega))
      refine z_xP zt279 5 17 [some (.int 6)] [.int 6, .int 6] rfl rfl ?_
      refine z_xJ zt279 6 rfl rfl (fun (h265 : (6 : Int) ≠ 6) => absurd h265 (by omega)) (fun (h265 : (6 : Int) = 6) => ?_)
      refine z_xP zt279 7 25 [some (.int 6)] [.int 5] rfl rfl ?_
      refine z_xri zt279 9 rfl zzr279 ?_
      show z_ev (d + 40) 280 129 [some (.ref 19), some (.int x244), some (.int p3), none] [.int 5, .ref 19] M251 _
      refine z_xP zt280 41 130 [some (.ref 19), some (.int x244), some (.int p3), none] [.int p3, .int 5, .ref 19] rfl rfl ?_
      refine z_xcV (vs := [.ref 19, .int 5, .int p3]) (r := []) (L2 := [some (.ref 19), some (.int 5), some (.int p3), none]) zt280 42 rfl zo280 zzcV12_396 (Or.inl rfl) rfl X258 f19 rfl rfl rfl (Nat.le_of_ble_eq_true rfl) zzm280 (Nat.le_of_ble_eq_true rfl) rfl ?_
      refine z_xP zt280 0 1 [some (.ref 19), some (.int 5), some (.int p3), none] [.int 5] rfl rfl ?_
      refine z_xSW zt280 1 100 rfl rfl ?_
      refine z_xP zt280 29 103 [some (.ref 19), some (.int 5), some (.int p3), none] [.int 60, .ref 19] rfl rfl ?_
      refine z_xcV (vs := [.ref 19, .int 60]) (r := []) (L2 := [some (.ref 19), some (.int 60)]) zt280 30 rfl zo280 zzcV12_384 (Or.inl rfl) rfl X258 f19 rfl rfl rfl (Nat.le_of_ble_eq_true rfl) zzm278 (Nat.le_of_ble_eq_true rfl) rfl ?_
      have q60 : ((60 : Int32)).toInt = 60 := rfl
      have q60 : ((60 : Int32)).toInt = 60 := rfl
      refine zNC278 X258.1 h255 ⟨by omega, by omega⟩ (fun M266 X267 h268 z269 h270 h271 h272 => ?_)
      have X273 := X258.go X267 (z_sb (by decide))
      show z_ev (d + 39) 280 106 [some (.ref 19), some (.int 5), some (.int p3), none] [] M266 _
      have h276 : (z254 : Int32).toInt.toNat = 1 := by omega
      have n275 : z_Ar M266 48 = z_nrs 0 [71, 60] (z_Ar M0 48) := by rw [h268, n261, h276]; rfl
      refine z_xP zt280 31 108 [some (.ref 19), some (.int 5), some (.int p3), none] [.int 5, .ref 19] rfl rfl ?_
      refine z_xcS (vs := [.int 5]) (r := [.ref 19]) (L2 := [some (.int 5)]) zt280 32 rfl zo280 zzcS12_390 (Or.inl rfl) (Nat.le_of_ble_eq_true rfl) rfl rfl (Nat.le_of_ble_eq_true rfl) zzm279 (Nat.le_of_ble_eq_true rfl) rfl ?_
      refine z_xP zt279 0 2 [some (.int 5)] [.int 2, .int 5] rfl rfl ?_
      refine z_xJ zt279 1 rfl rfl (fun (h277 : (5 : Int) = 2) => absurd h277 (by omega)) (fun (h277 : (5 : Int) ≠ 2) => ?_)
      refine z_xP zt279 2 7 [some (.int 5)] [.int 3, .int 5] rfl rfl ?_
      refine z_xJ zt279 3 rfl rfl (fun (h278 : (5 : Int) ≠ 3) => ?_) (fun (h278 : (5 : Int) = 3) => absurd h278 (by omega))
      refine z_xP zt279 5 17 [some (.int 5)] [.int 6, .int 5] rfl rfl ?_
      refine z_xJ zt279 6 rfl rfl (fun (h279 : (5 : Int) ≠ 6) => ?_) (fun (h279 : (5 : Int) = 6) => absurd h279 (by omega))
      refine z_xP zt279 8 25 [some (.int 5)] [.int 0] rfl rfl ?_
      refine z_xri zt279 9 rfl zzr279 ?_
      show z_ev (d + 39) 280 111 [some (.ref 19), some (.int 5), some (.int p3), none] [.int 0, .ref 19] M266 _
      refine z_xP zt280 33 112 [some (.ref 19), some (.int 5), some (.int p3), none] [.int p3, .int 0, .ref 19] rfl rfl ?_
      refine z_xcV (vs := [.ref 19, .int 0, .int p3]) (r := []) (L2 := [some (.ref 19), some (.int 0), some (.int p3), none]) zt280 34 rfl zo280 zzcV12_396 (Or.inl rfl) rfl X273 f19 rfl rfl rfl (Nat.le_of_ble_eq_true rfl) zzm280 (Nat.le_of_ble_eq_true rfl) rfl ?_
      refine z_xP zt280 0 1 [some (.ref 19), some (.int 0), some (.int p3), none] [.int 0] rfl rfl ?_
      refine z_xSW zt280 1 44 rfl rfl ?_
      refine z_xP zt280 2 47 [some (.ref 19), some (.int 0), some (.int p3), none] [.int 10, .ref 19] rfl rfl ?_
      refine z_xcV (vs := [.ref 19, .int 10]) (r := []) (L2 := [some (.ref 19), some (.int 10)]) zt280 3 rfl zo280 zzcV12_384 (Or.inl rfl) rfl X273 f19 rfl rfl rfl (Nat.le_of_ble_eq_true rfl) zzm278 (Nat.le_of_ble_eq_true rfl) rfl ?_
      have q10 : ((10 : Int32)).toInt = 10 := rfl
      have q10 : ((10 : Int32)).toInt = 10 := rfl
      refine zNC278 X273.1 h270 ⟨by omega, by omega⟩ (fun M280 X281 h282 z283 h284 h285 h286 => ?_)
      have X287 := X273.go X281 (z_sb (by decide))
      show z_ev (d + 38) 280 50 [some (.ref 19), some (.int 0), some (.int p3), none] [] M280 _
      have h290 : (z269 : Int32).toInt.toNat = 2 := by omega
      have n289 : z_Ar M280 48 = z_nrs 0 [71, 60, 10] (z_Ar M0 48) := by rw [h282, n275, h290]; rfl
      refine z_xP zt280 4 52 [some (.ref 19), some (.int 0), some (.int p3), none] [.ref 19, .ref 19] rfl rfl ?_
      refine z_xgX (b := 36) zt280 5 rfl zo280 zzf12_58 X287 f19 (by decide) (by decide) rfl ?_
      refine z_xP zt280 6 56 [some (.ref 19), some (.int 0), some (.int p3), none] [.ref 19, .ref 36, .ref 19] rfl rfl ?_
      have h291 := (X281.2.f f19 (by decide) (X267.2.f f19 (by decide) (X252.2.f f19 (by decide) h25)))
      refine z_xgv zt280 7 rfl zo280 zzf12_387 X287 f19 (by decide) h291 ?_
      refine z_xil zt280 8 rfl X287 f36 (by decide) (by omega) (by omega) (fun (x292 : Int32) h293 (h294 : 0 ≤ x292.toInt) (h295 : x292.toInt ≤ 7) => ?_)
      have h296 := congrArg Int32.toInt (h293.symm.trans ((congrFun (X281.2.a f36 (by decide)) _).trans ((congrFun (X267.2.a f36 (by decide)) _).trans ((congrFun (X252.2.a f36 (by decide)) _).trans ((congrFun (e24.a f36 (by decide)) _).trans ((congrFun (e3.a f36 (by decide)) _).trans hk36))))))
      refine z_xP zt280 9 61 [some (.ref 19), some (.int 0), some (.int p3), none] [.int p3, .int x292, .ref 19] rfl rfl ?_
      refine z_xcV (vs := [.ref 19, .int x292, .int p3]) (r := []) (L2 := [some (.ref 19), some (.int x292), some (.int p3)]) zt280 10 rfl zo280 zzcV12_393 (Or.inl rfl) rfl X287 f19 rfl rfl rfl (Nat.le_of_ble_eq_true rfl) zzm277 (Nat.le_of_ble_eq_true rfl) rfl ?_
      refine z_xP zt277 0 1 [some (.ref 19), some (.int x292), some (.int p3)] [.int x292] rfl rfl ?_
      refine z_xSD zt277 1 rfl rfl (by omega) ?_
      refine z_xP zt277 26 86 [some (.ref 19), some (.int x292), some (.int p3)] [.int x292, .ref 19] rfl rfl ?_
      refine z_xcS (vs := [.int x292]) (r := [.ref 19]) (L2 := [some (.int x292)]) zt277 27 rfl zo277 zzcS12_390 (Or.inl rfl) (Nat.le_of_ble_eq_true rfl) rfl rfl (Nat.le_of_ble_eq_true rfl) zzm279 (Nat.le_of_ble_eq_true rfl) rfl ?_
      refine z_xP zt279 0 2 [some (.int x292)] [.int 2, .int x292] rfl rfl ?_
      refine z_xJ zt279 1 rfl rfl (fun (h297 : x292.toInt = 2) => absurd h297 (by omega)) (fun (h297 : x292.toInt ≠ 2) => ?_)
      refine z_xP zt279 2 7 [some (.int x292)] [.int 3, .int x292] rfl rfl ?_
      refine z_xJ zt279 3 rfl rfl (fun (h298 : x292.toInt ≠ 3) => ?_) (fun (h298 : x292.toInt = 3) => absurd h298 (by omega))
      refine z_xP zt279 5 17 [some (.int x292)] [.int 6, .int x292] rfl rfl ?_
      refine z_xJ zt279 6 rfl rfl (fun (h299 : x292.toInt ≠ 6) => absurd h299 (by omega)) (fun (h299 : x292.toInt = 6) => ?_)
      refine z_xP zt279 7 25 [some (.int x292)] [.int 5] rfl rfl ?_
      refine z_xri zt279 9 rfl zzr279 ?_
      show z_ev (d + 37) 277 89 [some (.ref 19), some (.int x292), some (.int p3)] [.int 5, .ref 19] M280 _
      refine z_xP zt277 28 90 [some (.ref 19), some (.int x292), some (.int p3)] [.int p3, .int 5, .ref 19] rfl rfl ?_
      refine z_xcV (vs := [.ref 19, .int 5, .int p3]) (r := []) (L2 := [some (.ref 19), some (.int 5), some (.int p3)]) zt277 29 rfl zo277 zzcV12_393 (Or.inl rfl) rfl X287 f19 rfl rfl rfl (Nat.le_of_ble_eq_true rfl) zzm277 (Nat.le_of_ble_eq_true rfl) rfl ?_
      refine z_xP zt277 0 1 [some (.ref 19), some (.int 5), some (.int p3)] [.int 5] rfl rfl ?_
      refine z_xSW zt277 1 84 rfl rfl ?_
      refine z_xP zt277 26 86 [some (.ref 19), some (.int 5), some (.int p3)] [.int 5, .ref 19] rfl rfl ?_
      refine z_xcS (vs := [.int 5]) (r := [.ref 19]) (L2 := [some (.int 5)]) zt277 27 rfl zo277 zzcS12_390 (Or.inl rfl) (Nat.le_of_ble_eq_true rfl) rfl rfl (Nat.le_of_ble_eq_true rfl) zzm279 (Nat.le_of_ble_eq_true rfl) rfl ?_
      refine z_xP zt279 0 2 [some (.int 5)] [.int 2, .int 5] rfl rfl ?_
      refine z_xJ zt279 1 rfl rfl (fun (h300 : (5 : Int) = 2) => absurd h300 (by omega)) (fun (h300 : (5 : Int) ≠ 2) => ?_)
      refine z_xP zt279 2 7 [some (.int 5)] [.int 3, .int 5] rfl rfl ?_
      refine z_xJ zt279 3 rfl rfl (fun (h301 : (5 : Int) ≠ 3) => ?_) (fun (h301 : (5 : Int) = 3) => absurd h301 (by omega))
      refine z_xP zt279 5 17 [some (.int 5)] [.int 6, .int 5] rfl rfl ?_
      refine z_xJ zt279 6 rfl rfl (fun (h302 : (5 : Int) ≠ 6) => ?_) (fun (h302 : (5 : Int) = 6) => absurd h302 (by omega))
      refine z_xP zt279 8 25 [some (.int 5)] [.int 0] rfl rfl ?_
      refine z_xri zt279 9 rfl zzr279 ?_
      show z_ev (d + 36) 277 89 [some (.ref 19), some (.int 5), some (.int p3)] [.int 0, .ref 19] M280 _
      refine z_xP zt277 28 90 [some (.ref 19), some (.int 5), some (.int p3)] [.int p3, .int 0, .ref 19] rfl rfl ?_
      refine z_xcV (vs := [.ref 19, .int 0, .int p3]) (r := []) (L2 := [some (.ref 19), some (.int 0), some (.int p3)]) zt277 29 rfl zo277 zzcV12_393 (Or.inl rfl) rfl X287 f19 rfl rfl rfl (Nat.le_of_ble_eq_true rfl) zzm277 (Nat.le_of_ble_eq_true rfl) rfl ?_
      refine z_xP zt277 0 1 [some (.ref 19), some (.int 0), some (.int p3)] [.int 0] rfl rfl ?_
      refine z_xSW zt277 1 36 rfl rfl ?_
      refine z_xP zt277 2 38 [some (.ref 19), some (.int 0), some (.int p3)] [.int 1, .ref 19] rfl rfl ?_
      refine z_xcV (vs := [.ref 19, .int 1]) (r := []) (L2 := [some (.ref 19), some (.int 1)]) zt277 3 rfl zo277 zzcV12_384 (Or.inl rfl) rfl X287 f19 rfl rfl rfl (Nat.le_of_ble_eq_true rfl) zzm278 (Nat.le_of_ble_eq_true rfl) rfl ?_
      have q1 : ((1 : Int32)).toInt = 1 := rfl
      have q1 : ((1 : Int32)).toInt = 1 := rfl
      refine zNC278 X287.1 h284 ⟨by omega, by omega⟩ (fun M303 X304 h305 z306 h307 h308 h309 => ?_)
      have X310 := X287.go X304 (z_sb (by decide))
      show z_ev (d + 35) 277 41 [some (.ref 19), some (.int 0), some (.int p3)] [] M303 _
      have h313 : (z283 : Int32).toInt.toNat = 3 := by omega
      have n312 : z_Ar M303 48 = z_nrs 0 [71, 60, 10, 1] (z_Ar M0 48) := by rw [h305, n289, h313]; rfl
      refine z_xP zt277 4 43 [some (.ref 19), some (.int 0), some (.int p3)] [.ref 19, .int p3] rfl rfl ?_
      have h314 := (X304.2.f f19 (by decide) h291)
      refine z_xgv zt277 5 rfl zo277 zzf12_387 X310 f19 (by decide) h314 ?_
      have h315 := z_b32 p3
      refine z_xI zt277 6 rfl rfl (fun (x316 : Int32) (h317 : x316 = p3 + p1) => ?_) (rfl)
      refine z_xri zt277 7 rfl zzr277 ?_
      show z_ev (d + 36) 277 93 [some (.ref 19), some (.int 5), some (.int p3)] [.int x316] M303 _
      refine z_xri zt277 30 rfl zzr277 ?_
      show z_ev (d + 37) 277 93 [some (.ref 19), some (.int x292), some (.int p3)] [.int x316] M303 _
      refine z_xri zt277 30 rfl zzr277 ?_
      show z_ev (d + 38) 280 64 [some (.ref 19), some (.int 0), some (.int p3), none] [.int x316] M303 _
      refine z_xP zt280 11 65 [some (.ref 19), some (.int 0), some (.int p3), none] [.int 2, .int x316] rfl rfl ?_
      have h318 := z_b32 x316
      refine z_xI zt280 12 rfl rfl (fun (x319 : Int32) (h320 : x319 = x316 * 2) => ?_) (rfl)
      refine z_xri zt280 13 rfl zzr280 ?_
      show z_ev (d + 39) 280 115 [some (.ref 19), some (.int 5), some (.int p3), none] [.int x319] M303 _
      have h321 := z_b32 x319
      refine z_xI zt280 35 rfl rfl (fun (x322 : Int32) (h323 : x322 = -x319) => ?_) (rfl)
      refine z_xri zt280 36 rfl zzr280 ?_
      show z_ev (d + 40) 280 133 [some (.ref 19), some (.int x244), some (.int p3), none] [.int x322] M303 _
      refine z_xP zt280 43 134 [some (.ref 19), some (.int x244), some (.int p3), none] [.ref 19, .int x322] rfl rfl ?_
      refine z_xgX (b := 38) zt280 44 rfl zo280 zzf12_64 X310 f19 (by decide) (by decide) rfl ?_
      refine z_xP zt280 45 138 [some (.ref 19), some (.int x244), some (.int p3), none] [.ref 19, .ref 38, .int x322] rfl rfl ?_
      refine z_xgv zt280 46 rfl zo280 zzf12_387 X310 f19 (by decide) h314 ?_
      have f38 : T[38]? = some (.inr (38, 0, 20, 0, 8)) := X310.1.k rfl (by decide)
      refine z_xil zt280 47 rfl X310 f38 (by decide) (by omega) (by omega) (fun (x324 : Int32) h325 (h326 : 0 ≤ x324.toInt) (h327 : x324.toInt ≤ 8) => ?_)
      have h328 : x324 = jd := by rw [← hk38, ← X310.2.a f38 (by decide), h325]
      have h329 := z_b32 x322
      refine z_xI zt280 48 rfl rfl (fun (x330 : Int32) (h331 : x330 = x322 - x324) => ?_) (rfl)
      refine z_xri zt280 49 rfl zzr280 ?_
      show z_ev (d + 41) 276 66 [some (.ref 19), some (.int p1), some (.int p2), some (.int p3)] [.int x330] M303 _
      refine z_xP zt276 32 99 [some (.ref 19), some (.int p1), some (.int p2), some (.int p3)] [.int x330] rfl rfl ?_
      exact z_xri zt276 48 rfl zzr276 (kk x330 M303 X310 (fun hq => by exfalso; omega) (fun _ => ⟨(by rw [h331, h328, h323, h320, h317]), n312, _, h307, by omega⟩) (fun hq => by exfalso; omega) (fun hq => by exfalso; omega) (fun hq => by exfalso; omega))
    exfalso; omega
  refine z_xP zt276 17 38 [some (.ref 19), some (.int p1), some (.int p2), some (.int p3)] [.ref 19, .ref 19] rfl rfl ?_
  refine z_xgX (b := 36) zt276 18 rfl zo276 zzf12_58 X23 f19 (by decide) (by decide) rfl ?_
  refine z_xP zt276 19 42 [some (.ref 19), some (.int p1), some (.int p2), some (.int p3)] [.int p1, .ref 36, .ref 19] rfl rfl ?_
  have f36 : T[36]? = some (.inr (36, 0, 20, 0, 7)) := X23.1.k rfl (by decide)
  refine z_xil zt276 20 rfl X23 f36 (by decide) (by omega) (by omega) (fun (x332 : Int32) h333 (h334 : 0 ≤ x332.toInt) (h335 : x332.toInt ≤ 7) => ?_)
  have h336 := congrArg Int32.toInt (h333.symm.trans ((congrFun (e24.a f36 (by decide)) _).trans ((congrFun (e3.a f36 (by decide)) _).trans hk36)))
  refine z_xP zt276 21 44 [some (.ref 19), some (.int p1), some (.int p2), some (.int p3)] [.int p3, .int x332, .ref 19] rfl rfl ?_
  refine z_xcV (vs := [.ref 19, .int x332, .int p3]) (r := []) (L2 := [some (.ref 19), some (.int x332), some (.int p3)]) zt276 22 rfl zo276 zzcV12_393 (Or.inl rfl) rfl X23 f19 rfl rfl rfl (Nat.le_of_ble_eq_true rfl) zzm277 (Nat.le_of_ble_eq_true rfl) rfl ?_
  refine z_xP zt277 0 1 [some (.ref 19), some (.int x332), some (.int p3)] [.int x332] rfl rfl ?_
  refine z_xSD zt277 1 rfl rfl (by omega) ?_
  refine z_xP zt277 26 86 [some (.ref 19), some (.int x332), some (.int p3)] [.int x332, .ref 19] rfl rfl ?_
  refine z_xcS (vs := [.int x332]) (r := [.ref 19]) (L2 := [some (.int x332)]) zt277 27 rfl zo277 zzcS12_390 (Or.inl rfl) (Nat.le_of_ble_eq_true rfl) rfl rfl (Nat.le_of_ble_eq_true rfl) zzm279 (Nat.le_of_ble_eq_true rfl) rfl ?_
  refine z_xP zt279 0 2 [some (.int x332)] [.int 2, .int x332] rfl rfl ?_
  refine z_xJ zt279 1 rfl rfl (fun (h337 : x332.toInt = 2) => absurd h337 (by omega)) (fun (h337 : x332.toInt ≠ 2) => ?_)
  refine z_xP zt279 2 7 [some (.int x332)] [.int 3, .int x332] rfl rfl ?_
  refine z_xJ zt279 3 rfl rfl (fun (h338 : x332.toInt ≠ 3) => ?_) (fun (h338 : x332.toInt = 3) => absurd h338 (by omega))
  refine z_xP zt279 5 17 [some (.int x332)] [.int 6, .int x332] rfl rfl ?_
  refine z_xJ zt279 6 rfl rfl (fun (h339 : x332.toInt ≠ 6) => absurd h339 (by omega)) (fun (h339 : x332.toInt = 6) => ?_)
  refine z_xP zt279 7 25 [some (.int x332)] [.int 5] rfl rfl ?_
  refine z_xri zt279 9 rfl zzr279 ?_
  show z_ev (d + 40) 277 89 [some (.ref 19), some (.int x332), some (.int p3)] [.int 5, .ref 19] M22 _
  refine z_xP zt277 28 90 [some (.ref 19), some (.int x332), some (.int p3)] [.int p3, .int 5, .ref 19] rfl rfl ?_
  refine z_xcV (vs := [.ref 19, .int 5, .int p3]) (r := []) (L2 := [some (.ref 19), some (.int 5), some (.int p3)]) zt277 29 rfl zo277 zzcV12_393 (Or.inl rfl) rfl X23 f19 rfl rfl rfl (Nat.le_of_ble_eq_true rfl) zzm277 (Nat.le_of_ble_eq_true rfl) rfl ?_
  refine z_xP zt277 0 1 [some (.ref 19), some (.int 5), some (.int p3)] [.int 5] rfl rfl ?_
  refine z_xSW zt277 1 84 rfl rfl ?_
  refine z_xP zt277 26 86 [some (.ref 19), some (.int 5), some (.int p3)] [.int 5, .ref 19] rfl rfl ?_
  refine z_xcS (vs := [.int 5]) (r := [.ref 19]) (L2 := [some (.int 5)]) zt277 27 rfl zo277 zzcS12_390 (Or.inl rfl) (Nat.le_of_ble_eq_true rfl) rfl rfl (Nat.le_of_ble_eq_true rfl) zzm279 (Nat.le_of_ble_eq_true rfl) rfl ?_
  refine z_xP zt279 0 2 [some (.int 5)] [.int 2, .int 5] rfl rfl ?_
  refine z_xJ zt279 1 rfl rfl (fun (h340 : (5 : Int) = 2) => absurd h340 (by omega)) (fun (h340 : (5 : Int) ≠ 2) => ?_)
  refine z_xP zt279 2 7 [some (.int 5)] [.int 3, .int 5] rfl rfl ?_
  refine z_xJ zt279 3 rfl rfl (fun (h341 : (5 : Int) ≠ 3) => ?_) (fun (h341 : (5 : Int) = 3) => absurd h341 (by omega))
  refine z_xP zt279 5 17 [some (.int 5)] [.int 6, .int 5] rfl rfl ?_
  refine z_xJ zt279 6 rfl rfl (fun (h342 : (5 : Int) ≠ 6) => ?_) (fun (h342 : (5 : Int) = 6) => absurd h342 (by omega))
  refine z_xP zt279 8 25 [some (.int 5)] [.int 0] rfl rfl ?_
  refine z_xri zt279 9 rfl zzr279 ?_
  show z_ev (d + 39) 277 89 [some (.ref 19), some (.int 5), some (.int p3)] [.int 0, .ref 19] M22 _
  refine z_xP zt277 28 90 [some (.ref 19), some (.int 5), some (.int p3)] [.int p3, .int 0, .ref 19] rfl rfl ?_
  refine z_xcV (vs := [.ref 19, .int 0, .int p3]) (r := []) (L2 := [some (.ref 19), some (.int 0), some (.int p3)]) zt277 29 rfl zo277 zzcV12_393 (Or.inl rfl) rfl X23 f19 rfl rfl rfl (Nat.le_of_ble_eq_true rfl) zzm277 (Nat.le_of_ble_eq_true rfl) rfl ?_
  refine z_xP zt277 0 1 [some (.ref 19), some (.int 0), some (.int p3)] [.int 0] rfl rfl ?_
  refine z_xSW zt277 1 36 rfl rfl ?_
  refine z_xP zt277 2 38 [some (.ref 19), some (.int 0), some (.int p3)] [.int 1, .ref 19] rfl rfl ?_
  refine z_xcV (vs := [.ref 19, .int 1]) (r := []) (L2 := [some (.ref 19), some (.int 1)]) zt277 3 rfl zo277 zzcV12_384 (Or.inl rfl) rfl X23 f19 rfl rfl rfl (Nat.le_of_ble_eq_true rfl) zzm278 (Nat.le_of_ble_eq_true rfl) rfl ?_
  have q1 : ((1 : Int32)).toInt = 1 := rfl
  have h343 := (e24.f f19 (by decide) h4)
  have q0 : ((0 : Int32)).toInt = 0 := rfl
  have q1 : ((1 : Int32)).toInt = 1 := rfl
  refine zNC278 X23.1 h343 ⟨by omega, by omega⟩ (fun M344 X345 h346 z347 h348 h349 h350 => ?_)
  have X351 := X23.go X345 (z_sb (by decide))
  show z_ev (d + 38) 277 41 [some (.ref 19), some (.int 0), some (.int p3)] [] M344 _
  have f48 : T[48]? = some (.inr (48, 0, 24, (-2147483648), 2147483647)) := X351.1.k rfl (by decide)
  have n353 : z_Ar M22 48 = z_Ar M0 48 := ((e24.a f48 (by decide)).trans (e3.a f48 (by decide)))
  have h355 : (0 : Int32).toInt.toNat = 0 := by omega
  have n354 : z_Ar M344 48 = z_nrs 0 [1] (z_Ar M0 48) := by rw [h346, n353, h355]; rfl
  refine z_xP zt277 4 43 [some (.ref 19), some (.int 0), some (.int p3)] [.ref 19, .int p3] rfl rfl ?_
  have h356 := (X345.2.f f19 (by decide) h25)
  refine z_xgv zt277 5 rfl zo277 zzf12_387 X351 f19 (by decide) h356 ?_
  have h357 := z_b32 p3
  refine z_xI zt277 6 rfl rfl (fun (x358 : Int32) (h359 : x358 = p3 + p1) => ?_) (rfl)
  refine z_xri zt277 7 rfl zzr277 ?_
  show z_ev (d + 39) 277 93 [some (.ref 19), some (.int 5), some (.int p3)] [.int x358] M344 _
  refine z_xri zt277 30 rfl zzr277 ?_
  show z_ev (d + 40) 277 93 [some (.ref 19), some (.int x332), some (.int p3)] [.int x358] M344 _
  refine z_xri zt277 30 rfl zzr277 ?_
  show z_ev (d + 41) 276 47 [some (.ref 19), some (.int p1), some (.int p2), some (.int p3)] [.int x358] M344 _
  refine z_xP zt276 23 99 [some (.ref 19), some (.int p1), some (.int p2), some (.int p3)] [.int x358] rfl rfl ?_
  exact z_xri zt276 48 rfl zzr276 (kk x358 M344 X351 (fun _ => ⟨(by rw [h359]), n354, _, h348, by omega⟩) (fun hq => by exfalso; omega) (fun hq => by exfalso; omega) (fun hq => by exfalso; omega) (fun hq => by exfalso; omega))
theorem zNC159_7 {T : List zK} {d : Nat} {K : Option Value → zH → Prop} {p1 : Int32} {p2 : Int32} {p3 : Int32} {ww : Int32} {bb : Nat} {nn sh jd : Int32} {M0 : zH} (hW : z_W M0 T) (hww : z_F M0 4 5 = some (.int ww)) (hwr : 0 ≤ p1.toInt ∧ p1.toInt < ww.toInt ∧ ww.toInt ≤ 20) (hbb : z_O M0 12 p1.toNatClampNeg = some bb) (kbb : T[bb]? = some (.inl (11, 0, 0, 0, 0))) (hf1 : z_F M0 bb 1 = some (.int sh)) (hf2 : z_F M0 bb 2 = some (.int jd)) (hf3 : z_F M0 bb 3 = some (.int nn)) (hG : z_GG T M0) (kk : ∀ (x : Int32) (M1 : zH), z_X T zw159 M0 M1 → (p2.toInt = 0 → x = (p3 + nn) ∧ z_Ar M1 13 = z_nts [1] (upd (z_Ar M0 13) 0 0)) → (p2.toInt = 1 → x = ((p3 + nn) * 2) ∧ z_Ar M1 13 = z_nts [10, 1] (upd (z_Ar M0 13) 0 0)) → (p2.toInt = 2 → x = (p3 ^^^ nn) ∧ z_Ar M1 13 = z_nts [11] (upd (z_Ar M0 13) 0 0)) → (p2.toInt = 3 → x = (((((p3 + nn) * 2) - (1 ^^^ nn)) * 2) - (p3 ^^^ nn)) ∧ z_Ar M1 13 = z_nts [80, 2, 10, 1, 11, 11] (upd (z_Ar M0 13) 0 0)) → (p2.toInt < 0 ∨ 3 < p2.toInt → x = 0 ∧ z_Ar M1 13 = upd (z_Ar M0 13) 0 0) → K (some (.int x)) M1) : z_ev (d + 8) 159 0 [some (.ref 4), some (.int p1), some (.int p2), some (.int p3), none] [] M0 K := by
  have X : z_X T zw159 M0 M0 := .refl hW
  refine z_xP zt159 0 1 [some (.ref 4), some (.int p1), some (.int p2), some (.int p3), none] [.ref 4] rfl rfl ?_
  have f4 : T[4]? = some (.inl (0, 0, 0, 0, 0)) := X.1.k rfl (by decide)
  refine z_xgX (b := 13) zt159 1 rfl zo159 zzf0_31 X f4 (by decide) (by decide) rfl ?_
  refine z_xP zt159 2 6 [some (.ref 4), some (.int p1), some (.int p2), some (.int p3), none] [.int 0, .int 0, .ref 13] rfl rfl ?_
  have f13 : T[13]? = some (.inr (13, 0, 25, (-2147483648), 2147483647)) := X.1.k rfl (by decide)
  have q0 : ((0 : Int32)).toInt = 0 := rfl
  refine z_xis zt159 3 rfl X f13 (by decide) (by decide) (by decide) (by decide) (by omega) (by omega) (by decide) (fun M1 X2 e3 h4 => ?_)
  have q0 : ((0 : Int32)).toInt = 0 := rfl
  have h5 := z_u0 h4 (by omega)
  have n6 : z_Ar M1 13 = upd (z_Ar M0 13) 0 0 := h4
  refine z_xP zt159 4 9 [some (.ref 4), some (.int p1), some (.int p2), some (.int p3), none] [.int p1, .ref 4] rfl rfl ?_
  refine z_xcV (vs := [.ref 4, .int p1]) (r := []) (L2 := [some (.ref 4), some (.int p1)]) zt159 5 rfl zo159 zzcV0_221 (Or.inl rfl) rfl X2 f4 rfl rfl rfl (Nat.le_of_ble_eq_true rfl) zzm84 (Nat.le_of_ble_eq_true rfl) rfl ?_
  refine z_xP zt84 0 1 [some (.ref 4), some (.int p1)] [.int p1] rfl rfl ?_
  refine z_xZ zt84 1 rfl rfl (fun (h7 : p1.toInt < 0) => absurd h7 (by omega)) (fun (h7 : 0 ≤ p1.toInt) => ?_)
  refine z_xP zt84 2 6 [some (.ref 4), some (.int p1)] [.ref 4, .int p1] rfl rfl ?_
  have h8 := (e3.f f4 (by decide) hww)
  refine z_xgv zt84 3 rfl zo84 zzf0_188 X2 f4 (by decide) h8 ?_
  refine z_xJ zt84 4 rfl rfl (fun (h9 : p1.toInt < ww.toInt) => ?_) (fun (h9 : ww.toInt ≤ p1.toInt) => ?_)
  · skip
    refine z_xP zt84 6 17 [some (.ref 4), some (.int p1)] [.ref 4] rfl rfl ?_
    refine z_xgX (b := 12) zt84 7 rfl zo84 zzf0_27 X2 f4 (by decide) (by decide) rfl ?_
    refine z_xP zt84 8 21 [some (.ref 4), some (.int p1)] [.int p1, .ref 12] rfl rfl ?_
    have f12 : T[12]? = some (.inr (12, 3, 20, 0, 0)) := X2.1.k rfl (by decide)
    refine z_xalv zt84 9 rfl X2 f12 (by decide) (by decide) (by decide) (by omega) (by omega) ((congrFun (e3.o f12 (by decide)) _).trans hbb) ?_
    refine z_xra zt84 10 rfl zzr84 ?_
    show z_ev (d + 8) 159 12 [some (.ref 4), some (.int p1), some (.int p2), some (.int p3), none] [.ref bb] M1 _
    refine z_xP zt159 6 21 [some (.ref 4), some (.int p1), some (.int p2), some (.int p3), some (.ref bb)] [] rfl rfl ?_
    refine z_xP zt159 9 22 [some (.ref 4), some (.int p1), some (.int p2), some (.int p3), some (.ref bb)] [.int p2] rfl rfl ?_
    by_cases h10 : p2.toInt = 0
    · refine z_xSC zt159 10 (z_sub (k := 0) h10 rfl) 52 rfl rfl ?_
      refine z_xP zt159 11 55 [some (.ref 4), some (.int p1), some (.int p2), some (.int p3), some (.ref bb)] [.int p3, .ref bb] rfl rfl ?_
      refine z_xcV (vs := [.ref bb, .int p3]) (r := []) (L2 := [some (.ref bb), some (.int p3)]) zt159 12 rfl zo159 zzcV0_295 (Or.inr rfl) rfl X2 kbb rfl rfl rfl (Nat.le_of_ble_eq_true rfl) zzm163 (Nat.le_of_ble_eq_true rfl) rfl ?_
      refine z_xP zt163 0 2 [some (.ref bb), some (.int p3)] [.int 1, .ref bb] rfl rfl ?_
      refine z_xcV (vs := [.ref bb, .int 1]) (r := []) (L2 := [some (.ref bb), some (.int 1)]) zt163 1 rfl zo163 zzcV4_31 (Or.inr rfl) rfl X2 kbb rfl rfl rfl (Nat.le_of_ble_eq_true rfl) zzm161 (Nat.le_of_ble_eq_true rfl) rfl ?_
      have q1 : ((1 : Int32)).toInt = 1 := rfl
      have q1 : ((1 : Int32)).toInt = 1 := rfl
      refine zNC161 X2.1 (by decide) kbb ⟨by omega, by omega⟩ (fun M11 X12 h13 h14 => ?_)
      have X15 := X2.go X12 (z_sb (by decide))
      show z_ev (d + 7) 163 5 [some (.ref bb), some (.int p3)] [] M11 _
      have n17 : z_Ar M11 13 = z_nts [1] (upd (z_Ar M0 13) 0 0) := z_ntsS [] n6 h14
      refine z_xP zt163 2 7 [some (.ref bb), some (.int p3)] [.ref bb, .int p3] rfl rfl ?_
      have h18 := (X12.2.f kbb (by decide) (e3.f kbb (by decide) hf3))
      refine z_xgv zt163 3 rfl zo163 zzf4_15 X15 kbb (by decide) h18 ?_
      have h19 := z_b32 p3
      have h20 := z_b32 nn
      refine z_xI zt163 4 rfl rfl (fun (x21 : Int32) (h22 : x21 = p3 + nn) => ?_) (rfl)
      refine z_xri zt163 5 rfl zzr163 ?_
      show z_ev (d + 8) 159 58 [some (.ref 4), some (.int p1), some (.int p2), some (.int p3), some (.ref bb)] [.int x21] M11 _
      exact z_xri zt159 13 rfl zzr159 (kk x21 M11 X15 (fun _ => ⟨(by rw [h22]), n17⟩) (fun hq => by exfalso; omega) (fun hq => by exfalso; omega) (fun hq => by exfalso; omega) (fun hq => by exfalso; omega))
    by_cases h23 : p2.toInt = 1
    · refine z_xSC zt159 10 (z_sub (k := 1) h23 rfl) 59 rfl rfl ?_
      refine z_xP zt159 14 62 [some (.ref 4), some (.int p1), some (.int p2), some (.int p3), some (.ref bb)] [.int p3, .ref bb] rfl rfl ?_
      refine z_xcV (vs := [.ref bb, .int p3]) (r := []) (L2 := [some (.ref bb), some (.int p3)]) zt159 15 rfl zo159 zzcV0_298 (Or.inr rfl) rfl X2 kbb rfl rfl rfl (Nat.le_of_ble_eq_true rfl) zzm167 (Nat.le_of_ble_eq_true rfl) rfl ?_
      refine z_xP zt167 0 3 [some (.ref bb), some (.int p3)] [.int 10, .ref bb] rfl rfl ?_
      refine z_xcV (vs := [.ref bb, .int 10]) (r := []) (L2 := [some (.ref bb), some (.int 10)]) zt167 1 rfl zo167 zzcV4_31 (Or.inr rfl) rfl X2 kbb rfl rfl rfl (Nat.le_of_ble_eq_true rfl) zzm161 (Nat.le_of_ble_eq_true rfl) rfl ?_
      have q10 : ((10 : Int32)).toInt = 10 := rfl
      have q10 : ((10 : Int32)).toInt = 10 := rfl
      refine zNC161 X2.1 (by decide) kbb ⟨by omega, by omega⟩ (fun M24 X25 h26 h27 => ?_)
      have X28 := X2.go X25 (z_sb (by decide))
      show z_ev (d + 7) 167 6 [some (.ref bb), some (.int p3)] [] M24 _
      have n30 : z_Ar M24 13 = z_nts [10] (upd (z_Ar M0 13) 0 0) := z_ntsS [] n6 h27
      refine z_xP zt167 2 8 [some (.ref bb), some (.int p3)] [.int p3, .ref bb] rfl rfl ?_
      refine z_xcV (vs := [.ref bb, .int p3]) (r := []) (L2 := [some (.ref bb), some (.int p3)]) zt167 3 rfl zo167 zzcV4_35 (Or.inr rfl) rfl X28 kbb rfl rfl rfl (Nat.le_of_ble_eq_true rfl) zzm163 (Nat.le_of_ble_eq_true rfl) rfl ?_
      refine z_xP zt163 0 2 [some (.ref bb), some (.int p3)] [.int 1, .ref bb] rfl rfl ?_
      refine z_xcV (vs := [.ref bb, .int 1]) (r := []) (L2 := [some (.ref bb), some (.int 1)]) zt163 1 rfl zo163 zzcV4_31 (Or.inr rfl) rfl X28 kbb rfl rfl rfl (Nat.le_of_ble_eq_true rfl) zzm161 (Nat.le_of_ble_eq_true rfl) rfl ?_
      have q1 : ((1 : Int32)).toInt = 1 := rfl
      have q1 : ((1 : Int32)).toInt = 1 := rfl
      refine zNC161 X28.1 (by decide) kbb ⟨by omega, by omega⟩ (fun M31 X32 h33 h34 => ?_)
      have X35 := X28.go X32 (z_sb (by decide))
      show z_ev (d + 6) 163 5 [some (.ref bb), some (.int p3)] [] M31 _
      have n37 : z_Ar M31 13 = z_nts [10, 1] (upd (z_Ar M0 13) 0 0) := z_ntsS [10] n30 h34
      refine z_xP zt163 2 7 [some (.ref bb), some (.int p3)] [.ref bb, .int p3] rfl rfl ?_
      have h38 := (X32.2.f kbb (by decide) (X25.2.f kbb (by decide) (e3.f kbb (by decide) hf3)))
      refine z_xgv zt163 3 rfl zo163 zzf4_15 X35 kbb (by decide) h38 ?_
      have h39 := z_b32 p3
      have h40 := z_b32 nn
      refine z_xI zt163 4 rfl rfl (fun (x41 : Int32) (h42 : x41 = p3 + nn) => ?_) (rfl)
      refine z_xri zt163 5 rfl zzr163 ?_
      show z_ev (d + 7) 167 11 [some (.ref bb), some (.int p3)] [.int x41] M31 _
      refine z_xP zt167 4 12 [some (.ref bb), some (.int p3)] [.int 2, .int x41] rfl rfl ?_
      have h43 := z_b32 x41
      refine z_xI zt167 5 rfl rfl (fun (x44 : Int32) (h45 : x44 = x41 * 2) => ?_) (rfl)
      refine z_xri zt167 6 rfl zzr167 ?_
      show z_ev (d + 8) 159 65 [some (.ref 4), some (.int p1), some (.int p2), some (.int p3), some (.ref bb)] [.int x44] M31 _
      exact z_xri zt159 16 rfl zzr159 (kk x44 M31 X35 (fun hq => by exfalso; omega) (fun _ => ⟨(by rw [h45, h42]), n37⟩) (fun hq => by exfalso; omega) (fun hq => by exfalso; omega) (fun hq => by exfalso; omega))
    by_cases h46 : p2.toInt = 2
    · refine z_xSC zt159 10 (z_sub (k := 2) h46 rfl) 66 rfl rfl ?_
      refine z_xP zt159 17 69 [some (.ref 4), some (.int p1), some (.int p2), some (.int p3), some (.ref bb)] [.int p3, .ref bb] rfl rfl ?_
      refine z_xcV (vs := [.ref bb, .int p3]) (r := []) (L2 := [some (.ref bb), some (.int p3)]) zt159 18 rfl zo159 zzcV0_301 (Or.inr rfl) rfl X2 kbb rfl rfl rfl (Nat.le_of_ble_eq_true rfl) zzm170 (Nat.le_of_ble_eq_true rfl) rfl ?_
      refine z_xP zt170 0 3 [some (.ref bb), some (.int p3)] [.int 11, .ref bb] rfl rfl ?_
      refine z_xcV (vs := [.ref bb, .int 11]) (r := []) (L2 := [some (.ref bb), some (.int 11)]) zt170 1 rfl zo170 zzcV4_31 (Or.inr rfl) rfl X2 kbb rfl rfl rfl (Nat.le_of_ble_eq_true rfl) zzm161 (Nat.le_of_ble_eq_true rfl) rfl ?_
      have q11 : ((11 : Int32)).toInt = 11 := rfl
      have q11 : ((11 : Int32)).toInt = 11 := rfl
      refine zNC161 X2.1 (by decide) kbb ⟨by omega, by omega⟩ (fun M47 X48 h49 h50 => ?_)
      have X51 := X2.go X48 (z_sb (by decide))
      show z_ev (d + 7) 170 6 [some (.ref bb), some (.int p3)] [] M47 _
      have n53 : z_Ar M47 13 = z_nts [11] (upd (z_Ar M0 13) 0 0) := z_ntsS [] n6 h50
      refine z_xP zt170 2 8 [some (.ref bb), some (.int p3)] [.ref bb, .int p3] rfl rfl ?_
      have h54 := (X48.2.f kbb (by decide) (e3.f kbb (by decide) hf3))
      refine z_xgv zt170 3 rfl zo170 zzf4_15 X51 kbb (by decide) h54 ?_
      refine z_xI zt170 4 rfl rfl (fun (x55 : Int32) (h56 : x55 = p3 ^^^ nn) => ?_) (rfl)
      refine z_xri zt170 5 rfl zzr170 ?_
      show z_ev (d + 8) 159 72 [some (.ref 4), some (.int p1), some (.int p2), some (.int p3), some (.ref bb)] [.int x55] M47 _
      exact z_xri zt159 19 rfl zzr159 (kk x55 M47 X51 (fun hq => by exfalso; omega) (fun hq => by exfalso; omega) (fun _ => ⟨(by rw [h56]), n53⟩) (fun hq => by exfalso; omega) (fun hq => by exfalso; omega))
    by_cases h57 : p2.toInt = 3
    · refine z_xSC zt159 10 (z_sub (k := 3) h57 rfl) 73 rfl rfl ?_
      refine z_xP zt159 20 76 [some (.ref 4), some (.int p1), some (.int p2), some (.int p3), some (.ref bb)] [.int p3, .ref bb] rfl rfl ?_
      refine z_xcV (vs := [.ref bb, .int p3]) (r := []) (L2 := [some (.ref bb), some (.int p3)]) zt159 21 rfl zo159 zzcV0_304 (Or.inr rfl) rfl X2 kbb rfl rfl rfl (Nat.le_of_ble_eq_true rfl) zzm172 (Nat.le_of_ble_eq_true rfl) rfl ?_
      refine z_xP zt172 0 3 [some (.ref bb), some (.int p3)] [.int 80, .ref bb] rfl rfl ?_
      refine z_xcV (vs := [.ref bb, .int 80]) (r := []) (L2 := [some (.ref bb), some (.int 80)]) zt172 1 rfl zo172 zzcV11_44 (Or.inr rfl) rfl X2 kbb rfl rfl rfl (Nat.le_of_ble_eq_true rfl) zzm161 (Nat.le_of_ble_eq_true rfl) rfl ?_
      have q80 : ((80 : Int32)).toInt = 80 := rfl
      have q80 : ((80 : Int32)).toInt = 80 := rfl
      refine zNC161 X2.1 (by decide) kbb ⟨by omega, by omega⟩ (fun M58 X59 h60 h61 => ?_)
      have X62 := X2.go X59 (z_sb (by decide))
      show z_ev (d + 7) 172 6 [some (.ref bb), some (.int p3)] [] M58 _
      have n64 : z_Ar M58 13 = z_nts [80] (upd (z_Ar M0 13) 0 0) := z_ntsS [] n6 h61
      refine z_xP zt172 2 8 [some (.ref bb), some (.int p3)] [.int p3, .ref bb] rfl rfl ?_
      refine z_xcI (vs := [.ref bb, .int p3]) (r := []) (L2 := [some (.ref bb), some (.int p3)]) zt172 3 rfl zo172 zzcI11_48 (Or.inr (Or.inl rfl)) rfl X62 kbb rfl rfl (Nat.le_of_ble_eq_true rfl) zzm173 (Nat.le_of_ble_eq_true rfl) rfl ?_
      refine z_xP zt173 0 2 [some (.ref bb), some (.int p3)] [.int 2, .ref bb] rfl rfl ?_
      refine z_xcV (vs := [.ref bb, .int 2]) (r := []) (L2 := [some (.ref bb), some (.int 2)]) zt173 1 rfl zo173 zzcV4_31 (Or.inr rfl) rfl X62 kbb rfl rfl rfl (Nat.le_of_ble_eq_true rfl) zzm161 (Nat.le_of_ble_eq_true rfl) rfl ?_
      have q2 : ((2 : Int32)).toInt = 2 := rfl
      have q2 : ((2 : Int32)).toInt = 2 := rfl
      refine zNC161 X62.1 (by decide) kbb ⟨by omega, by omega⟩ (fun M65 X66 h67 h68 => ?_)
      have X69 := X62.go X66 (z_sb (by decide))
      show z_ev (d + 6) 173 5 [some (.ref bb), some (.int p3)] [] M65 _
      have n71 : z_Ar M65 13 = z_nts [80, 2] (upd (z_Ar M0 13) 0 0) := z_ntsS [80] n64 h68
      refine z_xP zt173 2 7 [some (.ref bb), some (.int p3)] [.int p3, .ref bb] rfl rfl ?_
      refine z_xcV (vs := [.ref bb, .int p3]) (r := []) (L2 := [some (.ref bb), some (.int p3)]) zt173 3 rfl zo173 zzcV4_39 (Or.inr rfl) rfl X69 kbb rfl rfl rfl (Nat.le_of_ble_eq_true rfl) zzm167 (Nat.le_of_ble_eq_true rfl) rfl ?_
      refine z_xP zt167 0 3 [some (.ref bb), some (.int p3)] [.int 10, .ref bb] rfl rfl ?_
      refine z_xcV (vs := [.ref bb, .int 10]) (r := []) (L2 := [some (.ref bb), some (.int 10)]) zt167 1 rfl zo167 zzcV4_31 (Or.inr rfl) rfl X69 kbb rfl rfl rfl (Nat.le_of_ble_eq_true rfl) zzm161 (Nat.le_of_ble_eq_true rfl) rfl ?_
      have q10 : ((10 : Int32)).toInt = 10 := rfl
      have q10 : ((10 : Int32)).toInt = 10 := rfl
      refine zNC161 X69.1 (by decide) kbb ⟨by omega, by omega⟩ (fun M72 X73 h74 h75 => ?_)
      have X76 := X69.go X73 (z_sb (by decide))
      show z_ev (d + 5) 167 6 [some (.ref bb), some (.int p3)] [] M72 _
      have n78 : z_Ar M72 13 = z_nts [80, 2, 10] (upd (z_Ar M0 13) 0 0) := z_ntsS [80, 2] n71 h75
      refine z_xP zt167 2 8 [some (.ref bb), some (.int p3)] [.int p3, .ref bb] rfl rfl ?_
      refine z_xcV (vs := [.ref bb, .int p3]) (r := []) (L2 := [some (.ref bb), some (.int p3)]) zt167 3 rfl zo167 zzcV4_35 (Or.inr rfl) rfl X76 kbb rfl rfl rfl (Nat.le_of_ble_eq_true rfl) zzm163 (Nat.le_of_ble_eq_true rfl) rfl ?_
      refine z_xP zt163 0 2 [some (.ref bb), some (.int p3)] [.int 1, .ref bb] rfl rfl ?_
      refine z_xcV (vs := [.ref bb, .int 1]) (r := []) (L2 := [some (.ref bb), some (.int 1)]) zt163 1 rfl zo163 zzcV4_31 (Or.inr rfl) rfl X76 kbb rfl rfl rfl (Nat.le_of_ble_eq_true rfl) zzm161 (Nat.le_of_ble_eq_true rfl) rfl ?_
      have q1 : ((1 : Int32)).toInt = 1 := rfl
      have q1 : ((1 : Int32)).toInt = 1 := rfl
      refine zNC161 X76.1 (by decide) kbb ⟨by omega, by omega⟩ (fun M79 X80 h81 h82 => ?_)
      have X83 := X76.go X80 (z_sb (by decide))
      show z_ev (d + 4) 163 5 [some (.ref bb), some (.int p3)] [] M79 _
      have n85 : z_Ar M79 13 = z_nts [80, 2, 10, 1] (upd (z_Ar M0 13) 0 0) := z_ntsS [80, 2, 10] n78 h82
      refine z_xP zt163 2 7 [some (.ref bb), some (.int p3)] [.ref bb, .int p3] rfl rfl ?_
      have h86 := (X80.2.f kbb (by decide) (X73.2.f kbb (by decide) (X66.2.f kbb (by decide) (X59.2.f kbb (by decide) (e3.f kbb (by decide) hf3)))))
      refine z_xgv zt163 3 rfl zo163 zzf4_15 X83 kbb (by decide) h86 ?_
      have h87 := z_b32 p3
      have h88 := z_b32 nn
      refine z_xI zt163 4 rfl rfl (fun (x89 : Int32) (h90 : x89 = p3 + nn) => ?_) (rfl)
      refine z_xri zt163 5 rfl zzr163 ?_
      show z_ev (d + 5) 167 11 [some (.ref bb), some (.int p3)] [.int x89] M79 _
      refine z_xP zt167 4 12 [some (.ref bb), some (.int p3)] [.int 2, .int x89] rfl rfl ?_
      have h91 := z_b32 x89
      refine z_xI zt167 5 rfl rfl (fun (x92 : Int32) (h93 : x92 = x89 * 2) => ?_) (rfl)
      refine z_xri zt167 6 rfl zzr167 ?_
      show z_ev (d + 6) 173 10 [some (.ref bb), some (.int p3)] [.int x92] M79 _
      refine z_xP zt173 4 12 [some (.ref bb), some (.int p3)] [.int 1, .ref bb, .int x92] rfl rfl ?_
      refine z_xcV (vs := [.ref bb, .int 1]) (r := [.int x92]) (L2 := [some (.ref bb), some (.int 1)]) zt173 5 rfl zo173 zzcV4_42 (Or.inr rfl) rfl X83 kbb rfl rfl rfl (Nat.le_of_ble_eq_true rfl) zzm170 (Nat.le_of_ble_eq_true rfl) rfl ?_
      refine z_xP zt170 0 3 [some (.ref bb), some (.int 1)] [.int 11, .ref bb] rfl rfl ?_
      refine z_xcV (vs := [.ref bb, .int 11]) (r := []) (L2 := [some (.ref bb), some (.int 11)]) zt170 1 rfl zo170 zzcV4_31 (Or.inr rfl) rfl X83 kbb rfl rfl rfl (Nat.le_of_ble_eq_true rfl) zzm161 (Nat.le_of_ble_eq_true rfl) rfl ?_
      have q11 : ((11 : Int32)).toInt = 11 := rfl
      have q11 : ((11 : Int32)).toInt = 11 := rfl
      refine zNC161 X83.1 (by decide) kbb ⟨by omega, by omega⟩ (fun M94 X95 h96 h97 => ?_)
      have X98 := X83.go X95 (z_sb (by decide))
      show z_ev (d + 5) 170 6 [some (.ref bb), some (.int 1)] [] M94 _
      have n100 : z_Ar M94 13 = z_nts [80, 2, 10, 1, 11] (upd (z_Ar M0 13) 0 0) := z_ntsS [80, 2, 10, 1] n85 h97
      refine z_xP zt170 2 8 [some (.ref bb), some (.int 1)] [.ref bb, .int 1] rfl rfl ?_
      have h101 := (X95.2.f kbb (by decide) h86)
      refine z_xgv zt170 3 rfl zo170 zzf4_15 X98 kbb (by decide) h101 ?_
      refine z_xI zt170 4 rfl rfl (fun (x102 : Int32) (h103 : x102 = 1 ^^^ nn) => ?_) (rfl)
      refine z_xri zt170 5 rfl zzr170 ?_
      show z_ev (d + 6) 173 15 [some (.ref bb), some (.int p3)] [.int x102, .int x92] M94 _
      have h104 := z_b32 x92
      have h105 := z_b32 x102
      refine z_xI zt173 6 rfl rfl (fun (x106 : Int32) (h107 : x106 = x92 - x102) => ?_) (rfl)
      refine z_xri zt173 7 rfl zzr173 ?_
      show z_ev (d + 7) 172 11 [some (.ref bb), some (.int p3)] [.int x106] M94 _
      refine z_xP zt172 4 12 [some (.ref bb), some (.int p3)] [.int 2, .int x106] rfl rfl ?_
      have h108 := z_b32 x106
      refine z_xI zt172 5 rfl rfl (fun (x109 : Int32) (h110 : x109 = x106 * 2) => ?_) (rfl)
      refine z_xP zt172 6 15 [some (.ref bb), some (.int p3)] [.int p3, .ref bb, .int x109] rfl rfl ?_
      refine z_xcI (vs := [.ref bb, .int p3]) (r := [.int x109]) (L2 := [some (.ref bb), some (.int p3)]) zt172 7 rfl zo172 zzcI11_51 (Or.inr (Or.inl rfl)) rfl X98 kbb rfl rfl (Nat.le_of_ble_eq_true rfl) zzm170 (Nat.le_of_ble_eq_true rfl) rfl ?_
      refine z_xP zt170 0 3 [some (.ref bb), some (.int p3)] [.int 11, .ref bb] rfl rfl ?_
      refine z_xcV (vs := [.ref bb, .int 11]) (r := []) (L2 := [some (.ref bb), some (.int 11)]) zt170 1 rfl zo170 zzcV4_31 (Or.inr rfl) rfl X98 kbb rfl rfl rfl (Nat.le_of_ble_eq_true rfl) zzm161 (Nat.le_of_ble_eq_true rfl) rfl ?_
      have q11 : ((11 : Int32)).toInt = 11 := rfl
      have q11 : ((11 : Int32)).toInt = 11 := rfl
      refine zNC161 X98.1 (by decide) kbb ⟨by omega, by omega⟩ (fun M111 X112 h113 h114 => ?_)
      have X115 := X98.go X112 (z_sb (by decide))
      show z_ev (d + 6) 170 6 [some (.ref bb), some (.int p3)] [] M111 _
      have n117 : z_Ar M111 13 = z_nts [80, 2, 10, 1, 11, 11] (upd (z_Ar M0 13) 0 0) := z_ntsS [80, 2, 10, 1, 11] n100 h114
      refine z_xP zt170 2 8 [some (.ref bb), some (.int p3)] [.ref bb, .int p3] rfl rfl ?_
      have h118 := (X112.2.f kbb (by decide) h101)
      refine z_xgv zt170 3 rfl zo170 zzf4_15 X115 kbb (by decide) h118 ?_
      refine z_xI zt170 4 rfl rfl (fun (x119 : Int32) (h120 : x119 = p3 ^^^ nn) => ?_) (rfl)
      refine z_xri zt170 5 rfl zzr170 ?_
      show z_ev (d + 7) 172 18 [some (.ref bb), some (.int p3)] [.int x119, .int x109] M111 _
      have h121 := z_b32 x109
      have h122 := z_b32 x119
      refine z_xI zt172 8 rfl rfl (fun (x123 : Int32) (h124 : x123 = x109 - x119) => ?_) (rfl)
      refine z_xri zt172 9 rfl zzr172 ?_
      show z_ev (d + 8) 159 79 [some (.ref 4), some (.int p1), some (.int p2), some (.int p3), some (.ref bb)] [.int x123] M111 _
      exact z_xri zt159 22 rfl zzr159 (kk x123 M111 X115 (fun hq => by exfalso; omega) (fun hq => by exfalso; omega) (fun hq => by exfalso; omega) (fun _ => ⟨(by rw [h124, h120, h110, h107, h103, h93, h90]), n117⟩) (fun hq => by exfalso; omega))
    refine z_xSD zt159 10 rfl rfl (by omega) ?_
    refine z_xP zt159 23 81 [some (.ref 4), some (.int p1), some (.int p2), some (.int p3), some (.ref bb)] [.int 0] rfl rfl ?_
    have q0 : ((0 : Int32)).toInt = 0 := rfl
    exact z_xri zt159 24 rfl zzr159 (kk 0 M1 X2 (fun hq => by exfalso; omega) (fun hq => by exfalso; omega) (fun hq => by exfalso; omega) (fun hq => by exfalso; omega) (fun _ => ⟨rfl, n6⟩))
  refine z_xP zt84 5 22 [some (.ref 4), some (.int p1)] [.null] rfl rfl ?_
  refine z_xrn zt84 10 rfl zzr84 ?_
  show z_ev (d + 8) 159 12 [some (.ref 4), some (.int p1), some (.int p2), some (.int p3), none] [.null] M1 _
  refine z_xP zt159 6 19 [some (.ref 4), some (.int p1), some (.int p2), some (.int p3), some (.null)] [] rfl rfl ?_
  refine z_xP zt159 7 20 [some (.ref 4), some (.int p1), some (.int p2), some (.int p3), some (.null)] [.int 0] rfl rfl ?_
  have q0 : ((0 : Int32)).toInt = 0 := rfl
  exact z_xri zt159 8 rfl zzr159 (kk 0 M1 X2 (fun hq => by exfalso; omega) (fun hq => by exfalso; omega) (fun hq => by exfalso; omega) (fun hq => by exfalso; omega) (fun _ => ⟨rfl, n6⟩))
theorem zNC276_7 {T : List zK} {d : Nat} {K : Option Value → zH → Prop} {p1 : Int32} {p2 : Int32} {p3 : Int32} {ww : Int32} {kn sh jd : Int32} {M0 : zH} (hW : z_W M0 T) (hww : z_F M0 19 21 = some (.int ww)) (hwr : 0 ≤ p1.toInt ∧ p1.toInt < ww.toInt ∧ ww.toInt ≤ 20) (hk36 : z_Ar M0 36 p1.toNatClampNeg = kn) (hkn : kn.toInt = 7) (hk37 : z_Ar M0 37 p1.toNatClampNeg = sh) (hk38 : z_Ar M0 38 p1.toNatClampNeg = jd) (kk : ∀ (x : Int32) (M1 : zH), z_X T zw276 M0 M1 → (p2.toInt = 0 → x = (p3 + p1) ∧ z_Ar M1 48 = z_nrs 0 [1] (z_Ar M0 48) ∧ ∃ n : Int32, z_F M1 19 47 = some (.int n) ∧ n.toInt = 1) → (p2.toInt = 1 → x = ((p3 + p1) * 2) ∧ z_Ar M1 48 = z_nrs 0 [10, 1] (z_Ar M0 48) ∧ ∃ n : Int32, z_F M1 19 47 = some (.int n) ∧ n.toInt = 2) → (p2.toInt = 2 → x = (p3 ^^^ p1) ∧ z_Ar M1 48 = z_nrs 0 [11] (z_Ar M0 48) ∧ ∃ n : Int32, z_F M1 19 47 = some (.int n) ∧ n.toInt = 1) → (p2.toInt = 3 → x = (((((p3 + p1) * 2) - (1 ^^^ p1)) * 2) - (p3 ^^^ p1)) ∧ z_Ar M1 48 = z_nrs 0 [80, 2, 10, 1, 11, 11] (z_Ar M0 48) ∧ ∃ n : Int32, z_F M1 19 47 = some (.int n) ∧ n.toInt = 6) → (p2.toInt < 0 ∨ 3 < p2.toInt → x = 0 ∧ z_Ar M1 48 = z_Ar M0 48 ∧ ∃ n : Int32, z_F M1 19 47 = some (.int n) ∧ n.toInt = 0) → K (some (.int x)) M1) : z_ev (d + 41) 276 0 [some (.ref 19), some (.int p1), some (.int p2), some (.int p3)] [] M0 K := by
  have X : z_X T zw276 M0 M0 := .refl hW
  refine z_xP zt276 0 2 [some (.ref 19), some (.int p1), some (.int p2), some (.int p3)] [.int 0, .ref 19] rfl rfl ?_
  have f19 : T[19]? = some (.inl (12, 0, 0, 0, 0)) := X.1.k rfl (by decide)
  have q0 : ((0 : Int32)).toInt = 0 := rfl
  refine z_xpf zt276 1 rfl zo276 zzf12_381 X f19 (by decide) (by decide) ⟨by omega, by omega⟩ rfl (by decide) zw12_47 (fun M1 X2 e3 h4 => ?_)
  refine z_xP zt276 2 7 [some (.ref 19), some (.int p1), some (.int p2), some (.int p3)] [.int p1, .ref 19] rfl rfl ?_
  refine z_xcV (vs := [.ref 19, .int p1]) (r := []) (L2 := [some (.ref 19), some (.int p1)]) zt276 3 rfl zo276 zzcV12_272 (Or.inl rfl) rfl X2 f19 rfl rfl rfl (Nat.le_of_ble_eq_true rfl) zzm237 (Nat.le_of_ble_eq_true rfl) rfl ?_
  refine z_xP zt237 0 1 [some (.ref 19), some (.int p1)] [.int p1] rfl rfl ?_
  refine z_xZ zt237 1 rfl rfl (fun (h5 : p1.toInt < 0) => absurd h5 (by omega)) (fun (h5 : 0 ≤ p1.toInt) => ?_)
  refine z_xP zt237 2 6 [some (.ref 19), some (.int p1)] [.ref 19, .int p1] rfl rfl ?_
  have h6 := (e3.f f19 (by decide) hww)
  refine z_xgv zt237 3 rfl zo237 zzf12_269 X2 f19 (by decide) h6 ?_
  refine z_xJ zt237 4 rfl rfl (fun (h7 : ww.toInt ≤ p1.toInt) => ?_) (fun (h7 : p1.toInt < ww.toInt) => ?_)
  · skip
    refine z_xP zt237 6 17 [some (.ref 19), some (.int p1)] [.int 0] rfl rfl ?_
    refine z_xrz zt237 7 rfl zzr237 (by decide) (by decide) ?_
    show z_ev (d + 41) 276 10 [some (.ref 19), some (.int p1), some (.int p2), some (.int p3)] [.int 0] M1 _
    refine z_xZ zt276 4 rfl rfl (fun (h8 : (0 : Int) = 0) => ?_) (fun (h8 : (0 : Int) ≠ 0) => absurd h8 (by omega))
    refine z_xP zt276 11 26 [some (.ref 19), some (.int p1), some (.int p2), some (.int p3)] [.int 0] rfl rfl ?_
    have q0 : ((0 : Int32)).toInt = 0 := rfl
    have f48 : T[48]? = some (.inr (48, 0, 24, (-2147483648), 2147483647)) := X2.1.k rfl (by decide)
    have q0 : ((0 : Int32)).toInt = 0 := rfl
    exact z_xri zt276 12 rfl zzr276 (kk 0 M1 X2 (fun hq => by exfalso; omega) (fun hq => by exfalso; omega) (fun hq => by exfalso; omega) (fun hq => by exfalso; omega) (fun _ => ⟨rfl, (e3.a f48 (by decide)), _, h4, by omega⟩))
  refine z_xP zt237 5 17 [some (.ref 19), some (.int p1)] [.int 1] rfl rfl ?_
  refine z_xrz zt237 7 rfl zzr237 (by decide) (by decide) ?_
  show z_ev (d + 41) 276 10 [some (.ref 19), some (.int p1), some (.int p2), some (.int p3)] [.int 1] M1 _
  refine z_xZ zt276 4 rfl rfl (fun (h9 : (1 : Int) = 0) => absurd h9 (by omega)) (fun (h9 : (1 : Int) ≠ 0) => ?_)
  refine z_xP zt276 5 14 [some (.ref 19), some (.int p1), some (.int p2), some (.int p3)] [.int p2] rfl rfl ?_
  have h10 := z_b32 p2
  refine z_xL zt276 6 rfl rfl (fun (y11 : Int64) (h12 : y11.toInt = p2.toInt) => ?_) (z_qI2L rfl)
  refine z_xP zt276 7 16 [some (.ref 19), some (.int p1), some (.int p2), some (.int p3)] [.long 0, .long y11] rfl rfl ?_
  refine z_xl2 zt276 8 rfl zo276 zkl12_358 ?_
  refine z_xcS (vs := [.long y11, .long 0, .long 3]) (r := []) (L2 := [some (.long y11), none, some (.long 0), none, some (.long 3), none]) zt276 9 rfl zo276 zzcS12_116 (Or.inl rfl) (Nat.le_of_ble_eq_true rfl) rfl rfl (Nat.le_of_ble_eq_true rfl) zzm189 (Nat.le_of_ble_eq_true rfl) rfl ?_
  refine z_xP zt189 0 2 [some (.long y11), none, some (.long 0), none, some (.long 3), none] [.long 0, .long y11] rfl rfl ?_
  refine z_xI zt189 1 rfl rfl (fun (x13 : Int32) (h14 : (x13.toInt < 0 ∧ y11.toInt < 0) ∨ (x13.toInt = 0 ∧ y11.toInt = 0) ∨ (0 < x13.toInt ∧ 0 < y11.toInt)) => ?_) (z_qCmp rfl rfl)
  refine z_xZ zt189 2 rfl rfl (fun (h15 : x13.toInt < 0) => ?_) (fun (h15 : 0 ≤ x13.toInt) => ?_)
  · skip
    refine z_xP zt189 7 18 [some (.long y11), none, some (.long 0), none, some (.long 3), none] [.int 0] rfl rfl ?_
    refine z_xrz zt189 8 rfl zzr189 (by decide) (by decide) ?_
    show z_ev (d + 41) 276 22 [some (.ref 19), some (.int p1), some (.int p2), some (.int p3)] [.int 0] M1 _
    refine z_xZ zt276 10 rfl rfl (fun (h16 : (0 : Int) ≠ 0) => absurd h16 (by omega)) (fun (h16 : (0 : Int) = 0) => ?_)
    refine z_xP zt276 11 26 [some (.ref 19), some (.int p1), some (.int p2), some (.int p3)] [.int 0] rfl rfl ?_
    have q0 : ((0 : Int32)).toInt = 0 := rfl
    have f48 : T[48]? = some (.inr (48, 0, 24, (-2147483648), 2147483647)) := X2.1.k rfl (by decide)
    have q0 : ((0 : Int32)).toInt = 0 := rfl
    exact z_xri zt276 12 rfl zzr276 (kk 0 M1 X2 (fun hq => by exfalso; omega) (fun hq => by exfalso; omega) (fun hq => by exfalso; omega) (fun hq => by exfalso; omega) (fun _ => ⟨rfl, (e3.a f48 (by decide)), _, h4, by omega⟩))
  refine z_xP zt189 3 9 [some (.long y11), none, some (.long 0), none, some (.long 3), none] [.long 3, .long y11] rfl rfl ?_
  refine z_xI zt189 4 rfl rfl (fun (x17 : Int32) (h18 : (x17.toInt < 0 ∧ y11.toInt < 3) ∨ (x17.toInt = 0 ∧ y11.toInt = 3) ∨ (0 < x17.toInt ∧ 3 < y11.toInt)) => ?_) (z_qCmp rfl rfl)
  refine z_xZ zt189 5 rfl rfl (fun (h19 : 0 < x17.toInt) => ?_) (fun (h19 : x17.toInt ≤ 0) => ?_)
  · skip
    refine z_xP zt189 7 18 [some (.long y11), none, some (.long 0), none, some (.long 3), none] [.int 0] rfl rfl ?_
    refine z_xrz zt189 8 rfl zzr189 (by decide) (by decide) ?_
    show z_ev (d + 41) 276 22 [some (.ref 19), some (.int p1), some (.int p2), some (.int p3)] [.int 0] M1 _
    refine z_xZ zt276 10 rfl rfl (fun (h20 : (0 : Int) ≠ 0) => absurd h20 (by omega)) (fun (h20 : (0 : Int) = 0) => ?_)
    refine z_xP zt276 11 26 [some (.ref 19), some (.int p1), some (.int p2), some (.int p3)] [.int 0] rfl rfl ?_
    have q0 : ((0 : Int32)).toInt = 0 := rfl
    have f48 : T[48]? = some (.inr (48, 0, 24, (-2147483648), 2147483647)) := X2.1.k rfl (by decide)
    have q0 : ((0 : Int32)).toInt = 0 := rfl
    exact z_xri zt276 12 rfl zzr276 (kk 0 M1 X2 (fun hq => by exfalso; omega) (fun hq => by exfalso; omega) (fun hq => by exfalso; omega) (fun hq => by exfalso; omega) (fun _ => ⟨rfl, (e3.a f48 (by decide)), _, h4, by omega⟩))
  refine z_xP zt189 6 18 [some (.long y11), none, some (.long 0), none, some (.long 3), none] [.int 1] rfl rfl ?_
  refine z_xrz zt189 8 rfl zzr189 (by decide) (by decide) ?_
  show z_ev (d + 41) 276 22 [some (.ref 19), some (.int p1), some (.int p2), some (.int p3)] [.int 1] M1 _
  refine z_xZ zt276 10 rfl rfl (fun (h21 : (1 : Int) ≠ 0) => ?_) (fun (h21 : (1 : Int) = 0) => absurd h21 (by omega))
  refine z_xP zt276 13 29 [some (.ref 19), some (.int p1), some (.int p2), some (.int p3)] [.int p1, .ref 19] rfl rfl ?_
  refine z_xpf zt276 14 rfl zo276 zzf12_387 X2 f19 (by decide) (by decide) ⟨by omega, by omega⟩ rfl (by decide) zw12_48 (fun M22 X23 e24 h25 => ?_)
  refine z_xP zt276 15 33 [some (.ref 19), some (.int p1), some (.int p2), some (.int p3)] [.int p2] rfl rfl ?_
  refine z_xZ zt276 16 rfl rfl (fun (h26 : p2.toInt ≠ 0) => ?_) (fun (h26 : p2.toInt = 0) => ?_)
  · skip
    refine z_xP zt276 24 52 [some (.ref 19), some (.int p1), some (.int p2), some (.int p3)] [.int 1, .int p2] rfl rfl ?_
    refine z_xJ zt276 25 rfl rfl (fun (h27 : p2.toInt ≠ 1) => ?_) (fun (h27 : p2.toInt = 1) => ?_)
    · skip
      refine z_xP zt276 33 71 [some (.ref 19), some (.int p1), some (.int p2), some (.int p3)] [.int 2, .int p2] rfl rfl ?_
      refine z_xJ zt276 34 rfl rfl (fun (h28 : p2.toInt ≠ 2) => ?_) (fun (h28 : p2.toInt = 2) => ?_)
      · skip
        refine z_xP zt276 42 90 [some (.ref 19), some (.int p1), some (.int p2), some (.int p3)] [.ref 19, .ref 19] rfl rfl ?_
        refine z_xgX (b := 36) zt276 43 rfl zo276 zzf12_58 X23 f19 (by decide) (by decide) rfl ?_
        refine z_xP zt276 44 94 [some (.ref 19), some (.int p1), some (.int p2), some (.int p3)] [.int p1, .ref 36, .ref 19] rfl rfl ?_
        have f36 : T[36]? = some (.inr (36, 0, 20, 0, 7)) := X23.1.k rfl (by decide)
        refine z_xil zt276 45 rfl X23 f36 (by decide) (by omega) (by omega) (fun (x29 : Int32) h30 (h31 : 0 ≤ x29.toInt) (h32 : x29.toInt ≤ 7) => ?_)
        have h33 := congrArg Int32.toInt (h30.symm.trans ((congrFun (e24.a f36 (by decide)) _).trans ((congrFun (e3.a f36 (by decide)) _).trans hk36)))
        refine z_xP zt276 46 96 [some (.ref 19), some (.int p1), some (.int p2), some (.int p3)] [.int p3, .int x29, .ref 19] rfl rfl ?_
        refine z_xcV (vs := [.ref 19, .int x29, .int p3]) (r := []) (L2 := [some (.ref 19), some (.int x29), some (.int p3), none]) zt276 47 rfl zo276 zzcV12_402 (Or.inl rfl) rfl X23 f19 rfl rfl rfl (Nat.le_of_ble_eq_true rfl) zzm282 (Nat.le_of_ble_eq_true rfl) rfl ?_
        refine z_xP zt282 0 3 [some (.ref 19), some (.int x29), some (.int p3), some (.int 0)] [.int x29] rfl rfl ?_
        by_cases h34 : x29.toInt = 7
        · refine z_xSC zt282 1 (z_sub (k := 7) h34 rfl) 99 rfl rfl ?_
          refine z_xP zt282 33 102 [some (.ref 19), some (.int x29), some (.int p3), some (.int 0)] [.int 80, .ref 19] rfl rfl ?_
          refine z_xcV (vs := [.ref 19, .int 80]) (r := []) (L2 := [some (.ref 19), some (.int 80)]) zt282 34 rfl zo282 zzcV12_384 (Or.inl rfl) rfl X23 f19 rfl rfl rfl (Nat.le_of_ble_eq_true rfl) zzm278 (Nat.le_of_ble_eq_true rfl) rfl ?_
          have q80 : ((80 : Int32)).toInt = 80 := rfl
          have h35 := (e24.f f19 (by decide) h4)
          have q0 : ((0 : Int32)).toInt = 0 := rfl
          have q80 : ((80 : Int32)).toInt = 80 := rfl
          refine zNC278 X23.1 h35 ⟨by omega, by omega⟩ (fun M36 X37 h38 z39 h40 h41 h42 => ?_)
          have X43 := X23.go X37 (z_sb (by decide))
          show z_ev (d + 40) 282 105 [some (.ref 19), some (.int x29), some (.int p3), some (.int 0)] [] M36 _
          have f48 : T[48]? = some (.inr (48, 0, 24, (-2147483648), 2147483647)) := X43.1.k rfl (by decide)
          have n45 : z_Ar M22 48 = z_Ar M0 48 := ((e24.a f48 (by decide)).trans (e3.a f48 (by decide)))
          have h47 : (0 : Int32).toInt.toNat = 0 := by omega
          have n46 : z_Ar M36 48 = z_nrs 0 [80] (z_Ar M0 48) := by rw [h38, n45, h47]; rfl
          refine z_xP zt282 35 108 [some (.ref 19), some (.int x29), some (.int p3), some (.int 0)] [.int 7, .ref 19] rfl rfl ?_
          refine z_xcS (vs := [.int 7]) (r := [.ref 19]) (L2 := [some (.int 7)]) zt282 36 rfl zo282 zzcS12_390 (Or.inl rfl) (Nat.le_of_ble_eq_true rfl) rfl rfl (Nat.le_of_ble_eq_true rfl) zzm279 (Nat.le_of_ble_eq_true rfl) rfl ?_
          refine z_xP zt279 0 2 [some (.int 7)] [.int 2, .int 7] rfl rfl ?_
          refine z_xJ zt279 1 rfl rfl (fun (h48 : (7 : Int) = 2) => absurd h48 (by omega)) (fun (h48 : (7 : Int) ≠ 2) => ?_)
          refine z_xP zt279 2 7 [some (.int 7)] [.int 3, .int 7] rfl rfl ?_
          refine z_xJ zt279 3 rfl rfl (fun (h49 : (7 : Int) ≠ 3) => ?_) (fun (h49 : (7 : Int) = 3) => absurd h49 (by omega))
          refine z_xP zt279 5 17 [some (.int 7)] [.int 6, .int 7] rfl rfl ?_
          refine z_xJ zt279 6 rfl rfl (fun (h50 : (7 : Int) ≠ 6) => ?_) (fun (h50 : (7 : Int) = 6) => absurd h50 (by omega))
          refine z_xP zt279 8 25 [some (.int 7)] [.int 0] rfl rfl ?_
          refine z_xri zt279 9 rfl zzr279 ?_
          show z_ev (d + 40) 282 111 [some (.ref 19), some (.int x29), some (.int p3), some (.int 0)] [.int 0, .ref 19] M36 _
          refine z_xP zt282 37 112 [some (.ref 19), some (.int x29), some (.int p3), some (.int 0)] [.int p3, .int 0, .ref 19] rfl rfl ?_
          refine z_xcV (vs := [.ref 19, .int 0, .int p3]) (r := []) (L2 := [some (.ref 19), some (.int 0), some (.int p3), none]) zt282 38 rfl zo282 zzcV12_402 (Or.inl rfl) rfl X43 f19 rfl rfl rfl (Nat.le_of_ble_eq_true rfl) zzm282 (Nat.le_of_ble_eq_true rfl) rfl ?_
          refine z_xP zt282 0 3 [some (.ref 19), some (.int 0), some (.int p3), some (.int 0)] [.int 0] rfl rfl ?_
          refine z_xSW zt282 1 36 rfl rfl ?_
          refine z_xP zt282 2 38 [some (.ref 19), some (.int 0), some (.int p3), some (.int 0)] [.int 2, .ref 19] rfl rfl ?_
          refine z_xcV (vs := [.ref 19, .int 2]) (r := []) (L2 := [some (.ref 19), some (.int 2)]) zt282 3 rfl zo282 zzcV12_384 (Or.inl rfl) rfl X43 f19 rfl rfl rfl (Nat.le_of_ble_eq_true rfl) zzm278 (Nat.le_of_ble_eq_true rfl) rfl ?_
          have q2 : ((2 : Int32)).toInt = 2 := rfl
          have q2 : ((2 : Int32)).toInt = 2 := rfl
          refine zNC278 X43.1 h40 ⟨by omega, by omega⟩ (fun M51 X52 h53 z54 h55 h56 h57 => ?_)
          have X58 := X43.go X52 (z_sb (by decide))
          show z_ev (d + 39) 282 41 [some (.ref 19), some (.int 0), some (.int p3), some (.int 0)] [] M51 _
          have h61 : (z39 : Int32).toInt.toNat = 1 := by omega
          have n60 : z_Ar M51 48 = z_nrs 0 [80, 2] (z_Ar M0 48) := by rw [h53, n46, h61]; rfl
          refine z_xP zt282 4 43 [some (.ref 19), some (.int 0), some (.int p3), some (.int 0)] [.ref 19, .ref 19] rfl rfl ?_
          refine z_xgX (b := 36) zt282 5 rfl zo282 zzf12_58 X58 f19 (by decide) (by decide) rfl ?_
          refine z_xP zt282 6 47 [some (.ref 19), some (.int 0), some (.int p3), some (.int 0)] [.ref 19, .ref 36, .ref 19] rfl rfl ?_
          have h62 := (X52.2.f f19 (by decide) (X37.2.f f19 (by decide) h25))
          refine z_xgv zt282 7 rfl zo282 zzf12_387 X58 f19 (by decide) h62 ?_
          refine z_xil zt282 8 rfl X58 f36 (by decide) (by omega) (by omega) (fun (x63 : Int32) h64 (h65 : 0 ≤ x63.toInt) (h66 : x63.toInt ≤ 7) => ?_)
          have h67 := congrArg Int32.toInt (h64.symm.trans ((congrFun (X52.2.a f36 (by decide)) _).trans ((congrFun (X37.2.a f36 (by decide)) _).trans ((congrFun (e24.a f36 (by decide)) _).trans ((congrFun (e3.a f36 (by decide)) _).trans hk36)))))
          refine z_xP zt282 9 52 [some (.ref 19), some (.int 0), some (.int p3), some (.int 0)] [.int p3, .int x63, .ref 19] rfl rfl ?_
          refine z_xcV (vs := [.ref 19, .int x63, .int p3]) (r := []) (L2 := [some (.ref 19), some (.int x63), some (.int p3), none]) zt282 10 rfl zo282 zzcV12_396 (Or.inl rfl) rfl X58 f19 rfl rfl rfl (Nat.le_of_ble_eq_true rfl) zzm280 (Nat.le_of_ble_eq_true rfl) rfl ?_
          refine z_xP zt280 0 1 [some (.ref 19), some (.int x63), some (.int p3), none] [.int x63] rfl rfl ?_
          refine z_xSD zt280 1 rfl rfl (by omega) ?_
          refine z_xP zt280 50 146 [some (.ref 19), some (.int x63), some (.int p3), none] [.int x63, .ref 19] rfl rfl ?_
          refine z_xcS (vs := [.int x63]) (r := [.ref 19]) (L2 := [some (.int x63)]) zt280 51 rfl zo280 zzcS12_390 (Or.inl rfl) (Nat.le_of_ble_eq_true rfl) rfl rfl (Nat.le_of_ble_eq_true rfl) zzm279 (Nat.le_of_ble_eq_true rfl) rfl ?_
          refine z_xP zt279 0 2 [some (.int x63)] [.int 2, .int x63] rfl rfl ?_
          refine z_xJ zt279 1 rfl rfl (fun (h68 : x63.toInt = 2) => absurd h68 (by omega)) (fun (h68 : x63.toInt ≠ 2) => ?_)
          refine z_xP zt279 2 7 [some (.int x63)] [.int 3, .int x63] rfl rfl ?_
          refine z_xJ zt279 3 rfl rfl (fun (h69 : x63.toInt ≠ 3) => ?_) (fun (h69 : x63.toInt = 3) => absurd h69 (by omega))
          refine z_xP zt279 5 17 [some (.int x63)] [.int 6, .int x63] rfl rfl ?_
          refine z_xJ zt279 6 rfl rfl (fun (h70 : x63.toInt ≠ 6) => ?_) (fun (h70 : x63.toInt = 6) => absurd h70 (by omega))
          refine z_xP zt279 8 25 [some (.int x63)] [.int 0] rfl rfl ?_
          refine z_xri zt279 9 rfl zzr279 ?_
          show z_ev (d + 38) 280 149 [some (.ref 19), some (.int x63), some (.int p3), none] [.int 0, .ref 19] M51 _
          refine z_xP zt280 52 150 [some (.ref 19), some (.int x63), some (.int p3), none] [.int p3, .int 0, .ref 19] rfl rfl ?_
          refine z_xcV (vs := [.ref 19, .int 0, .int p3]) (r := []) (L2 := [some (.ref 19), some (.int 0), some (.int p3), none]) zt280 53 rfl zo280 zzcV12_396 (Or.inl rfl) rfl X58 f19 rfl rfl rfl (Nat.le_of_ble_eq_true rfl) zzm280 (Nat.le_of_ble_eq_true rfl) rfl ?_
          refine z_xP zt280 0 1 [some (.ref 19), some (.int 0), some (.int p3), none] [.int 0] rfl rfl ?_
          refine z_xSW zt280 1 44 rfl rfl ?_
          refine z_xP zt280 2 47 [some (.ref 19), some (.int 0), some (.int p3), none] [.int 10, .ref 19] rfl rfl ?_
          refine z_xcV (vs := [.ref 19, .int 10]) (r := []) (L2 := [some (.ref 19), some (.int 10)]) zt280 3 rfl zo280 zzcV12_384 (Or.inl rfl) rfl X58 f19 rfl rfl rfl (Nat.le_of_ble_eq_true rfl) zzm278 (Nat.le_of_ble_eq_true rfl) rfl ?_
          have q10 : ((10 : Int32)).toInt = 10 := rfl
          have q10 : ((10 : Int32)).toInt = 10 := rfl
          refine zNC278 X58.1 h55 ⟨by omega, by omega⟩ (fun M71 X72 h73 z74 h75 h76 h77 => ?_)
          have X78 := X58.go X72 (z_sb (by decide))
          show z_ev (d + 37) 280 50 [some (.ref 19), some (.int 0), some (.int p3), none] [] M71 _
          have h81 : (z54 : Int32).toInt.toNat = 2 := by omega
          have n80 : z_Ar M71 48 = z_nrs 0 [80, 2, 10] (z_Ar M0 48) := by rw [h73, n60, h81]; rfl
          refine z_xP zt280 4 52 [some (.ref 19), some (.int 0), some (.int p3), none] [.ref 19, .ref 19] rfl rfl ?_
          refine z_xgX (b := 36) zt280 5 rfl zo280 zzf12_58 X78 f19 (by decide) (by decide) rfl ?_
          refine z_xP zt280 6 56 [some (.ref 19), some (.int 0), some (.int p3), none] [.ref 19, .ref 36, .ref 19] rfl rfl ?_
          have h82 := (X72.2.f f19 (by decide) h62)
          refine z_xgv zt280 7 rfl zo280 zzf12_387 X78 f19 (by decide) h82 ?_
          refine z_xil zt280 8 rfl X78 f36 (by decide) (by omega) (by omega) (fun (x83 : Int32) h84 (h85 : 0 ≤ x83.toInt) (h86 : x83.toInt ≤ 7) => ?_)
          have h87 := congrArg Int32.toInt (h84.symm.trans ((congrFun (X72.2.a f36 (by decide)) _).trans ((congrFun (X52.2.a f36 (by decide)) _).trans ((congrFun (X37.2.a f36 (by decide)) _).trans ((congrFun (e24.a f36 (by decide)) _).trans ((congrFun (e3.a f36 (by decide)) _).trans hk36))))))
          refine z_xP zt280 9 61 [some (.ref 19), some (.int 0), some (.int p3), none] [.int p3, .int x83, .ref 19] rfl rfl ?_
          refine z_xcV (vs := [.ref 19, .int x83, .int p3]) (r := []) (L2 := [some (.ref 19), some (.int x83), some (.int p3)]) zt280 10 rfl zo280 zzcV12_393 (Or.inl rfl) rfl X78 f19 rfl rfl rfl (Nat.le_of_ble_eq_true rfl) zzm277 (Nat.le_of_ble_eq_true rfl) rfl ?_
          refine z_xP zt277 0 1 [some (.ref 19), some (.int x83), some (.int p3)] [.int x83] rfl rfl ?_
          refine z_xSD zt277 1 rfl rfl (by omega) ?_
          refine z_xP zt277 26 86 [some (.ref 19), some (.int x83), some (.int p3)] [.int x83, .ref 19] rfl rfl ?_
          refine z_xcS (vs := [.int x83]) (r := [.ref 19]) (L2 := [some (.int x83)]) zt277 27 rfl zo277 zzcS12_390 (Or.inl rfl) (Nat.le_of_ble_eq_true rfl) rfl rfl (Nat.le_of_ble_eq_true rfl) zzm279 (Nat.le_of_ble_eq_true rfl) rfl ?_
          refine z_xP zt279 0 2 [some (.int x83)] [.int 2, .int x83] rfl rfl ?_
          refine z_xJ zt279 1 rfl rfl (fun (h88 : x83.toInt = 2) => absurd h88 (by omega)) (fun (h88 : x83.toInt ≠ 2) => ?_)
          refine z_xP zt279 2 7 [some (.int x83)] [.int 3, .int x83] rfl rfl ?_
          refine z_xJ zt279 3 rfl rfl (fun (h89 : x83.toInt ≠ 3) => ?_) (fun (h89 : x83.toInt = 3) => absurd h89 (by omega))
          refine z_xP zt279 5 17 [some (.int x83)] [.int 6, .int x83] rfl rfl ?_
          refine z_xJ zt279 6 rfl rfl (fun (h90 : x83.toInt ≠ 6) => ?_) (fun (h90 : x83.toInt = 6) => absurd h90 (by omega))
          refine z_xP zt279 8 25 [some (.int x83)] [.int 0] rfl rfl ?_
          refine z_xri zt279 9 rfl zzr279 ?_
          show z_ev (d + 36) 277 89 [some (.ref 19), some (.int x83), some (.int p3)] [.int 0, .ref 19] M71 _
          refine z_xP zt277 28 90 [some (.ref 19), some (.int x83), some (.int p3)] [.int p3, .int 0, .ref 19] rfl rfl ?_
          refine z_xcV (vs := [.ref 19, .int 0, .int p3]) (r := []) (L2 := [some (.ref 19), some (.int 0), some (.int p3)]) zt277 29 rfl zo277 zzcV12_393 (Or.inl rfl) rfl X78 f19 rfl rfl rfl (Nat.le_of_ble_eq_true rfl) zzm277 (Nat.le_of_ble_eq_true rfl) rfl ?_
          refine z_xP zt277 0 1 [some (.ref 19), some (.int 0), some (.int p3)] [.int 0] rfl rfl ?_
          refine z_xSW zt277 1 36 rfl rfl ?_
          refine z_xP zt277 2 38 [some (.ref 19), some (.int 0), some (.int p3)] [.int 1, .ref 19] rfl rfl ?_
          refine z_xcV (vs := [.ref 19, .int 1]) (r := []) (L2 := [some (.ref 19), some (.int 1)]) zt277 3 rfl zo277 zzcV12_384 (Or.inl rfl) rfl X78 f19 rfl rfl rfl (Nat.le_of_ble_eq_true rfl) zzm278 (Nat.le_of_ble_eq_true rfl) rfl ?_
          have q1 : ((1 : Int32)).toInt = 1 := rfl
          have q1 : ((1 : Int32)).toInt = 1 := rfl
          refine zNC278 X78.1 h75 ⟨by omega, by omega⟩ (fun M91 X92 h93 z94 h95 h96 h97 => ?_)
          have X98 := X78.go X92 (z_sb (by decide))
          show z_ev (d + 35) 277 41 [some (.ref 19), some (.int 0), some (.int p3)] [] M91 _
          have h101 : (z74 : Int32).toInt.toNat = 3 := by omega
          have n100 : z_Ar M91 48 = z_nrs 0 [80, 2, 10, 1] (z_Ar M0 48) := by rw [h93, n80, h101]; rfl
          refine z_xP zt277 4 43 [some (.ref 19), some (.int 0), some (.int p3)] [.ref 19, .int p3] rfl rfl ?_
          have h102 := (X92.2.f f19 (by decide) h82)
          refine z_xgv zt277 5 rfl zo277 zzf12_387 X98 f19 (by decide) h102 ?_
          have h103 := z_b32 p3
          refine z_xI zt277 6 rfl rfl (fun (x104 : Int32) (h105 : x104 = p3 + p1) => ?_) (rfl)
          refine z_xri zt277 7 rfl zzr277 ?_
          show z_ev (d + 36) 277 93 [some (.ref 19), some (.int x83), some (.int p3)] [.int x104] M91 _
          refine z_xri zt277 30 rfl zzr277 ?_
          show z_ev (d + 37) 280 64 [some (.ref 19), some (.int 0), some (.int p3), none] [.int x104] M91 _
          refine z_xP zt280 11 65 [some (.ref 19), some (.int 0), some (.int p3), none] [.int 2, .int x104] rfl rfl ?_
          have h106 := z_b32 x104
          refine z_xI zt280 12 rfl rfl (fun (x107 : Int32) (h108 : x107 = x104 * 2) => ?_) (rfl)
          refine z_xri zt280 13 rfl zzr280 ?_
          show z_ev (d + 38) 280 153 [some (.ref 19), some (.int x63), some (.int p3), none] [.int x107] M91 _
          refine z_xri zt280 54 rfl zzr280 ?_
          show z_ev (d + 39) 282 55 [some (.ref 19), some (.int 0), some (.int p3), some (.int 0)] [.int x107] M91 _
          refine z_xP zt282 11 59 [some (.ref 19), some (.int 0), some (.int p3), some (.int x107)] [.ref 19, .ref 19, .int x107] rfl rfl ?_
          refine z_xgX (b := 36) zt282 12 rfl zo282 zzf12_58 X98 f19 (by decide) (by decide) rfl ?_
          refine z_xP zt282 13 63 [some (.ref 19), some (.int 0), some (.int p3), some (.int x107)] [.ref 19, .ref 36, .ref 19, .int x107] rfl rfl ?_
          refine z_xgv zt282 14 rfl zo282 zzf12_387 X98 f19 (by decide) h102 ?_
          refine z_xil zt282 15 rfl X98 f36 (by decide) (by omega) (by omega) (fun (x109 : Int32) h110 (h111 : 0 ≤ x109.toInt) (h112 : x109.toInt ≤ 7) => ?_)
          have h113 := congrArg Int32.toInt (h110.symm.trans ((congrFun (X92.2.a f36 (by decide)) _).trans ((congrFun (X72.2.a f36 (by decide)) _).trans ((congrFun (X52.2.a f36 (by decide)) _).trans ((congrFun (X37.2.a f36 (by decide)) _).trans ((congrFun (e24.a f36 (by decide)) _).trans ((congrFun (e3.a f36 (by decide)) _).trans hk36)))))))
          refine z_xP zt282 16 68 [some (.ref 19), some (.int 0), some (.int p3), some (.int x107)] [.int 1, .int x109, .ref 19, .int x107] rfl rfl ?_
          refine z_xcV (vs := [.ref 19, .int x109, .int 1]) (r := [.int x107]) (L2 := [some (.ref 19), some (.int x109), some (.int 1)]) zt282 17 rfl zo282 zzcV12_399 (Or.inl rfl) rfl X98 f19 rfl rfl rfl (Nat.le_of_ble_eq_true rfl) zzm281 (Nat.le_of_ble_eq_true rfl) rfl ?_
          refine z_xP zt281 0 1 [some (.ref 19), some (.int x109), some (.int 1)] [.int x109] rfl rfl ?_
          refine z_xSL zt281 1 rfl (by decide) (z_lsd (List.forall_mem_cons.mpr ⟨show (0 : Int) ≠ x109.toInt from by omega, (List.forall_mem_cons.mpr ⟨show (3 : Int) ≠ x109.toInt from by omega, (List.forall_mem_cons.mpr ⟨show (6 : Int) ≠ x109.toInt from by omega, (List.forall_mem_nil _)⟩)⟩)⟩)) rfl ?_
          refine z_xP zt281 25 88 [some (.ref 19), some (.int x109), some (.int 1)] [.int x109, .ref 19] rfl rfl ?_
          refine z_xcS (vs := [.int x109]) (r := [.ref 19]) (L2 := [some (.int x109)]) zt281 26 rfl zo281 zzcS12_390 (Or.inl rfl) (Nat.le_of_ble_eq_true rfl) rfl rfl (Nat.le_of_ble_eq_true rfl) zzm279 (Nat.le_of_ble_eq_true rfl) rfl ?_
          refine z_xP zt279 0 2 [some (.int x109)] [.int 2, .int x109] rfl rfl ?_
          refine z_xJ zt279 1 rfl rfl (fun (h114 : x109.toInt = 2) => absurd h114 (by omega)) (fun (h114 : x109.toInt ≠ 2) => ?_)
          refine z_xP zt279 2 7 [some (.int x109)] [.int 3, .int x109] rfl rfl ?_
          refine z_xJ zt279 3 rfl rfl (fun (h115 : x109.toInt ≠ 3) => ?_) (fun (h115 : x109.toInt = 3) => absurd h115 (by omega))
          refine z_xP zt279 5 17 [some (.int x109)] [.int 6, .int x109] rfl rfl ?_
          refine z_xJ zt279 6 rfl rfl (fun (h116 : x109.toInt ≠ 6) => ?_) (fun (h116 : x109.toInt = 6) => absurd h116 (by omega))
          refine z_xP zt279 8 25 [some (.int x109)] [.int 0] rfl rfl ?_
          refine z_xri zt279 9 rfl zzr279 ?_
          show z_ev (d + 38) 281 91 [some (.ref 19), some (.int x109), some (.int 1)] [.int 0, .ref 19] M91 _
          refine z_xP zt281 27 92 [some (.ref 19), some (.int x109), some (.int 1)] [.int 1, .int 0, .ref 19] rfl rfl ?_
          refine z_xcV (vs := [.ref 19, .int 0, .int 1]) (r := []) (L2 := [some (.ref 19), some (.int 0), some (.int 1)]) zt281 28 rfl zo281 zzcV12_399 (Or.inl rfl) rfl X98 f19 rfl rfl rfl (Nat.le_of_ble_eq_true rfl) zzm281 (Nat.le_of_ble_eq_true rfl) rfl ?_
          refine z_xP zt281 0 1 [some (.ref 19), some (.int 0), some (.int 1)] [.int 0] rfl rfl ?_
          refine z_xSW zt281 1 36 rfl rfl ?_
          refine z_xP zt281 2 39 [some (.ref 19), some (.int 0), some (.int 1)] [.int 11, .ref 19] rfl rfl ?_
          refine z_xcV (vs := [.ref 19, .int 11]) (r := []) (L2 := [some (.ref 19), some (.int 11)]) zt281 3 rfl zo281 zzcV12_384 (Or.inl rfl) rfl X98 f19 rfl rfl rfl (Nat.le_of_ble_eq_true rfl) zzm278 (Nat.le_of_ble_eq_true rfl) rfl ?_
          have q11 : ((11 : Int32)).toInt = 11 := rfl
          have q11 : ((11 : Int32)).toInt = 11 := rfl
          refine zNC278 X98.1 h95 ⟨by omega, by omega⟩ (fun M117 X118 h119 z120 h121 h122 h123 => ?_)
          have X124 := X98.go X118 (z_sb (by decide))
          show z_ev (d + 37) 281 42 [some (.ref 19), some (.int 0), some (.int 1)] [] M117 _
          have h127 : (z94 : Int32).toInt.toNat = 4 := by omega
          have n126 : z_Ar M117 48 = z_nrs 0 [80, 2, 10, 1, 11] (z_Ar M0 48) := by rw [h119, n100, h127]; rfl
          refine z_xP zt281 4 44 [some (.ref 19), some (.int 0), some (.int 1)] [.ref 19, .int 1] rfl rfl ?_
          have h128 := (X118.2.f f19 (by decide) h102)
          refine z_xgv zt281 5 rfl zo281 zzf12_387 X124 f19 (by decide) h128 ?_
          refine z_xI zt281 6 rfl rfl (fun (x129 : Int32) (h130 : x129 = 1 ^^^ p1) => ?_) (rfl)
          refine z_xri zt281 7 rfl zzr281 ?_
          show z_ev (d + 38) 281 95 [some (.ref 19), some (.int x109), some (.int 1)] [.int x129] M117 _
          refine z_xri zt281 29 rfl zzr281 ?_
          show z_ev (d + 39) 282 71 [some (.ref 19), some (.int 0), some (.int p3), some (.int x107)] [.int x129, .int x107] M117 _
          have h131 := z_b32 x107
          have h132 := z_b32 x129
          refine z_xI zt282 18 rfl rfl (fun (x133 : Int32) (h134 : x133 = x107 - x129) => ?_) (rfl)
          refine z_xri zt282 19 rfl zzr282 ?_
          show z_ev (d + 40) 282 115 [some (.ref 19), some (.int x29), some (.int p3), some (.int 0)] [.int x133] M117 _
          refine z_xP zt282 39 116 [some (.ref 19), some (.int x29), some (.int p3), some (.int 0)] [.int 2, .int x133] rfl rfl ?_
          have h135 := z_b32 x133
          refine z_xI zt282 40 rfl rfl (fun (x136 : Int32) (h137 : x136 = x133 * 2) => ?_) (rfl)
          refine z_xP zt282 41 122 [some (.ref 19), some (.int x29), some (.int p3), some (.int x136)] [.int 7, .ref 19, .int x136] rfl rfl ?_
          refine z_xcS (vs := [.int 7]) (r := [.ref 19, .int x136]) (L2 := [some (.int 7)]) zt282 42 rfl zo282 zzcS12_390 (Or.inl rfl) (Nat.le_of_ble_eq_true rfl) rfl rfl (Nat.le_of_ble_eq_true rfl) zzm279 (Nat.le_of_ble_eq_true rfl) rfl ?_
          refine z_xP zt279 0 2 [some (.int 7)] [.int 2, .int 7] rfl rfl ?_
          refine z_xJ zt279 1 rfl rfl (fun (h138 : (7 : Int) = 2) => absurd h138 (by omega)) (fun (h138 : (7 : Int) ≠ 2) => ?_)
          refine z_xP zt279 2 7 [some (.int 7)] [.int 3, .int 7] rfl rfl ?_
          refine z_xJ zt279 3 rfl rfl (fun (h139 : (7 : Int) ≠ 3) => ?_) (fun (h139 : (7 : Int) = 3) => absurd h139 (by omega))
          refine z_xP zt279 5 17 [some (.int 7)] [.int 6, .int 7] rfl rfl ?_
          refine z_xJ zt279 6 rfl rfl (fun (h140 : (7 : Int) ≠ 6) => ?_) (fun (h140 : (7 : Int) = 6) => absurd h140 (by omega))
          refine z_xP zt279 8 25 [some (.int 7)] [.int 0] rfl rfl ?_
          refine z_xri zt279 9 rfl zzr279 ?_
          show z_ev (d + 40) 282 125 [some (.ref 19), some (.int x29), some (.int p3), some (.int x136)] [.int 0, .ref 19, .int x136] M117 _
          refine z_xP zt282 43 126 [some (.ref 19), some (.int x29), some (.int p3), some (.int x136)] [.int p3, .int 0, .ref 19, .int x136] rfl rfl ?_
          refine z_xcV (vs := [.ref 19, .int 0, .int p3]) (r := [.int x136]) (L2 := [some (.ref 19), some (.int 0), some (.int p3)]) zt282 44 rfl zo282 zzcV12_399 (Or.inl rfl) rfl X124 f19 rfl rfl rfl (Nat.le_of_ble_eq_true rfl) zzm281 (Nat.le_of_ble_eq_true rfl) rfl ?_
          refine z_xP zt281 0 1 [some (.ref 19), some (.int 0), some (.int p3)] [.int 0] rfl rfl ?_
          refine z_xSW zt281 1 36 rfl rfl ?_
          refine z_xP zt281 2 39 [some (.ref 19), some (.int 0), some (.int p3)] [.int 11, .ref 19] rfl rfl ?_
          refine z_xcV (vs := [.ref 19, .int 11]) (r := []) (L2 := [some (.ref 19), some (.int 11)]) zt281 3 rfl zo281 zzcV12_384 (Or.inl rfl) rfl X124 f19 rfl rfl rfl (Nat.le_of_ble_eq_true rfl) zzm278 (Nat.le_of_ble_eq_true rfl) rfl ?_
          have q11 : ((11 : Int32)).toInt = 11 := rfl
          have q11 : ((11 : Int32)).toInt = 11 := rfl
          refine zNC278 X124.1 h121 ⟨by omega, by omega⟩ (fun M141 X142 h143 z144 h145 h146 h147 => ?_)
          have X148 := X124.go X142 (z_sb (by decide))
          show z_ev (d + 39) 281 42 [some (.ref 19), some (.int 0), some (.int p3)] [] M141 _
          have h151 : (z120 : Int32).toInt.toNat = 5 := by omega
          have n150 : z_Ar M141 48 = z_nrs 0 [80, 2, 10, 1, 11, 11] (z_Ar M0 48) := by rw [h143, n126, h151]; rfl
          refine z_xP zt281 4 44 [some (.ref 19), some (.int 0), some (.int p3)] [.ref 19, .int p3] rfl rfl ?_
          have h152 := (X142.2.f f19 (by decide) h128)
          refine z_xgv zt281 5 rfl zo281 zzf12_387 X148 f19 (by decide) h152 ?_
          refine z_xI zt281 6 rfl rfl (fun (x153 : Int32) (h154 : x153 = p3 ^^^ p1) => ?_) (rfl)
          refine z_xri zt281 7 rfl zzr281 ?_
          show z_ev (d + 40) 282 129 [some (.ref 19), some (.int x29), some (.int p3), some (.int x136)] [.int x153, .int x136] M141 _
          have h155 := z_b32 x136
          have h156 := z_b32 x153
          refine z_xI zt282 45 rfl rfl (fun (x157 : Int32) (h158 : x157 = x136 - x153) => ?_) (rfl)
          refine z_xri zt282 46 rfl zzr282 ?_
          show z_ev (d + 41) 276 99 [some (.ref 19), some (.int p1), some (.int p2), some (.int p3)] [.int x157] M141 _
          exact z_xri zt276 48 rfl zzr276 (kk x157 M141 X148 (fun hq => by exfalso; omega) (fun hq => by exfalso; omega) (fun hq => by exfalso; omega) (fun _ => ⟨(by rw [h158, h154, h137, h134, h130, h108, h105]), n150, _, h145, by omega⟩) (fun hq => by exfalso; omega))
        exfalso; omega
      refine z_xP zt276 35 76 [some (.ref 19), some (.int p1), some (.int p2), some (.int p3)] [.ref 19, .ref 19] rfl rfl ?_
      refine z_xgX (b := 36) zt276 36 rfl zo276 zzf12_58 X23 f19 (by decide) (by decide) rfl ?_
      refine z_xP zt276 37 80 [some (.ref 19), some (.int p1), some (.int p2), some (.int p3)] [.int p1, .ref 36, .ref 19] rfl rfl ?_
      have f36 : T[36]? = some (.inr (36, 0, 20, 0, 7)) := X23.1.k rfl (by decide)
      refine z_xil zt276 38 rfl X23 f36 (by decide) (by omega) (by omega) (fun (x159 : Int32) h160 (h161 : 0 ≤ x159.toInt) (h162 : x159.toInt ≤ 7) => ?_)
      have h163 := congrArg Int32.toInt (h160.symm.trans ((congrFun (e24.a f36 (by decide)) _).trans ((congrFun (e3.a f36 (by decide)) _).trans hk36)))
      refine z_xP zt276 39 82 [some (.ref 19), some (.int p1), some (.int p2), some (.int p3)] [.int p3, .int x159, .ref 19] rfl rfl ?_
      refine z_xcV (vs := [.ref 19, .int x159, .int p3]) (r := []) (L2 := [some (.ref 19), some (.int x159), some (.int p3)]) zt276 40 rfl zo276 zzcV12_399 (Or.inl rfl) rfl X23 f19 rfl rfl rfl (Nat.le_of_ble_eq_true rfl) zzm281 (Nat.le_of_ble_eq_true rfl) rfl ?_
      refine z_xP zt281 0 1 [some (.ref 19), some (.int x159), some (.int p3)] [.int x159] rfl rfl ?_
      refine z_xSL zt281 1 rfl (by decide) (z_lsd (List.forall_mem_cons.mpr ⟨show (0 : Int) ≠ x159.toInt from by omega, (List.forall_mem_cons.mpr ⟨show (3 : Int) ≠ x159.toInt from by omega, (List.forall_mem_cons.mpr ⟨show (6 : Int) ≠ x159.toInt from by omega, (List.forall_mem_nil _)⟩)⟩)⟩)) rfl ?_
      refine z_xP zt281 25 88 [some (.ref 19), some (.int x159), some (.int p3)] [.int x159, .ref 19] rfl rfl ?_
      refine z_xcS (vs := [.int x159]) (r := [.ref 19]) (L2 := [some (.int x159)]) zt281 26 rfl zo281 zzcS12_390 (Or.inl rfl) (Nat.le_of_ble_eq_true rfl) rfl rfl (Nat.le_of_ble_eq_true rfl) zzm279 (Nat.le_of_ble_eq_true rfl) rfl ?_
      refine z_xP zt279 0 2 [some (.int x159)] [.int 2, .int x159] rfl rfl ?_
      refine z_xJ zt279 1 rfl rfl (fun (h164 : x159.toInt = 2) => absurd h164 (by omega)) (fun (h164 : x159.toInt ≠ 2) => ?_)
      refine z_xP zt279 2 7 [some (.int x159)] [.int 3, .int x159] rfl rfl ?_
      refine z_xJ zt279 3 rfl rfl (fun (h165 : x159.toInt ≠ 3) => ?_) (fun (h165 : x159.toInt = 3) => absurd h165 (by omega))
      refine z_xP zt279 5 17 [some (.int x159)] [.int 6, .int x159] rfl rfl ?_
      refine z_xJ zt279 6 rfl rfl (fun (h166 : x159.toInt ≠ 6) => ?_) (fun (h166 : x159.toInt = 6) => absurd h166 (by omega))
      refine z_xP zt279 8 25 [some (.int x159)] [.int 0] rfl rfl ?_
      refine z_xri zt279 9 rfl zzr279 ?_
      show z_ev (d + 40) 281 91 [some (.ref 19), some (.int x159), some (.int p3)] [.int 0, .ref 19] M22 _
      refine z_xP zt281 27 92 [some (.ref 19), some (.int x159), some (.int p3)] [.int p3, .int 0, .ref 19] rfl rfl ?_
      refine z_xcV (vs := [.ref 19, .int 0, .int p3]) (r := []) (L2 := [some (.ref 19), some (.int 0), some (.int p3)]) zt281 28 rfl zo281 zzcV12_399 (Or.inl rfl) rfl X23 f19 rfl rfl rfl (Nat.le_of_ble_eq_true rfl) zzm281 (Nat.le_of_ble_eq_true rfl) rfl ?_
      refine z_xP zt281 0 1 [some (.ref 19), some (.int 0), some (.int p3)] [.int 0] rfl rfl ?_
      refine z_xSW zt281 1 36 rfl rfl ?_
      refine z_xP zt281 2 39 [some (.ref 19), some (.int 0), some (.int p3)] [.int 11, .ref 19] rfl rfl ?_
      refine z_xcV (vs := [.ref 19, .int 11]) (r := []) (L2 := [some (.ref 19), some (.int 11)]) zt281 3 rfl zo281 zzcV12_384 (Or.inl rfl) rfl X23 f19 rfl rfl rfl (Nat.le_of_ble_eq_true rfl) zzm278 (Nat.le_of_ble_eq_true rfl) rfl ?_
      have q11 : ((11 : Int32)).toInt = 11 := rfl
      have h167 := (e24.f f19 (by decide) h4)
      have q0 : ((0 : Int32)).toInt = 0 := rfl
      have q11 : ((11 : Int32)).toInt = 11 := rfl
      refine zNC278 X23.1 h167 ⟨by omega, by omega⟩ (fun M168 X169 h170 z171 h172 h173 h174 => ?_)
      have X175 := X23.go X169 (z_sb (by decide))
      show z_ev (d + 39) 281 42 [some (.ref 19), some (.int 0), some (.int p3)] [] M168 _
      have f48 : T[48]? = some (.inr (48, 0, 24, (-2147483648), 2147483647)) := X175.1.k rfl (by decide)
      have n177 : z_Ar M22 48 = z_Ar M0 48 := ((e24.a f48 (by decide)).trans (e3.a f48 (by decide)))
      have h179 : (0 : Int32).toInt.toNat = 0 := by omega
      have n178 : z_Ar M168 48 = z_nrs 0 [11] (z_Ar M0 48) := by rw [h170, n177, h179]; rfl
      refine z_xP zt281 4 44 [some (.ref 19), some (.int 0), some (.int p3)] [.ref 19, .int p3] rfl rfl ?_
      have h180 := (X169.2.f f19 (by decide) h25)
      refine z_xgv zt281 5 rfl zo281 zzf12_387 X175 f19 (by decide) h180 ?_
      refine z_xI zt281 6 rfl rfl (fun (x181 : Int32) (h182 : x181 = p3 ^^^ p1) => ?_) (rfl)
      refine z_xri zt281 7 rfl zzr281 ?_
      show z_ev (d + 40) 281 95 [some (.ref 19), some (.int x159), some (.int p3)] [.int x181] M168 _
      refine z_xri zt281 29 rfl zzr281 ?_
      show z_ev (d + 41) 276 85 [some (.ref 19), some (.int p1), some (.int p2), some (.int p3)] [.int x181] M168 _
      refine z_xP zt276 41 99 [some (.ref 19), some (.int p1), some (.int p2), some (.int p3)] [.int x181] rfl rfl ?_
      exact z_xri zt276 48 rfl zzr276 (kk x181 M168 X175 (fun hq => by exfalso; omega) (fun hq => by exfalso; omega) (fun _ => ⟨(by rw [h182]), n178, _, h172, by omega⟩) (fun hq => by exfalso; omega) (fun hq => by exfalso; omega))
    refine z_xP zt276 26 57 [some (.ref 19), some (.int p1), some (.int p2), some (.int p3)] [.ref 19, .ref 19] rfl rfl ?_
    refine z_xgX (b := 36) zt276 27 rfl zo276 zzf12_58 X23 f19 (by decide) (by decide) rfl ?_
    refine z_xP zt276 28 61 [some (.ref 19), some (.int p1), some (.int p2), some (.int p3)] [.int p1, .ref 36, .ref 19] rfl rfl ?_
    have f36 : T[36]? = some (.inr (36, 0, 20, 0, 7)) := X23.1.k rfl (by decide)
    refine z_xil zt276 29 rfl X23 f36 (by decide) (by omega) (by omega) (fun (x183 : Int32) h184 (h185 : 0 ≤ x183.toInt) (h186 : x183.toInt ≤ 7) => ?_)
    have h187 := congrArg Int32.toInt (h184.symm.trans ((congrFun (e24.a f36 (by decide)) _).trans ((congrFun (e3.a f36 (by decide)) _).trans hk36)))
    refine z_xP zt276 30 63 [some (.ref 19), some (.int p1), some (.int p2), some (.int p3)] [.int p3, .int x183, .ref 19] rfl rfl ?_
    refine z_xcV (vs := [.ref 19, .int x183, .int p3]) (r := []) (L2 := [some (.ref 19), some (.int x183), some (.int p3), none]) zt276 31 rfl zo276 zzcV12_396 (Or.inl rfl) rfl X23 f19 rfl rfl rfl (Nat.le_of_ble_eq_true rfl) zzm280 (Nat.le_of_ble_eq_true rfl) rfl ?_
    refine z_xP zt280 0 1 [some (.ref 19), some (.int x183), some (.int p3), none] [.int x183] rfl rfl ?_
    refine z_xSD zt280 1 rfl rfl (by omega) ?_
    refine z_xP zt280 50 146 [some (.ref 19), some (.int x183), some (.int p3), none] [.int x183, .ref 19] rfl rfl ?_
    refine z_xcS (vs := [.int x183]) (r := [.ref 19]) (L2 := [some (.int x183)]) zt280 51 rfl zo280 zzcS12_390 (Or.inl rfl) (Nat.le_of_ble_eq_true rfl) rfl rfl (Nat.le_of_ble_eq_true rfl) zzm279 (Nat.le_of_ble_eq_true rfl) rfl ?_
    refine z_xP zt279 0 2 [some (.int x183)] [.int 2, .int x183] rfl rfl ?_
    refine z_xJ zt279 1 rfl rfl (fun (h188 : x183.toInt = 2) => absurd h188 (by omega)) (fun (h188 : x183.toInt ≠ 2) => ?_)
    refine z_xP zt279 2 7 [some (.int x183)] [.int 3, .int x183] rfl rfl ?_
    refine z_xJ zt279 3 rfl rfl (fun (h189 : x183.toInt ≠ 3) => ?_) (fun (h189 : x183.toInt = 3) => absurd h189 (by omega))
    refine z_xP zt279 5 17 [some (.int x183)] [.int 6, .int x183] rfl rfl ?_
    refine z_xJ zt279 6 rfl rfl (fun (h190 : x183.toInt ≠ 6) => ?_) (fun (h190 : x183.toInt = 6) => absurd h190 (by omega))
    refine z_xP zt279 8 25 [some (.int x183)] [.int 0] rfl rfl ?_
    refine z_xri zt279 9 rfl zzr279 ?_
    show z_ev (d + 40) 280 149 [some (.ref 19), some (.int x183), some (.int p3), none] [.int 0, .ref 19] M22 _
    refine z_xP zt280 52 150 [some (.ref 19), some (.int x183), some (.int p3), none] [.int p3, .int 0, .ref 19] rfl rfl ?_
    refine z_xcV (vs := [.ref 19, .int 0, .int p3]) (r := []) (L2 := [some (.ref 19), some (.int 0), some (.int p3), none]) zt280 53 rfl zo280 zzcV12_396 (Or.inl rfl) rfl X23 f19 rfl rfl rfl (Nat.le_of_ble_eq_true rfl) zzm280 (Nat.le_of_ble_eq_true rfl) rfl ?_
    refine z_xP zt280 0 1 [some (.ref 19), some (.int 0), some (.int p3), none] [.int 0] rfl rfl ?_
    refine z_xSW zt280 1 44 rfl rfl ?_
    refine z_xP zt280 2 47 [some (.ref 19), some (.int 0), some (.int p3), none] [.int 10, .ref 19] rfl rfl ?_
    refine z_xcV (vs := [.ref 19, .int 10]) (r := []) (L2 := [some (.ref 19), some (.int 10)]) zt280 3 rfl zo280 zzcV12_384 (Or.inl rfl) rfl X23 f19 rfl rfl rfl (Nat.le_of_ble_eq_true rfl) zzm278 (Nat.le_of_ble_eq_true rfl) rfl ?_
    have q10 : ((10 : Int32)).toInt = 10 := rfl
    have h191 := (e24.f f19 (by decide) h4)
    have q0 : ((0 : Int32)).toInt = 0 := rfl
    have q10 : ((10 : Int32)).toInt = 10 := rfl
    refine zNC278 X23.1 h191 ⟨by omega, by omega⟩ (fun M192 X193 h194 z195 h196 h197 h198 => ?_)
    have X199 := X23.go X193 (z_sb (by decide))
    show z_ev (d + 39) 280 50 [some (.ref 19), some (.int 0), some (.int p3), none] [] M192 _
    have f48 : T[48]? = some (.inr (48, 0, 24, (-2147483648), 2147483647)) := X199.1.k rfl (by decide)
    have n201 : z_Ar M22 48 = z_Ar M0 48 := ((e24.a f48 (by decide)).trans (e3.a f48 (by decide)))
    have h203 : (0 : Int32).toInt.toNat = 0 := by omega
    have n202 : z_Ar M192 48 = z_nrs 0 [10] (z_Ar M0 48) := by rw [h194, n201, h203]; rfl
    refine z_xP zt280 4 52 [some (.ref 19), some (.int 0), some (.int p3), none] [.ref 19, .ref 19] rfl rfl ?_
    refine z_xgX (b := 36) zt280 5 rfl zo280 zzf12_58 X199 f19 (by decide) (by decide) rfl ?_
    refine z_xP zt280 6 56 [some (.ref 19), some (.int 0), some (.int p3), none] [.ref 19, .ref 36, .ref 19] rfl rfl ?_
    have h204 := (X193.2.f f19 (by decide) h25)
    refine z_xgv zt280 7 rfl zo280 zzf12_387 X199 f19 (by decide) h204 ?_
    refine z_xil zt280 8 rfl X199 f36 (by decide) (by omega) (by omega) (fun (x205 : Int32) h206 (h207 : 0 ≤ x205.toInt) (h208 : x205.toInt ≤ 7) => ?_)
    have h209 := congrArg Int32.toInt (h206.symm.trans ((congrFun (X193.2.a f36 (by decide)) _).trans ((congrFun (e24.a f36 (by decide)) _).trans ((congrFun (e3.a f36 (by decide)) _).trans hk36))))
    refine z_xP zt280 9 61 [some (.ref 19), some (.int 0), some (.int p3), none] [.int p3, .int x205, .ref 19] rfl rfl ?_
    refine z_xcV (vs := [.ref 19, .int x205, .int p3]) (r := []) (L2 := [some (.ref 19), some (.int x205), some (.int p3)]) zt280 10 rfl zo280 zzcV12_393 (Or.inl rfl) rfl X199 f19 rfl rfl rfl (Nat.le_of_ble_eq_true rfl) zzm277 (Nat.le_of_ble_eq_true rfl) rfl ?_
    refine z_xP zt277 0 1 [some (.ref 19), some (.int x205), some (.int p3)] [.int x205] rfl rfl ?_
    refine z_xSD zt277 1 rfl rfl (by omega) ?_
    refine z_xP zt277 26 86 [some (.ref 19), some (.int x205), some (.int p3)] [.int x205, .ref 19] rfl rfl ?_
    refine z_xcS (vs := [.int x205]) (r := [.ref 19]) (L2 := [some (.int x205)]) zt277 27 rfl zo277 zzcS12_390 (Or.inl rfl) (Nat.le_of_ble_eq_true rfl) rfl rfl (Nat.le_of_ble_eq_true rfl) zzm279 (Nat.le_of_ble_eq_true rfl) rfl ?_
    refine z_xP zt279 0 2 [some (.int x205)] [.int 2, .int x205] rfl rfl ?_
    refine z_xJ zt279 1 rfl rfl (fun (h210 : x205.toInt = 2) => absurd h210 (by omega)) (fun (h210 : x205.toInt ≠ 2) => ?_)
    refine z_xP zt279 2 7 [some (.int x205)] [.int 3, .int x205] rfl rfl ?_
    refine z_xJ zt279 3 rfl rfl (fun (h211 : x205.toInt ≠ 3) => ?_) (fun (h211 : x205.toInt = 3) => absurd h211 (by omega))
    refine z_xP zt279 5 17 [some (.int x205)] [.int 6, .int x205] rfl rfl ?_
    refine z_xJ zt279 6 rfl rfl (fun (h212 : x205.toInt ≠ 6) => ?_) (fun (h212 : x205.toInt = 6) => absurd h212 (by omega))
    refine z_xP zt279 8 25 [some (.int x205)] [.int 0] rfl rfl ?_
    refine z_xri zt279 9 rfl zzr279 ?_
    show z_ev (d + 38) 277 89 [some (.ref 19), some (.int x205), some (.int p3)] [.int 0, .ref 19] M192 _
    refine z_xP zt277 28 90 [some (.ref 19), some (.int x205), some (.int p3)] [.int p3, .int 0, .ref 19] rfl rfl ?_
    refine z_xcV (vs := [.ref 19, .int 0, .int p3]) (r := []) (L2 := [some (.ref 19), some (.int 0), some (.int p3)]) zt277 29 rfl zo277 zzcV12_393 (Or.inl rfl) rfl X199 f19 rfl rfl rfl (Nat.le_of_ble_eq_true rfl) zzm277 (Nat.le_of_ble_eq_true rfl) rfl ?_
    refine z_xP zt277 0 1 [some (.ref 19), some (.int 0), some (.int p3)] [.int 0] rfl rfl ?_
    refine z_xSW zt277 1 36 rfl rfl ?_
    refine z_xP zt277 2 38 [some (.ref 19), some (.int 0), some (.int p3)] [.int 1, .ref 19] rfl rfl ?_
    refine z_xcV (vs := [.ref 19, .int 1]) (r := []) (L2 := [some (.ref 19), some (.int 1)]) zt277 3 rfl zo277 zzcV12_384 (Or.inl rfl) rfl X199 f19 rfl rfl rfl (Nat.le_of_ble_eq_true rfl) zzm278 (Nat.le_of_ble_eq_true rfl) rfl ?_
    have q1 : ((1 : Int32)).toInt = 1 := rfl
    have q1 : ((1 : Int32)).toInt = 1 := rfl
    refine zNC278 X199.1 h196 ⟨by omega, by omega⟩ (fun M213 X214 h215 z216 h217 h218 h219 => ?_)
    have X220 := X199.go X214 (z_sb (by decide))
    show z_ev (d + 37) 277 41 [some (.ref 19), some (.int 0), some (.int p3)] [] M213 _
    have h223 : (z195 : Int32).toInt.toNat = 1 := by omega
    have n222 : z_Ar M213 48 = z_nrs 0 [10, 1] (z_Ar M0 48) := by rw [h215, n202, h223]; rfl
    refine z_xP zt277 4 43 [some (.ref 19), some (.int 0), some (.int p3)] [.ref 19, .int p3] rfl rfl ?_
    have h224 := (X214.2.f f19 (by decide) h204)
    refine z_xgv zt277 5 rfl zo277 zzf12_387 X220 f19 (by decide) h224 ?_
    have h225 := z_b32 p3
    refine z_xI zt277 6 rfl rfl (fun (x226 : Int32) (h227 : x226 = p3 + p1) => ?_) (rfl)
    refine z_xri zt277 7 rfl zzr277 ?_
    show z_ev (d + 38) 277 93 [some (.ref 19), some (.int x205), some (.int p3)] [.int x226] M213 _
    refine z_xri zt277 30 rfl zzr277 ?_
    show z_ev (d + 39) 280 64 [some (.ref 19), some (.int 0), some (.int p3), none] [.int x226] M213 _
    refine z_xP zt280 11 65 [some (.ref 19), some (.int 0), some (.int p3), none] [.int 2, .int x226] rfl rfl ?_
    have h228 := z_b32 x226
    refine z_xI zt280 12 rfl rfl (fun (x229 : Int32) (h230 : x229 = x226 * 2) => ?_) (rfl)
    refine z_xri zt280 13 rfl zzr280 ?_
    show z_ev (d + 40) 280 153 [some (.ref 19), some (.int x183), some (.int p3), none] [.int x229] M213 _
    refine z_xri zt280 54 rfl zzr280 ?_
    show z_ev (d + 41) 276 66 [some (.ref 19), some (.int p1), some (.int p2), some (.int p3)] [.int x229] M213 _
    refine z_xP zt276 32 99 [some (.ref 19), some (.int p1), some (.int p2), some (.int p3)] [.int x229] rfl rfl ?_
    exact z_xri zt276 48 rfl zzr276 (kk x229 M213 X220 (fun hq => by exfalso; omega) (fun _ => ⟨(by rw [h230, h227]), n222, _, h217, by omega⟩) (fun hq => by exfalso; omega) (fun hq => by exfalso; omega) (fun hq => by exfalso; omega))
  refine z_xP zt276 17 38 [some (.ref 19), some (.int p1), some (.int p2), some (.int p3)] [.ref 19, .ref 19] rfl rfl ?_
  refine z_xgX (b := 36) zt276 18 rfl zo276 zzf12_58 X23 f19 (by decide) (by decide) rfl ?_
  refine z_xP zt276 19 42 [some (.ref 19), some (.int p1), some (.int p2), some (.int p3)] [.int p1, .ref 36, .ref 19] rfl rfl ?_
  have f36 : T[36]? = some (.inr (36, 0, 20, 0, 7)) := X23.1.k rfl (by decide)
  refine z_xil zt276 20 rfl X23 f36 (by decide) (by omega) (by omega) (fun (x231 : Int32) h232 (h233 : 0 ≤ x231.toInt) (h234 : x231.toInt ≤ 7) => ?_)
  have h235 := congrArg Int32.toInt (h232.symm.trans ((congrFun (e24.a f36 (by decide)) _).trans ((congrFun (e3.a f36 (by decide)) _).trans hk36)))
  refine z_xP zt276 21 44 [some (.ref 19), some (.int p1), some (.int p2), some (.int p3)] [.int p3, .int x231, .ref 19] rfl rfl ?_
  refine z_xcV (vs := [.ref 19, .int x231, .int p3]) (r := []) (L2 := [some (.ref 19), some (.int x231), some (.int p3)]) zt276 22 rfl zo276 zzcV12_393 (Or.inl rfl) rfl X23 f19 rfl rfl rfl (Nat.le_of_ble_eq_true rfl) zzm277 (Nat.le_of_ble_eq_true rfl) rfl ?_
  refine z_xP zt277 0 1 [some (.ref 19), some (.int x231), some (.int p3)] [.int x231] rfl rfl ?_
  refine z_xSD zt277 1 rfl rfl (by omega) ?_
  refine z_xP zt277 26 86 [some (.ref 19), some (.int x231), some (.int p3)] [.int x231, .ref 19] rfl rfl ?_
  refine z_xcS (vs := [.int x231]) (r := [.ref 19]) (L2 := [some (.int x231)]) zt277 27 rfl zo277 zzcS12_390 (Or.inl rfl) (Nat.le_of_ble_eq_true rfl) rfl rfl (Nat.le_of_ble_eq_true rfl) zzm279 (Nat.le_of_ble_eq_true rfl) rfl ?_
  refine z_xP zt279 0 2 [some (.int x231)] [.int 2, .int x231] rfl rfl ?_
  refine z_xJ zt279 1 rfl rfl (fun (h236 : x231.toInt = 2) => absurd h236 (by omega)) (fun (h236 : x231.toInt ≠ 2) => ?_)
  refine z_xP zt279 2 7 [some (.int x231)] [.int 3, .int x231] rfl rfl ?_
  refine z_xJ zt279 3 rfl rfl (fun (h237 : x231.toInt ≠ 3) => ?_) (fun (h237 : x231.toInt = 3) => absurd h237 (by omega))
  refine z_xP zt279 5 17 [some (.int x231)] [.int 6, .int x231] rfl rfl ?_
  refine z_xJ zt279 6 rfl rfl (fun (h238 : x231.toInt ≠ 6) => ?_) (fun (h238 : x231.toInt = 6) => absurd h238 (by omega))
  refine z_xP zt279 8 25 [some (.int x231)] [.int 0] rfl rfl ?_
  refine z_xri zt279 9 rfl zzr279 ?_
  show z_ev (d + 40) 277 89 [some (.ref 19), some (.int x231), some (.int p3)] [.int 0, .ref 19] M22 _
  refine z_xP zt277 28 90 [some (.ref 19), some (.int x231), some (.int p3)] [.int p3, .int 0, .ref 19] rfl rfl ?_
  refine z_xcV (vs := [.ref 19, .int 0, .int p3]) (r := []) (L2 := [some (.ref 19), some (.int 0), some (.int p3)]) zt277 29 rfl zo277 zzcV12_393 (Or.inl rfl) rfl X23 f19 rfl rfl rfl (Nat.le_of_ble_eq_true rfl) zzm277 (Nat.le_of_ble_eq_true rfl) rfl ?_
  refine z_xP zt277 0 1 [some (.ref 19), some (.int 0), some (.int p3)] [.int 0] rfl rfl ?_
  refine z_xSW zt277 1 36 rfl rfl ?_
  refine z_xP zt277 2 38 [some (.ref 19), some (.int 0), some (.int p3)] [.int 1, .ref 19] rfl rfl ?_
  refine z_xcV (vs := [.ref 19, .int 1]) (r := []) (L2 := [some (.ref 19), some (.int 1)]) zt277 3 rfl zo277 zzcV12_384 (Or.inl rfl) rfl X23 f19 rfl rfl rfl (Nat.le_of_ble_eq_true rfl) zzm278 (Nat.le_of_ble_eq_true rfl) rfl ?_
  have q1 : ((1 : Int32)).toInt = 1 := rfl
  have h239 := (e24.f f19 (by decide) h4)
  have q0 : ((0 : Int32)).toInt = 0 := rfl
  have q1 : ((1 : Int32)).toInt = 1 := rfl
  refine zNC278 X23.1 h239 ⟨by omega, by omega⟩ (fun M240 X241 h242 z243 h244 h245 h246 => ?_)
  have X247 := X23.go X241 (z_sb (by decide))
  show z_ev (d + 39) 277 41 [some (.ref 19), some (.int 0), some (.int p3)] [] M240 _
  have f48 : T[48]? = some (.inr (48, 0, 24, (-2147483648), 2147483647)) := X247.1.k rfl (by decide)
  have n249 : z_Ar M22 48 = z_Ar M0 48 := ((e24.a f48 (by decide)).trans (e3.a f48 (by decide)))
  have h251 : (0 : Int32).toInt.toNat = 0 := by omega
  have n250 : z_Ar M240 48 = z_nrs 0 [1] (z_Ar M0 48) := by rw [h242, n249, h251]; rfl
  refine z_xP zt277 4 43 [some (.ref 19), some (.int 0), some (.int p3)] [.ref 19, .int p3] rfl rfl ?_
  have h252 := (X241.2.f f19 (by decide) h25)
  refine z_xgv zt277 5 rfl zo277 zzf12_387 X247 f19 (by decide) h252 ?_
  have h253 := z_b32 p3
  refine z_xI zt277 6 rfl rfl (fun (x254 : Int32) (h255 : x254 = p3 + p1) => ?_) (rfl)
  refine z_xri zt277 7 rfl zzr277 ?_
  show z_ev (d + 40) 277 93 [some (.ref 19), some (.int x231), some (.int p3)] [.int x254] M240 _
  refine z_xri zt277 30 rfl zzr277 ?_
  show z_ev (d + 41) 276 47 [some (.ref 19), some (.int p1), some (.int p2), some (.int p3)] [.int x254] M240 _
  refine z_xP zt276 23 99 [some (.ref 19), some (.int p1), some (.int p2), some (.int p3)] [.int x254] rfl rfl ?_
  exact z_xri zt276 48 rfl zzr276 (kk x254 M240 X247 (fun _ => ⟨(by rw [h255]), n250, _, h244, by omega⟩) (fun hq => by exfalso; omega) (fun hq => by exfalso; omega) (fun hq => by exfalso; omega) (fun hq => by exfalso; omega))
theorem zNC159_b {T : List zK} {d : Nat} {K : Option Value → zH → Prop} {p1 : Int32} {p2 : Int32} {p3 : Int32} {ww : Int32} {M0 : zH} (hW : z_W M0 T) (hww : z_F M0 4 5 = some (.int ww)) (hwr : (p1.toInt < 0 ∨ ww.toInt ≤ p1.toInt) ∧ 0 ≤ ww.toInt ∧ ww.toInt ≤ 20) (hG : z_GG T M0) (kk : ∀ (x : Int32) (M1 : zH), z_X T zw159 M0 M1 → 0 ≤ x.toInt → x.toInt ≤ 0 → x = 0 ∧ z_Ar M1 13 = upd (z_Ar M0 13) 0 0 → K (some (.int x)) M1) : z_ev (d + 8) 159 0 [some (.ref 4), some (.int p1), some (.int p2), some (.int p3), none] [] M0 K := by
  have X : z_X T zw159 M0 M0 := .refl hW
  refine z_xP zt159 0 1 [some (.ref 4), some (.int p1), some (.int p2), some (.int p3), none] [.ref 4] rfl rfl ?_
  have f4 : T[4]? = some (.inl (0, 0, 0, 0, 0)) := X.1.k rfl (by decide)
  refine z_xgX (b := 13) zt159 1 rfl zo159 zzf0_31 X f4 (by decide) (by decide) rfl ?_
  refine z_xP zt159 2 6 [some (.ref 4), some (.int p1), some (.int p2), some (.int p3), none] [.int 0, .int 0, .ref 13] rfl rfl ?_
  have f13 : T[13]? = some (.inr (13, 0, 25, (-2147483648), 2147483647)) := X.1.k rfl (by decide)
  have q0 : ((0 : Int32)).toInt = 0 := rfl
  refine z_xis zt159 3 rfl X f13 (by decide) (by decide) (by decide) (by decide) (by omega) (by omega) (by decide) (fun M1 X2 e3 h4 => ?_)
  have q0 : ((0 : Int32)).toInt = 0 := rfl
  have h5 := z_u0 h4 (by omega)
  have n6 : z_Ar M1 13 = upd (z_Ar M0 13) 0 0 := h4
  refine z_xP zt159 4 9 [some (.ref 4), some (.int p1), some (.int p2), some (.int p3), none] [.int p1, .ref 4] rfl rfl ?_
  refine z_xcV (vs := [.ref 4, .int p1]) (r := []) (L2 := [some (.ref 4), some (.int p1)]) zt159 5 rfl zo159 zzcV0_221 (Or.inl rfl) rfl X2 f4 rfl rfl rfl (Nat.le_of_ble_eq_true rfl) zzm84 (Nat.le_of_ble_eq_true rfl) rfl ?_
  refine z_xP zt84 0 1 [some (.ref 4), some (.int p1)] [.int p1] rfl rfl ?_
  refine z_xZ zt84 1 rfl rfl (fun (h7 : p1.toInt < 0) => ?_) (fun (h7 : 0 ≤ p1.toInt) => ?_)
  · skip
    refine z_xP zt84 5 22 [some (.ref 4), some (.int p1)] [.null] rfl rfl ?_
    refine z_xrn zt84 10 rfl zzr84 ?_
    show z_ev (d + 8) 159 12 [some (.ref 4), some (.int p1), some (.int p2), some (.int p3), none] [.null] M1 _
    refine z_xP zt159 6 19 [some (.ref 4), some (.int p1), some (.int p2), some (.int p3), some (.null)] [] rfl rfl ?_
    refine z_xP zt159 7 20 [some (.ref 4), some (.int p1), some (.int p2), some (.int p3), some (.null)] [.int 0] rfl rfl ?_
    have q0 : ((0 : Int32)).toInt = 0 := rfl
    exact z_xri zt159 8 rfl zzr159 (kk 0 M1 X2 (by omega) (by omega) ⟨rfl, n6⟩)
  refine z_xP zt84 2 6 [some (.ref 4), some (.int p1)] [.ref 4, .int p1] rfl rfl ?_
  have h8 := (e3.f f4 (by decide) hww)
  refine z_xgv zt84 3 rfl zo84 zzf0_188 X2 f4 (by decide) h8 ?_
  have h9 := z_b32 p1
  refine z_xJ zt84 4 rfl rfl (fun (h10 : p1.toInt < ww.toInt) => ?_) (fun (h10 : ww.toInt ≤ p1.toInt) => ?_)
  · skip
    refine z_xP zt84 6 17 [some (.ref 4), some (.int p1)] [.ref 4] rfl rfl ?_
    refine z_xgX (b := 12) zt84 7 rfl zo84 zzf0_27 X2 f4 (by decide) (by decide) rfl ?_
    refine z_xP zt84 8 21 [some (.ref 4), some (.int p1)] [.int p1, .ref 12] rfl rfl ?_
    have f12 : T[12]? = some (.inr (12, 3, 20, 0, 0)) := X2.1.k rfl (by decide)
    refine z_xal zt84 9 rfl X2 f12 (by decide) (by decide) (by decide) (by omega) (by omega) (fun (a11 : Nat) h12 h13 => ?_) (fun h14 => absurd h14 (z_Gb (hG.go X2 (by decide)).2.1 h8 (by omega) (by omega)))
    obtain ⟨c15, w16l, w16u, k17⟩ : ∃ ci, 4 ≤ ci ∧ ci ≤ 11 ∧ T[a11]? = some (.inl (ci, 0, 0, 0, 0)) := h13
    have w16 := And.intro w16l w16u
    refine z_xra zt84 10 rfl zzr84 ?_
    show z_ev (d + 8) 159 12 [some (.ref 4), some (.int p1), some (.int p2), some (.int p3), none] [.ref a11] M1 _
    refine z_xP zt159 6 21 [some (.ref 4), some (.int p1), some (.int p2), some (.int p3), some (.ref a11)] [] rfl rfl ?_
    exfalso; omega
  refine z_xP zt84 5 22 [some (.ref 4), some (.int p1)] [.null] rfl rfl ?_
  refine z_xrn zt84 10 rfl zzr84 ?_
  show z_ev (d + 8) 159 12 [some (.ref 4), some (.int p1), some (.int p2), some (.int p3), none] [.null] M1 _
  refine z_xP zt159 6 19 [some (.ref 4), some (.int p1), some (.int p2), some (.int p3), some (.null)] [] rfl rfl ?_
  refine z_xP zt159 7 20 [some (.ref 4), some (.int p1), some (.int p2), some (.int p3), some (.null)] [.int 0] rfl rfl ?_
  have q0 : ((0 : Int32)).toInt = 0 := rfl
  exact z_xri zt159 8 rfl zzr159 (kk 0 M1 X2 (by omega) (by omega) ⟨rfl, n6⟩)
theorem zNC276_b {T : List zK} {d : Nat} {K : Option Value → zH → Prop} {p1 : Int32} {p2 : Int32} {p3 : Int32} {ww : Int32} {M0 : zH} (hW : z_W M0 T) (hww : z_F M0 19 21 = some (.int ww)) (hwr : (p1.toInt < 0 ∨ ww.toInt ≤ p1.toInt) ∧ 0 ≤ ww.toInt ∧ ww.toInt ≤ 20) (kk : ∀ (x : Int32) (M1 : zH), z_X T zw276 M0 M1 → 0 ≤ x.toInt → x.toInt ≤ 0 → (x = 0 ∧ z_Ar M1 48 = z_Ar M0 48 ∧ ∃ n : Int32, z_F M1 19 47 = some (.int n) ∧ n.toInt = 0) → K (some (.int x)) M1) : z_ev (d + 41) 276 0 [some (.ref 19), some (.int p1), some (.int p2), some (.int p3)] [] M0 K := by
  have X : z_X T zw276 M0 M0 := .refl hW
  refine z_xP zt276 0 2 [some (.ref 19), some (.int p1), some (.int p2), some (.int p3)] [.int 0, .ref 19] rfl rfl ?_
  have f19 : T[19]? = some (.inl (12, 0, 0, 0, 0)) := X.1.k rfl (by decide)
  have q0 : ((0 : Int32)).toInt = 0 := rfl
  refine z_xpf zt276 1 rfl zo276 zzf12_381 X f19 (by decide) (by decide) ⟨by omega, by omega⟩ rfl (by decide) zw12_47 (fun M1 X2 e3 h4 => ?_)
  refine z_xP zt276 2 7 [some (.ref 19), some (.int p1), some (.int p2), some (.int p3)] [.int p1, .ref 19] rfl rfl ?_
  refine z_xcV (vs := [.ref 19, .int p1]) (r := []) (L2 := [some (.ref 19), some (.int p1)]) zt276 3 rfl zo276 zzcV12_272 (Or.inl rfl) rfl X2 f19 rfl rfl rfl (Nat.le_of_ble_eq_true rfl) zzm237 (Nat.le_of_ble_eq_true rfl) rfl ?_
  refine z_xP zt237 0 1 [some (.ref 19), some (.int p1)] [.int p1] rfl rfl ?_
  refine z_xZ zt237 1 rfl rfl (fun (h5 : p1.toInt < 0) => ?_) (fun (h5 : 0 ≤ p1.toInt) => ?_)
  · skip
    refine z_xP zt237 6 17 [some (.ref 19), some (.int p1)] [.int 0] rfl rfl ?_
    refine z_xrz zt237 7 rfl zzr237 (by decide) (by decide) ?_
    show z_ev (d + 41) 276 10 [some (.ref 19), some (.int p1), some (.int p2), some (.int p3)] [.int 0] M1 _
    refine z_xZ zt276 4 rfl rfl (fun (h6 : (0 : Int) = 0) => ?_) (fun (h6 : (0 : Int) ≠ 0) => absurd h6 (by omega))
    refine z_xP zt276 11 26 [some (.ref 19), some (.int p1), some (.int p2), some (.int p3)] [.int 0] rfl rfl ?_
    have q0 : ((0 : Int32)).toInt = 0 := rfl
    have f48 : T[48]? = some (.inr (48, 0, 24, (-2147483648), 2147483647)) := X2.1.k rfl (by decide)
    have q0 : ((0 : Int32)).toInt = 0 := rfl
    exact z_xri zt276 12 rfl zzr276 (kk 0 M1 X2 (by omega) (by omega) ⟨rfl, (e3.a f48 (by decide)), _, h4, by omega⟩)
  refine z_xP zt237 2 6 [some (.ref 19), some (.int p1)] [.ref 19, .int p1] rfl rfl ?_
  have h7 := (e3.f f19 (by decide) hww)
  refine z_xgv zt237 3 rfl zo237 zzf12_269 X2 f19 (by decide) h7 ?_
  have h8 := z_b32 p1
  refine z_xJ zt237 4 rfl rfl (fun (h9 : ww.toInt ≤ p1.toInt) => ?_) (fun (h9 : p1.toInt < ww.toInt) => ?_)
  · skip
    refine z_xP zt237 6 17 [some (.ref 19), some (.int p1)] [.int 0] rfl rfl ?_
    refine z_xrz zt237 7 rfl zzr237 (by decide) (by decide) ?_
    show z_ev (d + 41) 276 10 [some (.ref 19), some (.int p1), some (.int p2), some (.int p3)] [.int 0] M1 _
    refine z_xZ zt276 4 rfl rfl (fun (h10 : (0 : Int) = 0) => ?_) (fun (h10 : (0 : Int) ≠ 0) => absurd h10 (by omega))
    refine z_xP zt276 11 26 [some (.ref 19), some (.int p1), some (.int p2), some (.int p3)] [.int 0] rfl rfl ?_
    have q0 : ((0 : Int32)).toInt = 0 := rfl
    have f48 : T[48]? = some (.inr (48, 0, 24, (-2147483648), 2147483647)) := X2.1.k rfl (by decide)
    have q0 : ((0 : Int32)).toInt = 0 := rfl
    exact z_xri zt276 12 rfl zzr276 (kk 0 M1 X2 (by omega) (by omega) ⟨rfl, (e3.a f48 (by decide)), _, h4, by omega⟩)
  refine z_xP zt237 5 17 [some (.ref 19), some (.int p1)] [.int 1] rfl rfl ?_
  refine z_xrz zt237 7 rfl zzr237 (by decide) (by decide) ?_
  show z_ev (d + 41) 276 10 [some (.ref 19), some (.int p1), some (.int p2), some (.int p3)] [.int 1] M1 _
  refine z_xZ zt276 4 rfl rfl (fun (h11 : (1 : Int) = 0) => absurd h11 (by omega)) (fun (h11 : (1 : Int) ≠ 0) => ?_)
  refine z_xP zt276 5 14 [some (.ref 19), some (.int p1), some (.int p2), some (.int p3)] [.int p2] rfl rfl ?_
  have h12 := z_b32 p2
  refine z_xL zt276 6 rfl rfl (fun (y13 : Int64) (h14 : y13.toInt = p2.toInt) => ?_) (z_qI2L rfl)
  refine z_xP zt276 7 16 [some (.ref 19), some (.int p1), some (.int p2), some (.int p3)] [.long 0, .long y13] rfl rfl ?_
  refine z_xl2 zt276 8 rfl zo276 zkl12_358 ?_
  refine z_xcS (vs := [.long y13, .long 0, .long 3]) (r := []) (L2 := [some (.long y13), none, some (.long 0), none, some (.long 3), none]) zt276 9 rfl zo276 zzcS12_116 (Or.inl rfl) (Nat.le_of_ble_eq_true rfl) rfl rfl (Nat.le_of_ble_eq_true rfl) zzm189 (Nat.le_of_ble_eq_true rfl) rfl ?_
  refine z_xP zt189 0 2 [some (.long y13), none, some (.long 0), none, some (.long 3), none] [.long 0, .long y13] rfl rfl ?_
  refine z_xI zt189 1 rfl rfl (fun (x15 : Int32) (h16 : (x15.toInt < 0 ∧ y13.toInt < 0) ∨ (x15.toInt = 0 ∧ y13.toInt = 0) ∨ (0 < x15.toInt ∧ 0 < y13.toInt)) => ?_) (z_qCmp rfl rfl)
  refine z_xZ zt189 2 rfl rfl (fun (h17 : x15.toInt < 0) => ?_) (fun (h17 : 0 ≤ x15.toInt) => ?_)
  · skip
    refine z_xP zt189 7 18 [some (.long y13), none, some (.long 0), none, some (.long 3), none] [.int 0] rfl rfl ?_
    refine z_xrz zt189 8 rfl zzr189 (by decide) (by decide) ?_
    show z_ev (d + 41) 276 22 [some (.ref 19), some (.int p1), some (.int p2), some (.int p3)] [.int 0] M1 _
    refine z_xZ zt276 10 rfl rfl (fun (h18 : (0 : Int) ≠ 0) => absurd h18 (by omega)) (fun (h18 : (0 : Int) = 0) => ?_)
    refine z_xP zt276 11 26 [some (.ref 19), some (.int p1), some (.int p2), some (.int p3)] [.int 0] rfl rfl ?_
    have q0 : ((0 : Int32)).toInt = 0 := rfl
    have f48 : T[48]? = some (.inr (48, 0, 24, (-2147483648), 2147483647)) := X2.1.k rfl (by decide)
    have q0 : ((0 : Int32)).toInt = 0 := rfl
    exact z_xri zt276 12 rfl zzr276 (kk 0 M1 X2 (by omega) (by omega) ⟨rfl, (e3.a f48 (by decide)), _, h4, by omega⟩)
  refine z_xP zt189 3 9 [some (.long y13), none, some (.long 0), none, some (.long 3), none] [.long 3, .long y13] rfl rfl ?_
  refine z_xI zt189 4 rfl rfl (fun (x19 : Int32) (h20 : (x19.toInt < 0 ∧ y13.toInt < 3) ∨ (x19.toInt = 0 ∧ y13.toInt = 3) ∨ (0 < x19.toInt ∧ 3 < y13.toInt)) => ?_) (z_qCmp rfl rfl)
  refine z_xZ zt189 5 rfl rfl (fun (h21 : 0 < x19.toInt) => ?_) (fun (h21 : x19.toInt ≤ 0) => ?_)
  · skip
    refine z_xP zt189 7 18 [some (.long y13), none, some (.long 0), none, some (.long 3), none] [.int 0] rfl rfl ?_
    refine z_xrz zt189 8 rfl zzr189 (by decide) (by decide) ?_
    show z_ev (d + 41) 276 22 [some (.ref 19), some (.int p1), some (.int p2), some (.int p3)] [.int 0] M1 _
    refine z_xZ zt276 10 rfl rfl (fun (h22 : (0 : Int) ≠ 0) => absurd h22 (by omega)) (fun (h22 : (0 : Int) = 0) => ?_)
    refine z_xP zt276 11 26 [some (.ref 19), some (.int p1), some (.int p2), some (.int p3)] [.int 0] rfl rfl ?_
    have q0 : ((0 : Int32)).toInt = 0 := rfl
    have f48 : T[48]? = some (.inr (48, 0, 24, (-2147483648), 2147483647)) := X2.1.k rfl (by decide)
    have q0 : ((0 : Int32)).toInt = 0 := rfl
    exact z_xri zt276 12 rfl zzr276 (kk 0 M1 X2 (by omega) (by omega) ⟨rfl, (e3.a f48 (by decide)), _, h4, by omega⟩)
  refine z_xP zt189 6 18 [some (.long y13), none, some (.long 0), none, some (.long 3), none] [.int 1] rfl rfl ?_
  refine z_xrz zt189 8 rfl zzr189 (by decide) (by decide) ?_
  show z_ev (d + 41) 276 22 [some (.ref 19), some (.int p1), some (.int p2), some (.int p3)] [.int 1] M1 _
  refine z_xZ zt276 10 rfl rfl (fun (h23 : (1 : Int) ≠ 0) => ?_) (fun (h23 : (1 : Int) = 0) => absurd h23 (by omega))
  exfalso; omega
