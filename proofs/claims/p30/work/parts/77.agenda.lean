/-! the reference's agenda, told -/
theorem zYC205 {T : List zK} {d : Nat} {K : Option Value → zH → Prop} {p1 : Int32} {p2 : Int32} {p3 : Int32} {bb : Nat → Int} {nn kq : Nat} {nu : Int → Int} {pr en tn : Nat} {ts : Nat → Nat} {M0 : zH} (hW : z_W M0 T) (u1 : 0 ≤ p1.toInt ∧ p1.toInt ≤ 7) (u2 : 0 ≤ p2.toInt ∧ p2.toInt ≤ 7) (hL : z_GL M0) (hK : y_AG M0 p1.toInt.toNat bb nn kq nu pr en tn ts) (hI : y_TI bb nn nu tn ts p2.toInt.toNat) (hs3 : 0 ≤ p3.toInt) (kk : ∀ (x : Int32) (M1 : zH), z_X T zw205 M0 M1 → 0 ≤ x.toInt → x.toInt ≤ 1 → y_KP bb nn nu (ts p2.toInt.toNat) p3.toInt.toNat x.toInt → K (some (.int x)) M1) : z_ev (d + 972) 205 0 [some (.ref 19), some (.int p1), some (.int p2), some (.int p3)] [] M0 K := by
  have X : z_X T zw205 M0 M0 := .refl hW
  refine z_xP zt205 0 2 [some (.ref 19), some (.int p1), some (.int p2), some (.int p3)] [.int p1, .ref 19] rfl rfl ?_
  have f19 : T[19]? = some (.inl (12, 0, 0, 0, 0)) := X.1.k rfl (by decide)
  refine z_xpf zt205 1 rfl zo205 zzf12_133 X f19 (by decide) (by decide) ⟨by omega, by omega⟩ rfl (by decide) zw12_22 (fun M1 X2 e3 h4 => ?_)
  refine z_xP zt205 2 7 [some (.ref 19), some (.int p1), some (.int p2), some (.int p3)] [.int 0, .ref 19] rfl rfl ?_
  have q0 : ((0 : Int32)).toInt = 0 := rfl
  refine z_xpf zt205 3 rfl zo205 zzf12_129 X2 f19 (by decide) (by decide) ⟨by omega, by omega⟩ rfl (by decide) zw12_23 (fun M5 X6 e7 h8 => ?_)
  refine z_xP zt205 4 12 [some (.ref 19), some (.int p1), some (.int p2), some (.int p3)] [.ref 19, .ref 19] rfl rfl ?_
  refine z_xgX (b := 22) zt205 5 rfl zo205 zzf12_16 X6 f19 (by decide) (by decide) rfl ?_
  refine z_xP zt205 6 16 [some (.ref 19), some (.int p1), some (.int p2), some (.int p3)] [.int p1, .ref 22, .ref 19] rfl rfl ?_
  have f22 : T[22]? = some (.inr (22, 0, 8, 0, 160)) := X6.1.k rfl (by decide)
  refine z_xil zt205 7 rfl X6 f22 (by decide) (by omega) (by omega) (fun (x9 : Int32) h10 (h11 : 0 ≤ x9.toInt) (h12 : x9.toInt ≤ 160) => ?_)
  refine z_xpf zt205 8 rfl zo205 zzf12_126 X6 f19 (by decide) (by decide) ⟨by omega, by omega⟩ rfl (by decide) zw12_25 (fun M13 X14 e15 h16 => ?_)
  refine z_xP zt205 9 22 [some (.ref 19), some (.int p1), some (.int p2), some (.int p3)] [.ref 19, .ref 19] rfl rfl ?_
  refine z_xgX (b := 26) zt205 10 rfl zo205 zzf12_28 X14 f19 (by decide) (by decide) rfl ?_
  refine z_xP zt205 11 28 [some (.ref 19), some (.int p1), some (.int p2), some (.int p3)] [.int p1, .int 8, .ref 26, .ref 19] rfl rfl ?_
  refine z_xI zt205 12 rfl rfl (fun (x17 : Int32) (h18 : x17.toInt = 8 * p1.toInt) => ?_) (z_pMul rfl rfl (by omega) (by omega))
  refine z_xP zt205 13 30 [some (.ref 19), some (.int p1), some (.int p2), some (.int p3)] [.int p2, .int x17, .ref 26, .ref 19] rfl rfl ?_
  refine z_xI zt205 14 rfl rfl (fun (x19 : Int32) (h20 : x19.toInt = x17.toInt + p2.toInt) => ?_) (z_pAdd rfl rfl (by omega) (by omega))
  have f26 : T[26]? = some (.inr (26, 0, 64, 0, 160)) := X14.1.k rfl (by decide)
  refine z_xil zt205 15 rfl X14 f26 (by decide) (by omega) (by omega) (fun (x21 : Int32) h22 (h23 : 0 ≤ x21.toInt) (h24 : x21.toInt ≤ 160) => ?_)
  refine z_xpf zt205 16 rfl zo205 zzf12_123 X14 f19 (by decide) (by decide) ⟨by omega, by omega⟩ rfl (by decide) zw12_24 (fun M25 X26 e27 h28 => ?_)
  refine z_xP zt205 17 37 [some (.ref 19), some (.int p1), some (.int p2), some (.int p3)] [.int (-1), .ref 19] rfl rfl ?_
  have qm1 : (((-1) : Int32)).toInt = (-1) := rfl
  refine z_xpf zt205 18 rfl zo205 zzf12_136 X26 f19 (by decide) (by decide) ⟨by omega, by omega⟩ rfl (by decide) zw12_26 (fun M29 X30 e31 h32 => ?_)
  refine z_xP zt205 19 42 [some (.ref 19), some (.int p1), some (.int p2), some (.int p3)] [.int 0, .ref 19] rfl rfl ?_
  have q0 : ((0 : Int32)).toInt = 0 := rfl
  refine z_xpf zt205 20 rfl zo205 zzf12_160 X30 f19 (by decide) (by decide) ⟨by omega, by omega⟩ rfl (by decide) zw12_27 (fun M33 X34 e35 h36 => ?_)
  refine z_xP zt205 21 47 [some (.ref 19), some (.int p1), some (.int p2), some (.int p3)] [.int p3, .ref 19] rfl rfl ?_
  refine z_xpf zt205 22 rfl zo205 zzf12_183 X34 f19 (by decide) (by decide) ⟨Int32.le_toInt _, Int32.toInt_le _⟩ rfl (by decide) zw12_28 (fun M37 X38 e39 h40 => ?_)
  refine z_xP zt205 23 51 [some (.ref 19), some (.int p1), some (.int p2), some (.int p3)] [.ref 19] rfl rfl ?_
  refine z_xcV (vs := [.ref 19]) (r := []) (L2 := [some (.ref 19), none, none]) zt205 24 rfl zo205 zzcV12_169 (Or.inl rfl) rfl X38 f19 rfl rfl rfl (Nat.le_of_ble_eq_true rfl) zzm198 (Nat.le_of_ble_eq_true rfl) rfl ?_
  have h41 := (e39.f f19 (by decide) (e35.f f19 (by decide) (e31.f f19 (by decide) h28)))
  have f21 : T[21]? = some (.inr (21, 0, 1280, (-2147483648), 2147483647)) := X38.1.k rfl (by decide)
  have f23 : T[23]? = some (.inr (23, 0, 80, (-2147483648), 2147483647)) := X38.1.k rfl (by decide)
  have f24 : T[24]? = some (.inr (24, 0, 8, 0, 10)) := X38.1.k rfl (by decide)
  have f25 : T[25]? = some (.inr (25, 0, 8, 0, 8)) := X38.1.k rfl (by decide)
  have f27 : T[27]? = some (.inr (27, 0, 8, (-2147483648), 2147483647)) := X38.1.k rfl (by decide)
  have f28 : T[28]? = some (.inr (28, 0, 8, (-2147483648), 2147483647)) := X38.1.k rfl (by decide)
  have t42 := hK.kp (M1 := M37) (X38.2.a f21 (by decide)) (X38.2.a f22 (by decide)) ⟨(X38.2.a f23 (by decide)), (X38.2.a f24 (by decide)), (X38.2.a f25 (by decide)), (X38.2.a f26 (by decide)), (X38.2.a f27 (by decide)), (X38.2.a f28 (by decide))⟩
  have h43 := (e39.f f19 (by decide) (e35.f f19 (by decide) (e31.f f19 (by decide) (e27.f f19 (by decide) (e15.f f19 (by decide) (e7.f f19 (by decide) h4))))))
  have h44 := (e39.f f19 (by decide) (e35.f f19 (by decide) (e31.f f19 (by decide) (e27.f f19 (by decide) (e15.f f19 (by decide) h8)))))
  have h45 := (e39.f f19 (by decide) (e35.f f19 (by decide) (e31.f f19 (by decide) (e27.f f19 (by decide) h16))))
  have h46 := (e39.f f19 (by decide) (e35.f f19 (by decide) h32))
  have h47 := (e39.f f19 (by decide) h36)
  have h48 := ((congrFun (e39.a f22 (by decide)) _).trans ((congrFun (e35.a f22 (by decide)) _).trans ((congrFun (e31.a f22 (by decide)) _).trans ((congrFun (e27.a f22 (by decide)) _).trans ((congrFun (e15.a f22 (by decide)) _).trans h10)))))
  have h49 := ((congrFun (e39.a f26 (by decide)) _).trans ((congrFun (e35.a f26 (by decide)) _).trans ((congrFun (e31.a f26 (by decide)) _).trans ((congrFun (e27.a f26 (by decide)) _).trans h22))))
  refine zYC198 X38.1 h41 ⟨by omega, by omega⟩ (z_GL.go hL X38 (by decide)) (t42.tr rfl h43 h44 rfl h45 h48 h40 (by omega) rfl rfl rfl) (fun x57 M50 X51 h58 h59 h52 z53 h54 h55 h56 => ?_)
  have X60 := X38.go X51 (z_sb (by decide))
  show z_ev (d + 972) 205 54 [some (.ref 19), some (.int p1), some (.int p2), some (.int p3)] [.int x57] M50 _
  exact z_xrz zt205 25 rfl zzr205 (by omega) (by omega) (kk x57 M50 X60 (by omega) (by omega) (y_kpP t42 hI h46 (by decide) h47 (by decide) h41 h49 (by omega) h52))
theorem zYB190 {T : List zK} {d : Nat} {K : Option Value → zH → Prop} {bb : Nat → Int} {nn : Nat} {M0 : zH} (hL : z_GL M0) (ha4 : z_G4 M0) (hT0 : y_T0 M0 bb nn) (kk : ∀ (x : Int32) (M1 : zH), z_X T zw190 M0 M1 → z_GL M1 → z_G4 M1 → y_AGP bb nn M0 M1 → K (some (.int x)) M1) : ∀ n : Nat, (∀ (M : zH) (b1 : Int32) (z0 : Int32) (z1 : Int32), z_X T zw190 M0 M → 0 ≤ b1.toInt ∧ b1.toInt ≤ 7 → z_F M 19 13 = some (.int z0) → 0 ≤ z0.toInt ∧ z0.toInt ≤ 7 → z_F M 19 24 = some (.int z1) → 0 ≤ z1.toInt ∧ z1.toInt ≤ 160 → z0.toInt = b1.toInt → z_GL M → z_A4 M b1.toInt → z_F M0 19 13 = some (.int b1) ∧ b1.toInt ≠ 8 → (∃ (nu : Int → Int) (pr en tn : Nat) (ts : Nat → Nat) (kq : Nat), y_GI bb nn M b1.toInt.toNat nu pr en tn ts kq) → ((((0) * 5 + 3) * 1025 + (160 - z1.toInt)) * 5 + 4) * 9 + (0) < (n : Int) → z_ev (d + 973) 190 80 [some (.ref 19), some (.int b1), none, none, none, none] [] M K) ∧ (∀ (M : zH) (b1 : Int32) (b2 : Int32) (b3 : Int32) (z0 : Int32) (z1 : Int32), z_X T zw190 M0 M → 0 ≤ b1.toInt ∧ b1.toInt ≤ 7 → 0 ≤ b2.toInt ∧ b2.toInt ≤ 160 → 0 ≤ b3.toInt ∧ b3.toInt ≤ 160 → z_F M 19 13 = some (.int z0) → 0 ≤ z0.toInt ∧ z0.toInt ≤ 7 → z_F M 19 1 = some (.int z1) → 0 ≤ z1.toInt ∧ z1.toInt ≤ 0 → z0.toInt = b1.toInt → z1.toInt = 0 → z_GL M → z_A4 M b1.toInt → z_F M0 19 13 = some (.int b1) ∧ b1.toInt ≠ 8 → (∃ (nu : Int → Int) (pr en tn : Nat) (ts : Nat → Nat) (kq : Nat), y_CP bb nn M b1.toInt.toNat nu pr en tn ts kq b2.toInt b3.toInt) → ((((0) * 5 + 2) * 1025 + (160 - b3.toInt)) * 5 + 4) * 9 + (0) < (n : Int) → z_ev (d + 973) 190 146 [some (.ref 19), some (.int b1), some (.int b2), some (.int b3), none, none] [] M K) ∧ (∀ (M : zH) (b1 : Int32) (b2 : Int32) (b3 : Int32) (o4 : Option Value) (o5 : Option Value) (z0 : Int32) (z1 : Int32) (z2 : Int32) (z3 : Int32), z_X T zw190 M0 M → 0 ≤ b1.toInt ∧ b1.toInt ≤ 7 → 0 ≤ b2.toInt ∧ b2.toInt ≤ 160 → 0 ≤ b3.toInt ∧ b3.toInt ≤ 1024 → z_F M 19 13 = some (.int z0) → 0 ≤ z0.toInt ∧ z0.toInt ≤ 7 → z_Ar M 31 b1.toNatClampNeg = z1 → 0 ≤ z1.toInt ∧ z1.toInt ≤ 1024 → z_Ar M 24 b1.toNatClampNeg = z2 → 0 ≤ z2.toInt ∧ z2.toInt ≤ 10 → z_F M 19 1 = some (.int z3) → 0 ≤ z3.toInt ∧ z3.toInt ≤ 0 → z0.toInt = b1.toInt → z1.toInt ≤ b3.toInt → z3.toInt = 0 → z_GL M → z_A4 M b1.toInt → z_F M0 19 13 = some (.int b1) ∧ b1.toInt ≠ 8 → (∃ (nu : Int → Int) (pr en tn : Nat) (ts : Nat → Nat) (kq : Nat), y_LW M b1.toInt.toNat bb nn kq nu pr en tn ts b3.toInt.toNat) → ((((0) * 5 + 1) * 1025 + (1024 - b3.toInt)) * 5 + 4) * 9 + (0) < (n : Int) → z_ev (d + 973) 190 191 [some (.ref 19), some (.int b1), some (.int b2), some (.int b3), o4, o5] [] M K) ∧ (∀ (M : zH) (b1 : Int32) (b2 : Int32) (b3 : Int32) (b4 : Int32) (b5 : Int32) (z0 : Int32) (z1 : Int32) (z2 : Int32) (z3 : Int32), z_X T zw190 M0 M → 0 ≤ b1.toInt ∧ b1.toInt ≤ 7 → 0 ≤ b2.toInt ∧ b2.toInt ≤ 160 → 0 ≤ b3.toInt ∧ b3.toInt ≤ 1023 → 0 ≤ b4.toInt ∧ b4.toInt ≤ 255 → 0 ≤ b5.toInt ∧ b5.toInt ≤ 8 → z_F M 19 13 = some (.int z0) → 0 ≤ z0.toInt ∧ z0.toInt ≤ 7 → z_Ar M 31 b1.toNatClampNeg = z1 → 0 ≤ z1.toInt ∧ z1.toInt ≤ 1024 → z_Ar M 24 b1.toNatClampNeg = z2 → 0 ≤ z2.toInt ∧ z2.toInt ≤ 10 → z_F M 19 1 = some (.int z3) → 0 ≤ z3.toInt ∧ z3.toInt ≤ 0 → z0.toInt = b1.toInt → z1.toInt ≤ b3.toInt → b3.toInt < 1024 → z3.toInt = 0 → z_GL M → z_A4 M b1.toInt → z_F M0 19 13 = some (.int b1) ∧ b1.toInt ≠ 8 → (∃ (nu : Int → Int) (pr en tn : Nat) (ts : Nat → Nat) (kq : Nat), y_LB M b1.toInt.toNat bb nn kq nu pr en tn ts b3.toInt.toNat b4.toInt b5.toInt) → ((((0) * 5 + 1) * 1025 + (1024 - b3.toInt)) * 5 + 0) * 9 + (8 - b5.toInt) < (n : Int) → z_ev (d + 973) 190 209 [some (.ref 19), some (.int b1), some (.int b2), some (.int b3), some (.int b4), some (.int b5)] [] M K) := by
  intro n
  induction n with
  | zero => exact ⟨(by intro M b1 z0 z1 X hh0 hp0 hh2 hp1 hh4 hh5 hl hA4 hA0 hX hE; obtain ⟨nu, pr, en, tn, ts, kq, hG⟩ := hX; exfalso; omega), (by intro M b1 b2 b3 z0 z1 X hh0 hh1 hh2 hp0 hh4 hp1 hh6 hh7 hh8 hl hA4 hA0 hX hE; obtain ⟨nu, pr, en, tn, ts, kq, hC⟩ := hX; exfalso; omega), (by intro M b1 b2 b3 o4 o5 z0 z1 z2 z3 X hh0 hh1 hh2 hp0 hh4 hp1 hh6 hp2 hh8 hp3 hh10 hh11 hh12 hh13 hl hA4 hA0 hX hE; obtain ⟨nu, pr, en, tn, ts, kq, hW⟩ := hX; exfalso; omega), (by intro M b1 b2 b3 b4 b5 z0 z1 z2 z3 X hh0 hh1 hh2 hh3 hh4 hp0 hh6 hp1 hh8 hp2 hh10 hp3 hh12 hh13 hh14 hh15 hh16 hl hA4 hA0 hX hE; obtain ⟨nu, pr, en, tn, ts, kq, hB⟩ := hX; exfalso; omega)⟩
  | succ n ih =>
    refine ⟨?_, ?_, ?_, ?_⟩
    · skip
      intro M b1 z0 z1 X hh0 hp0 hh2 hp1 hh4 hh5 hl hA4 hA0 hX hE
      obtain ⟨nu, pr, en, tn, ts, kq, hG⟩ := hX
      refine z_xP zt190 37 83 [some (.ref 19), some (.int b1), none, none, none, none] [.int 59, .ref 19] rfl rfl ?_
      have f19 : T[19]? = some (.inl (12, 0, 0, 0, 0)) := X.1.k rfl (by decide)
      refine z_xcV (vs := [.ref 19, .int 59]) (r := []) (L2 := [some (.ref 19), some (.int 59)]) zt190 38 rfl zo190 zzcV12_147 (Or.inl rfl) rfl X f19 rfl rfl rfl (Nat.le_of_ble_eq_true rfl) zzm192 (Nat.le_of_ble_eq_true rfl) rfl ?_
      have q59 : ((59 : Int32)).toInt = 59 := rfl
      have q59 : ((59 : Int32)).toInt = 59 := rfl
      have q59 : ((59 : Int32)).toInt = 59 := rfl
      refine zYC192 X.1 hp1 ⟨by omega, by omega⟩ hG.1 (by omega) (fun x9 M1 X2 h10 h11 h3 z4 h5 h6 h7 h8 => ?_)
      have X12 := X.go X2 (z_sb (by decide))
      show z_ev (d + 973) 190 86 [some (.ref 19), some (.int b1), none, none, none, none] [.int x9] M1 _
      refine z_xZ zt190 39 rfl rfl (fun (h14 : x9.toInt = 0) => ?_) (fun (h14 : x9.toInt ≠ 0) => ?_)
      · skip
        refine z_xP zt190 43 97 [some (.ref 19), some (.int b1), none, none, none, none] [.ref 19] rfl rfl ?_
        refine z_xgI zt190 44 rfl zo190 zzf12_136 X12 f19 (by decide) (by decide) rfl (fun (x16 : Int32) h15 (h17 : (-2147483648) ≤ x16.toInt) (h18 : x16.toInt ≤ 2147483647) => ?_)
        refine z_xZ zt190 45 rfl rfl (fun (h19 : 0 ≤ x16.toInt) => ?_) (fun (h19 : x16.toInt < 0) => ?_)
        · skip
          refine z_xP zt190 54 120 [some (.ref 19), some (.int b1), none, none, none, none] [.ref 19] rfl rfl ?_
          refine z_xgI zt190 55 rfl zo190 zzf12_120 X12 f19 (by decide) (by decide) rfl (fun (x21 : Int32) h20 (h22 : 0 ≤ x21.toInt) (h23 : x21.toInt ≤ 160) => ?_)
          refine z_xP zt190 56 126 [some (.ref 19), some (.int b1), some (.int x21), none, none, none] [.int 0, .ref 19] rfl rfl ?_
          have q0 : ((0 : Int32)).toInt = 0 := rfl
          refine z_xpf zt190 57 rfl zo190 zzf12_120 X12 f19 (by decide) (by decide) ⟨by omega, by omega⟩ rfl (by decide) zw12_1 (fun M24 X25 e26 h27 => ?_)
          refine z_xP zt190 58 130 [some (.ref 19), some (.int b1), some (.int x21), none, none, none] [.ref 19] rfl rfl ?_
          have h28 := (e26.f f19 (by decide) h15)
          refine z_xgv zt190 59 rfl zo190 zzf12_136 X25 f19 (by decide) h28 ?_
          refine z_xZ zt190 60 rfl rfl (fun (h29 : x16.toInt < 0) => absurd h29 (by omega)) (fun (h29 : 0 ≤ x16.toInt) => ?_)
          refine z_xP zt190 61 139 [some (.ref 19), some (.int b1), some (.int x21), none, none, none] [.ref 19, .int (-100)] rfl rfl ?_
          refine z_xgv zt190 62 rfl zo190 zzf12_136 X25 f19 (by decide) h28 ?_
          have h30 := z_b32 x16
          refine z_xI zt190 63 rfl rfl (P := fun _ => True) (fun (x31 : Int32) _ => ?_) trivial
          have f23 : T[23]? = some (.inr (23, 0, 80, (-2147483648), 2147483647)) := X25.1.k rfl (by decide)
          have f24 : T[24]? = some (.inr (24, 0, 8, 0, 10)) := X25.1.k rfl (by decide)
          have h33 := (e26.f f19 (by decide) (X2.2.f f19 (by decide) hp0))
          have f31 : T[31]? = some (.inr (31, 0, 8, 0, 1024)) := X25.1.k rfl (by decide)
          have q0 : ((0 : Int32)).toInt = 0 := rfl
          exact z_xri zt190 64 rfl zzr190 (kk x31 M24 X25 (z_GL.ke (z_GL.ke hl X2.2 f23 f24 (by decide)) e26 f23 f24 (by decide)) (z_A4.g4 (z_A4.ke (z_A4.ke hA4 X2.2 f31 (by decide)) e26 f31 (by decide)) h33 (by omega)) (y_AGPn hA0.1 (by omega) h33 (by omega) h27 (by omega) (z_lw_no (y_GIbad hG h3 (by omega) h15 (by omega)))))
        refine z_xP zt190 46 104 [some (.ref 19), some (.int b1), none, none, none, none] [.ref 19] rfl rfl ?_
        refine z_xgv zt190 47 rfl zo190 zzf12_123 X12 f19 (by decide) h5 ?_
        refine z_xP zt190 48 108 [some (.ref 19), some (.int b1), none, none, none, none] [.ref 19, .int z4] rfl rfl ?_
        refine z_xgI zt190 49 rfl zo190 zzf12_126 X12 f19 (by decide) (by decide) rfl (fun (x35 : Int32) h34 (h36 : 0 ≤ x35.toInt) (h37 : x35.toInt ≤ 160) => ?_)
        refine z_xJ zt190 50 rfl rfl (fun (h38 : x35.toInt ≤ z4.toInt) => ?_) (fun (h38 : z4.toInt < x35.toInt) => ?_)
        · skip
          refine z_xP zt190 54 120 [some (.ref 19), some (.int b1), none, none, none, none] [.ref 19] rfl rfl ?_
          refine z_xgI zt190 55 rfl zo190 zzf12_120 X12 f19 (by decide) (by decide) rfl (fun (x40 : Int32) h39 (h41 : 0 ≤ x40.toInt) (h42 : x40.toInt ≤ 160) => ?_)
          refine z_xP zt190 56 126 [some (.ref 19), some (.int b1), some (.int x40), none, none, none] [.int 0, .ref 19] rfl rfl ?_
          have q0 : ((0 : Int32)).toInt = 0 := rfl
          refine z_xpf zt190 57 rfl zo190 zzf12_120 X12 f19 (by decide) (by decide) ⟨by omega, by omega⟩ rfl (by decide) zw12_1 (fun M43 X44 e45 h46 => ?_)
          refine z_xP zt190 58 130 [some (.ref 19), some (.int b1), some (.int x40), none, none, none] [.ref 19] rfl rfl ?_
          have h47 := (e45.f f19 (by decide) h15)
          refine z_xgv zt190 59 rfl zo190 zzf12_136 X44 f19 (by decide) h47 ?_
          refine z_xZ zt190 60 rfl rfl (fun (h48 : x16.toInt < 0) => ?_) (fun (h48 : 0 ≤ x16.toInt) => absurd h48 (by omega))
          refine z_xP zt190 65 146 [some (.ref 19), some (.int b1), some (.int x40), some (.int 0), none, none] [] rfl rfl ?_
          have h49 := (e45.f f19 (by decide) (X2.2.f f19 (by decide) hp0))
          have q0 : ((0 : Int32)).toInt = 0 := rfl
          have f23 : T[23]? = some (.inr (23, 0, 80, (-2147483648), 2147483647)) := X44.1.k rfl (by decide)
          have f24 : T[24]? = some (.inr (24, 0, 8, 0, 10)) := X44.1.k rfl (by decide)
          have f31 : T[31]? = some (.inr (31, 0, 8, 0, 1024)) := X44.1.k rfl (by decide)
          have q0 : ((0 : Int32)).toInt = 0 := rfl
          have f20 : T[20]? = some (.inr (20, 0, 160, (-2147483648), 2147483647)) := X44.1.k rfl (by decide)
          have f25 : T[25]? = some (.inr (25, 0, 8, 0, 8)) := X44.1.k rfl (by decide)
          have f26 : T[26]? = some (.inr (26, 0, 64, 0, 160)) := X44.1.k rfl (by decide)
          have f27 : T[27]? = some (.inr (27, 0, 8, (-2147483648), 2147483647)) := X44.1.k rfl (by decide)
          have f28 : T[28]? = some (.inr (28, 0, 8, (-2147483648), 2147483647)) := X44.1.k rfl (by decide)
          have q0 : ((0 : Int32)).toInt = 0 := rfl
          exact ih.2.1 M43 b1 x40 (0) z0 (0) X44 ⟨by omega, by omega⟩ ⟨by omega, by omega⟩ (by decide) h49 ⟨by omega, by omega⟩ h46 (by decide) (by omega) (by omega) (z_GL.ke (z_GL.ke hl X2.2 f23 f24 (by decide)) e45 f23 f24 (by decide)) (z_A4.ke (z_A4.ke hA4 X2.2 f31 (by decide)) e45 f31 (by decide)) hA0 (y_CP0 hG h3 (by omega) h15 (by omega) h5 h34 (by omega) h39 rfl rfl (e45.a f20 (by decide)) ⟨(e45.a f23 (by decide)), (e45.a f24 (by decide)), (e45.a f25 (by decide)), (e45.a f26 (by decide)), (e45.a f27 (by decide)), (e45.a f28 (by decide))⟩) (by omega)
        refine z_xP zt190 51 115 [some (.ref 19), some (.int b1), none, none, none, none] [.ref 19] rfl rfl ?_
        refine z_xcV (vs := [.ref 19]) (r := []) (L2 := [some (.ref 19)]) zt190 52 rfl zo190 zzcV12_163 (Or.inl rfl) rfl X12 f19 rfl rfl rfl (Nat.le_of_ble_eq_true rfl) zzm194 (Nat.le_of_ble_eq_true rfl) rfl ?_
        refine zYC194 X12.1 (fun x54 M50 X51 h55 h56 h52 h53 => ?_)
        have X57 := X12.go X51 (z_sb (by decide))
        show z_ev (d + 973) 190 118 [some (.ref 19), some (.int b1), none, none, none, none] [.int x54] M50 _
        obtain ⟨x59, h60, h61, h62⟩ := z_W.fi X57.1 f19 (k := 26) (lo := (-2147483648)) (hi := 2147483647) (by decide) rfl
        have h63 := y_okNn h60 h52
        refine z_xP zt190 53 119 [some (.ref 19), some (.int b1), some (.int x54), none, none, none] [] rfl rfl ?_
        refine z_xP zt190 54 120 [some (.ref 19), some (.int b1), some (.int x54), none, none, none] [.ref 19] rfl rfl ?_
        refine z_xgI zt190 55 rfl zo190 zzf12_120 X57 f19 (by decide) (by decide) rfl (fun (x65 : Int32) h64 (h66 : 0 ≤ x65.toInt) (h67 : x65.toInt ≤ 160) => ?_)
        refine z_xP zt190 56 126 [some (.ref 19), some (.int b1), some (.int x65), none, none, none] [.int 0, .ref 19] rfl rfl ?_
        have q0 : ((0 : Int32)).toInt = 0 := rfl
        refine z_xpf zt190 57 rfl zo190 zzf12_120 X57 f19 (by decide) (by decide) ⟨by omega, by omega⟩ rfl (by decide) zw12_1 (fun M68 X69 e70 h71 => ?_)
        refine z_xP zt190 58 130 [some (.ref 19), some (.int b1), some (.int x65), none, none, none] [.ref 19] rfl rfl ?_
        have h72 := (e70.f f19 (by decide) h60)
        refine z_xgv zt190 59 rfl zo190 zzf12_136 X69 f19 (by decide) h72 ?_
        refine z_xZ zt190 60 rfl rfl (fun (h73 : x59.toInt < 0) => absurd h73 (by omega)) (fun (h73 : 0 ≤ x59.toInt) => ?_)
        refine z_xP zt190 61 139 [some (.ref 19), some (.int b1), some (.int x65), none, none, none] [.ref 19, .int (-100)] rfl rfl ?_
        refine z_xgv zt190 62 rfl zo190 zzf12_136 X69 f19 (by decide) h72 ?_
        have h74 := z_b32 x59
        refine z_xI zt190 63 rfl rfl (P := fun _ => True) (fun (x75 : Int32) _ => ?_) trivial
        have f23 : T[23]? = some (.inr (23, 0, 80, (-2147483648), 2147483647)) := X69.1.k rfl (by decide)
        have f24 : T[24]? = some (.inr (24, 0, 8, 0, 10)) := X69.1.k rfl (by decide)
        have h77 := (e70.f f19 (by decide) (X51.2.f f19 (by decide) (X2.2.f f19 (by decide) hp0)))
        have f31 : T[31]? = some (.inr (31, 0, 8, 0, 1024)) := X69.1.k rfl (by decide)
        have q0 : ((0 : Int32)).toInt = 0 := rfl
        exact z_xri zt190 64 rfl zzr190 (kk x75 M68 X69 (z_GL.ke (z_GL.ke (z_GL.ke hl X2.2 f23 f24 (by decide)) X51.2 f23 f24 (by decide)) e70 f23 f24 (by decide)) (z_A4.g4 (z_A4.ke (z_A4.ke (z_A4.ke hA4 X2.2 f31 (by decide)) X51.2 f31 (by decide)) e70 f31 (by decide)) h77 (by omega)) (y_AGPn hA0.1 (by omega) h77 (by omega) h71 (by omega) (z_lw_no (y_GIrest hG h3 (by omega) h15 (by omega) h5 h34 (by omega) (by omega)))))
      refine z_xP zt190 40 90 [some (.ref 19), some (.int b1), none, none, none, none] [.ref 19] rfl rfl ?_
      refine z_xcV (vs := [.ref 19]) (r := []) (L2 := [some (.ref 19), none, none, none]) zt190 41 rfl zo190 zzcV12_199 (Or.inl rfl) rfl X12 f19 rfl rfl rfl (Nat.le_of_ble_eq_true rfl) zzm196 (Nat.le_of_ble_eq_true rfl) rfl ?_
      have f23 : T[23]? = some (.inr (23, 0, 80, (-2147483648), 2147483647)) := X12.1.k rfl (by decide)
      have f24 : T[24]? = some (.inr (24, 0, 8, 0, 10)) := X12.1.k rfl (by decide)
      have f25 : T[25]? = some (.inr (25, 0, 8, 0, 8)) := X12.1.k rfl (by decide)
      have f26 : T[26]? = some (.inr (26, 0, 64, 0, 160)) := X12.1.k rfl (by decide)
      have f27 : T[27]? = some (.inr (27, 0, 8, (-2147483648), 2147483647)) := X12.1.k rfl (by decide)
      have f28 : T[28]? = some (.inr (28, 0, 8, (-2147483648), 2147483647)) := X12.1.k rfl (by decide)
      refine zYC196 X12.1 h5 ⟨by omega, by omega⟩ (z_GL.ke hl X2.2 f23 f24 (by decide)) (hG.1.go X.1 X2 rfl) (y_GIst hG h3 (by omega) ⟨(X2.2.1 19 12 0 0 0 0 22 f19 (by decide)), (X2.2.a f25 (by decide)), (X2.2.a f26 (by decide)), (X2.2.a f27 (by decide)), (X2.2.a f28 (by decide))⟩) (y_ppI (y_at M)) (fun M78 X79 h80 z81 h82 h83 h84 => ?_)
      have X85 := X12.go X79 (z_sb (by decide))
      show z_ev (d + 973) 190 93 [some (.ref 19), some (.int b1), none, none, none, none] [] M78 _
      refine z_xP zt190 42 80 [some (.ref 19), some (.int b1), none, none, none, none] [] rfl rfl ?_
      have h87 := (X79.2.f f19 (by decide) (X2.2.f f19 (by decide) hp0))
      have f31 : T[31]? = some (.inr (31, 0, 8, 0, 1024)) := X85.1.k rfl (by decide)
      have f20 : T[20]? = some (.inr (20, 0, 160, (-2147483648), 2147483647)) := X85.1.k rfl (by decide)
      exact ih.1 M78 b1 z0 z81 X85 ⟨by omega, by omega⟩ h87 ⟨by omega, by omega⟩ h82 ⟨by omega, by omega⟩ (by omega) (z_GL.ke (z_GL.ke hl X2.2 f23 f24 (by decide)) X79.2 f23 f24 (by decide)) (z_A4.ke (z_A4.ke hA4 X2.2 f31 (by decide)) X79.2 f31 (by decide)) hA0 (y_GIs hG h3 (by omega) ((hG.1.go X.1 X2 rfl).go X.1 X79 rfl) h80 ((X79.2.1 19 12 0 0 0 0 1 f19 (by decide)).trans (X2.2.1 19 12 0 0 0 0 1 f19 (by decide))) ((X79.2.a f20 (by decide)).trans (X2.2.a f20 (by decide))) ((X79.2.1 19 12 0 0 0 0 22 f19 (by decide)).trans (X2.2.1 19 12 0 0 0 0 22 f19 (by decide))) ((X79.2.a f24 (by decide)).trans (X2.2.a f24 (by decide)))) (by omega)
    · skip
      intro M b1 b2 b3 z0 z1 X hh0 hh1 hh2 hp0 hh4 hp1 hh6 hh7 hh8 hl hA4 hA0 hX hE
      obtain ⟨nu, pr, en, tn, ts, kq, hC⟩ := hX
      refine z_xP zt190 66 148 [some (.ref 19), some (.int b1), some (.int b2), some (.int b3), none, none] [.int b2, .int b3] rfl rfl ?_
      refine z_xJ zt190 67 rfl rfl (fun (h1 : b2.toInt ≤ b3.toInt) => ?_) (fun (h1 : b3.toInt < b2.toInt) => ?_)
      · skip
        refine z_xP zt190 81 176 [some (.ref 19), some (.int b1), some (.int b2), some (.int b3), none, none] [.ref 19] rfl rfl ?_
        have f19 : T[19]? = some (.inl (12, 0, 0, 0, 0)) := X.1.k rfl (by decide)
        refine z_xgX (b := 22) zt190 82 rfl zo190 zzf12_16 X f19 (by decide) (by decide) rfl ?_
        refine z_xP zt190 83 181 [some (.ref 19), some (.int b1), some (.int b2), some (.int b3), none, none] [.int b2, .int b1, .ref 22] rfl rfl ?_
        have f22 : T[22]? = some (.inr (22, 0, 8, 0, 160)) := X.1.k rfl (by decide)
        refine z_xis zt190 84 rfl X f22 (by decide) (by decide) (by omega) (by omega) (by omega) (by omega) (by decide) (fun M2 X3 e4 h5 => ?_)
        refine z_xP zt190 85 183 [some (.ref 19), some (.int b1), some (.int b2), some (.int b3), none, none] [.ref 19] rfl rfl ?_
        refine z_xgX (b := 31) zt190 86 rfl zo190 zzf12_43 X3 f19 (by decide) (by decide) rfl ?_
        refine z_xP zt190 87 188 [some (.ref 19), some (.int b1), some (.int b2), some (.int b3), none, none] [.int 0, .int b1, .ref 31] rfl rfl ?_
        have f31 : T[31]? = some (.inr (31, 0, 8, 0, 1024)) := X3.1.k rfl (by decide)
        have q0 : ((0 : Int32)).toInt = 0 := rfl
        refine z_xis zt190 88 rfl X3 f31 (by decide) (by decide) (by omega) (by omega) (by omega) (by omega) (by decide) (fun M6 X7 e8 h9 => ?_)
        have h10 := z_A4.st (z_A4.ke hA4 e4 f31 (by decide)) h9 rfl (by omega)
        refine z_xP zt190 89 191 [some (.ref 19), some (.int b1), some (.int b2), some (.int 0), none, none] [] rfl rfl ?_
        have h11 := (e8.f f19 (by decide) (e4.f f19 (by decide) hp0))
        have q0 : ((0 : Int32)).toInt = 0 := rfl
        have f24 : T[24]? = some (.inr (24, 0, 8, 0, 10)) := X7.1.k rfl (by decide)
        obtain ⟨x12, h13, h14, h15⟩ := z_W.ae (x := b1) X7.1 f24 (by decide) (by omega) (by omega)
        have h16 := (e8.f f19 (by decide) (e4.f f19 (by decide) hp1))
        have f23 : T[23]? = some (.inr (23, 0, 80, (-2147483648), 2147483647)) := X7.1.k rfl (by decide)
        have q0 : ((0 : Int32)).toInt = 0 := rfl
        have f21 : T[21]? = some (.inr (21, 0, 1280, (-2147483648), 2147483647)) := X7.1.k rfl (by decide)
        have f25 : T[25]? = some (.inr (25, 0, 8, 0, 8)) := X7.1.k rfl (by decide)
        have f26 : T[26]? = some (.inr (26, 0, 64, 0, 160)) := X7.1.k rfl (by decide)
        have f27 : T[27]? = some (.inr (27, 0, 8, (-2147483648), 2147483647)) := X7.1.k rfl (by decide)
        have f28 : T[28]? = some (.inr (28, 0, 8, (-2147483648), 2147483647)) := X7.1.k rfl (by decide)
        have q0 : ((0 : Int32)).toInt = 0 := rfl
        exact ih.2.2.1 M6 b1 b2 (0) none none z0 (0) x12 z1 X7 ⟨by omega, by omega⟩ ⟨by omega, by omega⟩ (by decide) h11 ⟨by omega, by omega⟩ (z_upe h9) (by decide) h13 ⟨by omega, by omega⟩ h16 ⟨by omega, by omega⟩ (by omega) (by omega) (by omega) (z_GL.ke (z_GL.ke hl e4 f23 f24 (by decide)) e8 f23 f24 (by decide)) h10 hA0 (y_LW0 hC (by omega) rfl ((e8.a f22 (by decide)).trans h5) rfl (h9.trans (congrArg (fun f => upd f _ _) (e4.a f31 (by decide)))) (by decide) ((e8.a f21 (by decide)).trans (e4.a f21 (by decide))) ⟨((e8.a f23 (by decide)).trans (e4.a f23 (by decide))), ((e8.a f24 (by decide)).trans (e4.a f24 (by decide))), ((e8.a f25 (by decide)).trans (e4.a f25 (by decide))), ((e8.a f26 (by decide)).trans (e4.a f26 (by decide))), ((e8.a f27 (by decide)).trans (e4.a f27 (by decide))), ((e8.a f28 (by decide)).trans (e4.a f28 (by decide)))⟩ rfl) (by omega)
      refine z_xP zt190 68 152 [some (.ref 19), some (.int b1), some (.int b2), some (.int b3), none, none] [.ref 19] rfl rfl ?_
      have f19 : T[19]? = some (.inl (12, 0, 0, 0, 0)) := X.1.k rfl (by decide)
      refine z_xgX (b := 21) zt190 69 rfl zo190 zzf12_13 X f19 (by decide) (by decide) rfl ?_
      refine z_xP zt190 70 159 [some (.ref 19), some (.int b1), some (.int b2), some (.int b3), none, none] [.int b1, .int 160, .ref 21] rfl rfl ?_
      refine z_xI zt190 71 rfl rfl (fun (x17 : Int32) (h18 : x17.toInt = 160 * b1.toInt) => ?_) (z_pMul rfl rfl (by omega) (by omega))
      refine z_xP zt190 72 161 [some (.ref 19), some (.int b1), some (.int b2), some (.int b3), none, none] [.int b3, .int x17, .ref 21] rfl rfl ?_
      refine z_xI zt190 73 rfl rfl (fun (x19 : Int32) (h20 : x19.toInt = x17.toInt + b3.toInt) => ?_) (z_pAdd rfl rfl (by omega) (by omega))
      refine z_xP zt190 74 163 [some (.ref 19), some (.int b1), some (.int b2), some (.int b3), none, none] [.ref 19, .int x19, .ref 21] rfl rfl ?_
      refine z_xgX (b := 20) zt190 75 rfl zo190 zzf12_9 X f19 (by decide) (by decide) rfl ?_
      refine z_xP zt190 76 167 [some (.ref 19), some (.int b1), some (.int b2), some (.int b3), none, none] [.int b3, .ref 20, .int x19, .ref 21] rfl rfl ?_
      have f20 : T[20]? = some (.inr (20, 0, 160, (-2147483648), 2147483647)) := X.1.k rfl (by decide)
      refine z_xil zt190 77 rfl X f20 (by decide) (by omega) (by omega) (fun (x21 : Int32) h22 (h23 : (-2147483648) ≤ x21.toInt) (h24 : x21.toInt ≤ 2147483647) => ?_)
      have f21 : T[21]? = some (.inr (21, 0, 1280, (-2147483648), 2147483647)) := X.1.k rfl (by decide)
      refine z_xis zt190 78 rfl X f21 (by decide) (by decide) (by omega) (by omega) (Int32.le_toInt _) (Int32.toInt_le _) (by decide) (fun M25 X26 e27 h28 => ?_)
      refine z_xN zt190 79 rfl rfl (fun (x29 : Int32) (h30 : x29.toInt = b3.toInt + 1) => ?_) (z_pAdd rfl rfl (by omega) (by omega))
      show z_ev (d + 973) 190 172 [some (.ref 19), some (.int b1), some (.int b2), some (.int x29), none, none] [] M25 _
      refine z_xP zt190 80 146 [some (.ref 19), some (.int b1), some (.int b2), some (.int x29), none, none] [] rfl rfl ?_
      have h31 := (e27.f f19 (by decide) hp0)
      have h32 := (e27.f f19 (by decide) hp1)
      have f23 : T[23]? = some (.inr (23, 0, 80, (-2147483648), 2147483647)) := X26.1.k rfl (by decide)
      have f24 : T[24]? = some (.inr (24, 0, 8, 0, 10)) := X26.1.k rfl (by decide)
      have f31 : T[31]? = some (.inr (31, 0, 8, 0, 1024)) := X26.1.k rfl (by decide)
      have f25 : T[25]? = some (.inr (25, 0, 8, 0, 8)) := X26.1.k rfl (by decide)
      have f26 : T[26]? = some (.inr (26, 0, 64, 0, 160)) := X26.1.k rfl (by decide)
      have f27 : T[27]? = some (.inr (27, 0, 8, (-2147483648), 2147483647)) := X26.1.k rfl (by decide)
      have f28 : T[28]? = some (.inr (28, 0, 8, (-2147483648), 2147483647)) := X26.1.k rfl (by decide)
      exact ih.2.1 M25 b1 b2 x29 z0 z1 X26 ⟨by omega, by omega⟩ ⟨by omega, by omega⟩ ⟨by omega, by omega⟩ h31 ⟨by omega, by omega⟩ h32 ⟨by omega, by omega⟩ (by omega) (by omega) (z_GL.ke hl e27 f23 f24 (by decide)) (z_A4.ke hA4 e27 f31 (by decide)) hA0 (y_CPs hC (by omega) (by omega) h22 rfl h28 (e27.a f20 (by decide)) ⟨(e27.a f23 (by decide)), (e27.a f24 (by decide)), (e27.a f25 (by decide)), (e27.a f26 (by decide)), (e27.a f27 (by decide)), (e27.a f28 (by decide))⟩ rfl (by omega)) (by omega)
    · skip
      intro M b1 b2 b3 o4 o5 z0 z1 z2 z3 X hh0 hh1 hh2 hp0 hh4 hp1 hh6 hp2 hh8 hp3 hh10 hh11 hh12 hh13 hl hA4 hA0 hX hE
      obtain ⟨nu, pr, en, tn, ts, kq, hW⟩ := hX
      refine z_xP zt190 90 194 [some (.ref 19), some (.int b1), some (.int b2), some (.int b3), o4, o5] [.ref 19, .int 1, .int b3] rfl rfl ?_
      have f19 : T[19]? = some (.inl (12, 0, 0, 0, 0)) := X.1.k rfl (by decide)
      refine z_xgX (b := 24) zt190 91 rfl zo190 zzf12_22 X f19 (by decide) (by decide) rfl ?_
      refine z_xP zt190 92 198 [some (.ref 19), some (.int b1), some (.int b2), some (.int b3), o4, o5] [.int b1, .ref 24, .int 1, .int b3] rfl rfl ?_
      have f24 : T[24]? = some (.inr (24, 0, 8, 0, 10)) := X.1.k rfl (by decide)
      refine z_xil zt190 93 rfl X f24 (by decide) (by omega) (by omega) (fun (x1 : Int32) h2 (h3 : 0 ≤ x1.toInt) (h4 : x1.toInt ≤ 10) => ?_)
      have h5 := congrArg Int32.toInt (h2.symm.trans hp2)
      refine z_xI zt190 94 rfl rfl (fun (x6 : Int32) (h7 : x6 = (1 : Int32) <<< (x1 &&& 31) ∧ (1 ≤ x6.toInt ∧ x6.toInt ≤ 1024)) => ?_) (⟨rfl, z_pShlB (a := 1) (b := 10) (c := 1024) (r := 1024) rfl rfl (by omega) (by omega) (by omega) (by omega) (by decide) (by decide) (by decide) (by decide)⟩)
      refine z_xJ zt190 95 rfl rfl (fun (h8 : x6.toInt ≤ b3.toInt) => ?_) (fun (h8 : b3.toInt < x6.toInt) => ?_)
      · skip
        refine z_xP zt190 142 304 [some (.ref 19), some (.int b1), some (.int b2), some (.int b3), o4, o5] [.ref 19] rfl rfl ?_
        refine z_xgX (b := 31) zt190 143 rfl zo190 zzf12_43 X f19 (by decide) (by decide) rfl ?_
        refine z_xP zt190 144 308 [some (.ref 19), some (.int b1), some (.int b2), some (.int b3), o4, o5] [.int b1, .ref 31] rfl rfl ?_
        have f31 : T[31]? = some (.inr (31, 0, 8, 0, 1024)) := X.1.k rfl (by decide)
        refine z_xil zt190 145 rfl X f31 (by decide) (by omega) (by omega) (fun (x9 : Int32) h10 (h11 : 0 ≤ x9.toInt) (h12 : x9.toInt ≤ 1024) => ?_)
        have h13 := congrArg Int32.toInt (h10.symm.trans hp1)
        refine z_xZ zt190 146 rfl rfl (fun (h14 : x9.toInt ≠ 0) => ?_) (fun (h14 : x9.toInt = 0) => ?_)
        · skip
          refine z_xP zt190 151 323 [some (.ref 19), some (.int b1), some (.int b2), some (.int b3), o4, o5] [.ref 19] rfl rfl ?_
          refine z_xgX (b := 35) zt190 152 rfl zo190 zzf12_55 X f19 (by decide) (by decide) rfl ?_
          refine z_xP zt190 153 328 [some (.ref 19), some (.int b1), some (.int b2), some (.int b3), o4, o5] [.int 0, .int b1, .ref 35] rfl rfl ?_
          have f35 : T[35]? = some (.inr (35, 0, 8, 0, 9)) := X.1.k rfl (by decide)
          have q0 : ((0 : Int32)).toInt = 0 := rfl
          refine z_xis zt190 154 rfl X f35 (by decide) (by decide) (by omega) (by omega) (by omega) (by omega) (by decide) (fun M15 X16 e17 h18 => ?_)
          refine z_xP zt190 155 331 [some (.ref 19), some (.int b1), some (.int b2), some (.int b3), o4, o5] [.ref 19, .ref 19] rfl rfl ?_
          have h19 := (e17.f f19 (by decide) hp0)
          refine z_xgv zt190 156 rfl zo190 zzf12_110 X16 f19 (by decide) h19 ?_
          refine z_xP zt190 157 335 [some (.ref 19), some (.int b1), some (.int b2), some (.int b3), o4, o5] [.int 1, .int z0, .ref 19] rfl rfl ?_
          refine z_xI zt190 158 rfl rfl (fun (x20 : Int32) (h21 : x20.toInt = z0.toInt + 1) => ?_) (z_pAdd rfl rfl (by omega) (by omega))
          refine z_xpf zt190 159 rfl zo190 zzf12_110 X16 f19 (by decide) (by decide) ⟨by omega, by omega⟩ rfl (by decide) zw12_13 (fun M22 X23 e24 h25 => ?_)
          refine z_xP zt190 160 340 [some (.ref 19), some (.int b1), some (.int b2), some (.int b3), o4, o5] [.int b1] rfl rfl ?_
          have f23 : T[23]? = some (.inr (23, 0, 80, (-2147483648), 2147483647)) := X23.1.k rfl (by decide)
          have h26 := ((congrFun (e24.a f31 (by decide)) _).trans ((congrFun (e17.a f31 (by decide)) _).trans hp1))
          have h27 := (e24.f f19 (by decide) (e17.f f19 (by decide) hp3))
          have h28 := y_LWe hW rfl h2 h7.1 ⟨by omega, by omega⟩ (by omega)
          have f21 : T[21]? = some (.inr (21, 0, 1280, (-2147483648), 2147483647)) := X23.1.k rfl (by decide)
          have f22 : T[22]? = some (.inr (22, 0, 8, 0, 160)) := X23.1.k rfl (by decide)
          have f25 : T[25]? = some (.inr (25, 0, 8, 0, 8)) := X23.1.k rfl (by decide)
          have f26 : T[26]? = some (.inr (26, 0, 64, 0, 160)) := X23.1.k rfl (by decide)
          have f27 : T[27]? = some (.inr (27, 0, 8, (-2147483648), 2147483647)) := X23.1.k rfl (by decide)
          have f28 : T[28]? = some (.inr (28, 0, 8, (-2147483648), 2147483647)) := X23.1.k rfl (by decide)
          have f29 : T[29]? = some (.inr (29, 0, 8192, (-2147483648), 2147483647)) := X23.1.k rfl (by decide)
          have f30 : T[30]? = some (.inr (30, 0, 8192, 0, 1023)) := X23.1.k rfl (by decide)
          exact z_xri zt190 161 rfl zzr190 (kk b1 M22 X23 (z_GL.ke (z_GL.ke hl e17 f23 f24 (by decide)) e24 f23 f24 (by decide)) (z_A4.g4 (z_A4.one (x := b1) (z_A4.ke (z_A4.ke hA4 e17 f31 (by decide)) e24 f31 (by decide)) h26 rfl (by omega) (by omega)) h25 (by omega)) (y_AGPy hA0.1 (by omega) h25 (by omega) h27 (by omega) ((y_LWl h28 rfl h10).2 (by omega)) rfl (h28.kp ((e24.a f21 (by decide)).trans (e17.a f21 (by decide))) ((e24.a f22 (by decide)).trans (e17.a f22 (by decide))) ⟨((e24.a f23 (by decide)).trans (e17.a f23 (by decide))), ((e24.a f24 (by decide)).trans (e17.a f24 (by decide))), ((e24.a f25 (by decide)).trans (e17.a f25 (by decide))), ((e24.a f26 (by decide)).trans (e17.a f26 (by decide))), ((e24.a f27 (by decide)).trans (e17.a f27 (by decide))), ((e24.a f28 (by decide)).trans (e17.a f28 (by decide)))⟩ ((e24.a f29 (by decide)).trans (e17.a f29 (by decide))) ((e24.a f30 (by decide)).trans (e17.a f30 (by decide))) ((e24.a f31 (by decide)).trans (e17.a f31 (by decide))))))
        refine z_xP zt190 147 317 [some (.ref 19), some (.int b1), some (.int b2), some (.int b3), o4, o5] [.int b1, .ref 19, .int (-1000)] rfl rfl ?_
        refine z_xcV (vs := [.ref 19, .int b1]) (r := [.int (-1000)]) (L2 := [some (.ref 19), some (.int b1), none, none, none, none]) zt190 148 rfl zo190 zzcV12_206 (Or.inl rfl) rfl X f19 rfl rfl rfl (Nat.le_of_ble_eq_true rfl) zzm206 (Nat.le_of_ble_eq_true rfl) rfl ?_
        refine zC206 X.1 (by omega) (fun x31 M29 X30 h32 h33 => ?_)
        have X34 := X.go X30 (z_sb (by decide))
        show z_ev (d + 973) 190 320 [some (.ref 19), some (.int b1), some (.int b2), some (.int b3), o4, o5] [.int x31, .int (-1000)] M29 _
        refine z_xI zt190 149 rfl rfl (fun (x36 : Int32) (h37 : x36.toInt = (-1000) - x31.toInt) => ?_) (z_pSub rfl rfl (by omega) (by omega))
        have f23 : T[23]? = some (.inr (23, 0, 80, (-2147483648), 2147483647)) := X34.1.k rfl (by decide)
        have h38 := (X30.2.f f19 (by decide) hp0)
        have h39 := (X30.2.f f19 (by decide) hp3)
        have h40 := y_LWe hW rfl h2 h7.1 ⟨by omega, by omega⟩ (by omega)
        exact z_xri zt190 150 rfl zzr190 (kk x36 M29 X34 (z_GL.ke hl X30.2 f23 f24 (by decide)) (z_A4.g4 (z_A4.ke hA4 X30.2 f31 (by decide)) h38 (by omega)) (y_AGPn hA0.1 (by omega) h38 (by omega) h39 (by omega) ((y_LWl h40 rfl h10).1 (by omega))))
      refine z_xP zt190 96 209 [some (.ref 19), some (.int b1), some (.int b2), some (.int b3), some (.int 0), some (.int 0)] [] rfl rfl ?_
      have f31 : T[31]? = some (.inr (31, 0, 8, 0, 1024)) := X.1.k rfl (by decide)
      have q0 : ((0 : Int32)).toInt = 0 := rfl
      have q0 : ((0 : Int32)).toInt = 0 := rfl
      exact ih.2.2.2 M b1 b2 b3 (0) (0) z0 z1 z2 z3 X ⟨by omega, by omega⟩ ⟨by omega, by omega⟩ ⟨by omega, by omega⟩ (by decide) (by decide) hp0 ⟨by omega, by omega⟩ hp1 ⟨by omega, by omega⟩ hp2 ⟨by omega, by omega⟩ hp3 ⟨by omega, by omega⟩ (by omega) (by omega) (by omega) (by omega) hl hA4 hA0 ⟨nu, pr, en, tn, ts, kq, y_LB0 hW (by omega) rfl h2 h7.1 ⟨by omega, by omega⟩ (by omega) rfl rfl⟩ (by omega)
    · skip
      intro M b1 b2 b3 b4 b5 z0 z1 z2 z3 X hh0 hh1 hh2 hh3 hh4 hp0 hh6 hp1 hh8 hp2 hh10 hp3 hh12 hh13 hh14 hh15 hh16 hl hA4 hA0 hX hE
      obtain ⟨nu, pr, en, tn, ts, kq, hB⟩ := hX
      refine z_xP zt190 97 212 [some (.ref 19), some (.int b1), some (.int b2), some (.int b3), some (.int b4), some (.int b5)] [.ref 19, .int b5] rfl rfl ?_
      have f19 : T[19]? = some (.inl (12, 0, 0, 0, 0)) := X.1.k rfl (by decide)
      refine z_xgX (b := 25) zt190 98 rfl zo190 zzf12_25 X f19 (by decide) (by decide) rfl ?_
      refine z_xP zt190 99 216 [some (.ref 19), some (.int b1), some (.int b2), some (.int b3), some (.int b4), some (.int b5)] [.int b1, .ref 25, .int b5] rfl rfl ?_
      have f25 : T[25]? = some (.inr (25, 0, 8, 0, 8)) := X.1.k rfl (by decide)
      refine z_xil zt190 100 rfl X f25 (by decide) (by omega) (by omega) (fun (x1 : Int32) h2 (h3 : 0 ≤ x1.toInt) (h4 : x1.toInt ≤ 8) => ?_)
      have h5 := y_LBt hB rfl h2
      refine z_xJ zt190 101 rfl rfl (fun (h6 : x1.toInt ≤ b5.toInt) => ?_) (fun (h6 : b5.toInt < x1.toInt) => ?_)
      · skip
        refine z_xP zt190 112 251 [some (.ref 19), some (.int b1), some (.int b2), some (.int b3), some (.int b4), some (.int b5)] [.ref 19] rfl rfl ?_
        refine z_xgX (b := 29) zt190 113 rfl zo190 zzf12_37 X f19 (by decide) (by decide) rfl ?_
        refine z_xP zt190 114 258 [some (.ref 19), some (.int b1), some (.int b2), some (.int b3), some (.int b4), some (.int b5)] [.int b1, .int 1024, .ref 29] rfl rfl ?_
        refine z_xI zt190 115 rfl rfl (fun (x7 : Int32) (h8 : x7.toInt = 1024 * b1.toInt) => ?_) (z_pMul rfl rfl (by omega) (by omega))
        refine z_xP zt190 116 260 [some (.ref 19), some (.int b1), some (.int b2), some (.int b3), some (.int b4), some (.int b5)] [.int b3, .int x7, .ref 29] rfl rfl ?_
        refine z_xI zt190 117 rfl rfl (fun (x9 : Int32) (h10 : x9.toInt = x7.toInt + b3.toInt) => ?_) (z_pAdd rfl rfl (by omega) (by omega))
        refine z_xP zt190 118 263 [some (.ref 19), some (.int b1), some (.int b2), some (.int b3), some (.int b4), some (.int b5)] [.int b4, .int x9, .ref 29] rfl rfl ?_
        have f29 : T[29]? = some (.inr (29, 0, 8192, (-2147483648), 2147483647)) := X.1.k rfl (by decide)
        refine z_xis zt190 119 rfl X f29 (by decide) (by decide) (by omega) (by omega) (Int32.le_toInt _) (Int32.toInt_le _) (by decide) (fun M11 X12 e13 h14 => ?_)
        refine z_xP zt190 120 266 [some (.ref 19), some (.int b1), some (.int b2), some (.int b3), some (.int b4), some (.int b5)] [.int b4] rfl rfl ?_
        refine z_xZ zt190 121 rfl rfl (fun (h15 : b4.toInt ≠ 0) => ?_) (fun (h15 : b4.toInt = 0) => ?_)
        · skip
          refine z_xN zt190 140 rfl rfl (fun (x16 : Int32) (h17 : x16.toInt = b3.toInt + 1) => ?_) (z_pAdd rfl rfl (by omega) (by omega))
          show z_ev (d + 973) 190 300 [some (.ref 19), some (.int b1), some (.int b2), some (.int x16), some (.int b4), some (.int b5)] [] M11 _
          refine z_xP zt190 141 191 [some (.ref 19), some (.int b1), some (.int b2), some (.int x16), some (.int b4), some (.int b5)] [] rfl rfl ?_
          have h18 := (e13.f f19 (by decide) hp0)
          have f31 : T[31]? = some (.inr (31, 0, 8, 0, 1024)) := X12.1.k rfl (by decide)
          have h19 := ((congrFun (e13.a f31 (by decide)) _).trans hp1)
          have f24 : T[24]? = some (.inr (24, 0, 8, 0, 10)) := X12.1.k rfl (by decide)
          have h20 := ((congrFun (e13.a f24 (by decide)) _).trans hp2)
          have h21 := (e13.f f19 (by decide) hp3)
          have f23 : T[23]? = some (.inr (23, 0, 80, (-2147483648), 2147483647)) := X12.1.k rfl (by decide)
          have f21 : T[21]? = some (.inr (21, 0, 1280, (-2147483648), 2147483647)) := X12.1.k rfl (by decide)
          have f22 : T[22]? = some (.inr (22, 0, 8, 0, 160)) := X12.1.k rfl (by decide)
          have f26 : T[26]? = some (.inr (26, 0, 64, 0, 160)) := X12.1.k rfl (by decide)
          have f27 : T[27]? = some (.inr (27, 0, 8, (-2147483648), 2147483647)) := X12.1.k rfl (by decide)
          have f28 : T[28]? = some (.inr (28, 0, 8, (-2147483648), 2147483647)) := X12.1.k rfl (by decide)
          have f30 : T[30]? = some (.inr (30, 0, 8192, 0, 1023)) := X12.1.k rfl (by decide)
          exact ih.2.2.1 M11 b1 b2 x16 (some (.int b4)) (some (.int b5)) z0 z1 z2 z3 X12 ⟨by omega, by omega⟩ ⟨by omega, by omega⟩ ⟨by omega, by omega⟩ h18 ⟨by omega, by omega⟩ h19 ⟨by omega, by omega⟩ h20 ⟨by omega, by omega⟩ h21 ⟨by omega, by omega⟩ (by omega) (by omega) (by omega) (z_GL.ke hl e13 f23 f24 (by decide)) (z_A4.ke hA4 e13 f31 (by decide)) hA0 ⟨nu, pr, en, tn, ts, kq, y_LBd hB (by omega) (by omega) (by omega) rfl h14 (e13.a f21 (by decide)) (e13.a f22 (by decide)) ⟨(e13.a f23 (by decide)), (e13.a f24 (by decide)), (e13.a f25 (by decide)), (e13.a f26 (by decide)), (e13.a f27 (by decide)), (e13.a f28 (by decide))⟩ (e13.a f30 (by decide)) (e13.a f31 (by decide)) (by omega) (by omega)⟩ (by omega)
        refine z_xP zt190 122 270 [some (.ref 19), some (.int b1), some (.int b2), some (.int b3), some (.int b4), some (.int b5)] [.ref 19] rfl rfl ?_
        refine z_xgX (b := 30) zt190 123 rfl zo190 zzf12_40 X12 f19 (by decide) (by decide) rfl ?_
        refine z_xP zt190 124 277 [some (.ref 19), some (.int b1), some (.int b2), some (.int b3), some (.int b4), some (.int b5)] [.int b1, .int 1024, .ref 30] rfl rfl ?_
        refine z_xI zt190 125 rfl rfl (fun (x22 : Int32) (h23 : x22.toInt = 1024 * b1.toInt) => ?_) (z_pMul rfl rfl (by omega) (by omega))
        refine z_xP zt190 126 279 [some (.ref 19), some (.int b1), some (.int b2), some (.int b3), some (.int b4), some (.int b5)] [.ref 19, .int x22, .ref 30] rfl rfl ?_
        refine z_xgX (b := 31) zt190 127 rfl zo190 zzf12_43 X12 f19 (by decide) (by decide) rfl ?_
        refine z_xP zt190 128 283 [some (.ref 19), some (.int b1), some (.int b2), some (.int b3), some (.int b4), some (.int b5)] [.int b1, .ref 31, .int x22, .ref 30] rfl rfl ?_
        have f31 : T[31]? = some (.inr (31, 0, 8, 0, 1024)) := X12.1.k rfl (by decide)
        refine z_xil zt190 129 rfl X12 f31 (by decide) (by omega) (by omega) (fun (x24 : Int32) h25 (h26 : 0 ≤ x24.toInt) (h27 : x24.toInt ≤ 1024) => ?_)
        have h28 := congrArg Int32.toInt (h25.symm.trans ((congrFun (e13.a f31 (by decide)) _).trans hp1))
        refine z_xI zt190 130 rfl rfl (fun (x29 : Int32) (h30 : x29.toInt = x22.toInt + x24.toInt) => ?_) (z_pAdd rfl rfl (by omega) (by omega))
        refine z_xP zt190 131 286 [some (.ref 19), some (.int b1), some (.int b2), some (.int b3), some (.int b4), some (.int b5)] [.int b3, .int x29, .ref 30] rfl rfl ?_
        have f30 : T[30]? = some (.inr (30, 0, 8192, 0, 1023)) := X12.1.k rfl (by decide)
        refine z_xis zt190 132 rfl X12 f30 (by decide) (by decide) (by omega) (by omega) (by omega) (by omega) (by decide) (fun M31 X32 e33 h34 => ?_)
        refine z_xP zt190 133 288 [some (.ref 19), some (.int b1), some (.int b2), some (.int b3), some (.int b4), some (.int b5)] [.ref 19] rfl rfl ?_
        refine z_xgX (b := 31) zt190 134 rfl zo190 zzf12_43 X32 f19 (by decide) (by decide) rfl ?_
        refine z_xP zt190 135 293 [some (.ref 19), some (.int b1), some (.int b2), some (.int b3), some (.int b4), some (.int b5)] [.int b1, .ref 31, .int b1, .ref 31] rfl rfl ?_
        refine z_xil zt190 136 rfl X32 f31 (by decide) (by omega) (by omega) (fun (x35 : Int32) h36 (h37 : 0 ≤ x35.toInt) (h38 : x35.toInt ≤ 1024) => ?_)
        have h39 := congrArg Int32.toInt (h36.symm.trans ((congrFun (e33.a f31 (by decide)) _).trans ((congrFun (e13.a f31 (by decide)) _).trans hp1)))
        refine z_xP zt190 137 295 [some (.ref 19), some (.int b1), some (.int b2), some (.int b3), some (.int b4), some (.int b5)] [.int 1, .int x35, .int b1, .ref 31] rfl rfl ?_
        refine z_xI zt190 138 rfl rfl (fun (x40 : Int32) (h41 : x40.toInt = x35.toInt + 1) => ?_) (z_pAdd rfl rfl (by omega) (by omega))
        refine z_xis zt190 139 rfl X32 f31 (by decide) (by decide) (by omega) (by omega) (by omega) (by omega) (by decide) (fun M42 X43 e44 h45 => ?_)
        have h46 := z_A4.st (z_A4.ke (z_A4.ke hA4 e13 f31 (by decide)) e33 f31 (by decide)) h45 rfl (by omega)
        refine z_xN zt190 140 rfl rfl (fun (x47 : Int32) (h48 : x47.toInt = b3.toInt + 1) => ?_) (z_pAdd rfl rfl (by omega) (by omega))
        show z_ev (d + 973) 190 300 [some (.ref 19), some (.int b1), some (.int b2), some (.int x47), some (.int b4), some (.int b5)] [] M42 _
        refine z_xP zt190 141 191 [some (.ref 19), some (.int b1), some (.int b2), some (.int x47), some (.int b4), some (.int b5)] [] rfl rfl ?_
        have h49 := (e44.f f19 (by decide) (e33.f f19 (by decide) (e13.f f19 (by decide) hp0)))
        have f24 : T[24]? = some (.inr (24, 0, 8, 0, 10)) := X43.1.k rfl (by decide)
        have h50 := ((congrFun (e44.a f24 (by decide)) _).trans ((congrFun (e33.a f24 (by decide)) _).trans ((congrFun (e13.a f24 (by decide)) _).trans hp2)))
        have h51 := (e44.f f19 (by decide) (e33.f f19 (by decide) (e13.f f19 (by decide) hp3)))
        have f23 : T[23]? = some (.inr (23, 0, 80, (-2147483648), 2147483647)) := X43.1.k rfl (by decide)
        have f21 : T[21]? = some (.inr (21, 0, 1280, (-2147483648), 2147483647)) := X43.1.k rfl (by decide)
        have f22 : T[22]? = some (.inr (22, 0, 8, 0, 160)) := X43.1.k rfl (by decide)
        have f26 : T[26]? = some (.inr (26, 0, 64, 0, 160)) := X43.1.k rfl (by decide)
        have f27 : T[27]? = some (.inr (27, 0, 8, (-2147483648), 2147483647)) := X43.1.k rfl (by decide)
        have f28 : T[28]? = some (.inr (28, 0, 8, (-2147483648), 2147483647)) := X43.1.k rfl (by decide)
        exact ih.2.2.1 M42 b1 b2 x47 (some (.int b4)) (some (.int b5)) z0 x40 z2 z3 X43 ⟨by omega, by omega⟩ ⟨by omega, by omega⟩ ⟨by omega, by omega⟩ h49 ⟨by omega, by omega⟩ (z_upe h45) ⟨by omega, by omega⟩ h50 ⟨by omega, by omega⟩ h51 ⟨by omega, by omega⟩ (by omega) (by omega) (by omega) (z_GL.ke (z_GL.ke (z_GL.ke hl e13 f23 f24 (by decide)) e33 f23 f24 (by decide)) e44 f23 f24 (by decide)) h46 hA0 ⟨nu, pr, en, tn, ts, kq, y_LBl hB (by omega) (by omega) (by omega) rfl (((e44.a f29 (by decide)).trans (e33.a f29 (by decide))).trans h14) ((e44.a f21 (by decide)).trans ((e33.a f21 (by decide)).trans (e13.a f21 (by decide)))) ((e44.a f22 (by decide)).trans ((e33.a f22 (by decide)).trans (e13.a f22 (by decide)))) ⟨((e44.a f23 (by decide)).trans ((e33.a f23 (by decide)).trans (e13.a f23 (by decide)))), ((e44.a f24 (by decide)).trans ((e33.a f24 (by decide)).trans (e13.a f24 (by decide)))), ((e44.a f25 (by decide)).trans ((e33.a f25 (by decide)).trans (e13.a f25 (by decide)))), ((e44.a f26 (by decide)).trans ((e33.a f26 (by decide)).trans (e13.a f26 (by decide)))), ((e44.a f27 (by decide)).trans ((e33.a f27 (by decide)).trans (e13.a f27 (by decide)))), ((e44.a f28 (by decide)).trans ((e33.a f28 (by decide)).trans (e13.a f28 (by decide))))⟩ (by omega) ((congrFun (e13.a f31 (by decide)) _).symm.trans h25) rfl (by omega) rfl ((e44.a f30 (by decide)).trans (h34.trans (congrArg (fun f => upd f _ _) (e13.a f30 (by decide))))) (h45.trans (congrArg (fun f => upd f _ _) ((e33.a f31 (by decide)).trans (e13.a f31 (by decide))))) (by omega) (by omega)⟩ (by omega)
      refine z_xP zt190 102 227 [some (.ref 19), some (.int b1), some (.int b2), some (.int b3), some (.int b4), some (.int b5)] [.int b3, .int b5, .int b1, .ref 19, .int b4] rfl rfl ?_
      refine z_xcV (vs := [.ref 19, .int b1, .int b5, .int b3]) (r := [.int b4]) (L2 := [some (.ref 19), some (.int b1), some (.int b5), some (.int b3)]) zt190 103 rfl zo190 zzcV12_202 (Or.inl rfl) rfl X f19 rfl rfl rfl (Nat.le_of_ble_eq_true rfl) zzm205 (Nat.le_of_ble_eq_true rfl) rfl ?_
      refine zYC205 X.1 (by omega) (by omega) hl hB.1.1 ⟨by omega, (z_wh_ok hB.1.2.1).1⟩ (by omega) (fun x55 M52 X53 h56 h57 h54 => ?_)
      have X58 := X.go X53 (z_sb (by decide))
      show z_ev (d + 973) 190 230 [some (.ref 19), some (.int b1), some (.int b2), some (.int b3), some (.int b4), some (.int b5)] [.int x55, .int b4] M52 _
      refine z_xZ zt190 104 rfl rfl (fun (h60 : x55.toInt = 0) => ?_) (fun (h60 : x55.toInt ≠ 0) => ?_)
      · skip
        refine z_xP zt190 106 240 [some (.ref 19), some (.int b1), some (.int b2), some (.int b3), some (.int b4), some (.int b5)] [.int b5, .int 1, .int b4] rfl rfl ?_
        refine z_xI zt190 107 rfl rfl (fun (x61 : Int32) (h62 : x61 = (1 : Int32) <<< (b5 &&& 31) ∧ (1 ≤ x61.toInt ∧ x61.toInt ≤ 128)) => ?_) (⟨rfl, z_pShlB (a := 1) (b := 7) (c := 128) (r := 128) rfl rfl (by omega) (by omega) (by omega) (by omega) (by decide) (by decide) (by decide) (by decide)⟩)
        refine z_xI zt190 108 rfl rfl (fun (x63 : Int32) (h64 : x63 = b4 ||| x61 ∧ (0 ≤ x63.toInt ∧ x63.toInt < 256 ∧ b4.toInt ≤ x63.toInt ∧ x61.toInt ≤ x63.toInt)) => ?_) (⟨rfl, z_pOr 8 rfl rfl (by omega) (by omega) (by decide) (by omega) (by omega) (by decide)⟩)
        refine z_xP zt190 109 244 [some (.ref 19), some (.int b1), some (.int b2), some (.int b3), some (.int x63), some (.int b5)] [] rfl rfl ?_
        refine z_xN zt190 110 rfl rfl (fun (x65 : Int32) (h66 : x65.toInt = b5.toInt + 1) => ?_) (z_pAdd rfl rfl (by omega) (by omega))
        show z_ev (d + 973) 190 247 [some (.ref 19), some (.int b1), some (.int b2), some (.int b3), some (.int x63), some (.int x65)] [] M52 _
        refine z_xP zt190 111 209 [some (.ref 19), some (.int b1), some (.int b2), some (.int b3), some (.int x63), some (.int x65)] [] rfl rfl ?_
        have h67 := (X53.2.f f19 (by decide) hp0)
        have f31 : T[31]? = some (.inr (31, 0, 8, 0, 1024)) := X58.1.k rfl (by decide)
        have h68 := ((congrFun (X53.2.a f31 (by decide)) _).trans hp1)
        have f24 : T[24]? = some (.inr (24, 0, 8, 0, 10)) := X58.1.k rfl (by decide)
        have h69 := ((congrFun (X53.2.a f24 (by decide)) _).trans hp2)
        have h70 := (X53.2.f f19 (by decide) hp3)
        have f23 : T[23]? = some (.inr (23, 0, 80, (-2147483648), 2147483647)) := X58.1.k rfl (by decide)
        have f21 : T[21]? = some (.inr (21, 0, 1280, (-2147483648), 2147483647)) := X58.1.k rfl (by decide)
        have f22 : T[22]? = some (.inr (22, 0, 8, 0, 160)) := X58.1.k rfl (by decide)
        have f26 : T[26]? = some (.inr (26, 0, 64, 0, 160)) := X58.1.k rfl (by decide)
        have f27 : T[27]? = some (.inr (27, 0, 8, (-2147483648), 2147483647)) := X58.1.k rfl (by decide)
        have f28 : T[28]? = some (.inr (28, 0, 8, (-2147483648), 2147483647)) := X58.1.k rfl (by decide)
        have f29 : T[29]? = some (.inr (29, 0, 8192, (-2147483648), 2147483647)) := X58.1.k rfl (by decide)
        have f30 : T[30]? = some (.inr (30, 0, 8192, 0, 1023)) := X58.1.k rfl (by decide)
        exact ih.2.2.2 M52 b1 b2 b3 x63 x65 z0 z1 z2 z3 X58 ⟨by omega, by omega⟩ ⟨by omega, by omega⟩ ⟨by omega, by omega⟩ ⟨by omega, by omega⟩ ⟨by omega, by omega⟩ h67 ⟨by omega, by omega⟩ h68 ⟨by omega, by omega⟩ h69 ⟨by omega, by omega⟩ h70 ⟨by omega, by omega⟩ (by omega) (by omega) (by omega) (by omega) (z_GL.ke hl X53.2 f23 f24 (by decide)) (z_A4.ke hA4 X53.2 f31 (by decide)) hA0 ⟨nu, pr, en, tn, ts, kq, y_LBb hB h54 (by omega) (by omega) (by omega) (by omega) h62.1 h64.1 (hB.1.kp (X53.2.a f21 (by decide)) (X53.2.a f22 (by decide)) ⟨(X53.2.a f23 (by decide)), (X53.2.a f24 (by decide)), (X53.2.a f25 (by decide)), (X53.2.a f26 (by decide)), (X53.2.a f27 (by decide)), (X53.2.a f28 (by decide))⟩ (X53.2.a f29 (by decide)) (X53.2.a f30 (by decide)) (X53.2.a f31 (by decide)))⟩ (by omega)
      refine z_xP zt190 105 241 [some (.ref 19), some (.int b1), some (.int b2), some (.int b3), some (.int b4), some (.int b5)] [.int 0, .int b4] rfl rfl ?_
      refine z_xI zt190 108 rfl rfl (fun (x71 : Int32) (h72 : x71 = b4 ||| 0 ∧ (0 ≤ x71.toInt ∧ x71.toInt < 256 ∧ b4.toInt ≤ x71.toInt ∧ 0 ≤ x71.toInt)) => ?_) (⟨rfl, z_pOr 8 rfl rfl (by omega) (by omega) (by decide) (by omega) (by omega) (by decide)⟩)
      refine z_xP zt190 109 244 [some (.ref 19), some (.int b1), some (.int b2), some (.int b3), some (.int x71), some (.int b5)] [] rfl rfl ?_
      refine z_xN zt190 110 rfl rfl (fun (x73 : Int32) (h74 : x73.toInt = b5.toInt + 1) => ?_) (z_pAdd rfl rfl (by omega) (by omega))
      show z_ev (d + 973) 190 247 [some (.ref 19), some (.int b1), some (.int b2), some (.int b3), some (.int x71), some (.int x73)] [] M52 _
      refine z_xP zt190 111 209 [some (.ref 19), some (.int b1), some (.int b2), some (.int b3), some (.int x71), some (.int x73)] [] rfl rfl ?_
      have h75 := (X53.2.f f19 (by decide) hp0)
      have f31 : T[31]? = some (.inr (31, 0, 8, 0, 1024)) := X58.1.k rfl (by decide)
      have h76 := ((congrFun (X53.2.a f31 (by decide)) _).trans hp1)
      have f24 : T[24]? = some (.inr (24, 0, 8, 0, 10)) := X58.1.k rfl (by decide)
      have h77 := ((congrFun (X53.2.a f24 (by decide)) _).trans hp2)
      have h78 := (X53.2.f f19 (by decide) hp3)
      have f23 : T[23]? = some (.inr (23, 0, 80, (-2147483648), 2147483647)) := X58.1.k rfl (by decide)
      have f21 : T[21]? = some (.inr (21, 0, 1280, (-2147483648), 2147483647)) := X58.1.k rfl (by decide)
      have f22 : T[22]? = some (.inr (22, 0, 8, 0, 160)) := X58.1.k rfl (by decide)
      have f26 : T[26]? = some (.inr (26, 0, 64, 0, 160)) := X58.1.k rfl (by decide)
      have f27 : T[27]? = some (.inr (27, 0, 8, (-2147483648), 2147483647)) := X58.1.k rfl (by decide)
      have f28 : T[28]? = some (.inr (28, 0, 8, (-2147483648), 2147483647)) := X58.1.k rfl (by decide)
      have f29 : T[29]? = some (.inr (29, 0, 8192, (-2147483648), 2147483647)) := X58.1.k rfl (by decide)
      have f30 : T[30]? = some (.inr (30, 0, 8192, 0, 1023)) := X58.1.k rfl (by decide)
      exact ih.2.2.2 M52 b1 b2 b3 x71 x73 z0 z1 z2 z3 X58 ⟨by omega, by omega⟩ ⟨by omega, by omega⟩ ⟨by omega, by omega⟩ ⟨by omega, by omega⟩ ⟨by omega, by omega⟩ h75 ⟨by omega, by omega⟩ h76 ⟨by omega, by omega⟩ h77 ⟨by omega, by omega⟩ h78 ⟨by omega, by omega⟩ (by omega) (by omega) (by omega) (by omega) (z_GL.ke hl X53.2 f23 f24 (by decide)) (z_A4.ke hA4 X53.2 f31 (by decide)) hA0 ⟨nu, pr, en, tn, ts, kq, y_LBk hB h54 (by omega) (by omega) (by omega) (z_or0 h72.1) (hB.1.kp (X53.2.a f21 (by decide)) (X53.2.a f22 (by decide)) ⟨(X53.2.a f23 (by decide)), (X53.2.a f24 (by decide)), (X53.2.a f25 (by decide)), (X53.2.a f26 (by decide)), (X53.2.a f27 (by decide)), (X53.2.a f28 (by decide))⟩ (X53.2.a f29 (by decide)) (X53.2.a f30 (by decide)) (X53.2.a f31 (by decide)))⟩ (by omega)
theorem zYC190 {T : List zK} {d : Nat} {K : Option Value → zH → Prop} {bb : Nat → Int} {nn : Nat} {M0 : zH} (hW : z_W M0 T) (hL : z_GL M0) (ha4 : z_G4 M0) (hT0 : y_T0 M0 bb nn) (kk : ∀ (x : Int32) (M1 : zH), z_X T zw190 M0 M1 → z_GL M1 → z_G4 M1 → y_AGP bb nn M0 M1 → K (some (.int x)) M1) : z_ev (d + 973) 190 0 [some (.ref 19), none, none, none, none, none] [] M0 K := by
  have X : z_X T zw190 M0 M0 := .refl hW
  refine z_xP zt190 0 1 [some (.ref 19), none, none, none, none, none] [.ref 19] rfl rfl ?_
  have f19 : T[19]? = some (.inl (12, 0, 0, 0, 0)) := X.1.k rfl (by decide)
  refine z_xgI zt190 1 rfl zo190 zzf12_110 X f19 (by decide) (by decide) rfl (fun (x2 : Int32) h1 (h3 : 0 ≤ x2.toInt) (h4 : x2.toInt ≤ 8) => ?_)
  refine z_xP zt190 2 6 [some (.ref 19), none, none, none, none, none] [.int 8, .int x2] rfl rfl ?_
  refine z_xJ zt190 3 rfl rfl (fun (h5 : x2.toInt ≠ 8) => ?_) (fun (h5 : x2.toInt = 8) => ?_)
  · skip
    refine z_xP zt190 6 13 [some (.ref 19), none, none, none, none, none] [.ref 19] rfl rfl ?_
    refine z_xgv zt190 7 rfl zo190 zzf12_110 X f19 (by decide) h1 ?_
    refine z_xP zt190 8 19 [some (.ref 19), some (.int x2), none, none, none, none] [.int x2, .ref 19] rfl rfl ?_
    refine z_xpf zt190 9 rfl zo190 zzf12_133 X f19 (by decide) (by decide) ⟨by omega, by omega⟩ rfl (by decide) zw12_22 (fun M6 X7 e8 h9 => ?_)
    refine z_xP zt190 10 24 [some (.ref 19), some (.int x2), none, none, none, none] [.int 1, .ref 19] rfl rfl ?_
    have q1 : ((1 : Int32)).toInt = 1 := rfl
    refine z_xpf zt190 11 rfl zo190 zzf12_129 X7 f19 (by decide) (by decide) ⟨by omega, by omega⟩ rfl (by decide) zw12_23 (fun M10 X11 e12 h13 => ?_)
    refine z_xP zt190 12 29 [some (.ref 19), some (.int x2), none, none, none, none] [.int 0, .ref 19] rfl rfl ?_
    have q0 : ((0 : Int32)).toInt = 0 := rfl
    refine z_xpf zt190 13 rfl zo190 zzf12_123 X11 f19 (by decide) (by decide) ⟨by omega, by omega⟩ rfl (by decide) zw12_24 (fun M14 X15 e16 h17 => ?_)
    refine z_xP zt190 14 34 [some (.ref 19), some (.int x2), none, none, none, none] [.ref 19, .ref 19] rfl rfl ?_
    refine z_xgI zt190 15 rfl zo190 zzf12_120 X15 f19 (by decide) (by decide) rfl (fun (x19 : Int32) h18 (h20 : 0 ≤ x19.toInt) (h21 : x19.toInt ≤ 160) => ?_)
    refine z_xpf zt190 16 rfl zo190 zzf12_126 X15 f19 (by decide) (by decide) ⟨by omega, by omega⟩ rfl (by decide) zw12_25 (fun M22 X23 e24 h25 => ?_)
    refine z_xP zt190 17 42 [some (.ref 19), some (.int x2), none, none, none, none] [.int (-1), .ref 19] rfl rfl ?_
    have qm1 : (((-1) : Int32)).toInt = (-1) := rfl
    refine z_xpf zt190 18 rfl zo190 zzf12_136 X23 f19 (by decide) (by decide) ⟨by omega, by omega⟩ rfl (by decide) zw12_26 (fun M26 X27 e28 h29 => ?_)
    refine z_xP zt190 19 47 [some (.ref 19), some (.int x2), none, none, none, none] [.int 0, .ref 19] rfl rfl ?_
    have q0 : ((0 : Int32)).toInt = 0 := rfl
    refine z_xpf zt190 20 rfl zo190 zzf12_160 X27 f19 (by decide) (by decide) ⟨by omega, by omega⟩ rfl (by decide) zw12_27 (fun M30 X31 e32 h33 => ?_)
    refine z_xP zt190 21 52 [some (.ref 19), some (.int x2), none, none, none, none] [.int 0, .ref 19] rfl rfl ?_
    have q0 : ((0 : Int32)).toInt = 0 := rfl
    refine z_xpf zt190 22 rfl zo190 zzf12_183 X31 f19 (by decide) (by decide) ⟨by omega, by omega⟩ rfl (by decide) zw12_28 (fun M34 X35 e36 h37 => ?_)
    refine z_xP zt190 23 56 [some (.ref 19), some (.int x2), none, none, none, none] [.ref 19] rfl rfl ?_
    refine z_xgX (b := 25) zt190 24 rfl zo190 zzf12_25 X35 f19 (by decide) (by decide) rfl ?_
    refine z_xP zt190 25 61 [some (.ref 19), some (.int x2), none, none, none, none] [.int 0, .int x2, .ref 25] rfl rfl ?_
    have f25 : T[25]? = some (.inr (25, 0, 8, 0, 8)) := X35.1.k rfl (by decide)
    have q0 : ((0 : Int32)).toInt = 0 := rfl
    refine z_xis zt190 26 rfl X35 f25 (by decide) (by decide) (by omega) (by omega) (by omega) (by omega) (by decide) (fun M38 X39 e40 h41 => ?_)
    refine z_xP zt190 27 63 [some (.ref 19), some (.int x2), none, none, none, none] [.ref 19] rfl rfl ?_
    refine z_xgX (b := 27) zt190 28 rfl zo190 zzf12_31 X39 f19 (by decide) (by decide) rfl ?_
    refine z_xP zt190 29 68 [some (.ref 19), some (.int x2), none, none, none, none] [.int 0, .int x2, .ref 27] rfl rfl ?_
    have f27 : T[27]? = some (.inr (27, 0, 8, (-2147483648), 2147483647)) := X39.1.k rfl (by decide)
    have q0 : ((0 : Int32)).toInt = 0 := rfl
    refine z_xis zt190 30 rfl X39 f27 (by decide) (by decide) (by omega) (by omega) (by omega) (by omega) (by decide) (fun M42 X43 e44 h45 => ?_)
    refine z_xP zt190 31 70 [some (.ref 19), some (.int x2), none, none, none, none] [.ref 19] rfl rfl ?_
    refine z_xgX (b := 28) zt190 32 rfl zo190 zzf12_34 X43 f19 (by decide) (by decide) rfl ?_
    refine z_xP zt190 33 75 [some (.ref 19), some (.int x2), none, none, none, none] [.int 0, .int x2, .ref 28] rfl rfl ?_
    have f28 : T[28]? = some (.inr (28, 0, 8, (-2147483648), 2147483647)) := X43.1.k rfl (by decide)
    have q0 : ((0 : Int32)).toInt = 0 := rfl
    refine z_xis zt190 34 rfl X43 f28 (by decide) (by decide) (by omega) (by omega) (by omega) (by omega) (by decide) (fun M46 X47 e48 h49 => ?_)
    refine z_xP zt190 35 77 [some (.ref 19), some (.int x2), none, none, none, none] [.ref 19] rfl rfl ?_
    refine z_xcV (vs := [.ref 19]) (r := []) (L2 := [some (.ref 19), none, none, none, none]) zt190 36 rfl zo190 zzcV12_196 (Or.inl rfl) rfl X47 f19 rfl rfl rfl (Nat.le_of_ble_eq_true rfl) zzm191 (Nat.le_of_ble_eq_true rfl) rfl ?_
    have f23 : T[23]? = some (.inr (23, 0, 80, (-2147483648), 2147483647)) := X47.1.k rfl (by decide)
    have f24 : T[24]? = some (.inr (24, 0, 8, 0, 10)) := X47.1.k rfl (by decide)
    have f20 : T[20]? = some (.inr (20, 0, 160, (-2147483648), 2147483647)) := X47.1.k rfl (by decide)
    have t50 := hT0.kp (M1 := M46) ((e48.1 19 12 0 0 0 0 1 f19 (by decide)).trans ((e44.1 19 12 0 0 0 0 1 f19 (by decide)).trans ((e40.1 19 12 0 0 0 0 1 f19 (by decide)).trans ((e36.1 19 12 0 0 0 0 1 f19 (by decide)).trans ((e32.1 19 12 0 0 0 0 1 f19 (by decide)).trans ((e28.1 19 12 0 0 0 0 1 f19 (by decide)).trans ((e24.1 19 12 0 0 0 0 1 f19 (by decide)).trans ((e16.1 19 12 0 0 0 0 1 f19 (by decide)).trans ((e12.1 19 12 0 0 0 0 1 f19 (by decide)).trans (e8.1 19 12 0 0 0 0 1 f19 (by decide))))))))))) ((e48.a f20 (by decide)).trans ((e44.a f20 (by decide)).trans ((e40.a f20 (by decide)).trans ((e36.a f20 (by decide)).trans ((e32.a f20 (by decide)).trans ((e28.a f20 (by decide)).trans ((e24.a f20 (by decide)).trans ((e16.a f20 (by decide)).trans ((e12.a f20 (by decide)).trans (e8.a f20 (by decide)))))))))))
    have h51 := (e48.f f19 (by decide) (e44.f f19 (by decide) (e40.f f19 (by decide) (e36.f f19 (by decide) (e32.f f19 (by decide) h29)))))
    have h52 := (e48.f f19 (by decide) (e44.f f19 (by decide) (e40.f f19 (by decide) (e36.f f19 (by decide) h33))))
    have h53 := (e48.f f19 (by decide) (e44.f f19 (by decide) (e40.f f19 (by decide) (e36.f f19 (by decide) (e32.f f19 (by decide) (e28.f f19 (by decide) (e24.f f19 (by decide) h17)))))))
    have h54 := (e48.f f19 (by decide) (e44.f f19 (by decide) (e40.f f19 (by decide) (e36.f f19 (by decide) (e32.f f19 (by decide) (e28.f f19 (by decide) (e24.f f19 (by decide) (e16.f f19 (by decide) (e12.f f19 (by decide) h9)))))))))
    have h55 := (e48.f f19 (by decide) (e44.f f19 (by decide) (e40.f f19 (by decide) (e36.f f19 (by decide) (e32.f f19 (by decide) (e28.f f19 (by decide) (e24.f f19 (by decide) h18)))))))
    have h56 := (e48.f f19 (by decide) (e44.f f19 (by decide) (e40.f f19 (by decide) (e36.f f19 (by decide) (e32.f f19 (by decide) (e28.f f19 (by decide) h25))))))
    have h57 := (e48.f f19 (by decide) (e44.f f19 (by decide) (e40.f f19 (by decide) (e36.f f19 (by decide) (e32.f f19 (by decide) (e28.f f19 (by decide) (e24.f f19 (by decide) (e16.f f19 (by decide) h13))))))))
    have h58 := (e48.f f19 (by decide) (e44.f f19 (by decide) (e40.f f19 (by decide) h37)))
    refine zYC191 X47.1 (z_GL.ke (z_GL.ke (z_GL.ke (z_GL.ke (z_GL.ke (z_GL.ke (z_GL.ke (z_GL.ke (z_GL.ke (z_GL.ke hL e8 f23 f24 (by decide)) e12 f23 f24 (by decide)) e16 f23 f24 (by decide)) e24 f23 f24 (by decide)) e28 f23 f24 (by decide)) e32 f23 f24 (by decide)) e36 f23 f24 (by decide)) e40 f23 f24 (by decide)) e44 f23 f24 (by decide)) e48 f23 f24 (by decide)) (t50.tb h55 h56 rfl h57 rfl h58 rfl rfl) (fun M59 X60 h61 h62 => ?_)
    have X63 := X47.go X60 (z_sb (by decide))
    show z_ev (d + 973) 190 80 [some (.ref 19), some (.int x2), none, none, none, none] [] M59 _
    obtain ⟨nu65, h66⟩ := h62
    have h67 := (X60.2.f f19 (by decide) (e48.f f19 (by decide) (e44.f f19 (by decide) (e40.f f19 (by decide) (e36.f f19 (by decide) (e32.f f19 (by decide) (e28.f f19 (by decide) (e24.f f19 (by decide) (e16.f f19 (by decide) (e12.f f19 (by decide) (e8.f f19 (by decide) h1)))))))))))
    obtain ⟨x68, h69, h70, h71⟩ := z_W.fi X63.1 f19 (k := 24) (lo := 0) (hi := 160) (by decide) rfl
    have f31 : T[31]? = some (.inr (31, 0, 8, 0, 1024)) := X63.1.k rfl (by decide)
    have h72 := ((congrFun (X60.2.a f25 (by decide)) _).trans ((congrFun (e48.a f25 (by decide)) _).trans ((congrFun (e44.a f25 (by decide)) _).trans (z_upe h41))))
    have h73 := ((congrFun (X60.2.a f27 (by decide)) _).trans ((congrFun (e48.a f27 (by decide)) _).trans (z_upe h45)))
    have h74 := ((congrFun (X60.2.a f28 (by decide)) _).trans (z_upe h49))
    have t75 := t50.kp (M1 := M59) (X60.2.1 19 12 0 0 0 0 1 f19 (by decide)) (X60.2.a f20 (by decide))
    exact (zYB190 hL ha4 hT0 kk 230625).1 M59 x2 x2 x68 X63 ⟨by omega, by omega⟩ h67 ⟨by omega, by omega⟩ h69 ⟨by omega, by omega⟩ (by omega) h61 (z_G4.a4 (z_G4.ke (z_G4.ke (z_G4.ke (z_G4.ke (z_G4.ke (z_G4.ke (z_G4.ke (z_G4.ke (z_G4.ke (z_G4.ke (z_G4.ke ha4 e8 f19 f31 (by decide)) e12 f19 f31 (by decide)) e16 f19 f31 (by decide)) e24 f19 f31 (by decide)) e28 f19 f31 (by decide)) e32 f19 f31 (by decide)) e36 f19 f31 (by decide)) e40 f19 f31 (by decide)) e44 f19 f31 (by decide)) e48 f19 f31 (by decide)) X60.2 f19 f31 (by decide)) h67) ⟨h1, by omega⟩ (y_GI0 h66 t75 h51 (by decide) h52 (by decide) h53 (by decide) h54 rfl h72 (by decide) h73 (by decide) h74 (by decide)) (by omega)
  refine z_xP zt190 4 11 [some (.ref 19), none, none, none, none, none] [.int (-3)] rfl rfl ?_
  have qm3 : (((-3) : Int32)).toInt = (-3) := rfl
  exact z_xri zt190 5 rfl zzr190 (kk (-3) M0 X hL ha4 (y_AGPf h1 (by omega)))
