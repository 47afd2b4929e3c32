/-! the reference reads the whole tape -/
theorem zYB197 {T : List zK} {d : Nat} {K : Option Value → zH → Prop} {zp0 : Int32} {bb : Nat → Int} {nn : Nat} {nu : Int → Int} {SS : Nat} {M0 : zH} (hz0 : z_F M0 19 24 = some (.int zp0)) (bz0 : 0 ≤ zp0.toInt ∧ zp0.toInt ≤ 160) (hL : z_GL M0) (hT : y_TR M0 bb nn nu SS) (kk : ∀ (x : Int32) (M1 : zH), z_X T zw197 M0 M1 → y_SQ bb nn nu M0 M1 x.toInt → ∀ (w0 : Int32), z_F M1 19 24 = some (.int w0) → 0 ≤ w0.toInt ∧ w0.toInt ≤ 160 → zp0.toInt ≤ w0.toInt → K (some (.int x)) M1) : ∀ n : Nat, (∀ (M : zH) (b1 : Int32) (b2 : Int32) (o3 : Option Value) (o4 : Option Value) (z0 : Int32), z_X T zw197 M0 M → 0 ≤ b2.toInt ∧ b2.toInt ≤ 1 → z_F M 19 24 = some (.int z0) → 0 ≤ z0.toInt ∧ z0.toInt ≤ 160 → zp0.toInt ≤ z0.toInt → y_SI bb nn nu M0 M b1.toInt b2.toInt → ((0) * 2 + 0) * 323 + (2 * (160 - z0.toInt) + b2.toInt) < (n : Int) → z_ev (d + 1) 197 4 [some (.ref 19), some (.int b1), some (.int b2), o3, o4] [] M K) := by
  intro n
  induction n with
  | zero => exact by intros; exfalso; omega
  | succ n ih =>
    intro M b1 b2 o3 o4 z0 X hh0 hp0 hh2 hh3 hI hE
    refine z_xP zt197 1 5 [some (.ref 19), some (.int b1), some (.int b2), o3, o4] [.int b2] rfl rfl ?_
    refine z_xZ zt197 2 rfl rfl (fun (h1 : b2.toInt = 0) => ?_) (fun (h1 : b2.toInt ≠ 0) => ?_)
    · skip
      refine z_xP zt197 35 80 [some (.ref 19), some (.int b1), some (.int b2), o3, o4] [.int b1] rfl rfl ?_
      have f19 : T[19]? = some (.inl (12, 0, 0, 0, 0)) := X.1.k rfl (by decide)
      exact z_xri zt197 36 rfl zzr197 (kk b1 M X (y_SIq hI (by omega)) z0 hp0 ⟨by omega, by omega⟩ (by omega))
    refine z_xP zt197 3 9 [some (.ref 19), some (.int b1), some (.int b2), o3, o4] [.ref 19] rfl rfl ?_
    have f19 : T[19]? = some (.inl (12, 0, 0, 0, 0)) := X.1.k rfl (by decide)
    refine z_xgI zt197 4 rfl zo197 zzf12_136 X f19 (by decide) (by decide) rfl (fun (x3 : Int32) h2 (h4 : (-2147483648) ≤ x3.toInt) (h5 : x3.toInt ≤ 2147483647) => ?_)
    refine z_xZ zt197 5 rfl rfl (fun (h6 : 0 ≤ x3.toInt) => ?_) (fun (h6 : x3.toInt < 0) => ?_)
    · skip
      refine z_xP zt197 10 27 [some (.ref 19), some (.int b1), some (.int b2), o3, o4] [.int (-1)] rfl rfl ?_
      refine z_xP zt197 11 29 [some (.ref 19), some (.int b1), some (.int b2), some (.int (-1)), o4] [.int (-1)] rfl rfl ?_
      refine z_xZ zt197 12 rfl rfl (fun (h7 : ((-1) : Int) < 0) => ?_) (fun (h7 : 0 ≤ ((-1) : Int)) => absurd h7 (by omega))
      refine z_xP zt197 19 44 [some (.ref 19), some (.int b1), some (.int 0), some (.int (-1)), o4] [.int b1] rfl rfl ?_
      refine z_xZ zt197 20 rfl rfl (fun (h8 : b1.toInt = 0) => ?_) (fun (h8 : b1.toInt ≠ 0) => ?_)
      · skip
        refine z_xP zt197 23 52 [some (.ref 19), some (.int b1), some (.int 0), some (.int (-1)), o4] [.ref 19] rfl rfl ?_
        refine z_xcV (vs := [.ref 19]) (r := []) (L2 := [some (.ref 19)]) zt197 24 rfl zo197 zzcV12_163 (Or.inl rfl) rfl X f19 rfl rfl rfl (Nat.le_of_ble_eq_true rfl) zzm194 (Nat.le_of_ble_eq_true rfl) rfl ?_
        refine zYC194 X.1 (fun x13 M9 X10 h14 h15 h11 h12 => ?_)
        have X16 := X.go X10 (z_sb (by decide))
        show z_ev (d + 1) 197 55 [some (.ref 19), some (.int b1), some (.int 0), some (.int (-1)), o4] [.int x13] M9 _
        refine z_xP zt197 25 76 [some (.ref 19), some (.int b1), some (.int 0), some (.int (-1)), some (.int x13)] [] rfl rfl ?_
        refine z_xP zt197 34 4 [some (.ref 19), some (.int b1), some (.int 0), some (.int (-1)), some (.int x13)] [] rfl rfl ?_
        have h18 := (X10.2.f f19 (by decide) hp0)
        have q0 : ((0 : Int32)).toInt = 0 := rfl
        have qm1 : (((-1) : Int32)).toInt = (-1) := rfl
        have q0 : ((0 : Int32)).toInt = 0 := rfl
        exact ih M9 b1 (0) (some (.int (-1))) (some (.int x13)) z0 X16 (by decide) h18 ⟨by omega, by omega⟩ (by omega) (y_SIw hI (by omega) h2 (by omega) h11 (X10.2.1 19 12 0 0 0 0 27 f19 (by decide))) (by omega)
      refine z_xP zt197 21 48 [some (.ref 19), some (.int b1), some (.int 0), some (.int (-1)), o4] [.int (-1)] rfl rfl ?_
      refine z_xZ zt197 22 rfl rfl (fun (h19 : ((-1) : Int) < 0) => ?_) (fun (h19 : 0 ≤ ((-1) : Int)) => absurd h19 (by omega))
      refine z_xP zt197 34 4 [some (.ref 19), some (.int b1), some (.int 0), some (.int (-1)), o4] [] rfl rfl ?_
      have q0 : ((0 : Int32)).toInt = 0 := rfl
      have qm1 : (((-1) : Int32)).toInt = (-1) := rfl
      have q0 : ((0 : Int32)).toInt = 0 := rfl
      exact ih M b1 (0) (some (.int (-1))) (o4) z0 X (by decide) hp0 ⟨by omega, by omega⟩ (by omega) (y_SIw hI (by omega) h2 (by omega) (y_okN h2 (by omega)) rfl) (by omega)
    refine z_xP zt197 6 17 [some (.ref 19), some (.int b1), some (.int b2), o3, o4] [.ref 19, .ref 19] rfl rfl ?_
    refine z_xcV (vs := [.ref 19]) (r := [.ref 19]) (L2 := [some (.ref 19)]) zt197 7 rfl zo197 zzcV12_139 (Or.inl rfl) rfl X f19 rfl rfl rfl (Nat.le_of_ble_eq_true rfl) zzm193 (Nat.le_of_ble_eq_true rfl) rfl ?_
    refine zYC193 X.1 hp0 ⟨by omega, by omega⟩ (hT.go X.1 X rfl) (fun x29 M20 X21 h22 h23 h24 z25 h26 h27 h28 => ?_)
    have X30 := X.go X21 (z_sb (by decide))
    show z_ev (d + 1) 197 20 [some (.ref 19), some (.int b1), some (.int b2), o3, o4] [.int x29, .ref 19] M20 _
    have h32 := h23.symm
    subst h32
    refine z_xcV (vs := [.ref 19, .int x29]) (r := []) (L2 := [some (.ref 19), some (.int x29), none]) zt197 8 rfl zo197 zzcV12_179 (Or.inl rfl) rfl X30 f19 rfl rfl rfl (Nat.le_of_ble_eq_true rfl) zzm195 (Nat.le_of_ble_eq_true rfl) rfl ?_
    obtain ⟨x33, h34, h35, h36⟩ := z_W.fi X30.1 f19 (k := 22) (lo := 0) (hi := 7) (by decide) rfl
    refine zYC195 X30.1 h34 ⟨by omega, by omega⟩ (z_GL.go hL X30 (by decide)) (fun x47 M37 X38 h48 h49 h39 h40 h41 h42 z43 h44 h45 h46 => ?_)
    have X50 := X30.go X38 (z_sb (by decide))
    show z_ev (d + 1) 197 23 [some (.ref 19), some (.int b1), some (.int b2), o3, o4] [.int x47] M37 _
    have h52 := h42.symm
    subst h52
    refine z_xP zt197 9 27 [some (.ref 19), some (.int b1), some (.int b2), o3, o4] [.int x47] rfl rfl ?_
    refine z_xP zt197 11 29 [some (.ref 19), some (.int b1), some (.int b2), some (.int x47), o4] [.int x47] rfl rfl ?_
    refine z_xZ zt197 12 rfl rfl (fun (h53 : x47.toInt < 0) => ?_) (fun (h53 : 0 ≤ x47.toInt) => ?_)
    · skip
      refine z_xP zt197 19 44 [some (.ref 19), some (.int b1), some (.int 0), some (.int x47), o4] [.int b1] rfl rfl ?_
      refine z_xZ zt197 20 rfl rfl (fun (h54 : b1.toInt = 0) => ?_) (fun (h54 : b1.toInt ≠ 0) => ?_)
      · skip
        refine z_xP zt197 23 52 [some (.ref 19), some (.int b1), some (.int 0), some (.int x47), o4] [.ref 19] rfl rfl ?_
        refine z_xcV (vs := [.ref 19]) (r := []) (L2 := [some (.ref 19)]) zt197 24 rfl zo197 zzcV12_163 (Or.inl rfl) rfl X50 f19 rfl rfl rfl (Nat.le_of_ble_eq_true rfl) zzm194 (Nat.le_of_ble_eq_true rfl) rfl ?_
        refine zYC194 X50.1 (fun x59 M55 X56 h60 h61 h57 h58 => ?_)
        have X62 := X50.go X56 (z_sb (by decide))
        show z_ev (d + 1) 197 55 [some (.ref 19), some (.int b1), some (.int 0), some (.int x47), o4] [.int x59] M55 _
        refine z_xP zt197 25 76 [some (.ref 19), some (.int b1), some (.int 0), some (.int x47), some (.int x59)] [] rfl rfl ?_
        refine z_xP zt197 34 4 [some (.ref 19), some (.int b1), some (.int 0), some (.int x47), some (.int x59)] [] rfl rfl ?_
        have h64 := (X56.2.f f19 (by decide) (X38.2.f f19 (by decide) (X21.2.f f19 (by decide) hp0)))
        have q0 : ((0 : Int32)).toInt = 0 := rfl
        have q0 : ((0 : Int32)).toInt = 0 := rfl
        exact ih M55 b1 (0) (some (.int x47)) (some (.int x59)) z0 X62 (by decide) h64 ⟨by omega, by omega⟩ (by omega) (y_SIf hI (by omega) (y_nqA h22 (y_quN (hT.go X.1 X rfl) h34 (h40 (by omega)))) (by omega) h57 ((X56.2.1 19 12 0 0 0 0 27 f19 (by decide)).trans ((X38.2.1 19 12 0 0 0 0 27 f19 (by decide)).trans (X21.2.1 19 12 0 0 0 0 27 f19 (by decide)))) (by omega)) (by omega)
      refine z_xP zt197 21 48 [some (.ref 19), some (.int b1), some (.int 0), some (.int x47), o4] [.int x47] rfl rfl ?_
      refine z_xZ zt197 22 rfl rfl (fun (h65 : x47.toInt < 0) => ?_) (fun (h65 : 0 ≤ x47.toInt) => absurd h65 (by omega))
      refine z_xP zt197 34 4 [some (.ref 19), some (.int b1), some (.int 0), some (.int x47), o4] [] rfl rfl ?_
      have h66 := (X38.2.f f19 (by decide) (X21.2.f f19 (by decide) hp0))
      have q0 : ((0 : Int32)).toInt = 0 := rfl
      have q0 : ((0 : Int32)).toInt = 0 := rfl
      exact ih M b1 (0) (some (.int x47)) (o4) z0 X50 (by decide) h66 ⟨by omega, by omega⟩ (by omega) (y_SIn hI (by omega) (y_nqA h22 (y_quN (hT.go X.1 X rfl) h34 (h40 (by omega)))) (by omega) (by omega)) (by omega)
    refine z_xP zt197 13 34 [some (.ref 19), some (.int b1), some (.int b2), some (.int x47), o4] [.int x47, .int b1] rfl rfl ?_
    have h67 := z_b32 b1
    refine z_xI zt197 14 rfl rfl (fun (x68 : Int32) (h69 : x68 = b1 >>> (x47 &&& 31)) => ?_) (rfl)
    refine z_xP zt197 15 36 [some (.ref 19), some (.int b1), some (.int b2), some (.int x47), o4] [.int 1, .int x68] rfl rfl ?_
    refine z_xI zt197 16 rfl rfl (fun (x70 : Int32) (h71 : x70 = x68 &&& 1 ∧ 0 ≤ x70.toInt ∧ x70.toInt ≤ 1) => ?_) (⟨rfl, z_pAnd rfl (by omega)⟩)
    refine z_xP zt197 17 38 [some (.ref 19), some (.int b1), some (.int b2), some (.int x47), o4] [.int 1, .int x70] rfl rfl ?_
    refine z_xJ zt197 18 rfl rfl (fun (h72 : x70.toInt ≠ 1) => ?_) (fun (h72 : x70.toInt = 1) => ?_)
    · skip
      refine z_xP zt197 26 63 [some (.ref 19), some (.int b1), some (.int b2), some (.int x47), o4] [.int x47, .int 1, .int b1] rfl rfl ?_
      refine z_xI zt197 27 rfl rfl (fun (x73 : Int32) (h74 : x73 = (1 : Int32) <<< (x47 &&& 31)) => ?_) (rfl)
      refine z_xI zt197 28 rfl rfl (fun (x75 : Int32) (h76 : x75 = b1 ||| x73) => ?_) (rfl)
      refine z_xP zt197 29 68 [some (.ref 19), some (.int x75), some (.int b2), some (.int x47), o4] [.ref 19, .ref 19] rfl rfl ?_
      have h77 := (X38.2.f f19 (by decide) (X21.2.f f19 (by decide) hp0))
      refine z_xgv zt197 30 rfl zo197 zzf12_123 X50 f19 (by decide) h77 ?_
      refine z_xP zt197 31 72 [some (.ref 19), some (.int x75), some (.int b2), some (.int x47), o4] [.int 1, .int z0, .ref 19] rfl rfl ?_
      refine z_xI zt197 32 rfl rfl (fun (x78 : Int32) (h79 : x78.toInt = z0.toInt + 1) => ?_) (z_pAdd rfl rfl (by omega) (by omega))
      refine z_xpf zt197 33 rfl zo197 zzf12_123 X50 f19 (by decide) (by decide) ⟨by omega, by omega⟩ rfl (by decide) zw12_24 (fun M80 X81 e82 h83 => ?_)
      refine z_xP zt197 34 4 [some (.ref 19), some (.int x75), some (.int b2), some (.int x47), o4] [] rfl rfl ?_
      exact ih M80 x75 b2 (some (.int x47)) (o4) x78 X81 ⟨by omega, by omega⟩ h83 ⟨by omega, by omega⟩ (by omega) (y_SIs hI (by omega) h2 (by omega) h22 (by omega) (y_quY (hT.go X.1 X rfl) h34 (by omega) (by omega) (h41 (by omega))) ⟨by omega, by omega⟩ h69 h71.1 (by omega) h74 h76 hp0 h83 ⟨by omega, by omega⟩ ((e82.1 19 12 0 0 0 0 26 f19 (by decide)).trans ((X38.2.1 19 12 0 0 0 0 26 f19 (by decide)).trans (X21.2.1 19 12 0 0 0 0 26 f19 (by decide)))) ((e82.1 19 12 0 0 0 0 27 f19 (by decide)).trans ((X38.2.1 19 12 0 0 0 0 27 f19 (by decide)).trans (X21.2.1 19 12 0 0 0 0 27 f19 (by decide)))) (by omega)) (by omega)
    refine z_xP zt197 19 44 [some (.ref 19), some (.int b1), some (.int 0), some (.int x47), o4] [.int b1] rfl rfl ?_
    refine z_xZ zt197 20 rfl rfl (fun (h84 : b1.toInt = 0) => ?_) (fun (h84 : b1.toInt ≠ 0) => ?_)
    · skip
      refine z_xP zt197 23 52 [some (.ref 19), some (.int b1), some (.int 0), some (.int x47), o4] [.ref 19] rfl rfl ?_
      refine z_xcV (vs := [.ref 19]) (r := []) (L2 := [some (.ref 19)]) zt197 24 rfl zo197 zzcV12_163 (Or.inl rfl) rfl X50 f19 rfl rfl rfl (Nat.le_of_ble_eq_true rfl) zzm194 (Nat.le_of_ble_eq_true rfl) rfl ?_
      refine zYC194 X50.1 (fun x89 M85 X86 h90 h91 h87 h88 => ?_)
      have X92 := X50.go X86 (z_sb (by decide))
      show z_ev (d + 1) 197 55 [some (.ref 19), some (.int b1), some (.int 0), some (.int x47), o4] [.int x89] M85 _
      refine z_xP zt197 25 76 [some (.ref 19), some (.int b1), some (.int 0), some (.int x47), some (.int x89)] [] rfl rfl ?_
      refine z_xP zt197 34 4 [some (.ref 19), some (.int b1), some (.int 0), some (.int x47), some (.int x89)] [] rfl rfl ?_
      have h94 := (X86.2.f f19 (by decide) (X38.2.f f19 (by decide) (X21.2.f f19 (by decide) hp0)))
      have q0 : ((0 : Int32)).toInt = 0 := rfl
      have q0 : ((0 : Int32)).toInt = 0 := rfl
      exact ih M85 b1 (0) (some (.int x47)) (some (.int x89)) z0 X92 (by decide) h94 ⟨by omega, by omega⟩ (by omega) (y_SIr (hT.go X.1 X rfl) hI (by omega) h22 (by omega) (y_quY (hT.go X.1 X rfl) h34 (by omega) (by omega) (h41 (by omega))) ⟨by omega, by omega⟩ h69 h71.1 (by omega) h87 ((X86.2.1 19 12 0 0 0 0 27 f19 (by decide)).trans ((X38.2.1 19 12 0 0 0 0 27 f19 (by decide)).trans (X21.2.1 19 12 0 0 0 0 27 f19 (by decide)))) (by omega)) (by omega)
    refine z_xP zt197 21 48 [some (.ref 19), some (.int b1), some (.int 0), some (.int x47), o4] [.int x47] rfl rfl ?_
    refine z_xZ zt197 22 rfl rfl (fun (h95 : x47.toInt < 0) => absurd h95 (by omega)) (fun (h95 : 0 ≤ x47.toInt) => ?_)
    refine z_xP zt197 23 52 [some (.ref 19), some (.int b1), some (.int 0), some (.int x47), o4] [.ref 19] rfl rfl ?_
    refine z_xcV (vs := [.ref 19]) (r := []) (L2 := [some (.ref 19)]) zt197 24 rfl zo197 zzcV12_163 (Or.inl rfl) rfl X50 f19 rfl rfl rfl (Nat.le_of_ble_eq_true rfl) zzm194 (Nat.le_of_ble_eq_true rfl) rfl ?_
    refine zYC194 X50.1 (fun x100 M96 X97 h101 h102 h98 h99 => ?_)
    have X103 := X50.go X97 (z_sb (by decide))
    show z_ev (d + 1) 197 55 [some (.ref 19), some (.int b1), some (.int 0), some (.int x47), o4] [.int x100] M96 _
    refine z_xP zt197 25 76 [some (.ref 19), some (.int b1), some (.int 0), some (.int x47), some (.int x100)] [] rfl rfl ?_
    refine z_xP zt197 34 4 [some (.ref 19), some (.int b1), some (.int 0), some (.int x47), some (.int x100)] [] rfl rfl ?_
    have h105 := (X97.2.f f19 (by decide) (X38.2.f f19 (by decide) (X21.2.f f19 (by decide) hp0)))
    have q0 : ((0 : Int32)).toInt = 0 := rfl
    have q0 : ((0 : Int32)).toInt = 0 := rfl
    exact ih M96 b1 (0) (some (.int x47)) (some (.int x100)) z0 X103 (by decide) h105 ⟨by omega, by omega⟩ (by omega) (y_SIr (hT.go X.1 X rfl) hI (by omega) h22 (by omega) (y_quY (hT.go X.1 X rfl) h34 (by omega) (by omega) (h41 (by omega))) ⟨by omega, by omega⟩ h69 h71.1 (by omega) h98 ((X97.2.1 19 12 0 0 0 0 27 f19 (by decide)).trans ((X38.2.1 19 12 0 0 0 0 27 f19 (by decide)).trans (X21.2.1 19 12 0 0 0 0 27 f19 (by decide)))) (by omega)) (by omega)
theorem zYC197 {T : List zK} {d : Nat} {K : Option Value → zH → Prop} {zp0 : Int32} {bb : Nat → Int} {nn : Nat} {nu : Int → Int} {SS : Nat} {M0 : zH} (hW : z_W M0 T) (hz0 : z_F M0 19 24 = some (.int zp0)) (bz0 : 0 ≤ zp0.toInt ∧ zp0.toInt ≤ 160) (hL : z_GL M0) (hT : y_TR M0 bb nn nu SS) (kk : ∀ (x : Int32) (M1 : zH), z_X T zw197 M0 M1 → y_SQ bb nn nu M0 M1 x.toInt → ∀ (w0 : Int32), z_F M1 19 24 = some (.int w0) → 0 ≤ w0.toInt ∧ w0.toInt ≤ 160 → zp0.toInt ≤ w0.toInt → K (some (.int x)) M1) : z_ev (d + 1) 197 0 [some (.ref 19), none, none, none, none] [] M0 K := by
  have X : z_X T zw197 M0 M0 := .refl hW
  refine z_xP zt197 0 4 [some (.ref 19), some (.int 0), some (.int 1), none, none] [] rfl rfl ?_
  have f19 : T[19]? = some (.inl (12, 0, 0, 0, 0)) := X.1.k rfl (by decide)
  have q0 : ((0 : Int32)).toInt = 0 := rfl
  have q1 : ((1 : Int32)).toInt = 1 := rfl
  have q0 : ((0 : Int32)).toInt = 0 := rfl
  have q1 : ((1 : Int32)).toInt = 1 := rfl
  exact (zYB197 hz0 bz0 hL hT kk 646) M0 (0) (1) none none zp0 X (by decide) hz0 ⟨by omega, by omega⟩ (by omega) y_SI0 (by omega)
theorem zYB191 {T : List zK} {d : Nat} {K : Option Value → zH → Prop} {bb : Nat → Int} {nn : Nat} {SS : Nat} {M0 : zH} (hL : z_GL M0) (hB : y_TB M0 bb nn SS) (kk : ∀ (M1 : zH), z_X T zw191 M0 M1 → z_GL M1 → (∃ nu : Int → Int, y_NI bb nn nu SS M0 M1 0) → K none M1) : ∀ n : Nat, (∀ (M : zH) (b1 : Int32) (o2 : Option Value) (o3 : Option Value) (o4 : Option Value) (z0 : Int32) (z1 : Int32) (z2 : Int32), z_X T zw191 M0 M → 0 ≤ b1.toInt ∧ b1.toInt ≤ 1 → z_F M 19 22 = some (.int z0) → 0 ≤ z0.toInt ∧ z0.toInt ≤ 7 → z_F M 19 24 = some (.int z1) → 0 ≤ z1.toInt ∧ z1.toInt ≤ 160 → z_Ar M 24 z0.toNatClampNeg = z2 → 0 ≤ z2.toInt ∧ z2.toInt ≤ 10 → z_GL M → z_FP M z0 z2.toInt → (∃ nu : Int → Int, y_NI bb nn nu SS M0 M b1.toInt) → ((0) * 2 + 0) * 323 + (2 * (160 - z1.toInt) + b1.toInt) < (n : Int) → z_ev (d + 2) 191 36 [some (.ref 19), some (.int b1), o2, o3, o4] [] M K) := by
  intro n
  induction n with
  | zero => exact by intro M b1 o2 o3 o4 z0 z1 z2 X hh0 hp0 hh2 hp1 hh4 hp2 hh6 hl hf hX hE; obtain ⟨nu, hN⟩ := hX; exfalso; omega
  | succ n ih =>
    intro M b1 o2 o3 o4 z0 z1 z2 X hh0 hp0 hh2 hp1 hh4 hp2 hh6 hl hf hX hE
    obtain ⟨nu, hN⟩ := hX
    refine z_xP zt191 17 37 [some (.ref 19), some (.int b1), o2, o3, o4] [.int b1] rfl rfl ?_
    refine z_xZ zt191 18 rfl rfl (fun (h1 : b1.toInt = 0) => ?_) (fun (h1 : b1.toInt ≠ 0) => ?_)
    · skip
      exact z_xrv zt191 71 rfl zzr191 (kk M X hl ⟨nu, y_NIc hN (by omega)⟩)
    refine z_xP zt191 19 41 [some (.ref 19), some (.int b1), o2, o3, o4] [.ref 19] rfl rfl ?_
    have f19 : T[19]? = some (.inl (12, 0, 0, 0, 0)) := X.1.k rfl (by decide)
    refine z_xcV (vs := [.ref 19]) (r := []) (L2 := [some (.ref 19)]) zt191 20 rfl zo191 zzcV12_139 (Or.inl rfl) rfl X f19 rfl rfl rfl (Nat.le_of_ble_eq_true rfl) zzm193 (Nat.le_of_ble_eq_true rfl) rfl ?_
    refine zYC193 X.1 hp1 ⟨by omega, by omega⟩ hN.1 (fun x11 M2 X3 h4 h5 h6 z7 h8 h9 h10 => ?_)
    have X12 := X.go X3 (z_sb (by decide))
    show z_ev (d + 2) 191 44 [some (.ref 19), some (.int b1), o2, o3, o4] [.int x11] M2 _
    have h14 := h5.symm
    subst h14
    refine z_xP zt191 21 46 [some (.ref 19), some (.int b1), some (.int x11), o3, o4] [.int x11] rfl rfl ?_
    have h15 := z_b32 x11
    refine z_xL zt191 22 rfl rfl (fun (y16 : Int64) (h17 : y16.toInt = x11.toInt) => ?_) (z_qI2L rfl)
    refine z_xl2 zt191 23 rfl zo191 zkl12_186 ?_
    refine z_xl2 zt191 24 rfl zo191 zkl12_188 ?_
    refine z_xcS (vs := [.long y16, .long 97, .long 106]) (r := []) (L2 := [some (.long y16), none, some (.long 97), none, some (.long 106), none]) zt191 25 rfl zo191 zzcS12_116 (Or.inl rfl) (Nat.le_of_ble_eq_true rfl) rfl rfl (Nat.le_of_ble_eq_true rfl) zzm189 (Nat.le_of_ble_eq_true rfl) rfl ?_
    refine z_xP zt189 0 2 [some (.long y16), none, some (.long 97), none, some (.long 106), none] [.long 97, .long y16] rfl rfl ?_
    refine z_xI zt189 1 rfl rfl (fun (x18 : Int32) (h19 : (x18.toInt < 0 ∧ y16.toInt < 97) ∨ (x18.toInt = 0 ∧ y16.toInt = 97) ∨ (0 < x18.toInt ∧ 97 < y16.toInt)) => ?_) (z_qCmp rfl rfl)
    refine z_xZ zt189 2 rfl rfl (fun (h20 : x18.toInt < 0) => ?_) (fun (h20 : 0 ≤ x18.toInt) => ?_)
    · skip
      refine z_xP zt189 7 18 [some (.long y16), none, some (.long 97), none, some (.long 106), none] [.int 0] rfl rfl ?_
      refine z_xrz zt189 8 rfl zzr189 (by decide) (by decide) ?_
      show z_ev (d + 2) 191 56 [some (.ref 19), some (.int b1), some (.int x11), o3, o4] [.int 0] M _
      refine z_xP zt191 26 58 [some (.ref 19), some (.int b1), some (.int x11), some (.int 0), o4] [.int 0] rfl rfl ?_
      refine z_xZ zt191 27 rfl rfl (fun (h21 : (0 : Int) = 0) => ?_) (fun (h21 : (0 : Int) ≠ 0) => absurd h21 (by omega))
      refine z_xP zt191 59 121 [some (.ref 19), some (.int 0), some (.int x11), some (.int 0), o4] [.int 0] rfl rfl ?_
      refine z_xZ zt191 60 rfl rfl (fun (h22 : (0 : Int) ≠ 0) => absurd h22 (by omega)) (fun (h22 : (0 : Int) = 0) => ?_)
      refine z_xP zt191 61 125 [some (.ref 19), some (.int 0), some (.int x11), some (.int 0), o4] [.ref 19] rfl rfl ?_
      refine z_xgX (b := 24) zt191 62 rfl zo191 zzf12_22 X12 f19 (by decide) (by decide) rfl ?_
      refine z_xP zt191 63 129 [some (.ref 19), some (.int 0), some (.int x11), some (.int 0), o4] [.ref 19, .ref 24] rfl rfl ?_
      have h23 := (X3.2.f f19 (by decide) hp0)
      refine z_xgv zt191 64 rfl zo191 zzf12_133 X12 f19 (by decide) h23 ?_
      have f24 : T[24]? = some (.inr (24, 0, 8, 0, 10)) := X12.1.k rfl (by decide)
      refine z_xil zt191 65 rfl X12 f24 (by decide) (by omega) (by omega) (fun (x24 : Int32) h25 (h26 : 0 ≤ x24.toInt) (h27 : x24.toInt ≤ 10) => ?_)
      have h28 := congrArg Int32.toInt (h25.symm.trans ((congrFun (X3.2.a f24 (by decide)) _).trans hp2))
      refine z_xZ zt191 66 rfl rfl (fun (h29 : x24.toInt ≠ 0) => ?_) (fun (h29 : x24.toInt = 0) => ?_)
      · skip
        refine z_xP zt191 70 36 [some (.ref 19), some (.int 0), some (.int x11), some (.int 0), o4] [] rfl rfl ?_
        have h30 := (X3.2.f f19 (by decide) hp1)
        have h31 := ((congrFun (X3.2.a f24 (by decide)) _).trans hp2)
        have f23 : T[23]? = some (.inr (23, 0, 80, (-2147483648), 2147483647)) := X12.1.k rfl (by decide)
        have q0 : ((0 : Int32)).toInt = 0 := rfl
        have q0 : ((0 : Int32)).toInt = 0 := rfl
        exact ih M (0) (some (.int x11)) (some (.int 0)) (o4) z0 z1 z2 X12 (by decide) h23 ⟨by omega, by omega⟩ h30 ⟨by omega, by omega⟩ h31 ⟨by omega, by omega⟩ (z_GL.ke hl X3.2 f23 f24 (by decide)) (z_FPm (z_FPm hf (X3.2.a f23 (by decide)) rfl) rfl (by omega)) (y_NIe hN (by omega) h4 (by omega) (congrArg Int32.toInt (y_q24 hp0 hp2)) (by omega) (by omega)) (by omega)
      refine z_xP zt191 67 137 [some (.ref 19), some (.int 0), some (.int x11), some (.int 0), o4] [.ref 19] rfl rfl ?_
      refine z_xcV (vs := [.ref 19]) (r := []) (L2 := [some (.ref 19)]) zt191 68 rfl zo191 zzcV12_163 (Or.inl rfl) rfl X12 f19 rfl rfl rfl (Nat.le_of_ble_eq_true rfl) zzm194 (Nat.le_of_ble_eq_true rfl) rfl ?_
      refine zYC194 X12.1 (fun x36 M32 X33 h37 h38 h34 h35 => ?_)
      have X39 := X12.go X33 (z_sb (by decide))
      show z_ev (d + 2) 191 140 [some (.ref 19), some (.int 0), some (.int x11), some (.int 0), o4] [.int x36] M32 _
      refine z_xP zt191 69 142 [some (.ref 19), some (.int 0), some (.int x11), some (.int 0), some (.int x36)] [] rfl rfl ?_
      refine z_xP zt191 70 36 [some (.ref 19), some (.int 0), some (.int x11), some (.int 0), some (.int x36)] [] rfl rfl ?_
      have h41 := (X33.2.f f19 (by decide) h23)
      have h42 := (X33.2.f f19 (by decide) (X3.2.f f19 (by decide) hp1))
      have h43 := ((congrFun (X33.2.a f24 (by decide)) _).trans ((congrFun (X3.2.a f24 (by decide)) _).trans hp2))
      have f23 : T[23]? = some (.inr (23, 0, 80, (-2147483648), 2147483647)) := X39.1.k rfl (by decide)
      have q0 : ((0 : Int32)).toInt = 0 := rfl
      have q0 : ((0 : Int32)).toInt = 0 := rfl
      exact ih M32 (0) (some (.int x11)) (some (.int 0)) (some (.int x36)) z0 z1 z2 X39 (by decide) h41 ⟨by omega, by omega⟩ h42 ⟨by omega, by omega⟩ h43 ⟨by omega, by omega⟩ (z_GL.ke (z_GL.ke hl X3.2 f23 f24 (by decide)) X33.2 f23 f24 (by decide)) (z_FPm (z_FPm (z_FPm hf (X3.2.a f23 (by decide)) rfl) (X33.2.a f23 (by decide)) rfl) rfl (by omega)) (y_NIf hN (by omega) h4 (Or.inl ⟨by omega, (congrArg Int32.toInt (y_q24 hp0 hp2)).trans (by omega)⟩) h34 X39.1 X33 rfl ((X33.2.1 19 12 0 0 0 0 22 f19 (by decide)).trans (X3.2.1 19 12 0 0 0 0 22 f19 (by decide))) ((X33.2.1 19 12 0 0 0 0 27 f19 (by decide)).trans (X3.2.1 19 12 0 0 0 0 27 f19 (by decide))) (by omega)) (by omega)
    refine z_xP zt189 3 9 [some (.long y16), none, some (.long 97), none, some (.long 106), none] [.long 106, .long y16] rfl rfl ?_
    refine z_xI zt189 4 rfl rfl (fun (x44 : Int32) (h45 : (x44.toInt < 0 ∧ y16.toInt < 106) ∨ (x44.toInt = 0 ∧ y16.toInt = 106) ∨ (0 < x44.toInt ∧ 106 < y16.toInt)) => ?_) (z_qCmp rfl rfl)
    refine z_xZ zt189 5 rfl rfl (fun (h46 : 0 < x44.toInt) => ?_) (fun (h46 : x44.toInt ≤ 0) => ?_)
    · skip
      refine z_xP zt189 7 18 [some (.long y16), none, some (.long 97), none, some (.long 106), none] [.int 0] rfl rfl ?_
      refine z_xrz zt189 8 rfl zzr189 (by decide) (by decide) ?_
      show z_ev (d + 2) 191 56 [some (.ref 19), some (.int b1), some (.int x11), o3, o4] [.int 0] M _
      refine z_xP zt191 26 58 [some (.ref 19), some (.int b1), some (.int x11), some (.int 0), o4] [.int 0] rfl rfl ?_
      refine z_xZ zt191 27 rfl rfl (fun (h47 : (0 : Int) = 0) => ?_) (fun (h47 : (0 : Int) ≠ 0) => absurd h47 (by omega))
      refine z_xP zt191 59 121 [some (.ref 19), some (.int 0), some (.int x11), some (.int 0), o4] [.int 0] rfl rfl ?_
      refine z_xZ zt191 60 rfl rfl (fun (h48 : (0 : Int) ≠ 0) => absurd h48 (by omega)) (fun (h48 : (0 : Int) = 0) => ?_)
      refine z_xP zt191 61 125 [some (.ref 19), some (.int 0), some (.int x11), some (.int 0), o4] [.ref 19] rfl rfl ?_
      refine z_xgX (b := 24) zt191 62 rfl zo191 zzf12_22 X12 f19 (by decide) (by decide) rfl ?_
      refine z_xP zt191 63 129 [some (.ref 19), some (.int 0), some (.int x11), some (.int 0), o4] [.ref 19, .ref 24] rfl rfl ?_
      have h49 := (X3.2.f f19 (by decide) hp0)
      refine z_xgv zt191 64 rfl zo191 zzf12_133 X12 f19 (by decide) h49 ?_
      have f24 : T[24]? = some (.inr (24, 0, 8, 0, 10)) := X12.1.k rfl (by decide)
      refine z_xil zt191 65 rfl X12 f24 (by decide) (by omega) (by omega) (fun (x50 : Int32) h51 (h52 : 0 ≤ x50.toInt) (h53 : x50.toInt ≤ 10) => ?_)
      have h54 := congrArg Int32.toInt (h51.symm.trans ((congrFun (X3.2.a f24 (by decide)) _).trans hp2))
      refine z_xZ zt191 66 rfl rfl (fun (h55 : x50.toInt ≠ 0) => ?_) (fun (h55 : x50.toInt = 0) => ?_)
      · skip
        refine z_xP zt191 70 36 [some (.ref 19), some (.int 0), some (.int x11), some (.int 0), o4] [] rfl rfl ?_
        have h56 := (X3.2.f f19 (by decide) hp1)
        have h57 := ((congrFun (X3.2.a f24 (by decide)) _).trans hp2)
        have f23 : T[23]? = some (.inr (23, 0, 80, (-2147483648), 2147483647)) := X12.1.k rfl (by decide)
        have q0 : ((0 : Int32)).toInt = 0 := rfl
        have q0 : ((0 : Int32)).toInt = 0 := rfl
        exact ih M (0) (some (.int x11)) (some (.int 0)) (o4) z0 z1 z2 X12 (by decide) h49 ⟨by omega, by omega⟩ h56 ⟨by omega, by omega⟩ h57 ⟨by omega, by omega⟩ (z_GL.ke hl X3.2 f23 f24 (by decide)) (z_FPm (z_FPm hf (X3.2.a f23 (by decide)) rfl) rfl (by omega)) (y_NIe hN (by omega) h4 (by omega) (congrArg Int32.toInt (y_q24 hp0 hp2)) (by omega) (by omega)) (by omega)
      refine z_xP zt191 67 137 [some (.ref 19), some (.int 0), some (.int x11), some (.int 0), o4] [.ref 19] rfl rfl ?_
      refine z_xcV (vs := [.ref 19]) (r := []) (L2 := [some (.ref 19)]) zt191 68 rfl zo191 zzcV12_163 (Or.inl rfl) rfl X12 f19 rfl rfl rfl (Nat.le_of_ble_eq_true rfl) zzm194 (Nat.le_of_ble_eq_true rfl) rfl ?_
      refine zYC194 X12.1 (fun x62 M58 X59 h63 h64 h60 h61 => ?_)
      have X65 := X12.go X59 (z_sb (by decide))
      show z_ev (d + 2) 191 140 [some (.ref 19), some (.int 0), some (.int x11), some (.int 0), o4] [.int x62] M58 _
      refine z_xP zt191 69 142 [some (.ref 19), some (.int 0), some (.int x11), some (.int 0), some (.int x62)] [] rfl rfl ?_
      refine z_xP zt191 70 36 [some (.ref 19), some (.int 0), some (.int x11), some (.int 0), some (.int x62)] [] rfl rfl ?_
      have h67 := (X59.2.f f19 (by decide) h49)
      have h68 := (X59.2.f f19 (by decide) (X3.2.f f19 (by decide) hp1))
      have h69 := ((congrFun (X59.2.a f24 (by decide)) _).trans ((congrFun (X3.2.a f24 (by decide)) _).trans hp2))
      have f23 : T[23]? = some (.inr (23, 0, 80, (-2147483648), 2147483647)) := X65.1.k rfl (by decide)
      have q0 : ((0 : Int32)).toInt = 0 := rfl
      have q0 : ((0 : Int32)).toInt = 0 := rfl
      exact ih M58 (0) (some (.int x11)) (some (.int 0)) (some (.int x62)) z0 z1 z2 X65 (by decide) h67 ⟨by omega, by omega⟩ h68 ⟨by omega, by omega⟩ h69 ⟨by omega, by omega⟩ (z_GL.ke (z_GL.ke hl X3.2 f23 f24 (by decide)) X59.2 f23 f24 (by decide)) (z_FPm (z_FPm (z_FPm hf (X3.2.a f23 (by decide)) rfl) (X59.2.a f23 (by decide)) rfl) rfl (by omega)) (y_NIf hN (by omega) h4 (Or.inl ⟨by omega, (congrArg Int32.toInt (y_q24 hp0 hp2)).trans (by omega)⟩) h60 X65.1 X59 rfl ((X59.2.1 19 12 0 0 0 0 22 f19 (by decide)).trans (X3.2.1 19 12 0 0 0 0 22 f19 (by decide))) ((X59.2.1 19 12 0 0 0 0 27 f19 (by decide)).trans (X3.2.1 19 12 0 0 0 0 27 f19 (by decide))) (by omega)) (by omega)
    refine z_xP zt189 6 18 [some (.long y16), none, some (.long 97), none, some (.long 106), none] [.int 1] rfl rfl ?_
    refine z_xrz zt189 8 rfl zzr189 (by decide) (by decide) ?_
    show z_ev (d + 2) 191 56 [some (.ref 19), some (.int b1), some (.int x11), o3, o4] [.int 1] M _
    refine z_xP zt191 26 58 [some (.ref 19), some (.int b1), some (.int x11), some (.int 1), o4] [.int 1] rfl rfl ?_
    refine z_xZ zt191 27 rfl rfl (fun (h70 : (1 : Int) = 0) => absurd h70 (by omega)) (fun (h70 : (1 : Int) ≠ 0) => ?_)
    refine z_xP zt191 28 63 [some (.ref 19), some (.int b1), some (.int x11), some (.int 1), o4] [.int x11, .ref 19] rfl rfl ?_
    refine z_xcV (vs := [.ref 19, .int x11]) (r := []) (L2 := [some (.ref 19), some (.int x11), none]) zt191 29 rfl zo191 zzcV12_179 (Or.inl rfl) rfl X12 f19 rfl rfl rfl (Nat.le_of_ble_eq_true rfl) zzm195 (Nat.le_of_ble_eq_true rfl) rfl ?_
    have h71 := (X3.2.f f19 (by decide) hp0)
    have f23 : T[23]? = some (.inr (23, 0, 80, (-2147483648), 2147483647)) := X12.1.k rfl (by decide)
    have f24 : T[24]? = some (.inr (24, 0, 8, 0, 10)) := X12.1.k rfl (by decide)
    refine zYC195 X12.1 h71 ⟨by omega, by omega⟩ (z_GL.ke hl X3.2 f23 f24 (by decide)) (fun x82 M72 X73 h83 h84 h74 h75 h76 h77 z78 h79 h80 h81 => ?_)
    have X85 := X12.go X73 (z_sb (by decide))
    show z_ev (d + 2) 191 66 [some (.ref 19), some (.int b1), some (.int x11), some (.int 1), o4] [.int x82] M72 _
    have h87 := h77.symm
    subst h87
    refine z_xZ zt191 30 rfl rfl (fun (h88 : 0 ≤ x82.toInt) => ?_) (fun (h88 : x82.toInt < 0) => ?_)
    · skip
      refine z_xP zt191 59 121 [some (.ref 19), some (.int 0), some (.int x11), some (.int 1), o4] [.int 1] rfl rfl ?_
      refine z_xZ zt191 60 rfl rfl (fun (h89 : (1 : Int) ≠ 0) => ?_) (fun (h89 : (1 : Int) = 0) => absurd h89 (by omega))
      refine z_xP zt191 67 137 [some (.ref 19), some (.int 0), some (.int x11), some (.int 1), o4] [.ref 19] rfl rfl ?_
      refine z_xcV (vs := [.ref 19]) (r := []) (L2 := [some (.ref 19)]) zt191 68 rfl zo191 zzcV12_163 (Or.inl rfl) rfl X85 f19 rfl rfl rfl (Nat.le_of_ble_eq_true rfl) zzm194 (Nat.le_of_ble_eq_true rfl) rfl ?_
      refine zYC194 X85.1 (fun x94 M90 X91 h95 h96 h92 h93 => ?_)
      have X97 := X85.go X91 (z_sb (by decide))
      show z_ev (d + 2) 191 140 [some (.ref 19), some (.int 0), some (.int x11), some (.int 1), o4] [.int x94] M90 _
      refine z_xP zt191 69 142 [some (.ref 19), some (.int 0), some (.int x11), some (.int 1), some (.int x94)] [] rfl rfl ?_
      refine z_xP zt191 70 36 [some (.ref 19), some (.int 0), some (.int x11), some (.int 1), some (.int x94)] [] rfl rfl ?_
      have h99 := (X91.2.f f19 (by decide) (X73.2.f f19 (by decide) h71))
      have h100 := (X91.2.f f19 (by decide) (X73.2.f f19 (by decide) (X3.2.f f19 (by decide) hp1)))
      have h101 := ((congrFun (X91.2.a f24 (by decide)) _).trans ((congrFun (X73.2.a f24 (by decide)) _).trans ((congrFun (X3.2.a f24 (by decide)) _).trans hp2)))
      have q0 : ((0 : Int32)).toInt = 0 := rfl
      have q0 : ((0 : Int32)).toInt = 0 := rfl
      have q1 : ((1 : Int32)).toInt = 1 := rfl
      exact ih M90 (0) (some (.int x11)) (some (.int 1)) (some (.int x94)) z0 z1 z2 X97 (by decide) h99 ⟨by omega, by omega⟩ h100 ⟨by omega, by omega⟩ h101 ⟨by omega, by omega⟩ (z_GL.ke (z_GL.ke (z_GL.ke hl X3.2 f23 f24 (by decide)) X73.2 f23 f24 (by decide)) X91.2 f23 f24 (by decide)) (z_FPm (z_FPm (z_FPm (z_FPm hf (X3.2.a f23 (by decide)) rfl) (X73.2.a f23 (by decide)) rfl) (X91.2.a f23 (by decide)) rfl) rfl (by omega)) (y_NIf hN (by omega) h4 (Or.inr ⟨by omega, by omega, by rw [y_quY hN.1 hp0 (by omega) (by omega) (h76 (by omega))]; omega⟩) h92 X97.1 X91 rfl ((X91.2.1 19 12 0 0 0 0 22 f19 (by decide)).trans ((X73.2.1 19 12 0 0 0 0 22 f19 (by decide)).trans (X3.2.1 19 12 0 0 0 0 22 f19 (by decide)))) ((X91.2.1 19 12 0 0 0 0 27 f19 (by decide)).trans ((X73.2.1 19 12 0 0 0 0 27 f19 (by decide)).trans (X3.2.1 19 12 0 0 0 0 27 f19 (by decide)))) (by omega)) (by omega)
    refine z_xP zt191 31 70 [some (.ref 19), some (.int b1), some (.int x11), some (.int 1), o4] [.ref 19] rfl rfl ?_
    refine z_xgX (b := 23) zt191 32 rfl zo191 zzf12_19 X85 f19 (by decide) (by decide) rfl ?_
    refine z_xP zt191 33 76 [some (.ref 19), some (.int b1), some (.int x11), some (.int 1), o4] [.ref 19, .int 10, .ref 23] rfl rfl ?_
    have h102 := (X73.2.f f19 (by decide) h71)
    refine z_xgv zt191 34 rfl zo191 zzf12_133 X85 f19 (by decide) h102 ?_
    refine z_xI zt191 35 rfl rfl (fun (x103 : Int32) (h104 : x103.toInt = 10 * z0.toInt) => ?_) (z_pMul rfl rfl (by omega) (by omega))
    refine z_xP zt191 36 81 [some (.ref 19), some (.int b1), some (.int x11), some (.int 1), o4] [.ref 19, .int x103, .ref 23] rfl rfl ?_
    refine z_xgX (b := 24) zt191 37 rfl zo191 zzf12_22 X85 f19 (by decide) (by decide) rfl ?_
    refine z_xP zt191 38 85 [some (.ref 19), some (.int b1), some (.int x11), some (.int 1), o4] [.ref 19, .ref 24, .int x103, .ref 23] rfl rfl ?_
    refine z_xgv zt191 39 rfl zo191 zzf12_133 X85 f19 (by decide) h102 ?_
    refine z_xil zt191 40 rfl X85 f24 (by decide) (by omega) (by omega) (fun (x105 : Int32) h106 (h107 : 0 ≤ x105.toInt) (h108 : x105.toInt ≤ 10) => ?_)
    have h109 := congrArg Int32.toInt (h106.symm.trans ((congrFun (X73.2.a f24 (by decide)) _).trans ((congrFun (X3.2.a f24 (by decide)) _).trans hp2)))
    refine z_xI zt191 41 rfl rfl (fun (x110 : Int32) (h111 : x110.toInt = x103.toInt + x105.toInt) => ?_) (z_pAdd rfl rfl (by omega) (by omega))
    refine z_xP zt191 42 91 [some (.ref 19), some (.int b1), some (.int x11), some (.int 1), o4] [.int x11, .int x110, .ref 23] rfl rfl ?_
    have h113 := ((congrFun (X73.2.a f24 (by decide)) _).trans ((congrFun (X3.2.a f24 (by decide)) _).trans hp2))
    have h114 := z_NQm (h75 (by omega)) rfl (n2 := z2.toInt) (Int.le_of_eq (congrArg Int32.toInt hp2).symm)
    have h115 := z_NQm h114 (X73.2.a f23 (by decide)) (Int.le_refl _)
    have h116 := (z_FPm (z_FPm hf (X3.2.a f23 (by decide)) rfl) (X73.2.a f23 (by decide)) rfl)
    have h112 := z_FPn h116 h115 (by omega) (by omega)
    refine z_xis zt191 43 rfl X85 f23 (by decide) (by decide) (by omega) (by omega) (Int32.le_toInt _) (Int32.toInt_le _) (by decide) (fun M117 X118 e119 h120 => ?_)
    have h121 := (e119.f f19 (by decide) h102)
    have h122 := z_GLl (z_GL.ke (z_GL.ke hl X3.2 f23 f24 (by decide)) X73.2 f23 f24 (by decide)) h113 (by omega) (by omega) (by omega) (by omega) h120 (e119.a f24 (by decide))
    have h125 := ((congrFun (e119.a f24 (by decide)) _).trans h113)
    have h123 := z_FPs (n2 := z2.toInt + 1) h116 h115 (by omega) (by omega) h120 (by omega) (by omega) (by omega) rfl
    refine z_xP zt191 44 93 [some (.ref 19), some (.int b1), some (.int x11), some (.int 1), o4] [.ref 19] rfl rfl ?_
    refine z_xgX (b := 24) zt191 45 rfl zo191 zzf12_22 X118 f19 (by decide) (by decide) rfl ?_
    refine z_xP zt191 46 97 [some (.ref 19), some (.int b1), some (.int x11), some (.int 1), o4] [.ref 19, .ref 24] rfl rfl ?_
    refine z_xgv zt191 47 rfl zo191 zzf12_133 X118 f19 (by decide) h121 ?_
    refine z_xP zt191 48 101 [some (.ref 19), some (.int b1), some (.int x11), some (.int 1), o4] [.int z0, .ref 24, .int z0, .ref 24] rfl rfl ?_
    refine z_xil zt191 49 rfl X118 f24 (by decide) (by omega) (by omega) (fun (x126 : Int32) h127 (h128 : 0 ≤ x126.toInt) (h129 : x126.toInt ≤ 10) => ?_)
    have h130 := congrArg Int32.toInt (h127.symm.trans h125)
    refine z_xP zt191 50 103 [some (.ref 19), some (.int b1), some (.int x11), some (.int 1), o4] [.int 1, .int x126, .int z0, .ref 24] rfl rfl ?_
    refine z_xI zt191 51 rfl rfl (fun (x131 : Int32) (h132 : x131.toInt = x126.toInt + 1) => ?_) (z_pAdd rfl rfl (by omega) (by omega))
    refine z_xis zt191 52 rfl X118 f24 (by decide) (by decide) (by omega) (by omega) (by omega) (by omega) (by decide) (fun M133 X134 e135 h136 => ?_)
    have h137 := (e135.f f19 (by decide) h121)
    have h138 := z_GLq h122 h125 (by omega) (by omega) (by omega) (z_upe h120) (by omega) (by omega) (e135.a f23 (by decide)) h136
    have h139 := z_FPm (n2 := x131.toInt) (z_FPm h123 (e135.a f23 (by decide)) rfl) rfl (by omega)
    refine z_xP zt191 53 107 [some (.ref 19), some (.int b1), some (.int x11), some (.int 1), o4] [.ref 19, .ref 19] rfl rfl ?_
    have h140 := (e135.f f19 (by decide) (e119.f f19 (by decide) (X73.2.f f19 (by decide) (X3.2.f f19 (by decide) hp1))))
    refine z_xgv zt191 54 rfl zo191 zzf12_123 X134 f19 (by decide) h140 ?_
    refine z_xP zt191 55 111 [some (.ref 19), some (.int b1), some (.int x11), some (.int 1), o4] [.int 1, .int z1, .ref 19] rfl rfl ?_
    refine z_xI zt191 56 rfl rfl (fun (x141 : Int32) (h142 : x141.toInt = z1.toInt + 1) => ?_) (z_pAdd rfl rfl (by omega) (by omega))
    refine z_xpf zt191 57 rfl zo191 zzf12_123 X134 f19 (by decide) (by decide) ⟨by omega, by omega⟩ rfl (by decide) zw12_24 (fun M143 X144 e145 h146 => ?_)
    refine z_xP zt191 58 142 [some (.ref 19), some (.int b1), some (.int x11), some (.int 1), o4] [] rfl rfl ?_
    refine z_xP zt191 70 36 [some (.ref 19), some (.int b1), some (.int x11), some (.int 1), o4] [] rfl rfl ?_
    have h147 := (e145.f f19 (by decide) h137)
    have h148 := ((congrFun (e145.a f24 (by decide)) _).trans (z_upe h136))
    have f20 : T[20]? = some (.inr (20, 0, 160, (-2147483648), 2147483647)) := X144.1.k rfl (by decide)
    have f21 : T[21]? = some (.inr (21, 0, 1280, (-2147483648), 2147483647)) := X144.1.k rfl (by decide)
    have q1 : ((1 : Int32)).toInt = 1 := rfl
    exact ih M143 b1 (some (.int x11)) (some (.int 1)) (o4) z0 x141 x131 X144 ⟨by omega, by omega⟩ h147 ⟨by omega, by omega⟩ h146 ⟨by omega, by omega⟩ h148 ⟨by omega, by omega⟩ (z_GL.ke h138 e145 f23 f24 (by decide)) (z_FPm (z_FPm h139 (e145.a f23 (by decide)) rfl) rfl (by omega)) (y_NIs hN (by omega) h4 ⟨by omega, by omega⟩ (y_quN hN.1 hp0 (h75 (by omega))) (hN.1.name hp0 (by omega) hp2 (by omega) (by omega) (((e145.a f23 (by decide)).trans (e135.a f23 (by decide))).trans h120) ((e145.a f24 (by decide)).trans (h136.trans (congrArg (fun f => upd f _ _) ((e119.a f24 (by decide)).trans ((X73.2.a f24 (by decide)).trans (X3.2.a f24 (by decide))))))) (by omega) ⟨by omega, by omega⟩ (y_quN hN.1 hp0 (h75 (by omega))) ((e145.1 19 12 0 0 0 0 22 f19 (by decide)).trans ((e135.1 19 12 0 0 0 0 22 f19 (by decide)).trans ((e119.1 19 12 0 0 0 0 22 f19 (by decide)).trans ((X73.2.1 19 12 0 0 0 0 22 f19 (by decide)).trans (X3.2.1 19 12 0 0 0 0 22 f19 (by decide)))))) ((e145.1 19 12 0 0 0 0 23 f19 (by decide)).trans ((e135.1 19 12 0 0 0 0 23 f19 (by decide)).trans ((e119.1 19 12 0 0 0 0 23 f19 (by decide)).trans ((X73.2.1 19 12 0 0 0 0 23 f19 (by decide)).trans (X3.2.1 19 12 0 0 0 0 23 f19 (by decide)))))) ((e145.1 19 12 0 0 0 0 25 f19 (by decide)).trans ((e135.1 19 12 0 0 0 0 25 f19 (by decide)).trans ((e119.1 19 12 0 0 0 0 25 f19 (by decide)).trans ((X73.2.1 19 12 0 0 0 0 25 f19 (by decide)).trans (X3.2.1 19 12 0 0 0 0 25 f19 (by decide)))))) ((e145.1 19 12 0 0 0 0 28 f19 (by decide)).trans ((e135.1 19 12 0 0 0 0 28 f19 (by decide)).trans ((e119.1 19 12 0 0 0 0 28 f19 (by decide)).trans ((X73.2.1 19 12 0 0 0 0 28 f19 (by decide)).trans (X3.2.1 19 12 0 0 0 0 28 f19 (by decide)))))) ((e145.a f20 (by decide)).trans ((e135.a f20 (by decide)).trans ((e119.a f20 (by decide)).trans ((X73.2.a f20 (by decide)).trans (X3.2.a f20 (by decide)))))) ((e145.a f21 (by decide)).trans ((e135.a f21 (by decide)).trans ((e119.a f21 (by decide)).trans ((X73.2.a f21 (by decide)).trans (X3.2.a f21 (by decide)))))) rfl) hp0 ((e145.1 19 12 0 0 0 0 22 f19 (by decide)).trans ((e135.1 19 12 0 0 0 0 22 f19 (by decide)).trans ((e119.1 19 12 0 0 0 0 22 f19 (by decide)).trans ((X73.2.1 19 12 0 0 0 0 22 f19 (by decide)).trans (X3.2.1 19 12 0 0 0 0 22 f19 (by decide)))))) hp2 ((e145.a f24 (by decide)).trans (h136.trans (congrArg (fun f => upd f _ _) ((e119.a f24 (by decide)).trans ((X73.2.a f24 (by decide)).trans (X3.2.a f24 (by decide))))))) ⟨by omega, by omega⟩ hp1 h146 ⟨by omega, by omega⟩ ((e145.1 19 12 0 0 0 0 26 f19 (by decide)).trans ((e135.1 19 12 0 0 0 0 26 f19 (by decide)).trans ((e119.1 19 12 0 0 0 0 26 f19 (by decide)).trans ((X73.2.1 19 12 0 0 0 0 26 f19 (by decide)).trans (X3.2.1 19 12 0 0 0 0 26 f19 (by decide)))))) ((e145.1 19 12 0 0 0 0 27 f19 (by decide)).trans ((e135.1 19 12 0 0 0 0 27 f19 (by decide)).trans ((e119.1 19 12 0 0 0 0 27 f19 (by decide)).trans ((X73.2.1 19 12 0 0 0 0 27 f19 (by decide)).trans (X3.2.1 19 12 0 0 0 0 27 f19 (by decide)))))) (by omega)) (by omega)
theorem zYC191 {T : List zK} {d : Nat} {K : Option Value → zH → Prop} {bb : Nat → Int} {nn : Nat} {SS : Nat} {M0 : zH} (hW : z_W M0 T) (hL : z_GL M0) (hB : y_TB M0 bb nn SS) (kk : ∀ (M1 : zH), z_X T zw191 M0 M1 → z_GL M1 → (∃ nu : Int → Int, y_NI bb nn nu SS M0 M1 0) → K none M1) : z_ev (d + 2) 191 0 [some (.ref 19), none, none, none, none] [] M0 K := by
  have X : z_X T zw191 M0 M0 := .refl hW
  refine z_xP zt191 0 1 [some (.ref 19), none, none, none, none] [.ref 19] rfl rfl ?_
  have f19 : T[19]? = some (.inl (12, 0, 0, 0, 0)) := X.1.k rfl (by decide)
  refine z_xgX (b := 24) zt191 1 rfl zo191 zzf12_22 X f19 (by decide) (by decide) rfl ?_
  refine z_xP zt191 2 5 [some (.ref 19), none, none, none, none] [.ref 19, .ref 24] rfl rfl ?_
  refine z_xgI zt191 3 rfl zo191 zzf12_133 X f19 (by decide) (by decide) rfl (fun (x2 : Int32) h1 (h3 : 0 ≤ x2.toInt) (h4 : x2.toInt ≤ 7) => ?_)
  refine z_xP zt191 4 9 [some (.ref 19), none, none, none, none] [.int 0, .int x2, .ref 24] rfl rfl ?_
  have f24 : T[24]? = some (.inr (24, 0, 8, 0, 10)) := X.1.k rfl (by decide)
  have q0 : ((0 : Int32)).toInt = 0 := rfl
  refine z_xis zt191 5 rfl X f24 (by decide) (by decide) (by omega) (by omega) (by omega) (by omega) (by decide) (fun M5 X6 e7 h8 => ?_)
  have h9 := (e7.f f19 (by decide) h1)
  have f23 : T[23]? = some (.inr (23, 0, 80, (-2147483648), 2147483647)) := X6.1.k rfl (by decide)
  have h10 := z_GLz hL (e7.a f23 (by decide)) h8 (by omega)
  have t11 := hB.tr X6 rfl h9 h8 rfl
  refine z_xP zt191 6 13 [some (.ref 19), none, none, none, none] [.int 113, .ref 19] rfl rfl ?_
  refine z_xcV (vs := [.ref 19, .int 113]) (r := []) (L2 := [some (.ref 19), some (.int 113)]) zt191 7 rfl zo191 zzcV12_147 (Or.inl rfl) rfl X6 f19 rfl rfl rfl (Nat.le_of_ble_eq_true rfl) zzm192 (Nat.le_of_ble_eq_true rfl) rfl ?_
  have q113 : ((113 : Int32)).toInt = 113 := rfl
  obtain ⟨x12, h13, h14, h15⟩ := z_W.fi X6.1 f19 (k := 24) (lo := 0) (hi := 160) (by decide) rfl
  have q113 : ((113 : Int32)).toInt = 113 := rfl
  have q113 : ((113 : Int32)).toInt = 113 := rfl
  refine zYC192 X6.1 h13 ⟨by omega, by omega⟩ t11 (by omega) (fun x24 M16 X17 h25 h26 h18 z19 h20 h21 h22 h23 => ?_)
  have X27 := X6.go X17 (z_sb (by decide))
  show z_ev (d + 2) 191 16 [some (.ref 19), none, none, none, none] [.int x24] M16 _
  have t29 := t11.go X27.1 X17 rfl
  refine z_xZ zt191 8 rfl rfl (fun (h30 : x24.toInt = 0) => ?_) (fun (h30 : x24.toInt ≠ 0) => ?_)
  · skip
    refine z_xP zt191 12 29 [some (.ref 19), none, none, none, none] [.ref 19] rfl rfl ?_
    refine z_xcV (vs := [.ref 19]) (r := []) (L2 := [some (.ref 19)]) zt191 13 rfl zo191 zzcV12_163 (Or.inl rfl) rfl X27 f19 rfl rfl rfl (Nat.le_of_ble_eq_true rfl) zzm194 (Nat.le_of_ble_eq_true rfl) rfl ?_
    refine zYC194 X27.1 (fun x35 M31 X32 h36 h37 h33 h34 => ?_)
    have X38 := X27.go X32 (z_sb (by decide))
    show z_ev (d + 2) 191 32 [some (.ref 19), none, none, none, none] [.int x35] M31 _
    have t40 := t29.go X38.1 X32 rfl
    refine z_xP zt191 14 33 [some (.ref 19), some (.int x35), none, none, none] [] rfl rfl ?_
    exact z_xrv zt191 15 rfl zzr191 (kk M31 X38 (z_GL.ke (z_GL.ke h10 X17.2 f23 f24 (by decide)) X32.2 f23 f24 (by decide)) (y_NIm t40 (y_opK ((X32.2.1 19 12 0 0 0 0 27 f19 (by decide)).trans ((X17.2.1 19 12 0 0 0 0 27 f19 (by decide)).trans (e7.1 19 12 0 0 0 0 27 f19 (by decide))))) (y_rdK ((X32.2.1 19 12 0 0 0 0 22 f19 (by decide)).trans ((X17.2.1 19 12 0 0 0 0 22 f19 (by decide)).trans (e7.1 19 12 0 0 0 0 22 f19 (by decide))))) (y_okK (e7.1 19 12 0 0 0 0 26 f19 (by decide))).symm (y_atK (e7.1 19 12 0 0 0 0 24 f19 (by decide))) h18 (by omega) h33 rfl))
  refine z_xP zt191 9 22 [some (.ref 19), none, none, none, none] [.int 32, .ref 19] rfl rfl ?_
  refine z_xcV (vs := [.ref 19, .int 32]) (r := []) (L2 := [some (.ref 19), some (.int 32)]) zt191 10 rfl zo191 zzcV12_147 (Or.inl rfl) rfl X27 f19 rfl rfl rfl (Nat.le_of_ble_eq_true rfl) zzm192 (Nat.le_of_ble_eq_true rfl) rfl ?_
  have q32 : ((32 : Int32)).toInt = 32 := rfl
  have q32 : ((32 : Int32)).toInt = 32 := rfl
  have q32 : ((32 : Int32)).toInt = 32 := rfl
  refine zYC192 X27.1 h20 ⟨by omega, by omega⟩ t29 (by omega) (fun x49 M41 X42 h50 h51 h43 z44 h45 h46 h47 h48 => ?_)
  have X52 := X27.go X42 (z_sb (by decide))
  show z_ev (d + 2) 191 25 [some (.ref 19), none, none, none, none] [.int x49] M41 _
  have t54 := t29.go X52.1 X42 rfl
  refine z_xZ zt191 11 rfl rfl (fun (h55 : x49.toInt ≠ 0) => ?_) (fun (h55 : x49.toInt = 0) => ?_)
  · skip
    refine z_xP zt191 16 36 [some (.ref 19), some (.int 1), none, none, none] [] rfl rfl ?_
    have h56 := (X42.2.f f19 (by decide) (X17.2.f f19 (by decide) h9))
    have h57 := ((congrFun (X42.2.a f24 (by decide)) _).trans ((congrFun (X17.2.a f24 (by decide)) _).trans (z_upe h8)))
    have q0 : ((0 : Int32)).toInt = 0 := rfl
    have q1 : ((1 : Int32)).toInt = 1 := rfl
    have q1 : ((1 : Int32)).toInt = 1 := rfl
    exact (zYB191 hL hB kk 646) M41 (1) none none none x2 z44 (0) X52 (by decide) h56 ⟨by omega, by omega⟩ h45 ⟨by omega, by omega⟩ h57 (by decide) (z_GL.ke (z_GL.ke h10 X17.2 f23 f24 (by decide)) X42.2 f23 f24 (by decide)) (z_FP0 (by omega)) (y_NI0 t54 (y_opK ((X42.2.1 19 12 0 0 0 0 27 f19 (by decide)).trans ((X17.2.1 19 12 0 0 0 0 27 f19 (by decide)).trans (e7.1 19 12 0 0 0 0 27 f19 (by decide))))) (y_rdK ((X42.2.1 19 12 0 0 0 0 22 f19 (by decide)).trans ((X17.2.1 19 12 0 0 0 0 22 f19 (by decide)).trans (e7.1 19 12 0 0 0 0 22 f19 (by decide))))) (y_okK (e7.1 19 12 0 0 0 0 26 f19 (by decide))).symm (y_atK (e7.1 19 12 0 0 0 0 24 f19 (by decide))) h18 (by omega) h43 (by omega) (congrArg Int32.toInt (y_q24 h56 h57)) (by omega)) (by omega)
  refine z_xP zt191 12 29 [some (.ref 19), none, none, none, none] [.ref 19] rfl rfl ?_
  refine z_xcV (vs := [.ref 19]) (r := []) (L2 := [some (.ref 19)]) zt191 13 rfl zo191 zzcV12_163 (Or.inl rfl) rfl X52 f19 rfl rfl rfl (Nat.le_of_ble_eq_true rfl) zzm194 (Nat.le_of_ble_eq_true rfl) rfl ?_
  refine zYC194 X52.1 (fun x62 M58 X59 h63 h64 h60 h61 => ?_)
  have X65 := X52.go X59 (z_sb (by decide))
  show z_ev (d + 2) 191 32 [some (.ref 19), none, none, none, none] [.int x62] M58 _
  have t67 := t54.go X65.1 X59 rfl
  refine z_xP zt191 14 33 [some (.ref 19), some (.int x62), none, none, none] [] rfl rfl ?_
  exact z_xrv zt191 15 rfl zzr191 (kk M58 X65 (z_GL.ke (z_GL.ke (z_GL.ke h10 X17.2 f23 f24 (by decide)) X42.2 f23 f24 (by decide)) X59.2 f23 f24 (by decide)) (y_NIm2 t67 (y_opK ((X59.2.1 19 12 0 0 0 0 27 f19 (by decide)).trans ((X42.2.1 19 12 0 0 0 0 27 f19 (by decide)).trans ((X17.2.1 19 12 0 0 0 0 27 f19 (by decide)).trans (e7.1 19 12 0 0 0 0 27 f19 (by decide)))))) (y_rdK ((X59.2.1 19 12 0 0 0 0 22 f19 (by decide)).trans ((X42.2.1 19 12 0 0 0 0 22 f19 (by decide)).trans ((X17.2.1 19 12 0 0 0 0 22 f19 (by decide)).trans (e7.1 19 12 0 0 0 0 22 f19 (by decide)))))) (y_atK (e7.1 19 12 0 0 0 0 24 f19 (by decide))) h18 (by omega) h43 (by omega) h60 rfl))
theorem zYC196 {T : List zK} {d : Nat} {K : Option Value → zH → Prop} {zp0 : Int32} {bb : Nat → Int} {nn : Nat} {nu : Int → Int} {SS : Nat} {pp pr en tn : Nat} {ts : Nat → Nat} {M0 : zH} (hW : z_W M0 T) (hz0 : z_F M0 19 24 = some (.int zp0)) (bz0 : 0 ≤ zp0.toInt ∧ zp0.toInt ≤ 160) (hL : z_GL M0) (hT : y_TR M0 bb nn nu SS) (hS : y_st M0 pr en tn ts) (hpp : y_pp pp) (kk : ∀ (M1 : zH), z_X T zw196 M0 M1 → y_AP bb nn nu M0 M1 pp pr en tn ts → ∀ (w0 : Int32), z_F M1 19 24 = some (.int w0) → 0 ≤ w0.toInt ∧ w0.toInt ≤ 160 → zp0.toInt ≤ w0.toInt → K none M1) : z_ev (d + 972) 196 0 [some (.ref 19), none, none, none] [] M0 K := by
  have X : z_X T zw196 M0 M0 := .refl hW
  refine z_xP zt196 0 1 [some (.ref 19), none, none, none] [.ref 19] rfl rfl ?_
  have f19 : T[19]? = some (.inl (12, 0, 0, 0, 0)) := X.1.k rfl (by decide)
  refine z_xcV (vs := [.ref 19]) (r := []) (L2 := [some (.ref 19)]) zt196 1 rfl zo196 zzcV12_139 (Or.inl rfl) rfl X f19 rfl rfl rfl (Nat.le_of_ble_eq_true rfl) zzm193 (Nat.le_of_ble_eq_true rfl) rfl ?_
  refine zYC193 X.1 hz0 ⟨by omega, by omega⟩ (hT.go X.1 X rfl) (fun x10 M1 X2 h3 h4 h5 z6 h7 h8 h9 => ?_)
  have X11 := X.go X2 (z_sb (by decide))
  show z_ev (d + 972) 196 4 [some (.ref 19), none, none, none] [.int x10] M1 _
  have h13 := h4.symm
  subst h13
  refine z_xP zt196 2 8 [some (.ref 19), some (.int x10), none, none] [.int 112, .int x10] rfl rfl ?_
  refine z_xJ zt196 3 rfl rfl (fun (h14 : x10.toInt ≠ 112) => ?_) (fun (h14 : x10.toInt = 112) => ?_)
  · skip
    refine z_xP zt196 10 26 [some (.ref 19), some (.int x10), none, none] [.int 101, .int x10] rfl rfl ?_
    refine z_xJ zt196 11 rfl rfl (fun (h15 : x10.toInt ≠ 101) => ?_) (fun (h15 : x10.toInt = 101) => ?_)
    · skip
      refine z_xP zt196 18 44 [some (.ref 19), some (.int x10), none, none] [.int 116, .int x10] rfl rfl ?_
      refine z_xJ zt196 19 rfl rfl (fun (h16 : x10.toInt ≠ 116) => ?_) (fun (h16 : x10.toInt = 116) => ?_)
      · skip
        refine z_xP zt196 28 66 [some (.ref 19), some (.int x10), none, none] [.int 0] rfl rfl ?_
        refine z_xP zt196 29 70 [some (.ref 19), some (.int x10), some (.int 0), none] [.int 112, .int x10] rfl rfl ?_
        refine z_xJ zt196 30 rfl rfl (fun (h17 : x10.toInt = 112) => ?_) (fun (h17 : x10.toInt ≠ 112) => ?_)
        · skip
          refine z_xP zt196 35 86 [some (.ref 19), some (.int x10), some (.int 0), none] [.int 0] rfl rfl ?_
          refine z_xZ zt196 36 rfl rfl (fun (h18 : (0 : Int) = 0) => ?_) (fun (h18 : (0 : Int) ≠ 0) => absurd h18 (by omega))
          refine z_xP zt196 41 97 [some (.ref 19), some (.int x10), some (.int 0), none] [.ref 19, .ref 19] rfl rfl ?_
          have h19 := (X2.2.f f19 (by decide) hz0)
          refine z_xgv zt196 42 rfl zo196 zzf12_123 X11 f19 (by decide) h19 ?_
          refine z_xP zt196 43 101 [some (.ref 19), some (.int x10), some (.int 0), none] [.int 1, .int zp0, .ref 19] rfl rfl ?_
          refine z_xI zt196 44 rfl rfl (fun (x20 : Int32) (h21 : x20.toInt = zp0.toInt + 1) => ?_) (z_pAdd rfl rfl (by omega) (by omega))
          refine z_xpf zt196 45 rfl zo196 zzf12_123 X11 f19 (by decide) (by decide) ⟨by omega, by omega⟩ rfl (by decide) zw12_24 (fun M22 X23 e24 h25 => ?_)
          refine z_xP zt196 46 108 [some (.ref 19), some (.int x10), some (.int 0), none] [.int 32, .ref 19] rfl rfl ?_
          refine z_xcV (vs := [.ref 19, .int 32]) (r := []) (L2 := [some (.ref 19), some (.int 32)]) zt196 47 rfl zo196 zzcV12_147 (Or.inl rfl) rfl X23 f19 rfl rfl rfl (Nat.le_of_ble_eq_true rfl) zzm192 (Nat.le_of_ble_eq_true rfl) rfl ?_
          have q32 : ((32 : Int32)).toInt = 32 := rfl
          have q32 : ((32 : Int32)).toInt = 32 := rfl
          have q32 : ((32 : Int32)).toInt = 32 := rfl
          refine zYC192 X23.1 h25 ⟨by omega, by omega⟩ (hT.go X23.1 X23 rfl) (by omega) (fun x34 M26 X27 h35 h36 h28 z29 h30 h31 h32 h33 => ?_)
          have X37 := X23.go X27 (z_sb (by decide))
          show z_ev (d + 972) 196 111 [some (.ref 19), some (.int x10), some (.int 0), none] [.int x34] M26 _
          obtain ⟨x39, h40, h41, h42⟩ := z_W.fi X37.1 f19 (k := 22) (lo := 0) (hi := 7) (by decide) rfl
          refine z_xZ zt196 48 rfl rfl (fun (h43 : x34.toInt ≠ 0) => ?_) (fun (h43 : x34.toInt = 0) => ?_)
          · skip
            refine z_xP zt196 53 123 [some (.ref 19), some (.int x10), some (.int 0), none] [.int 112, .int x10] rfl rfl ?_
            refine z_xJ zt196 54 rfl rfl (fun (h44 : x10.toInt ≠ 112) => absurd h44 (by omega)) (fun (h44 : x10.toInt = 112) => ?_)
            refine z_xP zt196 55 127 [some (.ref 19), some (.int x10), some (.int 0), none] [.ref 19] rfl rfl ?_
            refine z_xgX (b := 27) zt196 56 rfl zo196 zzf12_31 X37 f19 (by decide) (by decide) rfl ?_
            refine z_xP zt196 57 131 [some (.ref 19), some (.int x10), some (.int 0), none] [.ref 19, .ref 27] rfl rfl ?_
            refine z_xgv zt196 58 rfl zo196 zzf12_133 X37 f19 (by decide) h40 ?_
            refine z_xP zt196 59 135 [some (.ref 19), some (.int x10), some (.int 0), none] [.ref 19, .int x39, .ref 27] rfl rfl ?_
            refine z_xcV (vs := [.ref 19]) (r := [.int x39, .ref 27]) (L2 := [some (.ref 19), none, none, none, none]) zt196 60 rfl zo196 zzcV12_190 (Or.inl rfl) rfl X37 f19 rfl rfl rfl (Nat.le_of_ble_eq_true rfl) zzm197 (Nat.le_of_ble_eq_true rfl) rfl ?_
            refine zYC197 X37.1 h30 ⟨by omega, by omega⟩ (z_GL.go hL X37 (by decide)) (hT.go X37.1 X37 rfl) (fun x52 M45 X46 h47 z48 h49 h50 h51 => ?_)
            have X53 := X37.go X46 (z_sb (by decide))
            show z_ev (d + 972) 196 138 [some (.ref 19), some (.int x10), some (.int 0), none] [.int x52, .int x39, .ref 27] M45 _
            have h55 := (X46.2.f f19 (by decide) h40)
            have f27 : T[27]? = some (.inr (27, 0, 8, (-2147483648), 2147483647)) := X53.1.k rfl (by decide)
            refine z_xis zt196 61 rfl X53 f27 (by decide) (by decide) (by omega) (by omega) (Int32.le_toInt _) (Int32.toInt_le _) (by decide) (fun M56 X57 e58 h59 => ?_)
            refine z_xP zt196 62 208 [some (.ref 19), some (.int x10), some (.int 0), none] [] rfl rfl ?_
            have f25 : T[25]? = some (.inr (25, 0, 8, 0, 8)) := X57.1.k rfl (by decide)
            have f26 : T[26]? = some (.inr (26, 0, 64, 0, 160)) := X57.1.k rfl (by decide)
            have f28 : T[28]? = some (.inr (28, 0, 8, (-2147483648), 2147483647)) := X57.1.k rfl (by decide)
            have h60 := (e58.f f19 (by decide) h49)
            exact z_xrv zt196 99 rfl zzr196 (kk M56 X57 (y_APp hS (y_chm h3 (by omega) hz0 h25 ⟨by omega, by omega⟩ ((e24.1 19 12 0 0 0 0 26 f19 (by decide)).trans (X2.2.1 19 12 0 0 0 0 26 f19 (by decide))) ((e24.1 19 12 0 0 0 0 27 f19 (by decide)).trans (X2.2.1 19 12 0 0 0 0 27 f19 (by decide)))) ⟨by omega, by omega⟩ h28 (by omega) h47 ⟨((X46.2.1 19 12 0 0 0 0 22 f19 (by decide)).trans ((X27.2.1 19 12 0 0 0 0 22 f19 (by decide)).trans ((e24.1 19 12 0 0 0 0 22 f19 (by decide)).trans (X2.2.1 19 12 0 0 0 0 22 f19 (by decide))))), ((X46.2.a f25 (by decide)).trans ((X27.2.a f25 (by decide)).trans ((e24.a f25 (by decide)).trans (X2.2.a f25 (by decide))))), ((X46.2.a f26 (by decide)).trans ((X27.2.a f26 (by decide)).trans ((e24.a f26 (by decide)).trans (X2.2.a f26 (by decide))))), ((X46.2.a f27 (by decide)).trans ((X27.2.a f27 (by decide)).trans ((e24.a f27 (by decide)).trans (X2.2.a f27 (by decide))))), ((X46.2.a f28 (by decide)).trans ((X27.2.a f28 (by decide)).trans ((e24.a f28 (by decide)).trans (X2.2.a f28 (by decide)))))⟩ h55 h59 (e58.1 19 12 0 0 0 0 22 f19 (by decide)) (e58.a f25 (by decide)) (e58.a f26 (by decide)) (e58.a f28 (by decide)) (e58.1 19 12 0 0 0 0 24 f19 (by decide)) (e58.1 19 12 0 0 0 0 26 f19 (by decide)) (e58.1 19 12 0 0 0 0 27 f19 (by decide))) z48 h60 ⟨by omega, by omega⟩ (by omega))
          refine z_xP zt196 49 115 [some (.ref 19), some (.int x10), some (.int 0), none] [.ref 19] rfl rfl ?_
          refine z_xcV (vs := [.ref 19]) (r := []) (L2 := [some (.ref 19)]) zt196 50 rfl zo196 zzcV12_163 (Or.inl rfl) rfl X37 f19 rfl rfl rfl (Nat.le_of_ble_eq_true rfl) zzm194 (Nat.le_of_ble_eq_true rfl) rfl ?_
          refine zYC194 X37.1 (fun x65 M61 X62 h66 h67 h63 h64 => ?_)
          have X68 := X37.go X62 (z_sb (by decide))
          show z_ev (d + 972) 196 118 [some (.ref 19), some (.int x10), some (.int 0), none] [.int x65] M61 _
          refine z_xP zt196 51 119 [some (.ref 19), some (.int x10), some (.int 0), some (.int x65)] [] rfl rfl ?_
          have h70 := (X62.2.f f19 (by decide) h30)
          exact z_xrv zt196 52 rfl zzr196 (kk M61 X68 (y_APs (y_chm h3 (by omega) hz0 h25 ⟨by omega, by omega⟩ ((e24.1 19 12 0 0 0 0 26 f19 (by decide)).trans (X2.2.1 19 12 0 0 0 0 26 f19 (by decide))) ((e24.1 19 12 0 0 0 0 27 f19 (by decide)).trans (X2.2.1 19 12 0 0 0 0 27 f19 (by decide)))) (by omega) h28 (by omega) h63) z29 h70 ⟨by omega, by omega⟩ (by omega))
        refine z_xP zt196 31 76 [some (.ref 19), some (.int x10), some (.int 0), none] [.int 101, .int x10] rfl rfl ?_
        refine z_xJ zt196 32 rfl rfl (fun (h71 : x10.toInt = 101) => ?_) (fun (h71 : x10.toInt ≠ 101) => ?_)
        · skip
          refine z_xP zt196 35 86 [some (.ref 19), some (.int x10), some (.int 0), none] [.int 0] rfl rfl ?_
          refine z_xZ zt196 36 rfl rfl (fun (h72 : (0 : Int) = 0) => ?_) (fun (h72 : (0 : Int) ≠ 0) => absurd h72 (by omega))
          refine z_xP zt196 41 97 [some (.ref 19), some (.int x10), some (.int 0), none] [.ref 19, .ref 19] rfl rfl ?_
          have h73 := (X2.2.f f19 (by decide) hz0)
          refine z_xgv zt196 42 rfl zo196 zzf12_123 X11 f19 (by decide) h73 ?_
          refine z_xP zt196 43 101 [some (.ref 19), some (.int x10), some (.int 0), none] [.int 1, .int zp0, .ref 19] rfl rfl ?_
          refine z_xI zt196 44 rfl rfl (fun (x74 : Int32) (h75 : x74.toInt = zp0.toInt + 1) => ?_) (z_pAdd rfl rfl (by omega) (by omega))
          refine z_xpf zt196 45 rfl zo196 zzf12_123 X11 f19 (by decide) (by decide) ⟨by omega, by omega⟩ rfl (by decide) zw12_24 (fun M76 X77 e78 h79 => ?_)
          refine z_xP zt196 46 108 [some (.ref 19), some (.int x10), some (.int 0), none] [.int 32, .ref 19] rfl rfl ?_
          refine z_xcV (vs := [.ref 19, .int 32]) (r := []) (L2 := [some (.ref 19), some (.int 32)]) zt196 47 rfl zo196 zzcV12_147 (Or.inl rfl) rfl X77 f19 rfl rfl rfl (Nat.le_of_ble_eq_true rfl) zzm192 (Nat.le_of_ble_eq_true rfl) rfl ?_
          have q32 : ((32 : Int32)).toInt = 32 := rfl
          have q32 : ((32 : Int32)).toInt = 32 := rfl
          have q32 : ((32 : Int32)).toInt = 32 := rfl
          refine zYC192 X77.1 h79 ⟨by omega, by omega⟩ (hT.go X77.1 X77 rfl) (by omega) (fun x88 M80 X81 h89 h90 h82 z83 h84 h85 h86 h87 => ?_)
          have X91 := X77.go X81 (z_sb (by decide))
          show z_ev (d + 972) 196 111 [some (.ref 19), some (.int x10), some (.int 0), none] [.int x88] M80 _
          obtain ⟨x93, h94, h95, h96⟩ := z_W.fi X91.1 f19 (k := 22) (lo := 0) (hi := 7) (by decide) rfl
          refine z_xZ zt196 48 rfl rfl (fun (h97 : x88.toInt ≠ 0) => ?_) (fun (h97 : x88.toInt = 0) => ?_)
          · skip
            refine z_xP zt196 53 123 [some (.ref 19), some (.int x10), some (.int 0), none] [.int 112, .int x10] rfl rfl ?_
            refine z_xJ zt196 54 rfl rfl (fun (h98 : x10.toInt ≠ 112) => ?_) (fun (h98 : x10.toInt = 112) => absurd h98 (by omega))
            refine z_xP zt196 63 145 [some (.ref 19), some (.int x10), some (.int 0), none] [.int 101, .int x10] rfl rfl ?_
            refine z_xJ zt196 64 rfl rfl (fun (h99 : x10.toInt ≠ 101) => absurd h99 (by omega)) (fun (h99 : x10.toInt = 101) => ?_)
            refine z_xP zt196 65 149 [some (.ref 19), some (.int x10), some (.int 0), none] [.ref 19] rfl rfl ?_
            refine z_xgX (b := 28) zt196 66 rfl zo196 zzf12_34 X91 f19 (by decide) (by decide) rfl ?_
            refine z_xP zt196 67 153 [some (.ref 19), some (.int x10), some (.int 0), none] [.ref 19, .ref 28] rfl rfl ?_
            refine z_xgv zt196 68 rfl zo196 zzf12_133 X91 f19 (by decide) h94 ?_
            refine z_xP zt196 69 157 [some (.ref 19), some (.int x10), some (.int 0), none] [.ref 19, .int x93, .ref 28] rfl rfl ?_
            refine z_xcV (vs := [.ref 19]) (r := [.int x93, .ref 28]) (L2 := [some (.ref 19), none, none, none, none]) zt196 70 rfl zo196 zzcV12_190 (Or.inl rfl) rfl X91 f19 rfl rfl rfl (Nat.le_of_ble_eq_true rfl) zzm197 (Nat.le_of_ble_eq_true rfl) rfl ?_
            refine zYC197 X91.1 h84 ⟨by omega, by omega⟩ (z_GL.go hL X91 (by decide)) (hT.go X91.1 X91 rfl) (fun x107 M100 X101 h102 z103 h104 h105 h106 => ?_)
            have X108 := X91.go X101 (z_sb (by decide))
            show z_ev (d + 972) 196 160 [some (.ref 19), some (.int x10), some (.int 0), none] [.int x107, .int x93, .ref 28] M100 _
            have h110 := (X101.2.f f19 (by decide) h94)
            have f28 : T[28]? = some (.inr (28, 0, 8, (-2147483648), 2147483647)) := X108.1.k rfl (by decide)
            refine z_xis zt196 71 rfl X108 f28 (by decide) (by decide) (by omega) (by omega) (Int32.le_toInt _) (Int32.toInt_le _) (by decide) (fun M111 X112 e113 h114 => ?_)
            refine z_xP zt196 72 208 [some (.ref 19), some (.int x10), some (.int 0), none] [] rfl rfl ?_
            have f25 : T[25]? = some (.inr (25, 0, 8, 0, 8)) := X112.1.k rfl (by decide)
            have f26 : T[26]? = some (.inr (26, 0, 64, 0, 160)) := X112.1.k rfl (by decide)
            have f27 : T[27]? = some (.inr (27, 0, 8, (-2147483648), 2147483647)) := X112.1.k rfl (by decide)
            have h115 := (e113.f f19 (by decide) h104)
            exact z_xrv zt196 99 rfl zzr196 (kk M111 X112 (y_APe hS (y_chm h3 (by omega) hz0 h79 ⟨by omega, by omega⟩ ((e78.1 19 12 0 0 0 0 26 f19 (by decide)).trans (X2.2.1 19 12 0 0 0 0 26 f19 (by decide))) ((e78.1 19 12 0 0 0 0 27 f19 (by decide)).trans (X2.2.1 19 12 0 0 0 0 27 f19 (by decide)))) ⟨by omega, by omega⟩ h82 (by omega) h102 ⟨((X101.2.1 19 12 0 0 0 0 22 f19 (by decide)).trans ((X81.2.1 19 12 0 0 0 0 22 f19 (by decide)).trans ((e78.1 19 12 0 0 0 0 22 f19 (by decide)).trans (X2.2.1 19 12 0 0 0 0 22 f19 (by decide))))), ((X101.2.a f25 (by decide)).trans ((X81.2.a f25 (by decide)).trans ((e78.a f25 (by decide)).trans (X2.2.a f25 (by decide))))), ((X101.2.a f26 (by decide)).trans ((X81.2.a f26 (by decide)).trans ((e78.a f26 (by decide)).trans (X2.2.a f26 (by decide))))), ((X101.2.a f27 (by decide)).trans ((X81.2.a f27 (by decide)).trans ((e78.a f27 (by decide)).trans (X2.2.a f27 (by decide))))), ((X101.2.a f28 (by decide)).trans ((X81.2.a f28 (by decide)).trans ((e78.a f28 (by decide)).trans (X2.2.a f28 (by decide)))))⟩ h110 h114 (e113.1 19 12 0 0 0 0 22 f19 (by decide)) (e113.a f25 (by decide)) (e113.a f26 (by decide)) (e113.a f27 (by decide)) (e113.1 19 12 0 0 0 0 24 f19 (by decide)) (e113.1 19 12 0 0 0 0 26 f19 (by decide)) (e113.1 19 12 0 0 0 0 27 f19 (by decide))) z103 h115 ⟨by omega, by omega⟩ (by omega))
          refine z_xP zt196 49 115 [some (.ref 19), some (.int x10), some (.int 0), none] [.ref 19] rfl rfl ?_
          refine z_xcV (vs := [.ref 19]) (r := []) (L2 := [some (.ref 19)]) zt196 50 rfl zo196 zzcV12_163 (Or.inl rfl) rfl X91 f19 rfl rfl rfl (Nat.le_of_ble_eq_true rfl) zzm194 (Nat.le_of_ble_eq_true rfl) rfl ?_
          refine zYC194 X91.1 (fun x120 M116 X117 h121 h122 h118 h119 => ?_)
          have X123 := X91.go X117 (z_sb (by decide))
          show z_ev (d + 972) 196 118 [some (.ref 19), some (.int x10), some (.int 0), none] [.int x120] M116 _
          refine z_xP zt196 51 119 [some (.ref 19), some (.int x10), some (.int 0), some (.int x120)] [] rfl rfl ?_
          have h125 := (X117.2.f f19 (by decide) h84)
          exact z_xrv zt196 52 rfl zzr196 (kk M116 X123 (y_APs (y_chm h3 (by omega) hz0 h79 ⟨by omega, by omega⟩ ((e78.1 19 12 0 0 0 0 26 f19 (by decide)).trans (X2.2.1 19 12 0 0 0 0 26 f19 (by decide))) ((e78.1 19 12 0 0 0 0 27 f19 (by decide)).trans (X2.2.1 19 12 0 0 0 0 27 f19 (by decide)))) (by omega) h82 (by omega) h118) z83 h125 ⟨by omega, by omega⟩ (by omega))
        refine z_xP zt196 33 82 [some (.ref 19), some (.int x10), some (.int 0), none] [.int 116, .int x10] rfl rfl ?_
        refine z_xJ zt196 34 rfl rfl (fun (h126 : x10.toInt ≠ 116) => ?_) (fun (h126 : x10.toInt = 116) => ?_)
        · skip
          refine z_xP zt196 37 90 [some (.ref 19), some (.int x10), some (.int 0), none] [.ref 19] rfl rfl ?_
          refine z_xcV (vs := [.ref 19]) (r := []) (L2 := [some (.ref 19)]) zt196 38 rfl zo196 zzcV12_163 (Or.inl rfl) rfl X11 f19 rfl rfl rfl (Nat.le_of_ble_eq_true rfl) zzm194 (Nat.le_of_ble_eq_true rfl) rfl ?_
          refine zYC194 X11.1 (fun x131 M127 X128 h132 h133 h129 h130 => ?_)
          have X134 := X11.go X128 (z_sb (by decide))
          show z_ev (d + 972) 196 93 [some (.ref 19), some (.int x10), some (.int 0), none] [.int x131] M127 _
          refine z_xP zt196 39 94 [some (.ref 19), some (.int x10), some (.int 0), some (.int x131)] [] rfl rfl ?_
          have h136 := (X128.2.f f19 (by decide) (X2.2.f f19 (by decide) hz0))
          exact z_xrv zt196 40 rfl zzr196 (kk M127 X134 (y_APw h3 ⟨by omega, by omega, by omega⟩ h129) zp0 h136 ⟨by omega, by omega⟩ (by omega))
        refine z_xP zt196 35 86 [some (.ref 19), some (.int x10), some (.int 0), none] [.int 0] rfl rfl ?_
        refine z_xZ zt196 36 rfl rfl (fun (h137 : (0 : Int) = 0) => ?_) (fun (h137 : (0 : Int) ≠ 0) => absurd h137 (by omega))
        refine z_xP zt196 41 97 [some (.ref 19), some (.int x10), some (.int 0), none] [.ref 19, .ref 19] rfl rfl ?_
        have h138 := (X2.2.f f19 (by decide) hz0)
        refine z_xgv zt196 42 rfl zo196 zzf12_123 X11 f19 (by decide) h138 ?_
        refine z_xP zt196 43 101 [some (.ref 19), some (.int x10), some (.int 0), none] [.int 1, .int zp0, .ref 19] rfl rfl ?_
        refine z_xI zt196 44 rfl rfl (fun (x139 : Int32) (h140 : x139.toInt = zp0.toInt + 1) => ?_) (z_pAdd rfl rfl (by omega) (by omega))
        refine z_xpf zt196 45 rfl zo196 zzf12_123 X11 f19 (by decide) (by decide) ⟨by omega, by omega⟩ rfl (by decide) zw12_24 (fun M141 X142 e143 h144 => ?_)
        refine z_xP zt196 46 108 [some (.ref 19), some (.int x10), some (.int 0), none] [.int 32, .ref 19] rfl rfl ?_
        refine z_xcV (vs := [.ref 19, .int 32]) (r := []) (L2 := [some (.ref 19), some (.int 32)]) zt196 47 rfl zo196 zzcV12_147 (Or.inl rfl) rfl X142 f19 rfl rfl rfl (Nat.le_of_ble_eq_true rfl) zzm192 (Nat.le_of_ble_eq_true rfl) rfl ?_
        have q32 : ((32 : Int32)).toInt = 32 := rfl
        have q32 : ((32 : Int32)).toInt = 32 := rfl
        have q32 : ((32 : Int32)).toInt = 32 := rfl
        refine zYC192 X142.1 h144 ⟨by omega, by omega⟩ (hT.go X142.1 X142 rfl) (by omega) (fun x153 M145 X146 h154 h155 h147 z148 h149 h150 h151 h152 => ?_)
        have X156 := X142.go X146 (z_sb (by decide))
        show z_ev (d + 972) 196 111 [some (.ref 19), some (.int x10), some (.int 0), none] [.int x153] M145 _
        obtain ⟨x158, h159, h160, h161⟩ := z_W.fi X156.1 f19 (k := 22) (lo := 0) (hi := 7) (by decide) rfl
        refine z_xZ zt196 48 rfl rfl (fun (h162 : x153.toInt ≠ 0) => ?_) (fun (h162 : x153.toInt = 0) => ?_)
        · skip
          refine z_xP zt196 53 123 [some (.ref 19), some (.int x10), some (.int 0), none] [.int 112, .int x10] rfl rfl ?_
          refine z_xJ zt196 54 rfl rfl (fun (h163 : x10.toInt ≠ 112) => ?_) (fun (h163 : x10.toInt = 112) => absurd h163 (by omega))
          refine z_xP zt196 63 145 [some (.ref 19), some (.int x10), some (.int 0), none] [.int 101, .int x10] rfl rfl ?_
          refine z_xJ zt196 64 rfl rfl (fun (h164 : x10.toInt ≠ 101) => ?_) (fun (h164 : x10.toInt = 101) => absurd h164 (by omega))
          refine z_xP zt196 73 165 [some (.ref 19), some (.int x10), some (.int 0), none] [.ref 19] rfl rfl ?_
          refine z_xgX (b := 26) zt196 74 rfl zo196 zzf12_28 X156 f19 (by decide) (by decide) rfl ?_
          refine z_xP zt196 75 171 [some (.ref 19), some (.int x10), some (.int 0), none] [.ref 19, .int 8, .ref 26] rfl rfl ?_
          refine z_xgv zt196 76 rfl zo196 zzf12_133 X156 f19 (by decide) h159 ?_
          refine z_xI zt196 77 rfl rfl (fun (x165 : Int32) (h166 : x165.toInt = 8 * x158.toInt) => ?_) (z_pMul rfl rfl (by omega) (by omega))
          refine z_xP zt196 78 176 [some (.ref 19), some (.int x10), some (.int 0), none] [.ref 19, .int x165, .ref 26] rfl rfl ?_
          refine z_xgX (b := 25) zt196 79 rfl zo196 zzf12_25 X156 f19 (by decide) (by decide) rfl ?_
          refine z_xP zt196 80 180 [some (.ref 19), some (.int x10), some (.int 0), none] [.ref 19, .ref 25, .int x165, .ref 26] rfl rfl ?_
          refine z_xgv zt196 81 rfl zo196 zzf12_133 X156 f19 (by decide) h159 ?_
          have f25 : T[25]? = some (.inr (25, 0, 8, 0, 8)) := X156.1.k rfl (by decide)
          refine z_xil zt196 82 rfl X156 f25 (by decide) (by omega) (by omega) (fun (x167 : Int32) h168 (h169 : 0 ≤ x167.toInt) (h170 : x167.toInt ≤ 8) => ?_)
          refine z_xI zt196 83 rfl rfl (fun (x171 : Int32) (h172 : x171.toInt = x165.toInt + x167.toInt) => ?_) (z_pAdd rfl rfl (by omega) (by omega))
          refine z_xP zt196 84 186 [some (.ref 19), some (.int x10), some (.int 0), none] [.ref 19, .int x171, .ref 26] rfl rfl ?_
          refine z_xgv zt196 85 rfl zo196 zzf12_123 X156 f19 (by decide) h149 ?_
          have f26 : T[26]? = some (.inr (26, 0, 64, 0, 160)) := X156.1.k rfl (by decide)
          refine z_xis zt196 86 rfl X156 f26 (by decide) (by decide) (by omega) (by omega) (by omega) (by omega) (by decide) (fun M173 X174 e175 h176 => ?_)
          refine z_xP zt196 87 191 [some (.ref 19), some (.int x10), some (.int 0), none] [.ref 19] rfl rfl ?_
          refine z_xgX (b := 25) zt196 88 rfl zo196 zzf12_25 X174 f19 (by decide) (by decide) rfl ?_
          refine z_xP zt196 89 195 [some (.ref 19), some (.int x10), some (.int 0), none] [.ref 19, .ref 25] rfl rfl ?_
          have h177 := (e175.f f19 (by decide) h159)
          refine z_xgv zt196 90 rfl zo196 zzf12_133 X174 f19 (by decide) h177 ?_
          refine z_xP zt196 91 199 [some (.ref 19), some (.int x10), some (.int 0), none] [.int x158, .ref 25, .int x158, .ref 25] rfl rfl ?_
          refine z_xil zt196 92 rfl X174 f25 (by decide) (by omega) (by omega) (fun (x178 : Int32) h179 (h180 : 0 ≤ x178.toInt) (h181 : x178.toInt ≤ 8) => ?_)
          have h182 := congrArg Int32.toInt (h179.symm.trans ((congrFun (e175.a f25 (by decide)) _).trans h168))
          refine z_xP zt196 93 201 [some (.ref 19), some (.int x10), some (.int 0), none] [.int 1, .int x178, .int x158, .ref 25] rfl rfl ?_
          refine z_xI zt196 94 rfl rfl (fun (x183 : Int32) (h184 : x183.toInt = x178.toInt + 1) => ?_) (z_pAdd rfl rfl (by omega) (by omega))
          refine z_xis zt196 95 rfl X174 f25 (by decide) (by decide) (by omega) (by omega) (by omega) (by omega) (by decide) (fun M185 X186 e187 h188 => ?_)
          refine z_xP zt196 96 204 [some (.ref 19), some (.int x10), some (.int 0), none] [.ref 19] rfl rfl ?_
          refine z_xcV (vs := [.ref 19]) (r := []) (L2 := [some (.ref 19), none, none]) zt196 97 rfl zo196 zzcV12_169 (Or.inl rfl) rfl X186 f19 rfl rfl rfl (Nat.le_of_ble_eq_true rfl) zzm198 (Nat.le_of_ble_eq_true rfl) rfl ?_
          have h189 := (e187.f f19 (by decide) (e175.f f19 (by decide) h149))
          refine zYC198 X186.1 h189 ⟨by omega, by omega⟩ (z_GL.go hL X186 (by decide)) (hT.go X186.1 X186 rfl) (fun x197 M190 X191 h198 h199 h192 z193 h194 h195 h196 => ?_)
          have X200 := X186.go X191 (z_sb (by decide))
          show z_ev (d + 972) 196 207 [some (.ref 19), some (.int x10), some (.int 0), none] [.int x197] M190 _
          refine z_xP zt196 98 208 [some (.ref 19), some (.int x10), some (.int 0), some (.int x197)] [] rfl rfl ?_
          have f27 : T[27]? = some (.inr (27, 0, 8, (-2147483648), 2147483647)) := X200.1.k rfl (by decide)
          have f28 : T[28]? = some (.inr (28, 0, 8, (-2147483648), 2147483647)) := X200.1.k rfl (by decide)
          exact z_xrv zt196 99 rfl zzr196 (kk M190 X200 (y_APt hS (y_chm h3 (by omega) hz0 h144 ⟨by omega, by omega⟩ ((e143.1 19 12 0 0 0 0 26 f19 (by decide)).trans (X2.2.1 19 12 0 0 0 0 26 f19 (by decide))) ((e143.1 19 12 0 0 0 0 27 f19 (by decide)).trans (X2.2.1 19 12 0 0 0 0 27 f19 (by decide)))) ⟨by omega, by omega⟩ h147 (by omega) ⟨((X146.2.1 19 12 0 0 0 0 22 f19 (by decide)).trans ((e143.1 19 12 0 0 0 0 22 f19 (by decide)).trans (X2.2.1 19 12 0 0 0 0 22 f19 (by decide)))), ((X146.2.a f25 (by decide)).trans ((e143.a f25 (by decide)).trans (X2.2.a f25 (by decide)))), ((X146.2.a f26 (by decide)).trans ((e143.a f26 (by decide)).trans (X2.2.a f26 (by decide)))), ((X146.2.a f27 (by decide)).trans ((e143.a f27 (by decide)).trans (X2.2.a f27 (by decide)))), ((X146.2.a f28 (by decide)).trans ((e143.a f28 (by decide)).trans (X2.2.a f28 (by decide))))⟩ h159 (by omega) h149 (by omega) h168 (by omega) ((e187.a f26 (by decide)).trans h176) (h188.trans (congrArg (fun f => upd f _ _) (e175.a f25 (by decide)))) (by omega) ((e187.1 19 12 0 0 0 0 22 f19 (by decide)).trans (e175.1 19 12 0 0 0 0 22 f19 (by decide))) ((e187.a f27 (by decide)).trans (e175.a f27 (by decide))) ((e187.a f28 (by decide)).trans (e175.a f28 (by decide))) ((e187.1 19 12 0 0 0 0 24 f19 (by decide)).trans (e175.1 19 12 0 0 0 0 24 f19 (by decide))) ((e187.1 19 12 0 0 0 0 26 f19 (by decide)).trans (e175.1 19 12 0 0 0 0 26 f19 (by decide))) ((e187.1 19 12 0 0 0 0 27 f19 (by decide)).trans (e175.1 19 12 0 0 0 0 27 f19 (by decide))) h192 ⟨(X191.2.1 19 12 0 0 0 0 22 f19 (by decide)), (X191.2.a f25 (by decide)), (X191.2.a f26 (by decide)), (X191.2.a f27 (by decide)), (X191.2.a f28 (by decide))⟩) z193 h194 ⟨by omega, by omega⟩ (by omega))
        refine z_xP zt196 49 115 [some (.ref 19), some (.int x10), some (.int 0), none] [.ref 19] rfl rfl ?_
        refine z_xcV (vs := [.ref 19]) (r := []) (L2 := [some (.ref 19)]) zt196 50 rfl zo196 zzcV12_163 (Or.inl rfl) rfl X156 f19 rfl rfl rfl (Nat.le_of_ble_eq_true rfl) zzm194 (Nat.le_of_ble_eq_true rfl) rfl ?_
        refine zYC194 X156.1 (fun x206 M202 X203 h207 h208 h204 h205 => ?_)
        have X209 := X156.go X203 (z_sb (by decide))
        show z_ev (d + 972) 196 118 [some (.ref 19), some (.int x10), some (.int 0), none] [.int x206] M202 _
        refine z_xP zt196 51 119 [some (.ref 19), some (.int x10), some (.int 0), some (.int x206)] [] rfl rfl ?_
        have h211 := (X203.2.f f19 (by decide) h149)
        exact z_xrv zt196 52 rfl zzr196 (kk M202 X209 (y_APs (y_chm h3 (by omega) hz0 h144 ⟨by omega, by omega⟩ ((e143.1 19 12 0 0 0 0 26 f19 (by decide)).trans (X2.2.1 19 12 0 0 0 0 26 f19 (by decide))) ((e143.1 19 12 0 0 0 0 27 f19 (by decide)).trans (X2.2.1 19 12 0 0 0 0 27 f19 (by decide)))) (by omega) h147 (by omega) h204) z148 h211 ⟨by omega, by omega⟩ (by omega))
      refine z_xP zt196 20 48 [some (.ref 19), some (.int x10), none, none] [.ref 19] rfl rfl ?_
      refine z_xgX (b := 25) zt196 21 rfl zo196 zzf12_25 X11 f19 (by decide) (by decide) rfl ?_
      refine z_xP zt196 22 52 [some (.ref 19), some (.int x10), none, none] [.ref 19, .ref 25] rfl rfl ?_
      refine z_xgI zt196 23 rfl zo196 zzf12_133 X11 f19 (by decide) (by decide) rfl (fun (x213 : Int32) h212 (h214 : 0 ≤ x213.toInt) (h215 : x213.toInt ≤ 7) => ?_)
      have f25 : T[25]? = some (.inr (25, 0, 8, 0, 8)) := X11.1.k rfl (by decide)
      refine z_xil zt196 24 rfl X11 f25 (by decide) (by omega) (by omega) (fun (x216 : Int32) h217 (h218 : 0 ≤ x216.toInt) (h219 : x216.toInt ≤ 8) => ?_)
      have h220 := y_stT hS h212 h217
      refine z_xP zt196 25 58 [some (.ref 19), some (.int x10), none, none] [.int 8, .int x216] rfl rfl ?_
      refine z_xJ zt196 26 rfl rfl (fun (h221 : x216.toInt ≠ 8) => ?_) (fun (h221 : x216.toInt = 8) => ?_)
      · skip
        refine z_xP zt196 28 66 [some (.ref 19), some (.int x10), none, none] [.int 0] rfl rfl ?_
        refine z_xP zt196 29 70 [some (.ref 19), some (.int x10), some (.int 0), none] [.int 112, .int x10] rfl rfl ?_
        refine z_xJ zt196 30 rfl rfl (fun (h222 : x10.toInt = 112) => absurd h222 (by omega)) (fun (h222 : x10.toInt ≠ 112) => ?_)
        refine z_xP zt196 31 76 [some (.ref 19), some (.int x10), some (.int 0), none] [.int 101, .int x10] rfl rfl ?_
        refine z_xJ zt196 32 rfl rfl (fun (h223 : x10.toInt = 101) => absurd h223 (by omega)) (fun (h223 : x10.toInt ≠ 101) => ?_)
        refine z_xP zt196 33 82 [some (.ref 19), some (.int x10), some (.int 0), none] [.int 116, .int x10] rfl rfl ?_
        refine z_xJ zt196 34 rfl rfl (fun (h224 : x10.toInt ≠ 116) => absurd h224 (by omega)) (fun (h224 : x10.toInt = 116) => ?_)
        refine z_xP zt196 35 86 [some (.ref 19), some (.int x10), some (.int 0), none] [.int 0] rfl rfl ?_
        refine z_xZ zt196 36 rfl rfl (fun (h225 : (0 : Int) = 0) => ?_) (fun (h225 : (0 : Int) ≠ 0) => absurd h225 (by omega))
        refine z_xP zt196 41 97 [some (.ref 19), some (.int x10), some (.int 0), none] [.ref 19, .ref 19] rfl rfl ?_
        have h226 := (X2.2.f f19 (by decide) hz0)
        refine z_xgv zt196 42 rfl zo196 zzf12_123 X11 f19 (by decide) h226 ?_
        refine z_xP zt196 43 101 [some (.ref 19), some (.int x10), some (.int 0), none] [.int 1, .int zp0, .ref 19] rfl rfl ?_
        refine z_xI zt196 44 rfl rfl (fun (x227 : Int32) (h228 : x227.toInt = zp0.toInt + 1) => ?_) (z_pAdd rfl rfl (by omega) (by omega))
        refine z_xpf zt196 45 rfl zo196 zzf12_123 X11 f19 (by decide) (by decide) ⟨by omega, by omega⟩ rfl (by decide) zw12_24 (fun M229 X230 e231 h232 => ?_)
        refine z_xP zt196 46 108 [some (.ref 19), some (.int x10), some (.int 0), none] [.int 32, .ref 19] rfl rfl ?_
        refine z_xcV (vs := [.ref 19, .int 32]) (r := []) (L2 := [some (.ref 19), some (.int 32)]) zt196 47 rfl zo196 zzcV12_147 (Or.inl rfl) rfl X230 f19 rfl rfl rfl (Nat.le_of_ble_eq_true rfl) zzm192 (Nat.le_of_ble_eq_true rfl) rfl ?_
        have q32 : ((32 : Int32)).toInt = 32 := rfl
        have q32 : ((32 : Int32)).toInt = 32 := rfl
        have q32 : ((32 : Int32)).toInt = 32 := rfl
        refine zYC192 X230.1 h232 ⟨by omega, by omega⟩ (hT.go X230.1 X230 rfl) (by omega) (fun x241 M233 X234 h242 h243 h235 z236 h237 h238 h239 h240 => ?_)
        have X244 := X230.go X234 (z_sb (by decide))
        show z_ev (d + 972) 196 111 [some (.ref 19), some (.int x10), some (.int 0), none] [.int x241] M233 _
        have h246 := (X234.2.f f19 (by decide) (e231.f f19 (by decide) h212))
        refine z_xZ zt196 48 rfl rfl (fun (h247 : x241.toInt ≠ 0) => ?_) (fun (h247 : x241.toInt = 0) => ?_)
        · skip
          refine z_xP zt196 53 123 [some (.ref 19), some (.int x10), some (.int 0), none] [.int 112, .int x10] rfl rfl ?_
          refine z_xJ zt196 54 rfl rfl (fun (h248 : x10.toInt ≠ 112) => ?_) (fun (h248 : x10.toInt = 112) => absurd h248 (by omega))
          refine z_xP zt196 63 145 [some (.ref 19), some (.int x10), some (.int 0), none] [.int 101, .int x10] rfl rfl ?_
          refine z_xJ zt196 64 rfl rfl (fun (h249 : x10.toInt ≠ 101) => ?_) (fun (h249 : x10.toInt = 101) => absurd h249 (by omega))
          refine z_xP zt196 73 165 [some (.ref 19), some (.int x10), some (.int 0), none] [.ref 19] rfl rfl ?_
          refine z_xgX (b := 26) zt196 74 rfl zo196 zzf12_28 X244 f19 (by decide) (by decide) rfl ?_
          refine z_xP zt196 75 171 [some (.ref 19), some (.int x10), some (.int 0), none] [.ref 19, .int 8, .ref 26] rfl rfl ?_
          refine z_xgv zt196 76 rfl zo196 zzf12_133 X244 f19 (by decide) h246 ?_
          refine z_xI zt196 77 rfl rfl (fun (x250 : Int32) (h251 : x250.toInt = 8 * x213.toInt) => ?_) (z_pMul rfl rfl (by omega) (by omega))
          refine z_xP zt196 78 176 [some (.ref 19), some (.int x10), some (.int 0), none] [.ref 19, .int x250, .ref 26] rfl rfl ?_
          refine z_xgX (b := 25) zt196 79 rfl zo196 zzf12_25 X244 f19 (by decide) (by decide) rfl ?_
          refine z_xP zt196 80 180 [some (.ref 19), some (.int x10), some (.int 0), none] [.ref 19, .ref 25, .int x250, .ref 26] rfl rfl ?_
          refine z_xgv zt196 81 rfl zo196 zzf12_133 X244 f19 (by decide) h246 ?_
          refine z_xil zt196 82 rfl X244 f25 (by decide) (by omega) (by omega) (fun (x252 : Int32) h253 (h254 : 0 ≤ x252.toInt) (h255 : x252.toInt ≤ 8) => ?_)
          have h256 := congrArg Int32.toInt (h253.symm.trans ((congrFun (X234.2.a f25 (by decide)) _).trans ((congrFun (e231.a f25 (by decide)) _).trans h217)))
          refine z_xI zt196 83 rfl rfl (fun (x257 : Int32) (h258 : x257.toInt = x250.toInt + x252.toInt) => ?_) (z_pAdd rfl rfl (by omega) (by omega))
          refine z_xP zt196 84 186 [some (.ref 19), some (.int x10), some (.int 0), none] [.ref 19, .int x257, .ref 26] rfl rfl ?_
          refine z_xgv zt196 85 rfl zo196 zzf12_123 X244 f19 (by decide) h237 ?_
          have f26 : T[26]? = some (.inr (26, 0, 64, 0, 160)) := X244.1.k rfl (by decide)
          refine z_xis zt196 86 rfl X244 f26 (by decide) (by decide) (by omega) (by omega) (by omega) (by omega) (by decide) (fun M259 X260 e261 h262 => ?_)
          refine z_xP zt196 87 191 [some (.ref 19), some (.int x10), some (.int 0), none] [.ref 19] rfl rfl ?_
          refine z_xgX (b := 25) zt196 88 rfl zo196 zzf12_25 X260 f19 (by decide) (by decide) rfl ?_
          refine z_xP zt196 89 195 [some (.ref 19), some (.int x10), some (.int 0), none] [.ref 19, .ref 25] rfl rfl ?_
          have h263 := (e261.f f19 (by decide) h246)
          refine z_xgv zt196 90 rfl zo196 zzf12_133 X260 f19 (by decide) h263 ?_
          refine z_xP zt196 91 199 [some (.ref 19), some (.int x10), some (.int 0), none] [.int x213, .ref 25, .int x213, .ref 25] rfl rfl ?_
          refine z_xil zt196 92 rfl X260 f25 (by decide) (by omega) (by omega) (fun (x264 : Int32) h265 (h266 : 0 ≤ x264.toInt) (h267 : x264.toInt ≤ 8) => ?_)
          have h268 := congrArg Int32.toInt (h265.symm.trans ((congrFun (e261.a f25 (by decide)) _).trans ((congrFun (X234.2.a f25 (by decide)) _).trans ((congrFun (e231.a f25 (by decide)) _).trans h217))))
          refine z_xP zt196 93 201 [some (.ref 19), some (.int x10), some (.int 0), none] [.int 1, .int x264, .int x213, .ref 25] rfl rfl ?_
          refine z_xI zt196 94 rfl rfl (fun (x269 : Int32) (h270 : x269.toInt = x264.toInt + 1) => ?_) (z_pAdd rfl rfl (by omega) (by omega))
          refine z_xis zt196 95 rfl X260 f25 (by decide) (by decide) (by omega) (by omega) (by omega) (by omega) (by decide) (fun M271 X272 e273 h274 => ?_)
          refine z_xP zt196 96 204 [some (.ref 19), some (.int x10), some (.int 0), none] [.ref 19] rfl rfl ?_
          refine z_xcV (vs := [.ref 19]) (r := []) (L2 := [some (.ref 19), none, none]) zt196 97 rfl zo196 zzcV12_169 (Or.inl rfl) rfl X272 f19 rfl rfl rfl (Nat.le_of_ble_eq_true rfl) zzm198 (Nat.le_of_ble_eq_true rfl) rfl ?_
          have h275 := (e273.f f19 (by decide) (e261.f f19 (by decide) h237))
          refine zYC198 X272.1 h275 ⟨by omega, by omega⟩ (z_GL.go hL X272 (by decide)) (hT.go X272.1 X272 rfl) (fun x283 M276 X277 h284 h285 h278 z279 h280 h281 h282 => ?_)
          have X286 := X272.go X277 (z_sb (by decide))
          show z_ev (d + 972) 196 207 [some (.ref 19), some (.int x10), some (.int 0), none] [.int x283] M276 _
          refine z_xP zt196 98 208 [some (.ref 19), some (.int x10), some (.int 0), some (.int x283)] [] rfl rfl ?_
          have f27 : T[27]? = some (.inr (27, 0, 8, (-2147483648), 2147483647)) := X286.1.k rfl (by decide)
          have f28 : T[28]? = some (.inr (28, 0, 8, (-2147483648), 2147483647)) := X286.1.k rfl (by decide)
          exact z_xrv zt196 99 rfl zzr196 (kk M276 X286 (y_APt hS (y_chm h3 (by omega) hz0 h232 ⟨by omega, by omega⟩ ((e231.1 19 12 0 0 0 0 26 f19 (by decide)).trans (X2.2.1 19 12 0 0 0 0 26 f19 (by decide))) ((e231.1 19 12 0 0 0 0 27 f19 (by decide)).trans (X2.2.1 19 12 0 0 0 0 27 f19 (by decide)))) ⟨by omega, by omega⟩ h235 (by omega) ⟨((X234.2.1 19 12 0 0 0 0 22 f19 (by decide)).trans ((e231.1 19 12 0 0 0 0 22 f19 (by decide)).trans (X2.2.1 19 12 0 0 0 0 22 f19 (by decide)))), ((X234.2.a f25 (by decide)).trans ((e231.a f25 (by decide)).trans (X2.2.a f25 (by decide)))), ((X234.2.a f26 (by decide)).trans ((e231.a f26 (by decide)).trans (X2.2.a f26 (by decide)))), ((X234.2.a f27 (by decide)).trans ((e231.a f27 (by decide)).trans (X2.2.a f27 (by decide)))), ((X234.2.a f28 (by decide)).trans ((e231.a f28 (by decide)).trans (X2.2.a f28 (by decide))))⟩ h246 (by omega) h237 (by omega) h253 (by omega) ((e273.a f26 (by decide)).trans h262) (h274.trans (congrArg (fun f => upd f _ _) (e261.a f25 (by decide)))) (by omega) ((e273.1 19 12 0 0 0 0 22 f19 (by decide)).trans (e261.1 19 12 0 0 0 0 22 f19 (by decide))) ((e273.a f27 (by decide)).trans (e261.a f27 (by decide))) ((e273.a f28 (by decide)).trans (e261.a f28 (by decide))) ((e273.1 19 12 0 0 0 0 24 f19 (by decide)).trans (e261.1 19 12 0 0 0 0 24 f19 (by decide))) ((e273.1 19 12 0 0 0 0 26 f19 (by decide)).trans (e261.1 19 12 0 0 0 0 26 f19 (by decide))) ((e273.1 19 12 0 0 0 0 27 f19 (by decide)).trans (e261.1 19 12 0 0 0 0 27 f19 (by decide))) h278 ⟨(X277.2.1 19 12 0 0 0 0 22 f19 (by decide)), (X277.2.a f25 (by decide)), (X277.2.a f26 (by decide)), (X277.2.a f27 (by decide)), (X277.2.a f28 (by decide))⟩) z279 h280 ⟨by omega, by omega⟩ (by omega))
        refine z_xP zt196 49 115 [some (.ref 19), some (.int x10), some (.int 0), none] [.ref 19] rfl rfl ?_
        refine z_xcV (vs := [.ref 19]) (r := []) (L2 := [some (.ref 19)]) zt196 50 rfl zo196 zzcV12_163 (Or.inl rfl) rfl X244 f19 rfl rfl rfl (Nat.le_of_ble_eq_true rfl) zzm194 (Nat.le_of_ble_eq_true rfl) rfl ?_
        refine zYC194 X244.1 (fun x292 M288 X289 h293 h294 h290 h291 => ?_)
        have X295 := X244.go X289 (z_sb (by decide))
        show z_ev (d + 972) 196 118 [some (.ref 19), some (.int x10), some (.int 0), none] [.int x292] M288 _
        refine z_xP zt196 51 119 [some (.ref 19), some (.int x10), some (.int 0), some (.int x292)] [] rfl rfl ?_
        have h297 := (X289.2.f f19 (by decide) h237)
        exact z_xrv zt196 52 rfl zzr196 (kk M288 X295 (y_APs (y_chm h3 (by omega) hz0 h232 ⟨by omega, by omega⟩ ((e231.1 19 12 0 0 0 0 26 f19 (by decide)).trans (X2.2.1 19 12 0 0 0 0 26 f19 (by decide))) ((e231.1 19 12 0 0 0 0 27 f19 (by decide)).trans (X2.2.1 19 12 0 0 0 0 27 f19 (by decide)))) (by omega) h235 (by omega) h290) z236 h297 ⟨by omega, by omega⟩ (by omega))
      refine z_xP zt196 27 66 [some (.ref 19), some (.int x10), none, none] [.int 1] rfl rfl ?_
      refine z_xP zt196 29 70 [some (.ref 19), some (.int x10), some (.int 1), none] [.int 112, .int x10] rfl rfl ?_
      refine z_xJ zt196 30 rfl rfl (fun (h298 : x10.toInt = 112) => absurd h298 (by omega)) (fun (h298 : x10.toInt ≠ 112) => ?_)
      refine z_xP zt196 31 76 [some (.ref 19), some (.int x10), some (.int 1), none] [.int 101, .int x10] rfl rfl ?_
      refine z_xJ zt196 32 rfl rfl (fun (h299 : x10.toInt = 101) => absurd h299 (by omega)) (fun (h299 : x10.toInt ≠ 101) => ?_)
      refine z_xP zt196 33 82 [some (.ref 19), some (.int x10), some (.int 1), none] [.int 116, .int x10] rfl rfl ?_
      refine z_xJ zt196 34 rfl rfl (fun (h300 : x10.toInt ≠ 116) => absurd h300 (by omega)) (fun (h300 : x10.toInt = 116) => ?_)
      refine z_xP zt196 35 86 [some (.ref 19), some (.int x10), some (.int 1), none] [.int 1] rfl rfl ?_
      refine z_xZ zt196 36 rfl rfl (fun (h301 : (1 : Int) = 0) => absurd h301 (by omega)) (fun (h301 : (1 : Int) ≠ 0) => ?_)
      refine z_xP zt196 37 90 [some (.ref 19), some (.int x10), some (.int 1), none] [.ref 19] rfl rfl ?_
      refine z_xcV (vs := [.ref 19]) (r := []) (L2 := [some (.ref 19)]) zt196 38 rfl zo196 zzcV12_163 (Or.inl rfl) rfl X11 f19 rfl rfl rfl (Nat.le_of_ble_eq_true rfl) zzm194 (Nat.le_of_ble_eq_true rfl) rfl ?_
      refine zYC194 X11.1 (fun x306 M302 X303 h307 h308 h304 h305 => ?_)
      have X309 := X11.go X303 (z_sb (by decide))
      show z_ev (d + 972) 196 93 [some (.ref 19), some (.int x10), some (.int 1), none] [.int x306] M302 _
      refine z_xP zt196 39 94 [some (.ref 19), some (.int x10), some (.int 1), some (.int x306)] [] rfl rfl ?_
      have h311 := (X303.2.f f19 (by decide) (X2.2.f f19 (by decide) hz0))
      exact z_xrv zt196 40 rfl zzr196 (kk M302 X309 (y_APw h3 ⟨by omega, by omega, by omega⟩ h304) zp0 h311 ⟨by omega, by omega⟩ (by omega))
    refine z_xP zt196 12 30 [some (.ref 19), some (.int x10), none, none] [.ref 19] rfl rfl ?_
    refine z_xgX (b := 28) zt196 13 rfl zo196 zzf12_34 X11 f19 (by decide) (by decide) rfl ?_
    refine z_xP zt196 14 34 [some (.ref 19), some (.int x10), none, none] [.ref 19, .ref 28] rfl rfl ?_
    refine z_xgI zt196 15 rfl zo196 zzf12_133 X11 f19 (by decide) (by decide) rfl (fun (x313 : Int32) h312 (h314 : 0 ≤ x313.toInt) (h315 : x313.toInt ≤ 7) => ?_)
    have f28 : T[28]? = some (.inr (28, 0, 8, (-2147483648), 2147483647)) := X11.1.k rfl (by decide)
    refine z_xil zt196 16 rfl X11 f28 (by decide) (by omega) (by omega) (fun (x316 : Int32) h317 (h318 : (-2147483648) ≤ x316.toInt) (h319 : x316.toInt ≤ 2147483647) => ?_)
    have h320 := y_stE hS h312 h317
    refine z_xZ zt196 17 rfl rfl (fun (h321 : 0 < x316.toInt) => ?_) (fun (h321 : x316.toInt ≤ 0) => ?_)
    · skip
      refine z_xP zt196 27 66 [some (.ref 19), some (.int x10), none, none] [.int 1] rfl rfl ?_
      refine z_xP zt196 29 70 [some (.ref 19), some (.int x10), some (.int 1), none] [.int 112, .int x10] rfl rfl ?_
      refine z_xJ zt196 30 rfl rfl (fun (h322 : x10.toInt = 112) => absurd h322 (by omega)) (fun (h322 : x10.toInt ≠ 112) => ?_)
      refine z_xP zt196 31 76 [some (.ref 19), some (.int x10), some (.int 1), none] [.int 101, .int x10] rfl rfl ?_
      refine z_xJ zt196 32 rfl rfl (fun (h323 : x10.toInt = 101) => ?_) (fun (h323 : x10.toInt ≠ 101) => absurd h323 (by omega))
      refine z_xP zt196 35 86 [some (.ref 19), some (.int x10), some (.int 1), none] [.int 1] rfl rfl ?_
      refine z_xZ zt196 36 rfl rfl (fun (h324 : (1 : Int) = 0) => absurd h324 (by omega)) (fun (h324 : (1 : Int) ≠ 0) => ?_)
      refine z_xP zt196 37 90 [some (.ref 19), some (.int x10), some (.int 1), none] [.ref 19] rfl rfl ?_
      refine z_xcV (vs := [.ref 19]) (r := []) (L2 := [some (.ref 19)]) zt196 38 rfl zo196 zzcV12_163 (Or.inl rfl) rfl X11 f19 rfl rfl rfl (Nat.le_of_ble_eq_true rfl) zzm194 (Nat.le_of_ble_eq_true rfl) rfl ?_
      refine zYC194 X11.1 (fun x329 M325 X326 h330 h331 h327 h328 => ?_)
      have X332 := X11.go X326 (z_sb (by decide))
      show z_ev (d + 972) 196 93 [some (.ref 19), some (.int x10), some (.int 1), none] [.int x329] M325 _
      refine z_xP zt196 39 94 [some (.ref 19), some (.int x10), some (.int 1), some (.int x329)] [] rfl rfl ?_
      have h334 := (X326.2.f f19 (by decide) (X2.2.f f19 (by decide) hz0))
      exact z_xrv zt196 40 rfl zzr196 (kk M325 X332 (y_APw h3 ⟨by omega, by omega, by omega⟩ h327) zp0 h334 ⟨by omega, by omega⟩ (by omega))
    refine z_xP zt196 18 44 [some (.ref 19), some (.int x10), none, none] [.int 116, .int x10] rfl rfl ?_
    refine z_xJ zt196 19 rfl rfl (fun (h335 : x10.toInt ≠ 116) => ?_) (fun (h335 : x10.toInt = 116) => absurd h335 (by omega))
    refine z_xP zt196 28 66 [some (.ref 19), some (.int x10), none, none] [.int 0] rfl rfl ?_
    refine z_xP zt196 29 70 [some (.ref 19), some (.int x10), some (.int 0), none] [.int 112, .int x10] rfl rfl ?_
    refine z_xJ zt196 30 rfl rfl (fun (h336 : x10.toInt = 112) => absurd h336 (by omega)) (fun (h336 : x10.toInt ≠ 112) => ?_)
    refine z_xP zt196 31 76 [some (.ref 19), some (.int x10), some (.int 0), none] [.int 101, .int x10] rfl rfl ?_
    refine z_xJ zt196 32 rfl rfl (fun (h337 : x10.toInt = 101) => ?_) (fun (h337 : x10.toInt ≠ 101) => absurd h337 (by omega))
    refine z_xP zt196 35 86 [some (.ref 19), some (.int x10), some (.int 0), none] [.int 0] rfl rfl ?_
    refine z_xZ zt196 36 rfl rfl (fun (h338 : (0 : Int) = 0) => ?_) (fun (h338 : (0 : Int) ≠ 0) => absurd h338 (by omega))
    refine z_xP zt196 41 97 [some (.ref 19), some (.int x10), some (.int 0), none] [.ref 19, .ref 19] rfl rfl ?_
    have h339 := (X2.2.f f19 (by decide) hz0)
    refine z_xgv zt196 42 rfl zo196 zzf12_123 X11 f19 (by decide) h339 ?_
    refine z_xP zt196 43 101 [some (.ref 19), some (.int x10), some (.int 0), none] [.int 1, .int zp0, .ref 19] rfl rfl ?_
    refine z_xI zt196 44 rfl rfl (fun (x340 : Int32) (h341 : x340.toInt = zp0.toInt + 1) => ?_) (z_pAdd rfl rfl (by omega) (by omega))
    refine z_xpf zt196 45 rfl zo196 zzf12_123 X11 f19 (by decide) (by decide) ⟨by omega, by omega⟩ rfl (by decide) zw12_24 (fun M342 X343 e344 h345 => ?_)
    refine z_xP zt196 46 108 [some (.ref 19), some (.int x10), some (.int 0), none] [.int 32, .ref 19] rfl rfl ?_
    refine z_xcV (vs := [.ref 19, .int 32]) (r := []) (L2 := [some (.ref 19), some (.int 32)]) zt196 47 rfl zo196 zzcV12_147 (Or.inl rfl) rfl X343 f19 rfl rfl rfl (Nat.le_of_ble_eq_true rfl) zzm192 (Nat.le_of_ble_eq_true rfl) rfl ?_
    have q32 : ((32 : Int32)).toInt = 32 := rfl
    have q32 : ((32 : Int32)).toInt = 32 := rfl
    have q32 : ((32 : Int32)).toInt = 32 := rfl
    refine zYC192 X343.1 h345 ⟨by omega, by omega⟩ (hT.go X343.1 X343 rfl) (by omega) (fun x354 M346 X347 h355 h356 h348 z349 h350 h351 h352 h353 => ?_)
    have X357 := X343.go X347 (z_sb (by decide))
    show z_ev (d + 972) 196 111 [some (.ref 19), some (.int x10), some (.int 0), none] [.int x354] M346 _
    have h359 := (X347.2.f f19 (by decide) (e344.f f19 (by decide) h312))
    refine z_xZ zt196 48 rfl rfl (fun (h360 : x354.toInt ≠ 0) => ?_) (fun (h360 : x354.toInt = 0) => ?_)
    · skip
      refine z_xP zt196 53 123 [some (.ref 19), some (.int x10), some (.int 0), none] [.int 112, .int x10] rfl rfl ?_
      refine z_xJ zt196 54 rfl rfl (fun (h361 : x10.toInt ≠ 112) => ?_) (fun (h361 : x10.toInt = 112) => absurd h361 (by omega))
      refine z_xP zt196 63 145 [some (.ref 19), some (.int x10), some (.int 0), none] [.int 101, .int x10] rfl rfl ?_
      refine z_xJ zt196 64 rfl rfl (fun (h362 : x10.toInt ≠ 101) => absurd h362 (by omega)) (fun (h362 : x10.toInt = 101) => ?_)
      refine z_xP zt196 65 149 [some (.ref 19), some (.int x10), some (.int 0), none] [.ref 19] rfl rfl ?_
      refine z_xgX (b := 28) zt196 66 rfl zo196 zzf12_34 X357 f19 (by decide) (by decide) rfl ?_
      refine z_xP zt196 67 153 [some (.ref 19), some (.int x10), some (.int 0), none] [.ref 19, .ref 28] rfl rfl ?_
      refine z_xgv zt196 68 rfl zo196 zzf12_133 X357 f19 (by decide) h359 ?_
      refine z_xP zt196 69 157 [some (.ref 19), some (.int x10), some (.int 0), none] [.ref 19, .int x313, .ref 28] rfl rfl ?_
      refine z_xcV (vs := [.ref 19]) (r := [.int x313, .ref 28]) (L2 := [some (.ref 19), none, none, none, none]) zt196 70 rfl zo196 zzcV12_190 (Or.inl rfl) rfl X357 f19 rfl rfl rfl (Nat.le_of_ble_eq_true rfl) zzm197 (Nat.le_of_ble_eq_true rfl) rfl ?_
      refine zYC197 X357.1 h350 ⟨by omega, by omega⟩ (z_GL.go hL X357 (by decide)) (hT.go X357.1 X357 rfl) (fun x370 M363 X364 h365 z366 h367 h368 h369 => ?_)
      have X371 := X357.go X364 (z_sb (by decide))
      show z_ev (d + 972) 196 160 [some (.ref 19), some (.int x10), some (.int 0), none] [.int x370, .int x313, .ref 28] M363 _
      have h373 := (X364.2.f f19 (by decide) h359)
      refine z_xis zt196 71 rfl X371 f28 (by decide) (by decide) (by omega) (by omega) (Int32.le_toInt _) (Int32.toInt_le _) (by decide) (fun M374 X375 e376 h377 => ?_)
      refine z_xP zt196 72 208 [some (.ref 19), some (.int x10), some (.int 0), none] [] rfl rfl ?_
      have f25 : T[25]? = some (.inr (25, 0, 8, 0, 8)) := X375.1.k rfl (by decide)
      have f26 : T[26]? = some (.inr (26, 0, 64, 0, 160)) := X375.1.k rfl (by decide)
      have f27 : T[27]? = some (.inr (27, 0, 8, (-2147483648), 2147483647)) := X375.1.k rfl (by decide)
      have h378 := (e376.f f19 (by decide) h367)
      exact z_xrv zt196 99 rfl zzr196 (kk M374 X375 (y_APe hS (y_chm h3 (by omega) hz0 h345 ⟨by omega, by omega⟩ ((e344.1 19 12 0 0 0 0 26 f19 (by decide)).trans (X2.2.1 19 12 0 0 0 0 26 f19 (by decide))) ((e344.1 19 12 0 0 0 0 27 f19 (by decide)).trans (X2.2.1 19 12 0 0 0 0 27 f19 (by decide)))) ⟨by omega, by omega⟩ h348 (by omega) h365 ⟨((X364.2.1 19 12 0 0 0 0 22 f19 (by decide)).trans ((X347.2.1 19 12 0 0 0 0 22 f19 (by decide)).trans ((e344.1 19 12 0 0 0 0 22 f19 (by decide)).trans (X2.2.1 19 12 0 0 0 0 22 f19 (by decide))))), ((X364.2.a f25 (by decide)).trans ((X347.2.a f25 (by decide)).trans ((e344.a f25 (by decide)).trans (X2.2.a f25 (by decide))))), ((X364.2.a f26 (by decide)).trans ((X347.2.a f26 (by decide)).trans ((e344.a f26 (by decide)).trans (X2.2.a f26 (by decide))))), ((X364.2.a f27 (by decide)).trans ((X347.2.a f27 (by decide)).trans ((e344.a f27 (by decide)).trans (X2.2.a f27 (by decide))))), ((X364.2.a f28 (by decide)).trans ((X347.2.a f28 (by decide)).trans ((e344.a f28 (by decide)).trans (X2.2.a f28 (by decide)))))⟩ h373 h377 (e376.1 19 12 0 0 0 0 22 f19 (by decide)) (e376.a f25 (by decide)) (e376.a f26 (by decide)) (e376.a f27 (by decide)) (e376.1 19 12 0 0 0 0 24 f19 (by decide)) (e376.1 19 12 0 0 0 0 26 f19 (by decide)) (e376.1 19 12 0 0 0 0 27 f19 (by decide))) z366 h378 ⟨by omega, by omega⟩ (by omega))
    refine z_xP zt196 49 115 [some (.ref 19), some (.int x10), some (.int 0), none] [.ref 19] rfl rfl ?_
    refine z_xcV (vs := [.ref 19]) (r := []) (L2 := [some (.ref 19)]) zt196 50 rfl zo196 zzcV12_163 (Or.inl rfl) rfl X357 f19 rfl rfl rfl (Nat.le_of_ble_eq_true rfl) zzm194 (Nat.le_of_ble_eq_true rfl) rfl ?_
    refine zYC194 X357.1 (fun x383 M379 X380 h384 h385 h381 h382 => ?_)
    have X386 := X357.go X380 (z_sb (by decide))
    show z_ev (d + 972) 196 118 [some (.ref 19), some (.int x10), some (.int 0), none] [.int x383] M379 _
    refine z_xP zt196 51 119 [some (.ref 19), some (.int x10), some (.int 0), some (.int x383)] [] rfl rfl ?_
    have h388 := (X380.2.f f19 (by decide) h350)
    exact z_xrv zt196 52 rfl zzr196 (kk M379 X386 (y_APs (y_chm h3 (by omega) hz0 h345 ⟨by omega, by omega⟩ ((e344.1 19 12 0 0 0 0 26 f19 (by decide)).trans (X2.2.1 19 12 0 0 0 0 26 f19 (by decide))) ((e344.1 19 12 0 0 0 0 27 f19 (by decide)).trans (X2.2.1 19 12 0 0 0 0 27 f19 (by decide)))) (by omega) h348 (by omega) h381) z349 h388 ⟨by omega, by omega⟩ (by omega))
  refine z_xP zt196 4 12 [some (.ref 19), some (.int x10), none, none] [.ref 19] rfl rfl ?_
  refine z_xgX (b := 27) zt196 5 rfl zo196 zzf12_31 X11 f19 (by decide) (by decide) rfl ?_
  refine z_xP zt196 6 16 [some (.ref 19), some (.int x10), none, none] [.ref 19, .ref 27] rfl rfl ?_
  refine z_xgI zt196 7 rfl zo196 zzf12_133 X11 f19 (by decide) (by decide) rfl (fun (x390 : Int32) h389 (h391 : 0 ≤ x390.toInt) (h392 : x390.toInt ≤ 7) => ?_)
  have f27 : T[27]? = some (.inr (27, 0, 8, (-2147483648), 2147483647)) := X11.1.k rfl (by decide)
  refine z_xil zt196 8 rfl X11 f27 (by decide) (by omega) (by omega) (fun (x393 : Int32) h394 (h395 : (-2147483648) ≤ x393.toInt) (h396 : x393.toInt ≤ 2147483647) => ?_)
  have h397 := y_stP hS h389 h394
  refine z_xZ zt196 9 rfl rfl (fun (h398 : 0 < x393.toInt) => ?_) (fun (h398 : x393.toInt ≤ 0) => ?_)
  · skip
    refine z_xP zt196 27 66 [some (.ref 19), some (.int x10), none, none] [.int 1] rfl rfl ?_
    refine z_xP zt196 29 70 [some (.ref 19), some (.int x10), some (.int 1), none] [.int 112, .int x10] rfl rfl ?_
    refine z_xJ zt196 30 rfl rfl (fun (h399 : x10.toInt = 112) => ?_) (fun (h399 : x10.toInt ≠ 112) => absurd h399 (by omega))
    refine z_xP zt196 35 86 [some (.ref 19), some (.int x10), some (.int 1), none] [.int 1] rfl rfl ?_
    refine z_xZ zt196 36 rfl rfl (fun (h400 : (1 : Int) = 0) => absurd h400 (by omega)) (fun (h400 : (1 : Int) ≠ 0) => ?_)
    refine z_xP zt196 37 90 [some (.ref 19), some (.int x10), some (.int 1), none] [.ref 19] rfl rfl ?_
    refine z_xcV (vs := [.ref 19]) (r := []) (L2 := [some (.ref 19)]) zt196 38 rfl zo196 zzcV12_163 (Or.inl rfl) rfl X11 f19 rfl rfl rfl (Nat.le_of_ble_eq_true rfl) zzm194 (Nat.le_of_ble_eq_true rfl) rfl ?_
    refine zYC194 X11.1 (fun x405 M401 X402 h406 h407 h403 h404 => ?_)
    have X408 := X11.go X402 (z_sb (by decide))
    show z_ev (d + 972) 196 93 [some (.ref 19), some (.int x10), some (.int 1), none] [.int x405] M401 _
    refine z_xP zt196 39 94 [some (.ref 19), some (.int x10), some (.int 1), some (.int x405)] [] rfl rfl ?_
    have h410 := (X402.2.f f19 (by decide) (X2.2.f f19 (by decide) hz0))
    exact z_xrv zt196 40 rfl zzr196 (kk M401 X408 (y_APw h3 ⟨by omega, by omega, by omega⟩ h403) zp0 h410 ⟨by omega, by omega⟩ (by omega))
  refine z_xP zt196 10 26 [some (.ref 19), some (.int x10), none, none] [.int 101, .int x10] rfl rfl ?_
  refine z_xJ zt196 11 rfl rfl (fun (h411 : x10.toInt ≠ 101) => ?_) (fun (h411 : x10.toInt = 101) => absurd h411 (by omega))
  refine z_xP zt196 18 44 [some (.ref 19), some (.int x10), none, none] [.int 116, .int x10] rfl rfl ?_
  refine z_xJ zt196 19 rfl rfl (fun (h412 : x10.toInt ≠ 116) => ?_) (fun (h412 : x10.toInt = 116) => absurd h412 (by omega))
  refine z_xP zt196 28 66 [some (.ref 19), some (.int x10), none, none] [.int 0] rfl rfl ?_
  refine z_xP zt196 29 70 [some (.ref 19), some (.int x10), some (.int 0), none] [.int 112, .int x10] rfl rfl ?_
  refine z_xJ zt196 30 rfl rfl (fun (h413 : x10.toInt = 112) => ?_) (fun (h413 : x10.toInt ≠ 112) => absurd h413 (by omega))
  refine z_xP zt196 35 86 [some (.ref 19), some (.int x10), some (.int 0), none] [.int 0] rfl rfl ?_
  refine z_xZ zt196 36 rfl rfl (fun (h414 : (0 : Int) = 0) => ?_) (fun (h414 : (0 : Int) ≠ 0) => absurd h414 (by omega))
  refine z_xP zt196 41 97 [some (.ref 19), some (.int x10), some (.int 0), none] [.ref 19, .ref 19] rfl rfl ?_
  have h415 := (X2.2.f f19 (by decide) hz0)
  refine z_xgv zt196 42 rfl zo196 zzf12_123 X11 f19 (by decide) h415 ?_
  refine z_xP zt196 43 101 [some (.ref 19), some (.int x10), some (.int 0), none] [.int 1, .int zp0, .ref 19] rfl rfl ?_
  refine z_xI zt196 44 rfl rfl (fun (x416 : Int32) (h417 : x416.toInt = zp0.toInt + 1) => ?_) (z_pAdd rfl rfl (by omega) (by omega))
  refine z_xpf zt196 45 rfl zo196 zzf12_123 X11 f19 (by decide) (by decide) ⟨by omega, by omega⟩ rfl (by decide) zw12_24 (fun M418 X419 e420 h421 => ?_)
  refine z_xP zt196 46 108 [some (.ref 19), some (.int x10), some (.int 0), none] [.int 32, .ref 19] rfl rfl ?_
  refine z_xcV (vs := [.ref 19, .int 32]) (r := []) (L2 := [some (.ref 19), some (.int 32)]) zt196 47 rfl zo196 zzcV12_147 (Or.inl rfl) rfl X419 f19 rfl rfl rfl (Nat.le_of_ble_eq_true rfl) zzm192 (Nat.le_of_ble_eq_true rfl) rfl ?_
  have q32 : ((32 : Int32)).toInt = 32 := rfl
  have q32 : ((32 : Int32)).toInt = 32 := rfl
  have q32 : ((32 : Int32)).toInt = 32 := rfl
  refine zYC192 X419.1 h421 ⟨by omega, by omega⟩ (hT.go X419.1 X419 rfl) (by omega) (fun x430 M422 X423 h431 h432 h424 z425 h426 h427 h428 h429 => ?_)
  have X433 := X419.go X423 (z_sb (by decide))
  show z_ev (d + 972) 196 111 [some (.ref 19), some (.int x10), some (.int 0), none] [.int x430] M422 _
  have h435 := (X423.2.f f19 (by decide) (e420.f f19 (by decide) h389))
  refine z_xZ zt196 48 rfl rfl (fun (h436 : x430.toInt ≠ 0) => ?_) (fun (h436 : x430.toInt = 0) => ?_)
  · skip
    refine z_xP zt196 53 123 [some (.ref 19), some (.int x10), some (.int 0), none] [.int 112, .int x10] rfl rfl ?_
    refine z_xJ zt196 54 rfl rfl (fun (h437 : x10.toInt ≠ 112) => absurd h437 (by omega)) (fun (h437 : x10.toInt = 112) => ?_)
    refine z_xP zt196 55 127 [some (.ref 19), some (.int x10), some (.int 0), none] [.ref 19] rfl rfl ?_
    refine z_xgX (b := 27) zt196 56 rfl zo196 zzf12_31 X433 f19 (by decide) (by decide) rfl ?_
    refine z_xP zt196 57 131 [some (.ref 19), some (.int x10), some (.int 0), none] [.ref 19, .ref 27] rfl rfl ?_
    refine z_xgv zt196 58 rfl zo196 zzf12_133 X433 f19 (by decide) h435 ?_
    refine z_xP zt196 59 135 [some (.ref 19), some (.int x10), some (.int 0), none] [.ref 19, .int x390, .ref 27] rfl rfl ?_
    refine z_xcV (vs := [.ref 19]) (r := [.int x390, .ref 27]) (L2 := [some (.ref 19), none, none, none, none]) zt196 60 rfl zo196 zzcV12_190 (Or.inl rfl) rfl X433 f19 rfl rfl rfl (Nat.le_of_ble_eq_true rfl) zzm197 (Nat.le_of_ble_eq_true rfl) rfl ?_
    refine zYC197 X433.1 h426 ⟨by omega, by omega⟩ (z_GL.go hL X433 (by decide)) (hT.go X433.1 X433 rfl) (fun x445 M438 X439 h440 z441 h442 h443 h444 => ?_)
    have X446 := X433.go X439 (z_sb (by decide))
    show z_ev (d + 972) 196 138 [some (.ref 19), some (.int x10), some (.int 0), none] [.int x445, .int x390, .ref 27] M438 _
    have h448 := (X439.2.f f19 (by decide) h435)
    refine z_xis zt196 61 rfl X446 f27 (by decide) (by decide) (by omega) (by omega) (Int32.le_toInt _) (Int32.toInt_le _) (by decide) (fun M449 X450 e451 h452 => ?_)
    refine z_xP zt196 62 208 [some (.ref 19), some (.int x10), some (.int 0), none] [] rfl rfl ?_
    have f25 : T[25]? = some (.inr (25, 0, 8, 0, 8)) := X450.1.k rfl (by decide)
    have f26 : T[26]? = some (.inr (26, 0, 64, 0, 160)) := X450.1.k rfl (by decide)
    have f28 : T[28]? = some (.inr (28, 0, 8, (-2147483648), 2147483647)) := X450.1.k rfl (by decide)
    have h453 := (e451.f f19 (by decide) h442)
    exact z_xrv zt196 99 rfl zzr196 (kk M449 X450 (y_APp hS (y_chm h3 (by omega) hz0 h421 ⟨by omega, by omega⟩ ((e420.1 19 12 0 0 0 0 26 f19 (by decide)).trans (X2.2.1 19 12 0 0 0 0 26 f19 (by decide))) ((e420.1 19 12 0 0 0 0 27 f19 (by decide)).trans (X2.2.1 19 12 0 0 0 0 27 f19 (by decide)))) ⟨by omega, by omega⟩ h424 (by omega) h440 ⟨((X439.2.1 19 12 0 0 0 0 22 f19 (by decide)).trans ((X423.2.1 19 12 0 0 0 0 22 f19 (by decide)).trans ((e420.1 19 12 0 0 0 0 22 f19 (by decide)).trans (X2.2.1 19 12 0 0 0 0 22 f19 (by decide))))), ((X439.2.a f25 (by decide)).trans ((X423.2.a f25 (by decide)).trans ((e420.a f25 (by decide)).trans (X2.2.a f25 (by decide))))), ((X439.2.a f26 (by decide)).trans ((X423.2.a f26 (by decide)).trans ((e420.a f26 (by decide)).trans (X2.2.a f26 (by decide))))), ((X439.2.a f27 (by decide)).trans ((X423.2.a f27 (by decide)).trans ((e420.a f27 (by decide)).trans (X2.2.a f27 (by decide))))), ((X439.2.a f28 (by decide)).trans ((X423.2.a f28 (by decide)).trans ((e420.a f28 (by decide)).trans (X2.2.a f28 (by decide)))))⟩ h448 h452 (e451.1 19 12 0 0 0 0 22 f19 (by decide)) (e451.a f25 (by decide)) (e451.a f26 (by decide)) (e451.a f28 (by decide)) (e451.1 19 12 0 0 0 0 24 f19 (by decide)) (e451.1 19 12 0 0 0 0 26 f19 (by decide)) (e451.1 19 12 0 0 0 0 27 f19 (by decide))) z441 h453 ⟨by omega, by omega⟩ (by omega))
  refine z_xP zt196 49 115 [some (.ref 19), some (.int x10), some (.int 0), none] [.ref 19] rfl rfl ?_
  refine z_xcV (vs := [.ref 19]) (r := []) (L2 := [some (.ref 19)]) zt196 50 rfl zo196 zzcV12_163 (Or.inl rfl) rfl X433 f19 rfl rfl rfl (Nat.le_of_ble_eq_true rfl) zzm194 (Nat.le_of_ble_eq_true rfl) rfl ?_
  refine zYC194 X433.1 (fun x458 M454 X455 h459 h460 h456 h457 => ?_)
  have X461 := X433.go X455 (z_sb (by decide))
  show z_ev (d + 972) 196 118 [some (.ref 19), some (.int x10), some (.int 0), none] [.int x458] M454 _
  refine z_xP zt196 51 119 [some (.ref 19), some (.int x10), some (.int 0), some (.int x458)] [] rfl rfl ?_
  have h463 := (X455.2.f f19 (by decide) h426)
  exact z_xrv zt196 52 rfl zzr196 (kk M454 X461 (y_APs (y_chm h3 (by omega) hz0 h421 ⟨by omega, by omega⟩ ((e420.1 19 12 0 0 0 0 26 f19 (by decide)).trans (X2.2.1 19 12 0 0 0 0 26 f19 (by decide))) ((e420.1 19 12 0 0 0 0 27 f19 (by decide)).trans (X2.2.1 19 12 0 0 0 0 27 f19 (by decide)))) (by omega) h424 (by omega) h456) z425 h463 ⟨by omega, by omega⟩ (by omega))
