/-! contracts of the methods (printed by wip/gen/vparts.py) -/
def zw142 : List Nat := []
theorem zB142 {T : List zK} {d : Nat} {K : Option Value → zH → Prop} {a0 : Nat} {q : Nat} {t : Nat} {m : Nat} {p2 : Int32} {zp0 : Int32} {M0 : zH} (k0 : T[a0]? = some (.inl (3, q, t, m, 5))) (u2 : (-2147483648) ≤ p2.toInt ∧ p2.toInt ≤ 216) (hz0 : z_F M0 a0 4 = some (.int zp0)) (bz0 : 0 ≤ zp0.toInt ∧ zp0.toInt ≤ 3) (hb0 : m ≤ 6) (kk : ∀ (x : Int32) (M1 : zH), z_X T zw142 M0 M1 → (-2) ≤ x.toInt → x.toInt ≤ 215 → ∀ (w0 : Int32), z_F M1 a0 4 = some (.int w0) → 0 ≤ w0.toInt ∧ w0.toInt ≤ 3 → K (some (.int x)) M1) : ∀ n : Nat, (∀ (M : zH) (b3 : Int32) (z0 : Int32), z_X T zw142 M0 M → 0 ≤ b3.toInt ∧ b3.toInt ≤ 216 → z_F M a0 4 = some (.int z0) → 0 ≤ z0.toInt ∧ z0.toInt ≤ 3 → ((0) * 2 + 0) * 217 + (216 - b3.toInt) < (n : Int) → z_ev (d + 3) 142 2 [some (.ref a0), some (.ref 18), some (.int p2), some (.int b3)] [] M K) := by
  intro n
  induction n with
  | zero => exact by intros; exfalso; omega
  | succ n ih =>
    intro M b3 z0 X hh0 hp0 hh2 hE
    have g0 := X.1.p3 k0
    refine z_xP zt142 1 4 [some (.ref a0), some (.ref 18), some (.int p2), some (.int b3)] [.int p2, .int b3] rfl rfl ?_
    have h1 := z_b32 p2
    refine z_xJ zt142 2 rfl rfl (fun (h2 : p2.toInt ≤ b3.toInt) => ?_) (fun (h2 : b3.toInt < p2.toInt) => ?_)
    · skip
      refine z_xP zt142 13 30 [some (.ref a0), some (.ref 18), some (.int p2), some (.int b3)] [.int (-2)] rfl rfl ?_
      have qm2 : (((-2) : Int32)).toInt = (-2) := rfl
      exact z_xri zt142 14 rfl zzr142 (kk (-2) M X (by omega) (by omega) z0 hp0 ⟨by omega, by omega⟩)
    refine z_xP zt142 3 8 [some (.ref a0), some (.ref 18), some (.int p2), some (.int b3)] [.ref a0] rfl rfl ?_
    refine z_xgR (κ := .inl (2, q, t, m, 0)) zt142 4 rfl zo142 zzf3_39 X k0 (by decide) (by decide) rfl (fun (a4 : Nat) h3 k5 => ?_)
    have g6 := X.1.p2 k5
    refine z_xP zt142 5 13 [some (.ref a0), some (.ref 18), some (.int p2), some (.int b3)] [.int b3, .ref 18, .ref a4] rfl rfl ?_
    have f18 : T[18]? = some (.inr (18, 0, 216, (-2147483648), 2147483647)) := X.1.k rfl (by decide)
    refine z_xil zt142 6 rfl X f18 (by decide) (by omega) (by omega) (fun (x7 : Int32) h8 (h9 : (-2147483648) ≤ x7.toInt) (h10 : x7.toInt ≤ 2147483647) => ?_)
    refine z_xcV (vs := [.ref a4, .int x7]) (r := []) (L2 := [some (.ref a4), some (.int x7), none]) zt142 7 rfl zo142 zzcV3_192 (Or.inl rfl) rfl X k5 rfl rfl rfl (Nat.le_of_ble_eq_true rfl) zzm44 (Nat.le_of_ble_eq_true rfl) rfl ?_
    refine zC44 X.1 k5 (fun x13 M11 X12 h14 h15 => ?_)
    have X16 := X.go X12 (z_sb (by decide))
    show z_ev (d + 3) 142 17 [some (.ref a0), some (.ref 18), some (.int p2), some (.int b3)] [.int x13] M11 _
    refine z_xZ zt142 8 rfl rfl (fun (h18 : x13.toInt ≠ 0) => ?_) (fun (h18 : x13.toInt = 0) => ?_)
    · skip
      refine z_xN zt142 11 rfl rfl (fun (x19 : Int32) (h20 : x19.toInt = b3.toInt + 1) => ?_) (z_pAdd rfl rfl (by omega) (by omega))
      show z_ev (d + 3) 142 25 [some (.ref a0), some (.ref 18), some (.int p2), some (.int x19)] [] M11 _
      refine z_xP zt142 12 2 [some (.ref a0), some (.ref 18), some (.int p2), some (.int x19)] [] rfl rfl ?_
      have h21 := (X12.2.f k0 (by decide) hp0)
      exact ih M11 x19 z0 X16 ⟨by omega, by omega⟩ h21 ⟨by omega, by omega⟩ (by omega)
    refine z_xP zt142 9 21 [some (.ref a0), some (.ref 18), some (.int p2), some (.int b3)] [.int b3] rfl rfl ?_
    have h22 := (X12.2.f k0 (by decide) hp0)
    exact z_xri zt142 10 rfl zzr142 (kk b3 M11 X16 (by omega) (by omega) z0 h22 ⟨by omega, by omega⟩)
theorem zC142 {T : List zK} {d : Nat} {K : Option Value → zH → Prop} {a0 : Nat} {q : Nat} {t : Nat} {m : Nat} {p2 : Int32} {zp0 : Int32} {M0 : zH} (hW : z_W M0 T) (k0 : T[a0]? = some (.inl (3, q, t, m, 5))) (u2 : (-2147483648) ≤ p2.toInt ∧ p2.toInt ≤ 216) (hz0 : z_F M0 a0 4 = some (.int zp0)) (bz0 : 0 ≤ zp0.toInt ∧ zp0.toInt ≤ 3) (hb0 : m ≤ 6) (kk : ∀ (x : Int32) (M1 : zH), z_X T zw142 M0 M1 → (-2) ≤ x.toInt → x.toInt ≤ 215 → ∀ (w0 : Int32), z_F M1 a0 4 = some (.int w0) → 0 ≤ w0.toInt ∧ w0.toInt ≤ 3 → K (some (.int x)) M1) : z_ev (d + 3) 142 0 [some (.ref a0), some (.ref 18), some (.int p2), none] [] M0 K := by
  have X : z_X T zw142 M0 M0 := .refl hW
  have g0 := X.1.p3 k0
  refine z_xP zt142 0 2 [some (.ref a0), some (.ref 18), some (.int p2), some (.int 0)] [] rfl rfl ?_
  have q0 : ((0 : Int32)).toInt = 0 := rfl
  exact (zB142 k0 u2 hz0 bz0 hb0 kk 434) M0 (0) zp0 X (by decide) hz0 ⟨by omega, by omega⟩ (by omega)
def zw143 : List Nat := []
theorem zB143 {T : List zK} {d : Nat} {K : Option Value → zH → Prop} {a0 : Nat} {q : Nat} {t : Nat} {m : Nat} {p2 : Int32} {zp0 : Int32} {M0 : zH} (k0 : T[a0]? = some (.inl (3, q, t, m, 5))) (u2 : (-2147483648) ≤ p2.toInt ∧ p2.toInt ≤ 216) (hz0 : z_F M0 a0 4 = some (.int zp0)) (bz0 : 0 ≤ zp0.toInt ∧ zp0.toInt ≤ 3) (hb0 : m ≤ 6) (kk : ∀ (x : Int32) (M1 : zH), z_X T zw143 M0 M1 → (-2) ≤ x.toInt → x.toInt ≤ 2 → ∀ (w0 : Int32), z_F M1 a0 4 = some (.int w0) → 0 ≤ w0.toInt ∧ w0.toInt ≤ 3 → K (some (.int x)) M1) : ∀ n : Nat, (∀ (M : zH) (b3 : Int32) (o4 : Option Value) (o5 : Option Value) (z0 : Int32), z_X T zw143 M0 M → 0 ≤ b3.toInt ∧ b3.toInt ≤ 3 → z_F M a0 4 = some (.int z0) → 0 ≤ z0.toInt ∧ z0.toInt ≤ 3 → ((((0) * 3 + 1) * 4 + (3 - b3.toInt)) * 3 + 2) * 217 + (0) < (n : Int) → z_ev (d + 1) 143 2 [some (.ref a0), some (.ref 18), some (.int p2), some (.int b3), o4, o5] [] M K) ∧ (∀ (M : zH) (b3 : Int32) (b4 : Int32) (b5 : Int32) (z0 : Int32), z_X T zw143 M0 M → 0 ≤ b3.toInt ∧ b3.toInt ≤ 2 → 0 ≤ b4.toInt ∧ b4.toInt ≤ 1 → 0 ≤ b5.toInt ∧ b5.toInt ≤ 216 → z_F M a0 4 = some (.int z0) → 1 ≤ z0.toInt ∧ z0.toInt ≤ 3 → ((((0) * 3 + 1) * 4 + (3 - b3.toInt)) * 3 + 0) * 217 + (216 - b5.toInt) < (n : Int) → z_ev (d + 1) 143 16 [some (.ref a0), some (.ref 18), some (.int p2), some (.int b3), some (.int b4), some (.int b5)] [] M K) := by
  intro n
  induction n with
  | zero => exact ⟨(by intros; exfalso; omega), (by intros; exfalso; omega)⟩
  | succ n ih =>
    refine ⟨?_, ?_⟩
    · skip
      intro M b3 o4 o5 z0 X hh0 hp0 hh2 hE
      have g0 := X.1.p3 k0
      refine z_xP zt143 1 4 [some (.ref a0), some (.ref 18), some (.int p2), some (.int b3), o4, o5] [.ref a0, .int b3] rfl rfl ?_
      refine z_xgv zt143 2 rfl zo143 zzf3_53 X k0 (by decide) hp0 ?_
      refine z_xJ zt143 3 rfl rfl (fun (h1 : z0.toInt ≤ b3.toInt) => ?_) (fun (h1 : b3.toInt < z0.toInt) => ?_)
      · skip
        refine z_xP zt143 32 84 [some (.ref a0), some (.ref 18), some (.int p2), some (.int b3), o4, o5] [.int (-2)] rfl rfl ?_
        have qm2 : (((-2) : Int32)).toInt = (-2) := rfl
        exact z_xri zt143 33 rfl zzr143 (kk (-2) M X (by omega) (by omega) z0 hp0 ⟨by omega, by omega⟩)
      refine z_xP zt143 4 16 [some (.ref a0), some (.ref 18), some (.int p2), some (.int b3), some (.int 1), some (.int 0)] [] rfl rfl ?_
      have q0 : ((0 : Int32)).toInt = 0 := rfl
      have q1 : ((1 : Int32)).toInt = 1 := rfl
      exact ih.2 M b3 (1) (0) z0 X ⟨by omega, by omega⟩ (by decide) (by decide) hp0 ⟨by omega, by omega⟩ (by omega)
    · skip
      intro M b3 b4 b5 z0 X hh0 hh1 hh2 hp0 hh4 hE
      have g0 := X.1.p3 k0
      refine z_xP zt143 5 19 [some (.ref a0), some (.ref 18), some (.int p2), some (.int b3), some (.int b4), some (.int b5)] [.int p2, .int b5] rfl rfl ?_
      have h1 := z_b32 p2
      refine z_xJ zt143 6 rfl rfl (fun (h2 : p2.toInt ≤ b5.toInt) => ?_) (fun (h2 : b5.toInt < p2.toInt) => ?_)
      · skip
        refine z_xP zt143 26 71 [some (.ref a0), some (.ref 18), some (.int p2), some (.int b3), some (.int b4), some (.int b5)] [.int b4] rfl rfl ?_
        refine z_xZ zt143 27 rfl rfl (fun (h3 : b4.toInt = 0) => ?_) (fun (h3 : b4.toInt ≠ 0) => ?_)
        · skip
          refine z_xN zt143 30 rfl rfl (fun (x4 : Int32) (h5 : x4.toInt = b3.toInt + 1) => ?_) (z_pAdd rfl rfl (by omega) (by omega))
          show z_ev (d + 1) 143 79 [some (.ref a0), some (.ref 18), some (.int p2), some (.int x4), some (.int b4), some (.int b5)] [] M _
          refine z_xP zt143 31 2 [some (.ref a0), some (.ref 18), some (.int p2), some (.int x4), some (.int b4), some (.int b5)] [] rfl rfl ?_
          exact ih.1 M x4 (some (.int b4)) (some (.int b5)) z0 X ⟨by omega, by omega⟩ hp0 ⟨by omega, by omega⟩ (by omega)
        refine z_xP zt143 28 75 [some (.ref a0), some (.ref 18), some (.int p2), some (.int b3), some (.int b4), some (.int b5)] [.int b3] rfl rfl ?_
        exact z_xri zt143 29 rfl zzr143 (kk b3 M X (by omega) (by omega) z0 hp0 ⟨by omega, by omega⟩)
      refine z_xP zt143 7 24 [some (.ref a0), some (.ref 18), some (.int p2), some (.int b3), some (.int b4), some (.int b5)] [.int b4] rfl rfl ?_
      refine z_xZ zt143 8 rfl rfl (fun (h6 : b4.toInt = 0) => ?_) (fun (h6 : b4.toInt ≠ 0) => ?_)
      · skip
        refine z_xP zt143 26 71 [some (.ref a0), some (.ref 18), some (.int p2), some (.int b3), some (.int b4), some (.int b5)] [.int b4] rfl rfl ?_
        refine z_xZ zt143 27 rfl rfl (fun (h7 : b4.toInt = 0) => ?_) (fun (h7 : b4.toInt ≠ 0) => absurd h7 (by omega))
        refine z_xN zt143 30 rfl rfl (fun (x8 : Int32) (h9 : x8.toInt = b3.toInt + 1) => ?_) (z_pAdd rfl rfl (by omega) (by omega))
        show z_ev (d + 1) 143 79 [some (.ref a0), some (.ref 18), some (.int p2), some (.int x8), some (.int b4), some (.int b5)] [] M _
        refine z_xP zt143 31 2 [some (.ref a0), some (.ref 18), some (.int p2), some (.int x8), some (.int b4), some (.int b5)] [] rfl rfl ?_
        exact ih.1 M x8 (some (.int b4)) (some (.int b5)) z0 X ⟨by omega, by omega⟩ hp0 ⟨by omega, by omega⟩ (by omega)
      refine z_xP zt143 9 30 [some (.ref a0), some (.ref 18), some (.int p2), some (.int b3), some (.int b4), some (.int b5)] [.int b5, .ref 18] rfl rfl ?_
      have f18 : T[18]? = some (.inr (18, 0, 216, (-2147483648), 2147483647)) := X.1.k rfl (by decide)
      refine z_xil zt143 10 rfl X f18 (by decide) (by omega) (by omega) (fun (x10 : Int32) h11 (h12 : (-2147483648) ≤ x10.toInt) (h13 : x10.toInt ≤ 2147483647) => ?_)
      refine z_xP zt143 11 32 [some (.ref a0), some (.ref 18), some (.int p2), some (.int b3), some (.int b4), some (.int b5)] [.ref a0, .int x10] rfl rfl ?_
      refine z_xgR (κ := .inl (2, q, t, m, 0)) zt143 12 rfl zo143 zzf3_39 X k0 (by decide) (by decide) rfl (fun (a15 : Nat) h14 k16 => ?_)
      have g17 := X.1.p2 k16
      refine z_xP zt143 13 36 [some (.ref a0), some (.ref 18), some (.int p2), some (.int b3), some (.int b4), some (.int b5)] [.ref a0, .ref a15, .int x10] rfl rfl ?_
      refine z_xgv zt143 14 rfl zo143 zzf3_39 X k0 (by decide) h14 ?_
      refine z_xgR (κ := .inr (102, 0, m, 0, 1023)) zt143 15 rfl zo143 zzf3_101 X k16 (by decide) (by decide) rfl (fun (a19 : Nat) h18 k20 => ?_)
      refine z_xP zt143 16 46 [some (.ref a0), some (.ref 18), some (.int p2), some (.int b3), some (.int b4), some (.int b5)] [.int b3, .int b5, .ref a0, .ref a19, .ref a15, .int x10] rfl rfl ?_
      refine z_xcV (vs := [.ref a0, .int b5, .int b3]) (r := [.ref a19, .ref a15, .int x10]) (L2 := [some (.ref a0), some (.int b5), some (.int b3), none, none, none]) zt143 17 rfl zo143 zzcV3_154 (Or.inl rfl) rfl X k0 rfl rfl rfl (Nat.le_of_ble_eq_true rfl) zzm135 (Nat.le_of_ble_eq_true rfl) rfl ?_
      refine zC135 X.1 k0 (by omega) (by omega) (fun x24 M21 X22 h25 h26 h23 => ?_)
      have X27 := X.go X22 (z_sb (by decide))
      show z_ev (d + 1) 143 49 [some (.ref a0), some (.ref 18), some (.int p2), some (.int b3), some (.int b4), some (.int b5)] [.int x24, .ref a19, .ref a15, .int x10] M21 _
      refine z_xil zt143 18 rfl X27 k20 (by decide) (by omega) (by omega) (fun (x29 : Int32) h30 (h31 : 0 ≤ x29.toInt) (h32 : x29.toInt ≤ 1023) => ?_)
      refine z_xcV (vs := [.ref a15, .int x29]) (r := [.int x10]) (L2 := [some (.ref a15), some (.int x29)]) zt143 19 rfl zo143 zzcV3_189 (Or.inl rfl) rfl X27 k16 rfl rfl rfl (Nat.le_of_ble_eq_true rfl) zzm39 (Nat.le_of_ble_eq_true rfl) rfl ?_
      refine z_xP zt39 0 2 [some (.ref a15), some (.int x29)] [.ref a15, .int x29] rfl rfl ?_
      refine z_xgI zt39 1 rfl zo39 zzf2_32 X27 k16 (by decide) (by decide) rfl (fun (x34 : Int32) h33 (h35 : ((z_po q : Nat) : Int) - 1 ≤ x34.toInt) (h36 : x34.toInt ≤ ((z_po q : Nat) : Int) - 1) => ?_)
      refine z_xP zt39 2 7 [some (.ref a15), some (.int x29)] [.int (-1), .int x29, .int x34, .int x29] rfl rfl ?_
      refine z_xI zt39 3 rfl rfl (P := fun _ => True) (fun (x37 : Int32) _ => ?_) trivial
      refine z_xI zt39 4 rfl rfl (fun (x39 : Int32) (h40 : 0 ≤ x39.toInt ∧ x39.toInt ≤ x34.toInt) => ?_) (z_pAndL rfl (by omega))
      refine z_xP zt39 5 11 [some (.ref a15), some (.int x29)] [.int 10, .int x39, .int x29] rfl rfl ?_
      refine z_xI zt39 6 rfl rfl (fun (x41 : Int32) (h42 : x41.toInt = x39.toInt * 1024) => ?_) (z_pShl 10 rfl rfl (by decide) (by decide) (by omega) rfl (by omega))
      refine z_xI zt39 7 rfl rfl (fun (x43 : Int32) (h44 : 0 ≤ x43.toInt ∧ x43.toInt < 1048576 ∧ x29.toInt ≤ x43.toInt ∧ x41.toInt ≤ x43.toInt) => ?_) (z_pOr 20 rfl rfl (by omega) (by omega) (by decide) (by omega) (by omega) (by decide))
      refine z_xri zt39 8 rfl zzr39 ?_
      show z_ev (d + 1) 143 53 [some (.ref a0), some (.ref 18), some (.int p2), some (.int b3), some (.int b4), some (.int b5)] [.int x43, .int x10] M21 _
      have h45 := z_b32 x10
      refine z_xJ zt143 20 rfl rfl (fun (h46 : x10.toInt ≠ x43.toInt) => ?_) (fun (h46 : x10.toInt = x43.toInt) => ?_)
      · skip
        refine z_xP zt143 22 61 [some (.ref a0), some (.ref 18), some (.int p2), some (.int b3), some (.int b4), some (.int b5)] [.int 0] rfl rfl ?_
        refine z_xP zt143 23 63 [some (.ref a0), some (.ref 18), some (.int p2), some (.int b3), some (.int 0), some (.int b5)] [] rfl rfl ?_
        refine z_xN zt143 24 rfl rfl (fun (x47 : Int32) (h48 : x47.toInt = b5.toInt + 1) => ?_) (z_pAdd rfl rfl (by omega) (by omega))
        show z_ev (d + 1) 143 66 [some (.ref a0), some (.ref 18), some (.int p2), some (.int b3), some (.int 0), some (.int x47)] [] M21 _
        refine z_xP zt143 25 16 [some (.ref a0), some (.ref 18), some (.int p2), some (.int b3), some (.int 0), some (.int x47)] [] rfl rfl ?_
        have h49 := (X22.2.f k0 (by decide) hp0)
        have q0 : ((0 : Int32)).toInt = 0 := rfl
        exact ih.2 M21 b3 (0) x47 z0 X27 ⟨by omega, by omega⟩ (by decide) ⟨by omega, by omega⟩ h49 ⟨by omega, by omega⟩ (by omega)
      refine z_xP zt143 21 61 [some (.ref a0), some (.ref 18), some (.int p2), some (.int b3), some (.int b4), some (.int b5)] [.int 1] rfl rfl ?_
      refine z_xP zt143 23 63 [some (.ref a0), some (.ref 18), some (.int p2), some (.int b3), some (.int 1), some (.int b5)] [] rfl rfl ?_
      refine z_xN zt143 24 rfl rfl (fun (x50 : Int32) (h51 : x50.toInt = b5.toInt + 1) => ?_) (z_pAdd rfl rfl (by omega) (by omega))
      show z_ev (d + 1) 143 66 [some (.ref a0), some (.ref 18), some (.int p2), some (.int b3), some (.int 1), some (.int x50)] [] M21 _
      refine z_xP zt143 25 16 [some (.ref a0), some (.ref 18), some (.int p2), some (.int b3), some (.int 1), some (.int x50)] [] rfl rfl ?_
      have h52 := (X22.2.f k0 (by decide) hp0)
      have q1 : ((1 : Int32)).toInt = 1 := rfl
      exact ih.2 M21 b3 (1) x50 z0 X27 ⟨by omega, by omega⟩ (by decide) ⟨by omega, by omega⟩ h52 ⟨by omega, by omega⟩ (by omega)
theorem zC143 {T : List zK} {d : Nat} {K : Option Value → zH → Prop} {a0 : Nat} {q : Nat} {t : Nat} {m : Nat} {p2 : Int32} {zp0 : Int32} {M0 : zH} (hW : z_W M0 T) (k0 : T[a0]? = some (.inl (3, q, t, m, 5))) (u2 : (-2147483648) ≤ p2.toInt ∧ p2.toInt ≤ 216) (hz0 : z_F M0 a0 4 = some (.int zp0)) (bz0 : 0 ≤ zp0.toInt ∧ zp0.toInt ≤ 3) (hb0 : m ≤ 6) (kk : ∀ (x : Int32) (M1 : zH), z_X T zw143 M0 M1 → (-2) ≤ x.toInt → x.toInt ≤ 2 → ∀ (w0 : Int32), z_F M1 a0 4 = some (.int w0) → 0 ≤ w0.toInt ∧ w0.toInt ≤ 3 → K (some (.int x)) M1) : z_ev (d + 1) 143 0 [some (.ref a0), some (.ref 18), some (.int p2), none, none, none] [] M0 K := by
  have X : z_X T zw143 M0 M0 := .refl hW
  have g0 := X.1.p3 k0
  refine z_xP zt143 0 2 [some (.ref a0), some (.ref 18), some (.int p2), some (.int 0), none, none] [] rfl rfl ?_
  have q0 : ((0 : Int32)).toInt = 0 := rfl
  exact (zB143 k0 u2 hz0 bz0 hb0 kk 7812).1 M0 (0) none none zp0 X (by decide) hz0 ⟨by omega, by omega⟩ (by omega)
def zw129 : List Nat := [18, 201, 202, 203, 205, 206, 207, 208, 209, 210, 211, 1304]
theorem zC129 {T : List zK} {d : Nat} {K : Option Value → zH → Prop} {p1 : Int32} {p2 : Int32} {p3 : Int32} {p4 : Int32} {M0 : zH} (hW : z_W M0 T)  (hG : z_GG T M0) (kk : ∀ (x : Int32) (M1 : zH), z_X T zw129 M0 M1 → (-4) ≤ x.toInt → x.toInt ≤ 215 → K (some (.int x)) M1) : z_ev (d + 5) 129 0 [some (.ref 4), some (.int p1), some (.int p2), some (.int p3), some (.int p4), none, none] [] M0 K := by
  have X : z_X T zw129 M0 M0 := .refl hW
  refine z_xP zt129 0 2 [some (.ref 4), some (.int p1), some (.int p2), some (.int p3), some (.int p4), none, none] [.int p1, .ref 4] rfl rfl ?_
  have f4 : T[4]? = some (.inl (0, 0, 0, 0, 0)) := X.1.k rfl (by decide)
  refine z_xcV (vs := [.ref 4, .int p1]) (r := []) (L2 := [some (.ref 4), some (.int p1)]) zt129 1 rfl zo129 zzcV0_221 (Or.inl rfl) rfl X f4 rfl rfl rfl (Nat.le_of_ble_eq_true rfl) zzm84 (Nat.le_of_ble_eq_true rfl) rfl ?_
  refine z_xP zt84 0 1 [some (.ref 4), some (.int p1)] [.int p1] rfl rfl ?_
  refine z_xZ zt84 1 rfl rfl (fun (h1 : p1.toInt < 0) => ?_) (fun (h1 : 0 ≤ p1.toInt) => ?_)
  · skip
    refine z_xP zt84 5 22 [some (.ref 4), some (.int p1)] [.null] rfl rfl ?_
    refine z_xrn zt84 10 rfl zzr84 ?_
    show z_ev (d + 5) 129 5 [some (.ref 4), some (.int p1), some (.int p2), some (.int p3), some (.int p4), none, none] [.null] M0 _
    refine z_xP zt129 2 23 [some (.ref 4), some (.int p1), some (.int p2), some (.int p3), some (.int p4), some (.null), none] [] rfl rfl ?_
    refine z_xP zt129 7 24 [some (.ref 4), some (.int p1), some (.int p2), some (.int p3), some (.int p4), some (.null), none] [.int (-1)] rfl rfl ?_
    have qm1 : (((-1) : Int32)).toInt = (-1) := rfl
    exact z_xri zt129 8 rfl zzr129 (kk (-1) M0 X (by omega) (by omega))
  refine z_xP zt84 2 6 [some (.ref 4), some (.int p1)] [.ref 4, .int p1] rfl rfl ?_
  refine z_xgI zt84 3 rfl zo84 zzf0_188 X f4 (by decide) (by decide) rfl (fun (x3 : Int32) h2 (h4 : 0 ≤ x3.toInt) (h5 : x3.toInt ≤ 20) => ?_)
  have h6 := z_b32 p1
  refine z_xJ zt84 4 rfl rfl (fun (h7 : p1.toInt < x3.toInt) => ?_) (fun (h7 : x3.toInt ≤ p1.toInt) => ?_)
  · skip
    refine z_xP zt84 6 17 [some (.ref 4), some (.int p1)] [.ref 4] rfl rfl ?_
    refine z_xgX (b := 12) zt84 7 rfl zo84 zzf0_27 X f4 (by decide) (by decide) rfl ?_
    refine z_xP zt84 8 21 [some (.ref 4), some (.int p1)] [.int p1, .ref 12] rfl rfl ?_
    have f12 : T[12]? = some (.inr (12, 3, 20, 0, 0)) := X.1.k rfl (by decide)
    refine z_xal zt84 9 rfl X f12 (by decide) (by decide) (by decide) (by omega) (by omega) (fun (a8 : Nat) h9 h10 => ?_) (fun h11 => absurd h11 (z_Gb (hG.go X (by decide)).2.1 h2 (by omega) (by omega)))
    obtain ⟨c12, w13l, w13u, k14⟩ : ∃ ci, 4 ≤ ci ∧ ci ≤ 11 ∧ T[a8]? = some (.inl (ci, 0, 0, 0, 0)) := h10
    have w13 := And.intro w13l w13u
    refine z_xra zt84 10 rfl zzr84 ?_
    show z_ev (d + 5) 129 5 [some (.ref 4), some (.int p1), some (.int p2), some (.int p3), some (.int p4), none, none] [.ref a8] M0 _
    refine z_xP zt129 2 12 [some (.ref 4), some (.int p1), some (.int p2), some (.int p3), some (.int p4), some (.ref a8), none] [] rfl rfl ?_
    refine z_xP zt129 3 14 [some (.ref 4), some (.int p1), some (.int p2), some (.int p3), some (.int p4), some (.ref a8), none] [.int p4] rfl rfl ?_
    refine z_xZ zt129 4 rfl rfl (fun (h15 : p4.toInt < 0) => ?_) (fun (h15 : 0 ≤ p4.toInt) => ?_)
    · skip
      refine z_xP zt129 7 24 [some (.ref 4), some (.int p1), some (.int p2), some (.int p3), some (.int p4), some (.ref a8), none] [.int (-1)] rfl rfl ?_
      have qm1 : (((-1) : Int32)).toInt = (-1) := rfl
      exact z_xri zt129 8 rfl zzr129 (kk (-1) M0 X (by omega) (by omega))
    refine z_xP zt129 5 20 [some (.ref 4), some (.int p1), some (.int p2), some (.int p3), some (.int p4), some (.ref a8), none] [.int 4, .int p4] rfl rfl ?_
    refine z_xJ zt129 6 rfl rfl (fun (h16 : p4.toInt ≤ 4) => ?_) (fun (h16 : 4 < p4.toInt) => ?_)
    · skip
      refine z_xP zt129 9 28 [some (.ref 4), some (.int p1), some (.int p2), some (.int p3), some (.int p4), some (.ref a8), none] [.int p3, .int p2, .ref 4] rfl rfl ?_
      refine z_xcV (vs := [.ref 4, .int p2, .int p3]) (r := []) (L2 := [some (.ref 4), some (.int p2), some (.int p3), none]) zt129 10 rfl zo129 zzcV0_274 (Or.inl rfl) rfl X f4 rfl rfl rfl (Nat.le_of_ble_eq_true rfl) zzm130 (Nat.le_of_ble_eq_true rfl) rfl ?_
      refine z_xP zt130 0 2 [some (.ref 4), some (.int p2), some (.int p3), none] [.int p2, .ref 4] rfl rfl ?_
      refine z_xcV (vs := [.ref 4, .int p2]) (r := []) (L2 := [some (.ref 4), some (.int p2)]) zt130 1 rfl zo130 zzcV0_108 (Or.inl rfl) rfl X f4 rfl rfl rfl (Nat.le_of_ble_eq_true rfl) zzm37 (Nat.le_of_ble_eq_true rfl) rfl ?_
      refine z_xP zt37 0 1 [some (.ref 4), some (.int p2)] [.int p2] rfl rfl ?_
      refine z_xZ zt37 1 rfl rfl (fun (h17 : p2.toInt < 0) => ?_) (fun (h17 : 0 ≤ p2.toInt) => ?_)
      · skip
        refine z_xP zt37 5 25 [some (.ref 4), some (.int p2)] [.null] rfl rfl ?_
        refine z_xrn zt37 11 rfl zzr37 ?_
        show z_ev (d + 4) 130 5 [some (.ref 4), some (.int p2), some (.int p3), none] [.null] M0 _
        refine z_xP zt130 2 20 [some (.ref 4), some (.int p2), some (.int p3), some (.null)] [] rfl rfl ?_
        refine z_xP zt130 7 21 [some (.ref 4), some (.int p2), some (.int p3), some (.null)] [.int (-1)] rfl rfl ?_
        refine z_xri zt130 8 rfl zzr130 ?_
        show z_ev (d + 5) 129 31 [some (.ref 4), some (.int p1), some (.int p2), some (.int p3), some (.int p4), some (.ref a8), none] [.int (-1)] M0 _
        refine z_xP zt129 11 35 [some (.ref 4), some (.int p1), some (.int p2), some (.int p3), some (.int p4), some (.ref a8), some (.int (-1))] [.int (-1)] rfl rfl ?_
        refine z_xZ zt129 12 rfl rfl (fun (h18 : ((-1) : Int) = 0) => absurd h18 (by omega)) (fun (h18 : ((-1) : Int) ≠ 0) => ?_)
        refine z_xP zt129 13 40 [some (.ref 4), some (.int p1), some (.int p2), some (.int p3), some (.int p4), some (.ref a8), some (.int (-1))] [.int (-1)] rfl rfl ?_
        have qm1 : (((-1) : Int32)).toInt = (-1) := rfl
        exact z_xri zt129 14 rfl zzr129 (kk (-1) M0 X (by omega) (by omega))
      refine z_xP zt37 2 6 [some (.ref 4), some (.int p2)] [.ref 4, .int p2] rfl rfl ?_
      refine z_xgI zt37 3 rfl zo37 zzf0_59 X f4 (by decide) (by decide) rfl (fun (x20 : Int32) h19 (h21 : 0 ≤ x20.toInt) (h22 : x20.toInt ≤ 8) => ?_)
      have h23 := z_b32 p2
      refine z_xJ zt37 4 rfl rfl (fun (h24 : p2.toInt < x20.toInt) => ?_) (fun (h24 : x20.toInt ≤ p2.toInt) => ?_)
      · skip
        refine z_xP zt37 6 17 [some (.ref 4), some (.int p2)] [.ref 4] rfl rfl ?_
        refine z_xgX (b := 10) zt37 7 rfl zo37 zzf0_18 X f4 (by decide) (by decide) rfl ?_
        refine z_xP zt37 8 21 [some (.ref 4), some (.int p2)] [.int p2, .ref 10] rfl rfl ?_
        have f10 : T[10]? = some (.inr (10, 2, 8, 9, 0)) := X.1.k rfl (by decide)
        refine z_xal zt37 9 rfl X f10 (by decide) (by decide) (by decide) (by omega) (by omega) (fun (a25 : Nat) h26 h27 => ?_) (fun h28 => absurd h28 (z_Gs (hG.go X (by decide)).2.1 h19 (by omega) (by omega)))
        obtain ⟨q29, t30, m31, k32⟩ : ∃ q t m, T[a25]? = some (.inl (3, q, t, m, 9)) := h27
        have g33 := X.1.p3 k32
        refine z_xgR (κ := .inl (2, q29, t30, m31, 0)) zt37 10 rfl zo37 zzf0_89 X k32 (by decide) (by decide) rfl (fun (a35 : Nat) h34 k36 => ?_)
        have g37 := X.1.p2 k36
        refine z_xra zt37 11 rfl zzr37 ?_
        show z_ev (d + 4) 130 5 [some (.ref 4), some (.int p2), some (.int p3), none] [.ref a35] M0 _
        refine z_xP zt130 2 10 [some (.ref 4), some (.int p2), some (.int p3), some (.ref a35)] [] rfl rfl ?_
        refine z_xP zt130 3 12 [some (.ref 4), some (.int p2), some (.int p3), some (.ref a35)] [.int 1, .int p3] rfl rfl ?_
        refine z_xJ zt130 4 rfl rfl (fun (h38 : p3.toInt < 1) => ?_) (fun (h38 : 1 ≤ p3.toInt) => ?_)
        · skip
          refine z_xP zt130 7 21 [some (.ref 4), some (.int p2), some (.int p3), some (.ref a35)] [.int (-1)] rfl rfl ?_
          refine z_xri zt130 8 rfl zzr130 ?_
          show z_ev (d + 5) 129 31 [some (.ref 4), some (.int p1), some (.int p2), some (.int p3), some (.int p4), some (.ref a8), none] [.int (-1)] M0 _
          refine z_xP zt129 11 35 [some (.ref 4), some (.int p1), some (.int p2), some (.int p3), some (.int p4), some (.ref a8), some (.int (-1))] [.int (-1)] rfl rfl ?_
          refine z_xZ zt129 12 rfl rfl (fun (h39 : ((-1) : Int) = 0) => absurd h39 (by omega)) (fun (h39 : ((-1) : Int) ≠ 0) => ?_)
          refine z_xP zt129 13 40 [some (.ref 4), some (.int p1), some (.int p2), some (.int p3), some (.int p4), some (.ref a8), some (.int (-1))] [.int (-1)] rfl rfl ?_
          have qm1 : (((-1) : Int32)).toInt = (-1) := rfl
          exact z_xri zt129 14 rfl zzr129 (kk (-1) M0 X (by omega) (by omega))
        refine z_xP zt130 5 17 [some (.ref 4), some (.int p2), some (.int p3), some (.ref a35)] [.int 3, .int p3] rfl rfl ?_
        refine z_xJ zt130 6 rfl rfl (fun (h40 : p3.toInt ≤ 3) => ?_) (fun (h40 : 3 < p3.toInt) => ?_)
        · skip
          refine z_xP zt130 9 23 [some (.ref 4), some (.int p2), some (.int p3), some (.ref a35)] [.ref a35] rfl rfl ?_
          refine z_xgR (κ := .inr (102, 0, m31, 0, 1023)) zt130 10 rfl zo130 zzf0_74 X k36 (by decide) (by decide) rfl (fun (a42 : Nat) h41 k43 => ?_)
          refine z_xln zt130 11 rfl X k43 (by decide) (by omega) (fun (x44 : Int32) (h45 : x44.toInt = ((m31 : Nat) : Int)) => ?_)
          refine z_xP zt130 12 29 [some (.ref 4), some (.int p2), some (.int p3), some (.ref a35)] [.int 6, .int x44] rfl rfl ?_
          refine z_xJ zt130 13 rfl rfl (fun (h46 : x44.toInt ≤ 6) => ?_) (fun (h46 : 6 < x44.toInt) => ?_)
          · skip
            refine z_xP zt130 15 38 [some (.ref 4), some (.int p2), some (.int p3), some (.ref a35)] [.int 0] rfl rfl ?_
            refine z_xri zt130 16 rfl zzr130 ?_
            show z_ev (d + 5) 129 31 [some (.ref 4), some (.int p1), some (.int p2), some (.int p3), some (.int p4), some (.ref a8), none] [.int 0] M0 _
            refine z_xP zt129 11 35 [some (.ref 4), some (.int p1), some (.int p2), some (.int p3), some (.int p4), some (.ref a8), some (.int 0)] [.int 0] rfl rfl ?_
            refine z_xZ zt129 12 rfl rfl (fun (h47 : (0 : Int) = 0) => ?_) (fun (h47 : (0 : Int) ≠ 0) => absurd h47 (by omega))
            refine z_xP zt129 15 44 [some (.ref 4), some (.int p1), some (.int p2), some (.int p3), some (.int p4), some (.ref a8), some (.int 0)] [.ref 4, .ref a8] rfl rfl ?_
            refine z_xgX (b := 11) zt129 16 rfl zo129 zzf0_22 X f4 (by decide) (by decide) rfl ?_
            refine z_xP zt129 17 48 [some (.ref 4), some (.int p1), some (.int p2), some (.int p3), some (.int p4), some (.ref a8), some (.int 0)] [.int p2, .ref 11, .ref a8] rfl rfl ?_
            have f11 : T[11]? = some (.inr (11, 2, 8, 5, 0)) := X.1.k rfl (by decide)
            refine z_xal zt129 18 rfl X f11 (by decide) (by decide) (by decide) (by omega) (by omega) (fun (a48 : Nat) h49 h50 => ?_) (fun h51 => absurd h51 (z_Gt (hG.go X (by decide)).2.1 h19 (by omega) (by omega)))
            obtain ⟨q52, t53, m54, k55⟩ : ∃ q t m, T[a48]? = some (.inl (3, q, t, m, 5)) := h50
            have g56 := X.1.p3 k55
            have h57 := z_Gm (hG.go X (by decide)).2.2 X.1 (z_cll (n := 8) (by omega) (by decide)) h26 h49 k32 k55
            refine z_xP zt129 19 51 [some (.ref 4), some (.int p1), some (.int p2), some (.int p3), some (.int p4), some (.ref a8), some (.int 0)] [.ref 4, .int p3, .ref a48, .ref a8] rfl rfl ?_
            refine z_xgX (b := 18) zt129 20 rfl zo129 zzf0_48 X f4 (by decide) (by decide) rfl ?_
            refine z_xcV (vs := [.ref a8, .ref a48, .int p3, .ref 18]) (r := []) (L2 := [some (.ref a8), some (.ref a48), some (.int p3), some (.ref 18), none, none]) zt129 21 rfl zo129 zzcV0_277 (Or.inr rfl) rfl X k14 (z_w8 (fun c => (([(4, 131), (10, 131), (7, 131), (5, 131), (11, 131), (8, 131), (6, 131), (9, 131)] : List (Nat × Nat)).find? fun t => t.1 == c) = some (c, 131)) rfl rfl rfl rfl rfl rfl rfl rfl w13) rfl rfl (Nat.le_of_ble_eq_true rfl) zzm131 (Nat.le_of_ble_eq_true rfl) rfl ?_
            obtain ⟨x58, h59, h60, h61⟩ := z_W.fi X.1 k55 (k := 4) (lo := 0) (hi := (5 : Int)) (by decide) rfl
            refine zC131 X.1 w13 k14 k55 (by omega) h59 ⟨by omega, by omega⟩ (fun M62 X63 z64 h65 h66 => ?_)
            have X67 := X.go X63 (z_sb (by decide))
            show z_ev (d + 5) 129 57 [some (.ref 4), some (.int p1), some (.int p2), some (.int p3), some (.int p4), some (.ref a8), some (.int 0)] [] M62 _
            refine z_xP zt129 22 58 [some (.ref 4), some (.int p1), some (.int p2), some (.int p3), some (.int p4), some (.ref a8), some (.int 0)] [.ref 4] rfl rfl ?_
            refine z_xgX (b := 11) zt129 23 rfl zo129 zzf0_22 X67 f4 (by decide) (by decide) rfl ?_
            refine z_xP zt129 24 62 [some (.ref 4), some (.int p1), some (.int p2), some (.int p3), some (.int p4), some (.ref a8), some (.int 0)] [.int p2, .ref 11] rfl rfl ?_
            refine z_xalv zt129 25 rfl X67 f11 (by decide) (by decide) (by decide) (by omega) (by omega) ((congrFun (X63.2.o f11 (by decide)) _).trans h49) ?_
            refine z_xP zt129 26 66 [some (.ref 4), some (.int p1), some (.int p2), some (.int p3), some (.int p4), some (.ref a8), some (.int 0)] [.ref 4, .int p4, .ref a48] rfl rfl ?_
            refine z_xgX (b := 18) zt129 27 rfl zo129 zzf0_48 X67 f4 (by decide) (by decide) rfl ?_
            refine z_xcV (vs := [.ref a48, .int p4, .ref 18]) (r := []) (L2 := [some (.ref a48), some (.int p4), some (.ref 18), none]) zt129 28 rfl zo129 zzcV0_281 (Or.inl rfl) rfl X67 k55 rfl rfl rfl (Nat.le_of_ble_eq_true rfl) zzm136 (Nat.le_of_ble_eq_true rfl) rfl ?_
            refine z_xP zt136 0 1 [some (.ref a48), some (.int p4), some (.ref 18), none] [.ref a48] rfl rfl ?_
            refine z_xcV (vs := [.ref a48]) (r := []) (L2 := [some (.ref a48), none, none]) zt136 1 rfl zo136 zzcV3_164 (Or.inl rfl) rfl X67 k55 rfl rfl rfl (Nat.le_of_ble_eq_true rfl) zzm132 (Nat.le_of_ble_eq_true rfl) rfl ?_
            refine zC132 X67.1 k55 h65 ⟨by omega, by omega⟩ (fun x74 M69 X70 z71 h72 h73 => ?_)
            have X75 := X67.go X70 (z_sb (by decide))
            show z_ev (d + 4) 136 4 [some (.ref a48), some (.int p4), some (.ref 18), none] [.int x74] M69 _
            refine z_xP zt136 2 5 [some (.ref a48), some (.int p4), some (.ref 18), none] [.ref 18, .int x74] rfl rfl ?_
            have f18 : T[18]? = some (.inr (18, 0, 216, (-2147483648), 2147483647)) := X75.1.k rfl (by decide)
            refine z_xln zt136 3 rfl X75 f18 (by decide) (by decide) (fun (x77 : Int32) (h78 : x77.toInt = ((216 : Nat) : Int)) => ?_)
            refine z_xmn zt136 4 rfl zo136 zzcS3_78 (Nat.le_of_ble_eq_true rfl) (fun (x79 : Int32) h80 => ?_)
            refine z_xP zt136 5 11 [some (.ref a48), some (.int p4), some (.ref 18), some (.int x79)] [.int p4] rfl rfl ?_
            by_cases h81 : p4.toInt = 0
            · refine z_xSC zt136 6 (z_sub (k := 0) h81 rfl) 40 rfl rfl ?_
              refine z_xP zt136 7 43 [some (.ref a48), some (.int p4), some (.ref 18), some (.int x79)] [.int x79, .ref 18, .ref a48] rfl rfl ?_
              refine z_xcV (vs := [.ref a48, .ref 18, .int x79]) (r := []) (L2 := [some (.ref a48), some (.ref 18), some (.int x79), none]) zt136 8 rfl zo136 zzcV3_167 (Or.inl rfl) rfl X75 k55 rfl rfl rfl (Nat.le_of_ble_eq_true rfl) zzm137 (Nat.le_of_ble_eq_true rfl) rfl ?_
              have h82 := z_b32 x79
              have h83 := (X70.2.f k55 (by decide) h65)
              refine zC137 X75.1 k55 (by omega) h83 ⟨by omega, by omega⟩ (by omega) (fun x89 M84 X85 h90 h91 z86 h87 h88 => ?_)
              have X92 := X75.go X85 (z_sb (by decide))
              show z_ev (d + 4) 136 46 [some (.ref a48), some (.int p4), some (.ref 18), some (.int x79)] [.int x89] M84 _
              refine z_xri zt136 9 rfl zzr136 ?_
              show z_ev (d + 5) 129 72 [some (.ref 4), some (.int p1), some (.int p2), some (.int p3), some (.int p4), some (.ref a8), some (.int 0)] [.int x89] M84 _
              exact z_xri zt129 29 rfl zzr129 (kk x89 M84 X92 (by omega) (by omega))
            by_cases h94 : p4.toInt = 1
            · refine z_xSC zt136 6 (z_sub (k := 1) h94 rfl) 47 rfl rfl ?_
              refine z_xP zt136 10 50 [some (.ref a48), some (.int p4), some (.ref 18), some (.int x79)] [.int x79, .ref 18, .ref a48] rfl rfl ?_
              refine z_xcV (vs := [.ref a48, .ref 18, .int x79]) (r := []) (L2 := [some (.ref a48), some (.ref 18), some (.int x79), none, none, none, none]) zt136 11 rfl zo136 zzcV3_171 (Or.inl rfl) rfl X75 k55 rfl rfl rfl (Nat.le_of_ble_eq_true rfl) zzm139 (Nat.le_of_ble_eq_true rfl) rfl ?_
              have h95 := z_b32 x79
              have h96 := (X70.2.f k55 (by decide) h65)
              refine zC139 X75.1 k55 (by omega) h96 ⟨by omega, by omega⟩ (by omega) (fun x102 M97 X98 h103 h104 z99 h100 h101 => ?_)
              have X105 := X75.go X98 (z_sb (by decide))
              show z_ev (d + 4) 136 53 [some (.ref a48), some (.int p4), some (.ref 18), some (.int x79)] [.int x102] M97 _
              refine z_xri zt136 12 rfl zzr136 ?_
              show z_ev (d + 5) 129 72 [some (.ref 4), some (.int p1), some (.int p2), some (.int p3), some (.int p4), some (.ref a8), some (.int 0)] [.int x102] M97 _
              exact z_xri zt129 29 rfl zzr129 (kk x102 M97 X105 (by omega) (by omega))
            by_cases h107 : p4.toInt = 2
            · refine z_xSC zt136 6 (z_sub (k := 2) h107 rfl) 54 rfl rfl ?_
              refine z_xP zt136 13 57 [some (.ref a48), some (.int p4), some (.ref 18), some (.int x79)] [.int x79, .ref 18, .ref a48] rfl rfl ?_
              refine z_xcV (vs := [.ref a48, .ref 18, .int x79]) (r := []) (L2 := [some (.ref a48), some (.ref 18), some (.int x79), none, none, none, none]) zt136 14 rfl zo136 zzcV3_174 (Or.inl rfl) rfl X75 k55 rfl rfl rfl (Nat.le_of_ble_eq_true rfl) zzm141 (Nat.le_of_ble_eq_true rfl) rfl ?_
              have h108 := z_b32 x79
              have h109 := (X70.2.f k55 (by decide) h65)
              refine zC141 X75.1 k55 (by omega) h109 ⟨by omega, by omega⟩ (by omega) (fun x115 M110 X111 h116 h117 z112 h113 h114 => ?_)
              have X118 := X75.go X111 (z_sb (by decide))
              show z_ev (d + 4) 136 60 [some (.ref a48), some (.int p4), some (.ref 18), some (.int x79)] [.int x115] M110 _
              refine z_xri zt136 15 rfl zzr136 ?_
              show z_ev (d + 5) 129 72 [some (.ref 4), some (.int p1), some (.int p2), some (.int p3), some (.int p4), some (.ref a8), some (.int 0)] [.int x115] M110 _
              exact z_xri zt129 29 rfl zzr129 (kk x115 M110 X118 (by omega) (by omega))
            by_cases h120 : p4.toInt = 3
            · refine z_xSC zt136 6 (z_sub (k := 3) h120 rfl) 61 rfl rfl ?_
              refine z_xP zt136 16 64 [some (.ref a48), some (.int p4), some (.ref 18), some (.int x79)] [.int x79, .ref 18, .ref a48] rfl rfl ?_
              refine z_xcV (vs := [.ref a48, .ref 18, .int x79]) (r := []) (L2 := [some (.ref a48), some (.ref 18), some (.int x79), none]) zt136 17 rfl zo136 zzcV3_177 (Or.inl rfl) rfl X75 k55 rfl rfl rfl (Nat.le_of_ble_eq_true rfl) zzm142 (Nat.le_of_ble_eq_true rfl) rfl ?_
              have h121 := z_b32 x79
              have h122 := (X70.2.f k55 (by decide) h65)
              refine zC142 X75.1 k55 (by omega) h122 ⟨by omega, by omega⟩ (by omega) (fun x128 M123 X124 h129 h130 z125 h126 h127 => ?_)
              have X131 := X75.go X124 (z_sb (by decide))
              show z_ev (d + 4) 136 67 [some (.ref a48), some (.int p4), some (.ref 18), some (.int x79)] [.int x128] M123 _
              refine z_xri zt136 18 rfl zzr136 ?_
              show z_ev (d + 5) 129 72 [some (.ref 4), some (.int p1), some (.int p2), some (.int p3), some (.int p4), some (.ref a8), some (.int 0)] [.int x128] M123 _
              exact z_xri zt129 29 rfl zzr129 (kk x128 M123 X131 (by omega) (by omega))
            refine z_xSD zt136 6 rfl rfl (by omega) ?_
            refine z_xP zt136 19 71 [some (.ref a48), some (.int p4), some (.ref 18), some (.int x79)] [.int x79, .ref 18, .ref a48] rfl rfl ?_
            refine z_xcV (vs := [.ref a48, .ref 18, .int x79]) (r := []) (L2 := [some (.ref a48), some (.ref 18), some (.int x79), none, none, none]) zt136 20 rfl zo136 zzcV3_180 (Or.inl rfl) rfl X75 k55 rfl rfl rfl (Nat.le_of_ble_eq_true rfl) zzm143 (Nat.le_of_ble_eq_true rfl) rfl ?_
            have h133 := z_b32 x79
            have h134 := (X70.2.f k55 (by decide) h65)
            refine zC143 X75.1 k55 (by omega) h134 ⟨by omega, by omega⟩ (by omega) (fun x140 M135 X136 h141 h142 z137 h138 h139 => ?_)
            have X143 := X75.go X136 (z_sb (by decide))
            show z_ev (d + 4) 136 74 [some (.ref a48), some (.int p4), some (.ref 18), some (.int x79)] [.int x140] M135 _
            refine z_xri zt136 21 rfl zzr136 ?_
            show z_ev (d + 5) 129 72 [some (.ref 4), some (.int p1), some (.int p2), some (.int p3), some (.int p4), some (.ref a8), some (.int 0)] [.int x140] M135 _
            exact z_xri zt129 29 rfl zzr129 (kk x140 M135 X143 (by omega) (by omega))
          refine z_xP zt130 14 38 [some (.ref 4), some (.int p2), some (.int p3), some (.ref a35)] [.int (-4)] rfl rfl ?_
          refine z_xri zt130 16 rfl zzr130 ?_
          show z_ev (d + 5) 129 31 [some (.ref 4), some (.int p1), some (.int p2), some (.int p3), some (.int p4), some (.ref a8), none] [.int (-4)] M0 _
          refine z_xP zt129 11 35 [some (.ref 4), some (.int p1), some (.int p2), some (.int p3), some (.int p4), some (.ref a8), some (.int (-4))] [.int (-4)] rfl rfl ?_
          refine z_xZ zt129 12 rfl rfl (fun (h145 : ((-4) : Int) = 0) => absurd h145 (by omega)) (fun (h145 : ((-4) : Int) ≠ 0) => ?_)
          refine z_xP zt129 13 40 [some (.ref 4), some (.int p1), some (.int p2), some (.int p3), some (.int p4), some (.ref a8), some (.int (-4))] [.int (-4)] rfl rfl ?_
          have qm4 : (((-4) : Int32)).toInt = (-4) := rfl
          exact z_xri zt129 14 rfl zzr129 (kk (-4) M0 X (by omega) (by omega))
        refine z_xP zt130 7 21 [some (.ref 4), some (.int p2), some (.int p3), some (.ref a35)] [.int (-1)] rfl rfl ?_
        refine z_xri zt130 8 rfl zzr130 ?_
        show z_ev (d + 5) 129 31 [some (.ref 4), some (.int p1), some (.int p2), some (.int p3), some (.int p4), some (.ref a8), none] [.int (-1)] M0 _
        refine z_xP zt129 11 35 [some (.ref 4), some (.int p1), some (.int p2), some (.int p3), some (.int p4), some (.ref a8), some (.int (-1))] [.int (-1)] rfl rfl ?_
        refine z_xZ zt129 12 rfl rfl (fun (h146 : ((-1) : Int) = 0) => absurd h146 (by omega)) (fun (h146 : ((-1) : Int) ≠ 0) => ?_)
        refine z_xP zt129 13 40 [some (.ref 4), some (.int p1), some (.int p2), some (.int p3), some (.int p4), some (.ref a8), some (.int (-1))] [.int (-1)] rfl rfl ?_
        have qm1 : (((-1) : Int32)).toInt = (-1) := rfl
        exact z_xri zt129 14 rfl zzr129 (kk (-1) M0 X (by omega) (by omega))
      refine z_xP zt37 5 25 [some (.ref 4), some (.int p2)] [.null] rfl rfl ?_
      refine z_xrn zt37 11 rfl zzr37 ?_
      show z_ev (d + 4) 130 5 [some (.ref 4), some (.int p2), some (.int p3), none] [.null] M0 _
      refine z_xP zt130 2 20 [some (.ref 4), some (.int p2), some (.int p3), some (.null)] [] rfl rfl ?_
      refine z_xP zt130 7 21 [some (.ref 4), some (.int p2), some (.int p3), some (.null)] [.int (-1)] rfl rfl ?_
      refine z_xri zt130 8 rfl zzr130 ?_
      show z_ev (d + 5) 129 31 [some (.ref 4), some (.int p1), some (.int p2), some (.int p3), some (.int p4), some (.ref a8), none] [.int (-1)] M0 _
      refine z_xP zt129 11 35 [some (.ref 4), some (.int p1), some (.int p2), some (.int p3), some (.int p4), some (.ref a8), some (.int (-1))] [.int (-1)] rfl rfl ?_
      refine z_xZ zt129 12 rfl rfl (fun (h147 : ((-1) : Int) = 0) => absurd h147 (by omega)) (fun (h147 : ((-1) : Int) ≠ 0) => ?_)
      refine z_xP zt129 13 40 [some (.ref 4), some (.int p1), some (.int p2), some (.int p3), some (.int p4), some (.ref a8), some (.int (-1))] [.int (-1)] rfl rfl ?_
      have qm1 : (((-1) : Int32)).toInt = (-1) := rfl
      exact z_xri zt129 14 rfl zzr129 (kk (-1) M0 X (by omega) (by omega))
    refine z_xP zt129 7 24 [some (.ref 4), some (.int p1), some (.int p2), some (.int p3), some (.int p4), some (.ref a8), none] [.int (-1)] rfl rfl ?_
    have qm1 : (((-1) : Int32)).toInt = (-1) := rfl
    exact z_xri zt129 8 rfl zzr129 (kk (-1) M0 X (by omega) (by omega))
  refine z_xP zt84 5 22 [some (.ref 4), some (.int p1)] [.null] rfl rfl ?_
  refine z_xrn zt84 10 rfl zzr84 ?_
  show z_ev (d + 5) 129 5 [some (.ref 4), some (.int p1), some (.int p2), some (.int p3), some (.int p4), none, none] [.null] M0 _
  refine z_xP zt129 2 23 [some (.ref 4), some (.int p1), some (.int p2), some (.int p3), some (.int p4), some (.null), none] [] rfl rfl ?_
  refine z_xP zt129 7 24 [some (.ref 4), some (.int p1), some (.int p2), some (.int p3), some (.int p4), some (.null), none] [.int (-1)] rfl rfl ?_
  have qm1 : (((-1) : Int32)).toInt = (-1) := rfl
  exact z_xri zt129 8 rfl zzr129 (kk (-1) M0 X (by omega) (by omega))
def zw145 : List Nat := [210, 211]
theorem zB145 {T : List zK} {d : Nat} {K : Option Value → zH → Prop} {a0 : Nat} {q : Nat} {t : Nat} {m : Nat} {p1 : Int32} {zp0 : Int32} {M0 : zH} (k0 : T[a0]? = some (.inl (3, q, t, m, 5))) (u1 : 1 ≤ p1.toInt ∧ p1.toInt ≤ 31) (hz0 : z_F M0 a0 4 = some (.int zp0)) (bz0 : 0 ≤ zp0.toInt ∧ zp0.toInt ≤ 3) (hb0 : m ≤ 6) (kk : ∀ (x : Int32) (M1 : zH), z_X T zw145 M0 M1 → 0 ≤ x.toInt → x.toInt ≤ 1 → ∀ (w0 : Int32), z_F M1 a0 4 = some (.int w0) → 0 ≤ w0.toInt ∧ w0.toInt ≤ 3 → K (some (.int x)) M1) : ∀ n : Nat, (∀ (M : zH) (b3 : Int32) (z0 : Int32), z_X T zw145 M0 M → 0 ≤ b3.toInt ∧ b3.toInt ≤ 5 → z_F M a0 4 = some (.int z0) → 0 ≤ z0.toInt ∧ z0.toInt ≤ 3 → ((0) * 2 + 0) * 6 + (5 - b3.toInt) < (n : Int) → z_ev (d + 5) 145 2 [some (.ref a0), some (.int p1), some (.ref 18), some (.int b3)] [] M K) := by
  intro n
  induction n with
  | zero => exact by intros; exfalso; omega
  | succ n ih =>
    intro M b3 z0 X hh0 hp0 hh2 hE
    have g0 := X.1.p3 k0
    refine z_xP zt145 1 4 [some (.ref a0), some (.int p1), some (.ref 18), some (.int b3)] [.int 5, .int b3] rfl rfl ?_
    refine z_xJ zt145 2 rfl rfl (fun (h1 : 5 ≤ b3.toInt) => ?_) (fun (h1 : b3.toInt < 5) => ?_)
    · skip
      refine z_xP zt145 16 35 [some (.ref a0), some (.int p1), some (.ref 18), some (.int b3)] [.int 1] rfl rfl ?_
      have q1 : ((1 : Int32)).toInt = 1 := rfl
      exact z_xrz zt145 17 rfl zzr145 (by decide) (by decide) (kk 1 M X (by omega) (by omega) z0 hp0 ⟨by omega, by omega⟩)
    refine z_xP zt145 3 9 [some (.ref a0), some (.int p1), some (.ref 18), some (.int b3)] [.int b3, .int p1] rfl rfl ?_
    refine z_xI zt145 4 rfl rfl (fun (x2 : Int32) (h3 : 0 ≤ x2.toInt ∧ x2.toInt ≤ p1.toInt) => ?_) (z_pShrN rfl (by omega))
    refine z_xP zt145 5 11 [some (.ref a0), some (.int p1), some (.ref 18), some (.int b3)] [.int 1, .int x2] rfl rfl ?_
    refine z_xI zt145 6 rfl rfl (fun (x4 : Int32) (h5 : 0 ≤ x4.toInt ∧ x4.toInt ≤ x2.toInt ∧ x4.toInt ≤ 1) => ?_) (z_pAnd2 rfl rfl (by omega) (by omega))
    refine z_xZ zt145 7 rfl rfl (fun (h6 : x4.toInt = 0) => ?_) (fun (h6 : x4.toInt ≠ 0) => ?_)
    · skip
      refine z_xN zt145 14 rfl rfl (fun (x7 : Int32) (h8 : x7.toInt = b3.toInt + 1) => ?_) (z_pAdd rfl rfl (by omega) (by omega))
      show z_ev (d + 5) 145 31 [some (.ref a0), some (.int p1), some (.ref 18), some (.int x7)] [] M _
      refine z_xP zt145 15 2 [some (.ref a0), some (.int p1), some (.ref 18), some (.int x7)] [] rfl rfl ?_
      exact ih M x7 z0 X ⟨by omega, by omega⟩ hp0 ⟨by omega, by omega⟩ (by omega)
    refine z_xP zt145 8 18 [some (.ref a0), some (.int p1), some (.ref 18), some (.int b3)] [.ref 18, .int b3, .ref a0] rfl rfl ?_
    refine z_xcV (vs := [.ref a0, .int b3, .ref 18]) (r := []) (L2 := [some (.ref a0), some (.int b3), some (.ref 18), none]) zt145 9 rfl zo145 zzcV3_160 (Or.inl rfl) rfl X k0 rfl rfl rfl (Nat.le_of_ble_eq_true rfl) zzm136 (Nat.le_of_ble_eq_true rfl) rfl ?_
    refine z_xP zt136 0 1 [some (.ref a0), some (.int b3), some (.ref 18), none] [.ref a0] rfl rfl ?_
    refine z_xcV (vs := [.ref a0]) (r := []) (L2 := [some (.ref a0), none, none]) zt136 1 rfl zo136 zzcV3_164 (Or.inl rfl) rfl X k0 rfl rfl rfl (Nat.le_of_ble_eq_true rfl) zzm132 (Nat.le_of_ble_eq_true rfl) rfl ?_
    refine zC132 X.1 k0 hp0 ⟨by omega, by omega⟩ (fun x14 M9 X10 z11 h12 h13 => ?_)
    have X15 := X.go X10 (z_sb (by decide))
    show z_ev (d + 4) 136 4 [some (.ref a0), some (.int b3), some (.ref 18), none] [.int x14] M9 _
    refine z_xP zt136 2 5 [some (.ref a0), some (.int b3), some (.ref 18), none] [.ref 18, .int x14] rfl rfl ?_
    have f18 : T[18]? = some (.inr (18, 0, 216, (-2147483648), 2147483647)) := X15.1.k rfl (by decide)
    refine z_xln zt136 3 rfl X15 f18 (by decide) (by decide) (fun (x17 : Int32) (h18 : x17.toInt = ((216 : Nat) : Int)) => ?_)
    refine z_xmn zt136 4 rfl zo136 zzcS3_78 (Nat.le_of_ble_eq_true rfl) (fun (x19 : Int32) h20 => ?_)
    refine z_xP zt136 5 11 [some (.ref a0), some (.int b3), some (.ref 18), some (.int x19)] [.int b3] rfl rfl ?_
    by_cases h21 : b3.toInt = 0
    · refine z_xSC zt136 6 (z_sub (k := 0) h21 rfl) 40 rfl rfl ?_
      refine z_xP zt136 7 43 [some (.ref a0), some (.int b3), some (.ref 18), some (.int x19)] [.int x19, .ref 18, .ref a0] rfl rfl ?_
      refine z_xcV (vs := [.ref a0, .ref 18, .int x19]) (r := []) (L2 := [some (.ref a0), some (.ref 18), some (.int x19), none]) zt136 8 rfl zo136 zzcV3_167 (Or.inl rfl) rfl X15 k0 rfl rfl rfl (Nat.le_of_ble_eq_true rfl) zzm137 (Nat.le_of_ble_eq_true rfl) rfl ?_
      have h22 := z_b32 x19
      have h23 := (X10.2.f k0 (by decide) hp0)
      refine zC137 X15.1 k0 (by omega) h23 ⟨by omega, by omega⟩ (by omega) (fun x29 M24 X25 h30 h31 z26 h27 h28 => ?_)
      have X32 := X15.go X25 (z_sb (by decide))
      show z_ev (d + 4) 136 46 [some (.ref a0), some (.int b3), some (.ref 18), some (.int x19)] [.int x29] M24 _
      refine z_xri zt136 9 rfl zzr136 ?_
      show z_ev (d + 5) 145 21 [some (.ref a0), some (.int p1), some (.ref 18), some (.int b3)] [.int x29] M24 _
      refine z_xP zt145 10 23 [some (.ref a0), some (.int p1), some (.ref 18), some (.int b3)] [.int (-2), .int x29] rfl rfl ?_
      refine z_xJ zt145 11 rfl rfl (fun (h34 : x29.toInt = (-2)) => ?_) (fun (h34 : x29.toInt ≠ (-2)) => ?_)
      · skip
        refine z_xN zt145 14 rfl rfl (fun (x35 : Int32) (h36 : x35.toInt = b3.toInt + 1) => ?_) (z_pAdd rfl rfl (by omega) (by omega))
        show z_ev (d + 5) 145 31 [some (.ref a0), some (.int p1), some (.ref 18), some (.int x35)] [] M24 _
        refine z_xP zt145 15 2 [some (.ref a0), some (.int p1), some (.ref 18), some (.int x35)] [] rfl rfl ?_
        have h37 := (X25.2.f k0 (by decide) h23)
        exact ih M24 x35 z0 X32 ⟨by omega, by omega⟩ h37 ⟨by omega, by omega⟩ (by omega)
      refine z_xP zt145 12 27 [some (.ref a0), some (.int p1), some (.ref 18), some (.int b3)] [.int 0] rfl rfl ?_
      have h38 := (X25.2.f k0 (by decide) h23)
      have q0 : ((0 : Int32)).toInt = 0 := rfl
      exact z_xrz zt145 13 rfl zzr145 (by decide) (by decide) (kk 0 M24 X32 (by omega) (by omega) z0 h38 ⟨by omega, by omega⟩)
    by_cases h39 : b3.toInt = 1
    · refine z_xSC zt136 6 (z_sub (k := 1) h39 rfl) 47 rfl rfl ?_
      refine z_xP zt136 10 50 [some (.ref a0), some (.int b3), some (.ref 18), some (.int x19)] [.int x19, .ref 18, .ref a0] rfl rfl ?_
      refine z_xcV (vs := [.ref a0, .ref 18, .int x19]) (r := []) (L2 := [some (.ref a0), some (.ref 18), some (.int x19), none, none, none, none]) zt136 11 rfl zo136 zzcV3_171 (Or.inl rfl) rfl X15 k0 rfl rfl rfl (Nat.le_of_ble_eq_true rfl) zzm139 (Nat.le_of_ble_eq_true rfl) rfl ?_
      have h40 := z_b32 x19
      have h41 := (X10.2.f k0 (by decide) hp0)
      refine zC139 X15.1 k0 (by omega) h41 ⟨by omega, by omega⟩ (by omega) (fun x47 M42 X43 h48 h49 z44 h45 h46 => ?_)
      have X50 := X15.go X43 (z_sb (by decide))
      show z_ev (d + 4) 136 53 [some (.ref a0), some (.int b3), some (.ref 18), some (.int x19)] [.int x47] M42 _
      refine z_xri zt136 12 rfl zzr136 ?_
      show z_ev (d + 5) 145 21 [some (.ref a0), some (.int p1), some (.ref 18), some (.int b3)] [.int x47] M42 _
      refine z_xP zt145 10 23 [some (.ref a0), some (.int p1), some (.ref 18), some (.int b3)] [.int (-2), .int x47] rfl rfl ?_
      refine z_xJ zt145 11 rfl rfl (fun (h52 : x47.toInt = (-2)) => ?_) (fun (h52 : x47.toInt ≠ (-2)) => ?_)
      · skip
        refine z_xN zt145 14 rfl rfl (fun (x53 : Int32) (h54 : x53.toInt = b3.toInt + 1) => ?_) (z_pAdd rfl rfl (by omega) (by omega))
        show z_ev (d + 5) 145 31 [some (.ref a0), some (.int p1), some (.ref 18), some (.int x53)] [] M42 _
        refine z_xP zt145 15 2 [some (.ref a0), some (.int p1), some (.ref 18), some (.int x53)] [] rfl rfl ?_
        have h55 := (X43.2.f k0 (by decide) h41)
        exact ih M42 x53 z0 X50 ⟨by omega, by omega⟩ h55 ⟨by omega, by omega⟩ (by omega)
      refine z_xP zt145 12 27 [some (.ref a0), some (.int p1), some (.ref 18), some (.int b3)] [.int 0] rfl rfl ?_
      have h56 := (X43.2.f k0 (by decide) h41)
      have q0 : ((0 : Int32)).toInt = 0 := rfl
      exact z_xrz zt145 13 rfl zzr145 (by decide) (by decide) (kk 0 M42 X50 (by omega) (by omega) z0 h56 ⟨by omega, by omega⟩)
    by_cases h57 : b3.toInt = 2
    · refine z_xSC zt136 6 (z_sub (k := 2) h57 rfl) 54 rfl rfl ?_
      refine z_xP zt136 13 57 [some (.ref a0), some (.int b3), some (.ref 18), some (.int x19)] [.int x19, .ref 18, .ref a0] rfl rfl ?_
      refine z_xcV (vs := [.ref a0, .ref 18, .int x19]) (r := []) (L2 := [some (.ref a0), some (.ref 18), some (.int x19), none, none, none, none]) zt136 14 rfl zo136 zzcV3_174 (Or.inl rfl) rfl X15 k0 rfl rfl rfl (Nat.le_of_ble_eq_true rfl) zzm141 (Nat.le_of_ble_eq_true rfl) rfl ?_
      have h58 := z_b32 x19
      have h59 := (X10.2.f k0 (by decide) hp0)
      refine zC141 X15.1 k0 (by omega) h59 ⟨by omega, by omega⟩ (by omega) (fun x65 M60 X61 h66 h67 z62 h63 h64 => ?_)
      have X68 := X15.go X61 (z_sb (by decide))
      show z_ev (d + 4) 136 60 [some (.ref a0), some (.int b3), some (.ref 18), some (.int x19)] [.int x65] M60 _
      refine z_xri zt136 15 rfl zzr136 ?_
      show z_ev (d + 5) 145 21 [some (.ref a0), some (.int p1), some (.ref 18), some (.int b3)] [.int x65] M60 _
      refine z_xP zt145 10 23 [some (.ref a0), some (.int p1), some (.ref 18), some (.int b3)] [.int (-2), .int x65] rfl rfl ?_
      refine z_xJ zt145 11 rfl rfl (fun (h70 : x65.toInt = (-2)) => ?_) (fun (h70 : x65.toInt ≠ (-2)) => ?_)
      · skip
        refine z_xN zt145 14 rfl rfl (fun (x71 : Int32) (h72 : x71.toInt = b3.toInt + 1) => ?_) (z_pAdd rfl rfl (by omega) (by omega))
        show z_ev (d + 5) 145 31 [some (.ref a0), some (.int p1), some (.ref 18), some (.int x71)] [] M60 _
        refine z_xP zt145 15 2 [some (.ref a0), some (.int p1), some (.ref 18), some (.int x71)] [] rfl rfl ?_
        have h73 := (X61.2.f k0 (by decide) h59)
        exact ih M60 x71 z0 X68 ⟨by omega, by omega⟩ h73 ⟨by omega, by omega⟩ (by omega)
      refine z_xP zt145 12 27 [some (.ref a0), some (.int p1), some (.ref 18), some (.int b3)] [.int 0] rfl rfl ?_
      have h74 := (X61.2.f k0 (by decide) h59)
      have q0 : ((0 : Int32)).toInt = 0 := rfl
      exact z_xrz zt145 13 rfl zzr145 (by decide) (by decide) (kk 0 M60 X68 (by omega) (by omega) z0 h74 ⟨by omega, by omega⟩)
    by_cases h75 : b3.toInt = 3
    · refine z_xSC zt136 6 (z_sub (k := 3) h75 rfl) 61 rfl rfl ?_
      refine z_xP zt136 16 64 [some (.ref a0), some (.int b3), some (.ref 18), some (.int x19)] [.int x19, .ref 18, .ref a0] rfl rfl ?_
      refine z_xcV (vs := [.ref a0, .ref 18, .int x19]) (r := []) (L2 := [some (.ref a0), some (.ref 18), some (.int x19), none]) zt136 17 rfl zo136 zzcV3_177 (Or.inl rfl) rfl X15 k0 rfl rfl rfl (Nat.le_of_ble_eq_true rfl) zzm142 (Nat.le_of_ble_eq_true rfl) rfl ?_
      have h76 := z_b32 x19
      have h77 := (X10.2.f k0 (by decide) hp0)
      refine zC142 X15.1 k0 (by omega) h77 ⟨by omega, by omega⟩ (by omega) (fun x83 M78 X79 h84 h85 z80 h81 h82 => ?_)
      have X86 := X15.go X79 (z_sb (by decide))
      show z_ev (d + 4) 136 67 [some (.ref a0), some (.int b3), some (.ref 18), some (.int x19)] [.int x83] M78 _
      refine z_xri zt136 18 rfl zzr136 ?_
      show z_ev (d + 5) 145 21 [some (.ref a0), some (.int p1), some (.ref 18), some (.int b3)] [.int x83] M78 _
      refine z_xP zt145 10 23 [some (.ref a0), some (.int p1), some (.ref 18), some (.int b3)] [.int (-2), .int x83] rfl rfl ?_
      refine z_xJ zt145 11 rfl rfl (fun (h88 : x83.toInt = (-2)) => ?_) (fun (h88 : x83.toInt ≠ (-2)) => ?_)
      · skip
        refine z_xN zt145 14 rfl rfl (fun (x89 : Int32) (h90 : x89.toInt = b3.toInt + 1) => ?_) (z_pAdd rfl rfl (by omega) (by omega))
        show z_ev (d + 5) 145 31 [some (.ref a0), some (.int p1), some (.ref 18), some (.int x89)] [] M78 _
        refine z_xP zt145 15 2 [some (.ref a0), some (.int p1), some (.ref 18), some (.int x89)] [] rfl rfl ?_
        have h91 := (X79.2.f k0 (by decide) h77)
        exact ih M78 x89 z0 X86 ⟨by omega, by omega⟩ h91 ⟨by omega, by omega⟩ (by omega)
      refine z_xP zt145 12 27 [some (.ref a0), some (.int p1), some (.ref 18), some (.int b3)] [.int 0] rfl rfl ?_
      have h92 := (X79.2.f k0 (by decide) h77)
      have q0 : ((0 : Int32)).toInt = 0 := rfl
      exact z_xrz zt145 13 rfl zzr145 (by decide) (by decide) (kk 0 M78 X86 (by omega) (by omega) z0 h92 ⟨by omega, by omega⟩)
    refine z_xSD zt136 6 rfl rfl (by omega) ?_
    refine z_xP zt136 19 71 [some (.ref a0), some (.int b3), some (.ref 18), some (.int x19)] [.int x19, .ref 18, .ref a0] rfl rfl ?_
    refine z_xcV (vs := [.ref a0, .ref 18, .int x19]) (r := []) (L2 := [some (.ref a0), some (.ref 18), some (.int x19), none, none, none]) zt136 20 rfl zo136 zzcV3_180 (Or.inl rfl) rfl X15 k0 rfl rfl rfl (Nat.le_of_ble_eq_true rfl) zzm143 (Nat.le_of_ble_eq_true rfl) rfl ?_
    have h93 := z_b32 x19
    have h94 := (X10.2.f k0 (by decide) hp0)
    refine zC143 X15.1 k0 (by omega) h94 ⟨by omega, by omega⟩ (by omega) (fun x100 M95 X96 h101 h102 z97 h98 h99 => ?_)
    have X103 := X15.go X96 (z_sb (by decide))
    show z_ev (d + 4) 136 74 [some (.ref a0), some (.int b3), some (.ref 18), some (.int x19)] [.int x100] M95 _
    refine z_xri zt136 21 rfl zzr136 ?_
    show z_ev (d + 5) 145 21 [some (.ref a0), some (.int p1), some (.ref 18), some (.int b3)] [.int x100] M95 _
    refine z_xP zt145 10 23 [some (.ref a0), some (.int p1), some (.ref 18), some (.int b3)] [.int (-2), .int x100] rfl rfl ?_
    refine z_xJ zt145 11 rfl rfl (fun (h105 : x100.toInt = (-2)) => ?_) (fun (h105 : x100.toInt ≠ (-2)) => ?_)
    · skip
      refine z_xN zt145 14 rfl rfl (fun (x106 : Int32) (h107 : x106.toInt = b3.toInt + 1) => ?_) (z_pAdd rfl rfl (by omega) (by omega))
      show z_ev (d + 5) 145 31 [some (.ref a0), some (.int p1), some (.ref 18), some (.int x106)] [] M95 _
      refine z_xP zt145 15 2 [some (.ref a0), some (.int p1), some (.ref 18), some (.int x106)] [] rfl rfl ?_
      have h108 := (X96.2.f k0 (by decide) h94)
      exact ih M95 x106 z0 X103 ⟨by omega, by omega⟩ h108 ⟨by omega, by omega⟩ (by omega)
    refine z_xP zt145 12 27 [some (.ref a0), some (.int p1), some (.ref 18), some (.int b3)] [.int 0] rfl rfl ?_
    have h109 := (X96.2.f k0 (by decide) h94)
    have q0 : ((0 : Int32)).toInt = 0 := rfl
    exact z_xrz zt145 13 rfl zzr145 (by decide) (by decide) (kk 0 M95 X103 (by omega) (by omega) z0 h109 ⟨by omega, by omega⟩)
theorem zC145 {T : List zK} {d : Nat} {K : Option Value → zH → Prop} {a0 : Nat} {q : Nat} {t : Nat} {m : Nat} {p1 : Int32} {zp0 : Int32} {M0 : zH} (hW : z_W M0 T) (k0 : T[a0]? = some (.inl (3, q, t, m, 5))) (u1 : 1 ≤ p1.toInt ∧ p1.toInt ≤ 31) (hz0 : z_F M0 a0 4 = some (.int zp0)) (bz0 : 0 ≤ zp0.toInt ∧ zp0.toInt ≤ 3) (hb0 : m ≤ 6) (kk : ∀ (x : Int32) (M1 : zH), z_X T zw145 M0 M1 → 0 ≤ x.toInt → x.toInt ≤ 1 → ∀ (w0 : Int32), z_F M1 a0 4 = some (.int w0) → 0 ≤ w0.toInt ∧ w0.toInt ≤ 3 → K (some (.int x)) M1) : z_ev (d + 5) 145 0 [some (.ref a0), some (.int p1), some (.ref 18), none] [] M0 K := by
  have X : z_X T zw145 M0 M0 := .refl hW
  have g0 := X.1.p3 k0
  refine z_xP zt145 0 2 [some (.ref a0), some (.int p1), some (.ref 18), some (.int 0)] [] rfl rfl ?_
  have q0 : ((0 : Int32)).toInt = 0 := rfl
  exact (zB145 k0 u1 hz0 bz0 hb0 kk 12) M0 (0) zp0 X (by decide) hz0 ⟨by omega, by omega⟩ (by omega)
def zw144 : List Nat := [18, 201, 202, 203, 205, 206, 207, 208, 209, 210, 211, 1304]
theorem zB144 {T : List zK} {d : Nat} {K : Option Value → zH → Prop} {p1 : Int32} {p2 : Int32} {p3 : Int32} {M0 : zH}  (hG : z_GG T M0) (kk : ∀ (x : Int32) (M1 : zH), z_X T zw144 M0 M1 → (-4) ≤ x.toInt → x.toInt ≤ 19 → K (some (.int x)) M1) (hx : ∀ (c q t m J : Nat), z_O M0 11 p1.toNatClampNeg = some c → T[c]? = some (.inl (3, q, t, m, J)) → m ≤ 6) : ∀ n : Nat, (∀ (M : zH) (b4 : Int32) (b5 : Int32) (z0 : Int32), z_X T zw144 M0 M → 0 ≤ p1.toInt ∧ p1.toInt ≤ 7 → 1 ≤ p2.toInt ∧ p2.toInt ≤ 3 → 1 ≤ p3.toInt ∧ p3.toInt ≤ 31 → 0 ≤ b4.toInt ∧ b4.toInt ≤ 0 → 0 ≤ b5.toInt ∧ b5.toInt ≤ 20 → z_F M 4 3 = some (.int z0) → 1 ≤ z0.toInt ∧ z0.toInt ≤ 8 → p1.toInt < z0.toInt → ((0) * 2 + 0) * 21 + (20 - b5.toInt) < (n : Int) → z_ev (d + 6) 144 32 [some (.ref 4), some (.int p1), some (.int p2), some (.int p3), some (.int b4), some (.int b5)] [] M K) := by
  intro n
  induction n with
  | zero => exact by intros; exfalso; omega
  | succ n ih =>
    intro M b4 b5 z0 X hh0 hh1 hh2 hh3 hh4 hp0 hh6 hh7 hE
    refine z_xP zt144 13 35 [some (.ref 4), some (.int p1), some (.int p2), some (.int p3), some (.int b4), some (.int b5)] [.ref 4, .int b5] rfl rfl ?_
    have f4 : T[4]? = some (.inl (0, 0, 0, 0, 0)) := X.1.k rfl (by decide)
    refine z_xgI zt144 14 rfl zo144 zzf0_188 X f4 (by decide) (by decide) rfl (fun (x2 : Int32) h1 (h3 : 0 ≤ x2.toInt) (h4 : x2.toInt ≤ 20) => ?_)
    refine z_xJ zt144 15 rfl rfl (fun (h5 : x2.toInt ≤ b5.toInt) => ?_) (fun (h5 : b5.toInt < x2.toInt) => ?_)
    · skip
      refine z_xP zt144 39 90 [some (.ref 4), some (.int p1), some (.int p2), some (.int p3), some (.int b4), some (.int b5)] [.int (-2)] rfl rfl ?_
      have qm2 : (((-2) : Int32)).toInt = (-2) := rfl
      exact z_xri zt144 40 rfl zzr144 (kk (-2) M X (by omega) (by omega))
    refine z_xP zt144 16 42 [some (.ref 4), some (.int p1), some (.int p2), some (.int p3), some (.int b4), some (.int b5)] [.ref 4] rfl rfl ?_
    refine z_xgX (b := 12) zt144 17 rfl zo144 zzf0_27 X f4 (by decide) (by decide) rfl ?_
    refine z_xP zt144 18 47 [some (.ref 4), some (.int p1), some (.int p2), some (.int p3), some (.int b4), some (.int b5)] [.int b5, .ref 12] rfl rfl ?_
    have f12 : T[12]? = some (.inr (12, 3, 20, 0, 0)) := X.1.k rfl (by decide)
    refine z_xal zt144 19 rfl X f12 (by decide) (by decide) (by decide) (by omega) (by omega) (fun (a6 : Nat) h7 h8 => ?_) (fun h9 => absurd h9 (z_Gb (hG.go X (by decide)).2.1 h1 (by omega) (by omega)))
    obtain ⟨c10, w11l, w11u, k12⟩ : ∃ ci, 4 ≤ ci ∧ ci ≤ 11 ∧ T[a6]? = some (.inl (ci, 0, 0, 0, 0)) := h8
    have w11 := And.intro w11l w11u
    refine z_xP zt144 20 49 [some (.ref 4), some (.int p1), some (.int p2), some (.int p3), some (.int b4), some (.int b5)] [.ref 4, .ref a6] rfl rfl ?_
    refine z_xgX (b := 11) zt144 21 rfl zo144 zzf0_22 X f4 (by decide) (by decide) rfl ?_
    refine z_xP zt144 22 53 [some (.ref 4), some (.int p1), some (.int p2), some (.int p3), some (.int b4), some (.int b5)] [.int p1, .ref 11, .ref a6] rfl rfl ?_
    have f11 : T[11]? = some (.inr (11, 2, 8, 5, 0)) := X.1.k rfl (by decide)
    refine z_xal zt144 23 rfl X f11 (by decide) (by decide) (by decide) (by omega) (by omega) (fun (a13 : Nat) h14 h15 => ?_) (fun h16 => absurd h16 (z_Gt (hG.go X (by decide)).2.1 hp0 (by omega) (by omega)))
    obtain ⟨q17, t18, m19, k20⟩ : ∃ q t m, T[a13]? = some (.inl (3, q, t, m, 5)) := h15
    have g21 := X.1.p3 k20
    have h22 := hx a13 q17 t18 m19 5 ((congrFun (X.2.o f11 (by decide)) _).symm.trans h14) k20
    refine z_xP zt144 24 56 [some (.ref 4), some (.int p1), some (.int p2), some (.int p3), some (.int b4), some (.int b5)] [.ref 4, .int p2, .ref a13, .ref a6] rfl rfl ?_
    refine z_xgX (b := 18) zt144 25 rfl zo144 zzf0_48 X f4 (by decide) (by decide) rfl ?_
    refine z_xcV (vs := [.ref a6, .ref a13, .int p2, .ref 18]) (r := []) (L2 := [some (.ref a6), some (.ref a13), some (.int p2), some (.ref 18), none, none]) zt144 26 rfl zo144 zzcV0_277 (Or.inr rfl) rfl X k12 (z_w8 (fun c => (([(4, 131), (10, 131), (7, 131), (5, 131), (11, 131), (8, 131), (6, 131), (9, 131)] : List (Nat × Nat)).find? fun t => t.1 == c) = some (c, 131)) rfl rfl rfl rfl rfl rfl rfl rfl w11) rfl rfl (Nat.le_of_ble_eq_true rfl) zzm131 (Nat.le_of_ble_eq_true rfl) rfl ?_
    obtain ⟨x23, h24, h25, h26⟩ := z_W.fi X.1 k20 (k := 4) (lo := 0) (hi := (5 : Int)) (by decide) rfl
    refine zC131 X.1 w11 k12 k20 (by omega) h24 ⟨by omega, by omega⟩ (fun M27 X28 z29 h30 h31 => ?_)
    have X32 := X.go X28 (z_sb (by decide))
    show z_ev (d + 6) 144 62 [some (.ref 4), some (.int p1), some (.int p2), some (.int p3), some (.int b4), some (.int b5)] [] M27 _
    refine z_xP zt144 27 63 [some (.ref 4), some (.int p1), some (.int p2), some (.int p3), some (.int b4), some (.int b5)] [.ref 4] rfl rfl ?_
    refine z_xgX (b := 11) zt144 28 rfl zo144 zzf0_22 X32 f4 (by decide) (by decide) rfl ?_
    refine z_xP zt144 29 67 [some (.ref 4), some (.int p1), some (.int p2), some (.int p3), some (.int b4), some (.int b5)] [.int p1, .ref 11] rfl rfl ?_
    refine z_xalv zt144 30 rfl X32 f11 (by decide) (by decide) (by decide) (by omega) (by omega) ((congrFun (X28.2.o f11 (by decide)) _).trans h14) ?_
    refine z_xP zt144 31 70 [some (.ref 4), some (.int p1), some (.int p2), some (.int p3), some (.int b4), some (.int b5)] [.ref 4, .int p3, .ref a13] rfl rfl ?_
    refine z_xgX (b := 18) zt144 32 rfl zo144 zzf0_48 X32 f4 (by decide) (by decide) rfl ?_
    refine z_xcV (vs := [.ref a13, .int p3, .ref 18]) (r := []) (L2 := [some (.ref a13), some (.int p3), some (.ref 18), none]) zt144 33 rfl zo144 zzcV0_284 (Or.inl rfl) rfl X32 k20 rfl rfl rfl (Nat.le_of_ble_eq_true rfl) zzm145 (Nat.le_of_ble_eq_true rfl) rfl ?_
    refine zC145 X32.1 k20 (by omega) h30 ⟨by omega, by omega⟩ (by omega) (fun x39 M34 X35 h40 h41 z36 h37 h38 => ?_)
    have X42 := X32.go X35 (z_sb (by decide))
    show z_ev (d + 6) 144 76 [some (.ref 4), some (.int p1), some (.int p2), some (.int p3), some (.int b4), some (.int b5)] [.int x39] M34 _
    refine z_xZ zt144 34 rfl rfl (fun (h44 : x39.toInt = 0) => ?_) (fun (h44 : x39.toInt ≠ 0) => ?_)
    · skip
      refine z_xN zt144 37 rfl rfl (fun (x45 : Int32) (h46 : x45.toInt = b5.toInt + 1) => ?_) (z_pAdd rfl rfl (by omega) (by omega))
      show z_ev (d + 6) 144 85 [some (.ref 4), some (.int p1), some (.int p2), some (.int p3), some (.int b4), some (.int x45)] [] M34 _
      refine z_xP zt144 38 32 [some (.ref 4), some (.int p1), some (.int p2), some (.int p3), some (.int b4), some (.int x45)] [] rfl rfl ?_
      have h47 := (X35.2.f f4 (by decide) (X28.2.f f4 (by decide) hp0))
      exact ih M34 b4 x45 z0 X42 ⟨by omega, by omega⟩ ⟨by omega, by omega⟩ ⟨by omega, by omega⟩ ⟨by omega, by omega⟩ ⟨by omega, by omega⟩ h47 ⟨by omega, by omega⟩ (by omega) (by omega)
    refine z_xP zt144 35 81 [some (.ref 4), some (.int p1), some (.int p2), some (.int p3), some (.int b4), some (.int b5)] [.int b5] rfl rfl ?_
    exact z_xri zt144 36 rfl zzr144 (kk b5 M34 X42 (by omega) (by omega))
theorem zC144 {T : List zK} {d : Nat} {K : Option Value → zH → Prop} {p1 : Int32} {p2 : Int32} {p3 : Int32} {M0 : zH} (hW : z_W M0 T)  (hG : z_GG T M0) (kk : ∀ (x : Int32) (M1 : zH), z_X T zw144 M0 M1 → (-4) ≤ x.toInt → x.toInt ≤ 19 → K (some (.int x)) M1) : z_ev (d + 6) 144 0 [some (.ref 4), some (.int p1), some (.int p2), some (.int p3), none, none] [] M0 K := by
  have X : z_X T zw144 M0 M0 := .refl hW
  refine z_xP zt144 0 2 [some (.ref 4), some (.int p1), some (.int p2), some (.int p3), none, none] [.int 1, .int p3] rfl rfl ?_
  refine z_xJ zt144 1 rfl rfl (fun (h1 : p3.toInt < 1) => ?_) (fun (h1 : 1 ≤ p3.toInt) => ?_)
  · skip
    refine z_xP zt144 4 12 [some (.ref 4), some (.int p1), some (.int p2), some (.int p3), none, none] [.int (-1)] rfl rfl ?_
    have qm1 : (((-1) : Int32)).toInt = (-1) := rfl
    exact z_xri zt144 5 rfl zzr144 (kk (-1) M0 X (by omega) (by omega))
  refine z_xP zt144 2 8 [some (.ref 4), some (.int p1), some (.int p2), some (.int p3), none, none] [.int 31, .int p3] rfl rfl ?_
  refine z_xJ zt144 3 rfl rfl (fun (h2 : p3.toInt ≤ 31) => ?_) (fun (h2 : 31 < p3.toInt) => ?_)
  · skip
    refine z_xP zt144 6 16 [some (.ref 4), some (.int p1), some (.int p2), some (.int p3), none, none] [.int p2, .int p1, .ref 4] rfl rfl ?_
    have f4 : T[4]? = some (.inl (0, 0, 0, 0, 0)) := X.1.k rfl (by decide)
    refine z_xcV (vs := [.ref 4, .int p1, .int p2]) (r := []) (L2 := [some (.ref 4), some (.int p1), some (.int p2), none]) zt144 7 rfl zo144 zzcV0_274 (Or.inl rfl) rfl X f4 rfl rfl rfl (Nat.le_of_ble_eq_true rfl) zzm130 (Nat.le_of_ble_eq_true rfl) rfl ?_
    refine z_xP zt130 0 2 [some (.ref 4), some (.int p1), some (.int p2), none] [.int p1, .ref 4] rfl rfl ?_
    refine z_xcV (vs := [.ref 4, .int p1]) (r := []) (L2 := [some (.ref 4), some (.int p1)]) zt130 1 rfl zo130 zzcV0_108 (Or.inl rfl) rfl X f4 rfl rfl rfl (Nat.le_of_ble_eq_true rfl) zzm37 (Nat.le_of_ble_eq_true rfl) rfl ?_
    refine z_xP zt37 0 1 [some (.ref 4), some (.int p1)] [.int p1] rfl rfl ?_
    refine z_xZ zt37 1 rfl rfl (fun (h3 : p1.toInt < 0) => ?_) (fun (h3 : 0 ≤ p1.toInt) => ?_)
    · skip
      refine z_xP zt37 5 25 [some (.ref 4), some (.int p1)] [.null] rfl rfl ?_
      refine z_xrn zt37 11 rfl zzr37 ?_
      show z_ev (d + 5) 130 5 [some (.ref 4), some (.int p1), some (.int p2), none] [.null] M0 _
      refine z_xP zt130 2 20 [some (.ref 4), some (.int p1), some (.int p2), some (.null)] [] rfl rfl ?_
      refine z_xP zt130 7 21 [some (.ref 4), some (.int p1), some (.int p2), some (.null)] [.int (-1)] rfl rfl ?_
      refine z_xri zt130 8 rfl zzr130 ?_
      show z_ev (d + 6) 144 19 [some (.ref 4), some (.int p1), some (.int p2), some (.int p3), none, none] [.int (-1)] M0 _
      refine z_xP zt144 8 23 [some (.ref 4), some (.int p1), some (.int p2), some (.int p3), some (.int (-1)), none] [.int (-1)] rfl rfl ?_
      refine z_xZ zt144 9 rfl rfl (fun (h4 : ((-1) : Int) = 0) => absurd h4 (by omega)) (fun (h4 : ((-1) : Int) ≠ 0) => ?_)
      refine z_xP zt144 10 28 [some (.ref 4), some (.int p1), some (.int p2), some (.int p3), some (.int (-1)), none] [.int (-1)] rfl rfl ?_
      have qm1 : (((-1) : Int32)).toInt = (-1) := rfl
      exact z_xri zt144 11 rfl zzr144 (kk (-1) M0 X (by omega) (by omega))
    refine z_xP zt37 2 6 [some (.ref 4), some (.int p1)] [.ref 4, .int p1] rfl rfl ?_
    refine z_xgI zt37 3 rfl zo37 zzf0_59 X f4 (by decide) (by decide) rfl (fun (x6 : Int32) h5 (h7 : 0 ≤ x6.toInt) (h8 : x6.toInt ≤ 8) => ?_)
    have h9 := z_b32 p1
    refine z_xJ zt37 4 rfl rfl (fun (h10 : p1.toInt < x6.toInt) => ?_) (fun (h10 : x6.toInt ≤ p1.toInt) => ?_)
    · skip
      refine z_xP zt37 6 17 [some (.ref 4), some (.int p1)] [.ref 4] rfl rfl ?_
      refine z_xgX (b := 10) zt37 7 rfl zo37 zzf0_18 X f4 (by decide) (by decide) rfl ?_
      refine z_xP zt37 8 21 [some (.ref 4), some (.int p1)] [.int p1, .ref 10] rfl rfl ?_
      have f10 : T[10]? = some (.inr (10, 2, 8, 9, 0)) := X.1.k rfl (by decide)
      refine z_xal zt37 9 rfl X f10 (by decide) (by decide) (by decide) (by omega) (by omega) (fun (a11 : Nat) h12 h13 => ?_) (fun h14 => absurd h14 (z_Gs (hG.go X (by decide)).2.1 h5 (by omega) (by omega)))
      obtain ⟨q15, t16, m17, k18⟩ : ∃ q t m, T[a11]? = some (.inl (3, q, t, m, 9)) := h13
      have g19 := X.1.p3 k18
      refine z_xgR (κ := .inl (2, q15, t16, m17, 0)) zt37 10 rfl zo37 zzf0_89 X k18 (by decide) (by decide) rfl (fun (a21 : Nat) h20 k22 => ?_)
      have g23 := X.1.p2 k22
      refine z_xra zt37 11 rfl zzr37 ?_
      show z_ev (d + 5) 130 5 [some (.ref 4), some (.int p1), some (.int p2), none] [.ref a21] M0 _
      refine z_xP zt130 2 10 [some (.ref 4), some (.int p1), some (.int p2), some (.ref a21)] [] rfl rfl ?_
      refine z_xP zt130 3 12 [some (.ref 4), some (.int p1), some (.int p2), some (.ref a21)] [.int 1, .int p2] rfl rfl ?_
      refine z_xJ zt130 4 rfl rfl (fun (h24 : p2.toInt < 1) => ?_) (fun (h24 : 1 ≤ p2.toInt) => ?_)
      · skip
        refine z_xP zt130 7 21 [some (.ref 4), some (.int p1), some (.int p2), some (.ref a21)] [.int (-1)] rfl rfl ?_
        refine z_xri zt130 8 rfl zzr130 ?_
        show z_ev (d + 6) 144 19 [some (.ref 4), some (.int p1), some (.int p2), some (.int p3), none, none] [.int (-1)] M0 _
        refine z_xP zt144 8 23 [some (.ref 4), some (.int p1), some (.int p2), some (.int p3), some (.int (-1)), none] [.int (-1)] rfl rfl ?_
        refine z_xZ zt144 9 rfl rfl (fun (h25 : ((-1) : Int) = 0) => absurd h25 (by omega)) (fun (h25 : ((-1) : Int) ≠ 0) => ?_)
        refine z_xP zt144 10 28 [some (.ref 4), some (.int p1), some (.int p2), some (.int p3), some (.int (-1)), none] [.int (-1)] rfl rfl ?_
        have qm1 : (((-1) : Int32)).toInt = (-1) := rfl
        exact z_xri zt144 11 rfl zzr144 (kk (-1) M0 X (by omega) (by omega))
      refine z_xP zt130 5 17 [some (.ref 4), some (.int p1), some (.int p2), some (.ref a21)] [.int 3, .int p2] rfl rfl ?_
      refine z_xJ zt130 6 rfl rfl (fun (h26 : p2.toInt ≤ 3) => ?_) (fun (h26 : 3 < p2.toInt) => ?_)
      · skip
        refine z_xP zt130 9 23 [some (.ref 4), some (.int p1), some (.int p2), some (.ref a21)] [.ref a21] rfl rfl ?_
        refine z_xgR (κ := .inr (102, 0, m17, 0, 1023)) zt130 10 rfl zo130 zzf0_74 X k22 (by decide) (by decide) rfl (fun (a28 : Nat) h27 k29 => ?_)
        refine z_xln zt130 11 rfl X k29 (by decide) (by omega) (fun (x30 : Int32) (h31 : x30.toInt = ((m17 : Nat) : Int)) => ?_)
        refine z_xP zt130 12 29 [some (.ref 4), some (.int p1), some (.int p2), some (.ref a21)] [.int 6, .int x30] rfl rfl ?_
        refine z_xJ zt130 13 rfl rfl (fun (h32 : x30.toInt ≤ 6) => ?_) (fun (h32 : 6 < x30.toInt) => ?_)
        · skip
          refine z_xP zt130 15 38 [some (.ref 4), some (.int p1), some (.int p2), some (.ref a21)] [.int 0] rfl rfl ?_
          refine z_xri zt130 16 rfl zzr130 ?_
          show z_ev (d + 6) 144 19 [some (.ref 4), some (.int p1), some (.int p2), some (.int p3), none, none] [.int 0] M0 _
          refine z_xP zt144 8 23 [some (.ref 4), some (.int p1), some (.int p2), some (.int p3), some (.int 0), none] [.int 0] rfl rfl ?_
          refine z_xZ zt144 9 rfl rfl (fun (h33 : (0 : Int) = 0) => ?_) (fun (h33 : (0 : Int) ≠ 0) => absurd h33 (by omega))
          refine z_xP zt144 12 32 [some (.ref 4), some (.int p1), some (.int p2), some (.int p3), some (.int 0), some (.int 0)] [] rfl rfl ?_
          have q0 : ((0 : Int32)).toInt = 0 := rfl
          have f11 : T[11]? = some (.inr (11, 2, 8, 5, 0)) := X.1.k rfl (by decide)
          exact (zB144 hG kk (fun c q t m J hc kc => by have w := z_Gm (hG.go X (by decide)).2.2 X.1 (z_cll (n := 8) (by omega) (by decide)) h12 ((congrFun (X.2.o f11 (by decide)) _).trans hc) k18 kc; omega) 42) M0 (0) (0) x6 X ⟨by omega, by omega⟩ ⟨by omega, by omega⟩ ⟨by omega, by omega⟩ (by decide) (by decide) h5 ⟨by omega, by omega⟩ (by omega) (by omega)
        refine z_xP zt130 14 38 [some (.ref 4), some (.int p1), some (.int p2), some (.ref a21)] [.int (-4)] rfl rfl ?_
        refine z_xri zt130 16 rfl zzr130 ?_
        show z_ev (d + 6) 144 19 [some (.ref 4), some (.int p1), some (.int p2), some (.int p3), none, none] [.int (-4)] M0 _
        refine z_xP zt144 8 23 [some (.ref 4), some (.int p1), some (.int p2), some (.int p3), some (.int (-4)), none] [.int (-4)] rfl rfl ?_
        refine z_xZ zt144 9 rfl rfl (fun (h34 : ((-4) : Int) = 0) => absurd h34 (by omega)) (fun (h34 : ((-4) : Int) ≠ 0) => ?_)
        refine z_xP zt144 10 28 [some (.ref 4), some (.int p1), some (.int p2), some (.int p3), some (.int (-4)), none] [.int (-4)] rfl rfl ?_
        have qm4 : (((-4) : Int32)).toInt = (-4) := rfl
        exact z_xri zt144 11 rfl zzr144 (kk (-4) M0 X (by omega) (by omega))
      refine z_xP zt130 7 21 [some (.ref 4), some (.int p1), some (.int p2), some (.ref a21)] [.int (-1)] rfl rfl ?_
      refine z_xri zt130 8 rfl zzr130 ?_
      show z_ev (d + 6) 144 19 [some (.ref 4), some (.int p1), some (.int p2), some (.int p3), none, none] [.int (-1)] M0 _
      refine z_xP zt144 8 23 [some (.ref 4), some (.int p1), some (.int p2), some (.int p3), some (.int (-1)), none] [.int (-1)] rfl rfl ?_
      refine z_xZ zt144 9 rfl rfl (fun (h35 : ((-1) : Int) = 0) => absurd h35 (by omega)) (fun (h35 : ((-1) : Int) ≠ 0) => ?_)
      refine z_xP zt144 10 28 [some (.ref 4), some (.int p1), some (.int p2), some (.int p3), some (.int (-1)), none] [.int (-1)] rfl rfl ?_
      have qm1 : (((-1) : Int32)).toInt = (-1) := rfl
      exact z_xri zt144 11 rfl zzr144 (kk (-1) M0 X (by omega) (by omega))
    refine z_xP zt37 5 25 [some (.ref 4), some (.int p1)] [.null] rfl rfl ?_
    refine z_xrn zt37 11 rfl zzr37 ?_
    show z_ev (d + 5) 130 5 [some (.ref 4), some (.int p1), some (.int p2), none] [.null] M0 _
    refine z_xP zt130 2 20 [some (.ref 4), some (.int p1), some (.int p2), some (.null)] [] rfl rfl ?_
    refine z_xP zt130 7 21 [some (.ref 4), some (.int p1), some (.int p2), some (.null)] [.int (-1)] rfl rfl ?_
    refine z_xri zt130 8 rfl zzr130 ?_
    show z_ev (d + 6) 144 19 [some (.ref 4), some (.int p1), some (.int p2), some (.int p3), none, none] [.int (-1)] M0 _
    refine z_xP zt144 8 23 [some (.ref 4), some (.int p1), some (.int p2), some (.int p3), some (.int (-1)), none] [.int (-1)] rfl rfl ?_
    refine z_xZ zt144 9 rfl rfl (fun (h36 : ((-1) : Int) = 0) => absurd h36 (by omega)) (fun (h36 : ((-1) : Int) ≠ 0) => ?_)
    refine z_xP zt144 10 28 [some (.ref 4), some (.int p1), some (.int p2), some (.int p3), some (.int (-1)), none] [.int (-1)] rfl rfl ?_
    have qm1 : (((-1) : Int32)).toInt = (-1) := rfl
    exact z_xri zt144 11 rfl zzr144 (kk (-1) M0 X (by omega) (by omega))
  refine z_xP zt144 4 12 [some (.ref 4), some (.int p1), some (.int p2), some (.int p3), none, none] [.int (-1)] rfl rfl ?_
  have qm1 : (((-1) : Int32)).toInt = (-1) := rfl
  exact z_xri zt144 5 rfl zzr144 (kk (-1) M0 X (by omega) (by omega))
def zw149 : List Nat := [112, 113]
theorem zB149 {T : List zK} {d : Nat} {K : Option Value → zH → Prop} {a0 : Nat} {q : Nat} {t : Nat} {m : Nat} {p1 : Int32} {M0 : zH} (k0 : T[a0]? = some (.inl (2, q, t, m, 0))) (u1 : 0 ≤ p1.toInt ∧ p1.toInt ≤ 255) (kk : ∀ (x : Int32) (M1 : zH), z_X T zw149 M0 M1 → K (some (.int x)) M1) : ∀ n : Nat, (∀ (M : zH) (b2 : Int32) (b3 : Int32), z_X T zw149 M0 M → 0 ≤ b3.toInt ∧ b3.toInt ≤ 16 → ((((0) * 4 + 2) * 17 + (16 - b3.toInt)) * 4 + 3) * 13 + (0) < (n : Int) → z_ev (d + 2) 149 4 [some (.ref a0), some (.int p1), some (.int b2), some (.int b3), none, none, none, none] [] M K) ∧ (∀ (M : zH) (b2 : Int32) (b3 : Int32) (b4 : Int32) (o5 : Option Value) (o7 : Option Value), z_X T zw149 M0 M → (-2147483648) ≤ b2.toInt ∧ b2.toInt ≤ 12 → 0 ≤ b3.toInt ∧ b3.toInt ≤ 12 → 0 ≤ b4.toInt ∧ b4.toInt ≤ 16 → ((((0) * 4 + 1) * 17 + (16 - b4.toInt)) * 4 + 3) * 13 + (0) < (n : Int) → z_ev (d + 2) 149 55 [some (.ref a0), some (.int p1), some (.int b2), some (.int b3), some (.int b4), o5, none, o7] [] M K) ∧ (∀ (M : zH) (b2 : Int32) (b3 : Int32) (b4 : Int32) (b5 : Int64) (b7 : Int32), z_X T zw149 M0 M → (-2147483648) ≤ b2.toInt ∧ b2.toInt ≤ 12 → 0 ≤ b3.toInt ∧ b3.toInt ≤ 12 → 0 ≤ b4.toInt ∧ b4.toInt ≤ 15 → 0 ≤ b7.toInt ∧ b7.toInt ≤ 12 → b4.toInt < ((z_bl q : Nat) : Int) → ((((0) * 4 + 1) * 17 + (16 - b4.toInt)) * 4 + 0) * 13 + (12 - b7.toInt) < (n : Int) → z_ev (d + 2) 149 76 [some (.ref a0), some (.int p1), some (.int b2), some (.int b3), some (.int b4), some (.long b5), none, some (.int b7)] [] M K) := by
  intro n
  induction n with
  | zero => exact ⟨(by intros; exfalso; omega), (by intros; exfalso; omega), (by intros; exfalso; omega)⟩
  | succ n ih =>
    refine ⟨?_, ?_, ?_⟩
    · skip
      intro M b2 b3 X hh0 hE
      have g0 := X.1.p2 k0
      refine z_xP zt149 1 6 [some (.ref a0), some (.int p1), some (.int b2), some (.int b3), none, none, none, none] [.ref a0, .int b3] rfl rfl ?_
      refine z_xgI zt149 2 rfl zo149 zzf2_35 X k0 (by decide) (by decide) rfl (fun (x2 : Int32) h1 (h3 : ((z_bl q : Nat) : Int) ≤ x2.toInt) (h4 : x2.toInt ≤ ((z_bl q : Nat) : Int)) => ?_)
      refine z_xJ zt149 3 rfl rfl (fun (h5 : x2.toInt ≤ b3.toInt) => ?_) (fun (h5 : b3.toInt < x2.toInt) => ?_)
      · skip
        refine z_xP zt149 18 45 [some (.ref a0), some (.int p1), some (.int b2), some (.int b3), none, none, none, none] [.int 12, .int b2] rfl rfl ?_
        refine z_xJ zt149 19 rfl rfl (fun (h6 : b2.toInt ≤ 12) => ?_) (fun (h6 : 12 < b2.toInt) => ?_)
        · skip
          refine z_xP zt149 22 55 [some (.ref a0), some (.int p1), some (.int b2), some (.int 0), some (.int 0), none, none, none] [] rfl rfl ?_
          have q0 : ((0 : Int32)).toInt = 0 := rfl
          have h7 := z_b32 b2
          exact ih.2.1 M b2 (0) (0) none none X ⟨by omega, by omega⟩ (by decide) (by decide) (by omega)
        refine z_xP zt149 20 49 [some (.ref a0), some (.int p1), some (.int b2), some (.int b3), none, none, none, none] [.int b2] rfl rfl ?_
        exact z_xri zt149 21 rfl zzr149 (kk b2 M X)
      refine z_xP zt149 4 13 [some (.ref a0), some (.int p1), some (.int b2), some (.int b3), none, none, none, none] [.ref a0] rfl rfl ?_
      refine z_xgR (κ := .inr (112, 1, z_bl q, 0, 0)) zt149 5 rfl zo149 zzf2_47 X k0 (by decide) (by decide) rfl (fun (a9 : Nat) h8 k10 => ?_)
      refine z_xP zt149 6 20 [some (.ref a0), some (.int p1), some (.int b2), some (.int b3), none, none, none, none] [.int b3, .int p1, .ref a0, .int b3, .ref a9] rfl rfl ?_
      refine z_xcV (vs := [.ref a0, .int p1, .int b3]) (r := [.int b3, .ref a9]) (L2 := [some (.ref a0), some (.int p1), some (.int b3), none, none, none]) zt149 7 rfl zo149 zzcV2_50 (Or.inl rfl) rfl X k0 rfl rfl rfl (Nat.le_of_ble_eq_true rfl) zzm24 (Nat.le_of_ble_eq_true rfl) rfl ?_
      refine zC24 X.1 k0 (by omega) (by omega) (fun y13 M11 X12  => ?_)
      have X14 := X.go X12 (z_sb (by decide))
      show z_ev (d + 2) 149 23 [some (.ref a0), some (.int p1), some (.int b2), some (.int b3), none, none, none, none] [.long y13, .int b3, .ref a9] M11 _
      refine z_xls zt149 8 rfl X14 k10 (by decide) (X14.1.g4 k10 (by decide)) (by omega) (by omega) (by decide) (fun M16 X17 e18 => ?_)
      refine z_xP zt149 9 26 [some (.ref a0), some (.int p1), some (.int b2), some (.int b3), none, none, none, none] [.ref a0, .int b2] rfl rfl ?_
      have h19 := (e18.f k0 (by decide) (X12.2.f k0 (by decide) h8))
      refine z_xgv zt149 10 rfl zo149 zzf2_47 X17 k0 (by decide) h19 ?_
      refine z_xP zt149 11 30 [some (.ref a0), some (.int p1), some (.int b2), some (.int b3), none, none, none, none] [.int b3, .ref a9, .int b2] rfl rfl ?_
      refine z_xll zt149 12 rfl X17 k10 (by decide) (by omega) (by omega) (fun (y20 : Int64) => ?_)
      refine z_xcS (vs := [.long y20]) (r := [.int b2]) (L2 := [some (.long y20), none]) zt149 13 rfl zo149 zzcS2_54 (Or.inl rfl) (Nat.le_of_ble_eq_true rfl) rfl rfl (Nat.le_of_ble_eq_true rfl) zzm25 (Nat.le_of_ble_eq_true rfl) rfl ?_
      refine zC25 X17.1 (fun x23 M21 X22 h24 h25 => ?_)
      have X26 := X17.go X22 (z_sb (by decide))
      show z_ev (d + 2) 149 34 [some (.ref a0), some (.int p1), some (.int b2), some (.int b3), none, none, none, none] [.int x23, .int b2] M21 _
      have h28 := z_b32 b2
      refine z_xI zt149 14 rfl rfl (P := fun _ => True) (fun (x29 : Int32) _ => ?_) trivial
      refine z_xP zt149 15 36 [some (.ref a0), some (.int p1), some (.int x29), some (.int b3), none, none, none, none] [] rfl rfl ?_
      refine z_xN zt149 16 rfl rfl (fun (x31 : Int32) (h32 : x31.toInt = b3.toInt + 1) => ?_) (z_pAdd rfl rfl (by omega) (by omega))
      show z_ev (d + 2) 149 39 [some (.ref a0), some (.int p1), some (.int x29), some (.int x31), none, none, none, none] [] M21 _
      refine z_xP zt149 17 4 [some (.ref a0), some (.int p1), some (.int x29), some (.int x31), none, none, none, none] [] rfl rfl ?_
      exact ih.1 M21 x29 x31 X26 ⟨by omega, by omega⟩ (by omega)
    · skip
      intro M b2 b3 b4 o5 o7 X hh0 hh1 hh2 hE
      have g0 := X.1.p2 k0
      refine z_xP zt149 23 58 [some (.ref a0), some (.int p1), some (.int b2), some (.int b3), some (.int b4), o5, none, o7] [.ref a0, .int b4] rfl rfl ?_
      refine z_xgI zt149 24 rfl zo149 zzf2_35 X k0 (by decide) (by decide) rfl (fun (x2 : Int32) h1 (h3 : ((z_bl q : Nat) : Int) ≤ x2.toInt) (h4 : x2.toInt ≤ ((z_bl q : Nat) : Int)) => ?_)
      refine z_xJ zt149 25 rfl rfl (fun (h5 : x2.toInt ≤ b4.toInt) => ?_) (fun (h5 : b4.toInt < x2.toInt) => ?_)
      · skip
        refine z_xP zt149 55 138 [some (.ref a0), some (.int p1), some (.int b2), some (.int b3), some (.int b4), o5, none, o7] [.int b2] rfl rfl ?_
        exact z_xri zt149 56 rfl zzr149 (kk b2 M X)
      refine z_xP zt149 26 65 [some (.ref a0), some (.int p1), some (.int b2), some (.int b3), some (.int b4), o5, none, o7] [.ref a0] rfl rfl ?_
      refine z_xgR (κ := .inr (112, 1, z_bl q, 0, 0)) zt149 27 rfl zo149 zzf2_47 X k0 (by decide) (by decide) rfl (fun (a7 : Nat) h6 k8 => ?_)
      refine z_xP zt149 28 70 [some (.ref a0), some (.int p1), some (.int b2), some (.int b3), some (.int b4), o5, none, o7] [.int b4, .ref a7] rfl rfl ?_
      refine z_xll zt149 29 rfl X k8 (by decide) (by omega) (by omega) (fun (y9 : Int64) => ?_)
      refine z_xP zt149 30 76 [some (.ref a0), some (.int p1), some (.int b2), some (.int b3), some (.int b4), some (.long y9), none, some (.int 0)] [] rfl rfl ?_
      have q0 : ((0 : Int32)).toInt = 0 := rfl
      have h10 := z_b32 b2
      exact ih.2.2 M b2 b3 b4 y9 (0) X ⟨by omega, by omega⟩ ⟨by omega, by omega⟩ ⟨by omega, by omega⟩ (by decide) (by omega) (by omega)
    · skip
      intro M b2 b3 b4 b5 b7 X hh0 hh1 hh2 hh3 hh4 hE
      have g0 := X.1.p2 k0
      refine z_xP zt149 31 80 [some (.ref a0), some (.int p1), some (.int b2), some (.int b3), some (.int b4), some (.long b5), none, some (.int b7)] [.int 12, .int b7] rfl rfl ?_
      refine z_xJ zt149 32 rfl rfl (fun (h1 : 12 ≤ b7.toInt) => ?_) (fun (h1 : b7.toInt < 12) => ?_)
      · skip
        refine z_xN zt149 53 rfl rfl (fun (x2 : Int32) (h3 : x2.toInt = b4.toInt + 1) => ?_) (z_pAdd rfl rfl (by omega) (by omega))
        show z_ev (d + 2) 149 134 [some (.ref a0), some (.int p1), some (.int b2), some (.int b3), some (.int x2), some (.long b5), none, some (.int b7)] [] M _
        refine z_xP zt149 54 55 [some (.ref a0), some (.int p1), some (.int b2), some (.int b3), some (.int x2), some (.long b5), none, some (.int b7)] [] rfl rfl ?_
        have h4 := z_b32 b2
        exact ih.2.1 M b2 b3 x2 (some (.long b5)) (some (.int b7)) X ⟨by omega, by omega⟩ ⟨by omega, by omega⟩ ⟨by omega, by omega⟩ (by omega)
      refine z_xP zt149 33 86 [some (.ref a0), some (.int p1), some (.int b2), some (.int b3), some (.int b4), some (.long b5), none, some (.int b7)] [.long 0, .long b5] rfl rfl ?_
      refine z_xI zt149 34 rfl rfl (fun (x5 : Int32) (h6 : (x5.toInt < 0 ∧ b5.toInt < 0) ∨ (x5.toInt = 0 ∧ b5.toInt = 0) ∨ (0 < x5.toInt ∧ 0 < b5.toInt)) => ?_) (z_qCmp rfl rfl)
      refine z_xZ zt149 35 rfl rfl (fun (h7 : x5.toInt = 0) => ?_) (fun (h7 : x5.toInt ≠ 0) => ?_)
      · skip
        refine z_xN zt149 53 rfl rfl (fun (x8 : Int32) (h9 : x8.toInt = b4.toInt + 1) => ?_) (z_pAdd rfl rfl (by omega) (by omega))
        show z_ev (d + 2) 149 134 [some (.ref a0), some (.int p1), some (.int b2), some (.int b3), some (.int x8), some (.long b5), none, some (.int b7)] [] M _
        refine z_xP zt149 54 55 [some (.ref a0), some (.int p1), some (.int b2), some (.int b3), some (.int x8), some (.long b5), none, some (.int b7)] [] rfl rfl ?_
        have h10 := z_b32 b2
        exact ih.2.1 M b2 b3 x8 (some (.long b5)) (some (.int b7)) X ⟨by omega, by omega⟩ ⟨by omega, by omega⟩ ⟨by omega, by omega⟩ (by omega)
      refine z_xP zt149 36 93 [some (.ref a0), some (.int p1), some (.int b2), some (.int b3), some (.int b4), some (.long b5), none, some (.int b7)] [.int 12, .int b3] rfl rfl ?_
      refine z_xJ zt149 37 rfl rfl (fun (h11 : 12 ≤ b3.toInt) => ?_) (fun (h11 : b3.toInt < 12) => ?_)
      · skip
        refine z_xN zt149 53 rfl rfl (fun (x12 : Int32) (h13 : x12.toInt = b4.toInt + 1) => ?_) (z_pAdd rfl rfl (by omega) (by omega))
        show z_ev (d + 2) 149 134 [some (.ref a0), some (.int p1), some (.int b2), some (.int b3), some (.int x12), some (.long b5), none, some (.int b7)] [] M _
        refine z_xP zt149 54 55 [some (.ref a0), some (.int p1), some (.int b2), some (.int b3), some (.int x12), some (.long b5), none, some (.int b7)] [] rfl rfl ?_
        have h14 := z_b32 b2
        exact ih.2.1 M b2 b3 x12 (some (.long b5)) (some (.int b7)) X ⟨by omega, by omega⟩ ⟨by omega, by omega⟩ ⟨by omega, by omega⟩ (by omega)
      refine z_xP zt149 38 97 [some (.ref a0), some (.int p1), some (.int b2), some (.int b3), some (.int b4), some (.long b5), none, some (.int b7)] [.ref a0] rfl rfl ?_
      refine z_xgR (κ := .inr (113, 0, 12, 0, 64 * ((z_bl q : Nat) : Int) - 1)) zt149 39 rfl zo149 zzf2_9 X k0 (by decide) (by decide) rfl (fun (a16 : Nat) h15 k17 => ?_)
      refine z_xP zt149 40 105 [some (.ref a0), some (.int p1), some (.int b2), some (.int b3), some (.int b4), some (.long b5), none, some (.int b7)] [.int 6, .int b4, .int b3, .ref a16] rfl rfl ?_
      refine z_xI zt149 41 rfl rfl (fun (x18 : Int32) (h19 : x18.toInt = b4.toInt * 64) => ?_) (z_pShl 6 rfl rfl (by decide) (by decide) (by omega) rfl (by omega))
      refine z_xP zt149 42 108 [some (.ref a0), some (.int p1), some (.int b2), some (.int b3), some (.int b4), some (.long b5), none, some (.int b7)] [.long b5, .int x18, .int b3, .ref a16] rfl rfl ?_
      refine z_xcS (vs := [.long b5]) (r := [.int x18, .int b3, .ref a16]) (L2 := [some (.long b5), none, none]) zt149 43 rfl zo149 zzcS2_116 (Or.inl rfl) (Nat.le_of_ble_eq_true rfl) rfl rfl (Nat.le_of_ble_eq_true rfl) zzm150 (Nat.le_of_ble_eq_true rfl) rfl ?_
      refine zS150 (by omega) (fun x20 h21 h22 => ?_)
      show z_ev (d + 2) 149 111 [some (.ref a0), some (.int p1), some (.int b2), some (.int b3), some (.int b4), some (.long b5), none, some (.int b7)] [.int x20, .int x18, .int b3, .ref a16] M _
      refine z_xI zt149 44 rfl rfl (fun (x23 : Int32) (h24 : x23.toInt = x18.toInt + x20.toInt) => ?_) (z_pAdd rfl rfl (by omega) (by omega))
      refine z_xis zt149 45 rfl X k17 (by decide) (X.1.g4 k17 (by decide)) (by omega) (by omega) (by omega) (by omega) (by decide) (fun M25 X26 e27 h28 => ?_)
      refine z_xN zt149 46 rfl rfl (fun (x29 : Int32) (h30 : x29.toInt = b3.toInt + 1) => ?_) (z_pAdd rfl rfl (by omega) (by omega))
      show z_ev (d + 2) 149 116 [some (.ref a0), some (.int p1), some (.int b2), some (.int x29), some (.int b4), some (.long b5), none, some (.int b7)] [] M25 _
      refine z_xP zt149 47 121 [some (.ref a0), some (.int p1), some (.int b2), some (.int x29), some (.int b4), some (.long b5), none, some (.int b7)] [.long 1, .long b5, .long b5] rfl rfl ?_
      refine z_xL zt149 48 rfl rfl (P := fun _ => True) (fun (y31 : Int64) _ => ?_) trivial
      refine z_xL zt149 49 rfl rfl (P := fun _ => True) (fun (y33 : Int64) _ => ?_) trivial
      refine z_xP zt149 50 125 [some (.ref a0), some (.int p1), some (.int b2), some (.int x29), some (.int b4), some (.long y33), none, some (.int b7)] [] rfl rfl ?_
      refine z_xN zt149 51 rfl rfl (fun (x35 : Int32) (h36 : x35.toInt = b7.toInt + 1) => ?_) (z_pAdd rfl rfl (by omega) (by omega))
      show z_ev (d + 2) 149 128 [some (.ref a0), some (.int p1), some (.int b2), some (.int x29), some (.int b4), some (.long y33), none, some (.int x35)] [] M25 _
      refine z_xP zt149 52 76 [some (.ref a0), some (.int p1), some (.int b2), some (.int x29), some (.int b4), some (.long y33), none, some (.int x35)] [] rfl rfl ?_
      have h37 := z_b32 b2
      exact ih.2.2 M25 b2 x29 b4 y33 x35 X26 ⟨by omega, by omega⟩ ⟨by omega, by omega⟩ ⟨by omega, by omega⟩ ⟨by omega, by omega⟩ (by omega) (by omega)
theorem zC149 {T : List zK} {d : Nat} {K : Option Value → zH → Prop} {a0 : Nat} {q : Nat} {t : Nat} {m : Nat} {p1 : Int32} {M0 : zH} (hW : z_W M0 T) (k0 : T[a0]? = some (.inl (2, q, t, m, 0))) (u1 : 0 ≤ p1.toInt ∧ p1.toInt ≤ 255) (kk : ∀ (x : Int32) (M1 : zH), z_X T zw149 M0 M1 → K (some (.int x)) M1) : z_ev (d + 2) 149 0 [some (.ref a0), some (.int p1), none, none, none, none, none, none] [] M0 K := by
  have X : z_X T zw149 M0 M0 := .refl hW
  have g0 := X.1.p2 k0
  refine z_xP zt149 0 4 [some (.ref a0), some (.int p1), some (.int 0), some (.int 0), none, none, none, none] [] rfl rfl ?_
  have q0 : ((0 : Int32)).toInt = 0 := rfl
  exact (zB149 k0 u1 kk 3536).1 M0 (0) (0) X (by decide) (by omega)
def zw152 : List Nat := []
theorem zB152 {T : List zK} {d : Nat} {K : Option Value → zH → Prop} {a0 : Nat} {q : Nat} {t : Nat} {m : Nat} {p1 : Int32} {p2 : Int32} {p3 : Int32} {M0 : zH} (k0 : T[a0]? = some (.inl (2, q, t, m, 0))) (u1 : 0 ≤ p1.toInt ∧ p1.toInt ≤ 2047) (u2 : 0 ≤ p2.toInt ∧ p2.toInt ≤ 1023) (u3 : 4 ≤ p3.toInt ∧ p3.toInt ≤ 12) (kk : ∀ (x : Int32) (M1 : zH), z_X T zw152 M0 M1 → 0 ≤ x.toInt → x.toInt ≤ 1 → K (some (.int x)) M1) : ∀ n : Nat, (∀ (M : zH) (b4 : Int32), z_X T zw152 M0 M → 0 ≤ b4.toInt ∧ b4.toInt ≤ 12 → ((0) * 2 + 0) * 13 + (12 - b4.toInt) < (n : Int) → z_ev d 152 3 [some (.ref a0), some (.int p1), some (.int p2), some (.int p3), some (.int b4)] [] M K) := by
  intro n
  induction n with
  | zero => exact by intros; exfalso; omega
  | succ n ih =>
    intro M b4 X hh0 hE
    have g0 := X.1.p2 k0
    refine z_xP zt152 1 6 [some (.ref a0), some (.int p1), some (.int p2), some (.int p3), some (.int b4)] [.int p3, .int b4] rfl rfl ?_
    refine z_xJ zt152 2 rfl rfl (fun (h1 : p3.toInt ≤ b4.toInt) => ?_) (fun (h1 : b4.toInt < p3.toInt) => ?_)
    · skip
      refine z_xP zt152 16 33 [some (.ref a0), some (.int p1), some (.int p2), some (.int p3), some (.int b4)] [.int 0] rfl rfl ?_
      have q0 : ((0 : Int32)).toInt = 0 := rfl
      exact z_xrz zt152 17 rfl zzr152 (by decide) (by decide) (kk 0 M X (by omega) (by omega))
    refine z_xP zt152 3 10 [some (.ref a0), some (.int p1), some (.int p2), some (.int p3), some (.int b4)] [.ref a0] rfl rfl ?_
    refine z_xgR (κ := .inr (113, 0, 12, 0, 64 * ((z_bl q : Nat) : Int) - 1)) zt152 4 rfl zo152 zzf2_9 X k0 (by decide) (by decide) rfl (fun (a3 : Nat) h2 k4 => ?_)
    refine z_xP zt152 5 15 [some (.ref a0), some (.int p1), some (.int p2), some (.int p3), some (.int b4)] [.int b4, .ref a3] rfl rfl ?_
    refine z_xil zt152 6 rfl X k4 (by decide) (by omega) (by omega) (fun (x5 : Int32) h6 (h7 : 0 ≤ x5.toInt) (h8 : x5.toInt ≤ 64 * ((z_bl q : Nat) : Int) - 1) => ?_)
    refine z_xP zt152 7 18 [some (.ref a0), some (.int p1), some (.int p2), some (.int p3), some (.int b4)] [.int p2, .int p1, .int x5] rfl rfl ?_
    refine z_xI zt152 8 rfl rfl (fun (x9 : Int32) (h10 : 0 ≤ x9.toInt ∧ x9.toInt < 2048 ∧ p1.toInt ≤ x9.toInt ∧ p2.toInt ≤ x9.toInt) => ?_) (z_pOr 11 rfl rfl (by omega) (by omega) (by decide) (by omega) (by omega) (by decide))
    refine z_xI zt152 9 rfl rfl (fun (x11 : Int32) (h12 : 0 ≤ x11.toInt ∧ x11.toInt ≤ x5.toInt ∧ x11.toInt ≤ x9.toInt) => ?_) (z_pAnd2 rfl rfl (by omega) (by omega))
    refine z_xP zt152 10 21 [some (.ref a0), some (.int p1), some (.int p2), some (.int p3), some (.int b4)] [.int p1, .int x11] rfl rfl ?_
    refine z_xJ zt152 11 rfl rfl (fun (h13 : x11.toInt ≠ p1.toInt) => ?_) (fun (h13 : x11.toInt = p1.toInt) => ?_)
    · skip
      refine z_xN zt152 14 rfl rfl (fun (x14 : Int32) (h15 : x14.toInt = b4.toInt + 1) => ?_) (z_pAdd rfl rfl (by omega) (by omega))
      show z_ev d 152 29 [some (.ref a0), some (.int p1), some (.int p2), some (.int p3), some (.int x14)] [] M _
      refine z_xP zt152 15 3 [some (.ref a0), some (.int p1), some (.int p2), some (.int p3), some (.int x14)] [] rfl rfl ?_
      exact ih M x14 X ⟨by omega, by omega⟩ (by omega)
    refine z_xP zt152 12 25 [some (.ref a0), some (.int p1), some (.int p2), some (.int p3), some (.int b4)] [.int 1] rfl rfl ?_
    have q1 : ((1 : Int32)).toInt = 1 := rfl
    exact z_xrz zt152 13 rfl zzr152 (by decide) (by decide) (kk 1 M X (by omega) (by omega))
theorem zC152 {T : List zK} {d : Nat} {K : Option Value → zH → Prop} {a0 : Nat} {q : Nat} {t : Nat} {m : Nat} {p1 : Int32} {p2 : Int32} {p3 : Int32} {M0 : zH} (hW : z_W M0 T) (k0 : T[a0]? = some (.inl (2, q, t, m, 0))) (u1 : 0 ≤ p1.toInt ∧ p1.toInt ≤ 2047) (u2 : 0 ≤ p2.toInt ∧ p2.toInt ≤ 1023) (u3 : 4 ≤ p3.toInt ∧ p3.toInt ≤ 12) (kk : ∀ (x : Int32) (M1 : zH), z_X T zw152 M0 M1 → 0 ≤ x.toInt → x.toInt ≤ 1 → K (some (.int x)) M1) : z_ev d 152 0 [some (.ref a0), some (.int p1), some (.int p2), some (.int p3), none] [] M0 K := by
  have X : z_X T zw152 M0 M0 := .refl hW
  have g0 := X.1.p2 k0
  refine z_xP zt152 0 3 [some (.ref a0), some (.int p1), some (.int p2), some (.int p3), some (.int 0)] [] rfl rfl ?_
  have q0 : ((0 : Int32)).toInt = 0 := rfl
  exact (zB152 k0 u1 u2 u3 kk 26) M0 (0) X (by decide) (by omega)
def zw151 : List Nat := []
theorem zB151 {T : List zK} {d : Nat} {K : Option Value → zH → Prop} {a0 : Nat} {q : Nat} {t : Nat} {m : Nat} {p1 : Int32} {M0 : zH} (k0 : T[a0]? = some (.inl (2, q, t, m, 0))) (u1 : (-2147483648) ≤ p1.toInt ∧ p1.toInt ≤ 12) (kk : ∀ (x : Int32) (M1 : zH), z_X T zw151 M0 M1 → 0 ≤ x.toInt → x.toInt ≤ 1 → K (some (.int x)) M1) : ∀ n : Nat, (∀ (M : zH) (b2 : Int32) (o3 : Option Value) (o4 : Option Value) (o5 : Option Value) (o6 : Option Value) (o7 : Option Value) (o8 : Option Value) (o9 : Option Value) (o10 : Option Value) (o11 : Option Value), z_X T zw151 M0 M → 0 ≤ b2.toInt ∧ b2.toInt ≤ 12 → ((((((((0) * 5 + 3) * 13 + (12 - b2.toInt)) * 5 + 4) * 12 + (0)) * 5 + 4) * 11 + (0)) * 5 + 4) * 10 + (0) < (n : Int) → z_ev (d + 1) 151 2 [some (.ref a0), some (.int p1), some (.int b2), o3, o4, o5, o6, o7, o8, o9, o10, o11] [] M K) ∧ (∀ (M : zH) (b2 : Int32) (b3 : Int32) (o4 : Option Value) (o5 : Option Value) (o6 : Option Value) (o7 : Option Value) (o8 : Option Value) (o9 : Option Value) (o10 : Option Value) (o11 : Option Value), z_X T zw151 M0 M → 1 ≤ p1.toInt ∧ p1.toInt ≤ 12 → 0 ≤ b2.toInt ∧ b2.toInt ≤ 11 → 1 ≤ b3.toInt ∧ b3.toInt ≤ 12 → ((((((((0) * 5 + 3) * 13 + (12 - b2.toInt)) * 5 + 2) * 12 + (12 - b3.toInt)) * 5 + 4) * 11 + (0)) * 5 + 4) * 10 + (0) < (n : Int) → z_ev (d + 1) 151 11 [some (.ref a0), some (.int p1), some (.int b2), some (.int b3), o4, o5, o6, o7, o8, o9, o10, o11] [] M K) ∧ (∀ (M : zH) (b2 : Int32) (b3 : Int32) (b4 : Int32) (b5 : Int32) (b6 : Int32) (o7 : Option Value) (o8 : Option Value) (o9 : Option Value) (o10 : Option Value) (o11 : Option Value), z_X T zw151 M0 M → 2 ≤ p1.toInt ∧ p1.toInt ≤ 12 → 0 ≤ b2.toInt ∧ b2.toInt ≤ 11 → 1 ≤ b3.toInt ∧ b3.toInt ≤ 11 → 0 ≤ b4.toInt ∧ b4.toInt ≤ 1023 → 0 ≤ b5.toInt ∧ b5.toInt ≤ 1023 → 2 ≤ b6.toInt ∧ b6.toInt ≤ 12 → ((((((((0) * 5 + 3) * 13 + (12 - b2.toInt)) * 5 + 2) * 12 + (12 - b3.toInt)) * 5 + 1) * 11 + (12 - b6.toInt)) * 5 + 4) * 10 + (0) < (n : Int) → z_ev (d + 1) 151 51 [some (.ref a0), some (.int p1), some (.int b2), some (.int b3), some (.int b4), some (.int b5), some (.int b6), o7, o8, o9, o10, o11] [] M K) ∧ (∀ (M : zH) (b2 : Int32) (b3 : Int32) (b4 : Int32) (b5 : Int32) (b6 : Int32) (b7 : Int32) (o8 : Option Value) (o9 : Option Value) (o10 : Option Value) (o11 : Option Value), z_X T zw151 M0 M → 3 ≤ p1.toInt ∧ p1.toInt ≤ 12 → 0 ≤ b2.toInt ∧ b2.toInt ≤ 11 → 1 ≤ b3.toInt ∧ b3.toInt ≤ 11 → 0 ≤ b4.toInt ∧ b4.toInt ≤ 1023 → 0 ≤ b5.toInt ∧ b5.toInt ≤ 1023 → 2 ≤ b6.toInt ∧ b6.toInt ≤ 11 → 3 ≤ b7.toInt ∧ b7.toInt ≤ 12 → ((((((((0) * 5 + 3) * 13 + (12 - b2.toInt)) * 5 + 2) * 12 + (12 - b3.toInt)) * 5 + 1) * 11 + (12 - b6.toInt)) * 5 + 0) * 10 + (12 - b7.toInt) < (n : Int) → z_ev (d + 1) 151 63 [some (.ref a0), some (.int p1), some (.int b2), some (.int b3), some (.int b4), some (.int b5), some (.int b6), some (.int b7), o8, o9, o10, o11] [] M K) := by
  intro n
  induction n with
  | zero => exact ⟨(by intros; exfalso; omega), (by intros; exfalso; omega), (by intros; exfalso; omega), (by intros; exfalso; omega)⟩
  | succ n ih =>
    refine ⟨?_, ?_, ?_, ?_⟩
    · skip
      intro M b2 o3 o4 o5 o6 o7 o8 o9 o10 o11 X hh0 hE
      have g0 := X.1.p2 k0
      refine z_xP zt151 1 4 [some (.ref a0), some (.int p1), some (.int b2), o3, o4, o5, o6, o7, o8, o9, o10, o11] [.int p1, .int b2] rfl rfl ?_
      have h1 := z_b32 p1
      refine z_xJ zt151 2 rfl rfl (fun (h2 : p1.toInt ≤ b2.toInt) => ?_) (fun (h2 : b2.toInt < p1.toInt) => ?_)
      · skip
        refine z_xP zt151 82 175 [some (.ref a0), some (.int p1), some (.int b2), o3, o4, o5, o6, o7, o8, o9, o10, o11] [.int 1] rfl rfl ?_
        have q1 : ((1 : Int32)).toInt = 1 := rfl
        exact z_xrz zt151 83 rfl zzr151 (by decide) (by decide) (kk 1 M X (by omega) (by omega))
      refine z_xP zt151 3 9 [some (.ref a0), some (.int p1), some (.int b2), o3, o4, o5, o6, o7, o8, o9, o10, o11] [.int 1, .int b2] rfl rfl ?_
      refine z_xI zt151 4 rfl rfl (fun (x3 : Int32) (h4 : x3.toInt = b2.toInt + 1) => ?_) (z_pAdd rfl rfl (by omega) (by omega))
      refine z_xP zt151 5 11 [some (.ref a0), some (.int p1), some (.int b2), some (.int x3), o4, o5, o6, o7, o8, o9, o10, o11] [] rfl rfl ?_
      exact ih.2.1 M b2 x3 (o4) (o5) (o6) (o7) (o8) (o9) (o10) (o11) X ⟨by omega, by omega⟩ ⟨by omega, by omega⟩ ⟨by omega, by omega⟩ (by omega)
    · skip
      intro M b2 b3 o4 o5 o6 o7 o8 o9 o10 o11 X hh0 hh1 hh2 hE
      have g0 := X.1.p2 k0
      refine z_xP zt151 6 13 [some (.ref a0), some (.int p1), some (.int b2), some (.int b3), o4, o5, o6, o7, o8, o9, o10, o11] [.int p1, .int b3] rfl rfl ?_
      refine z_xJ zt151 7 rfl rfl (fun (h1 : p1.toInt ≤ b3.toInt) => ?_) (fun (h1 : b3.toInt < p1.toInt) => ?_)
      · skip
        refine z_xN zt151 80 rfl rfl (fun (x2 : Int32) (h3 : x2.toInt = b2.toInt + 1) => ?_) (z_pAdd rfl rfl (by omega) (by omega))
        show z_ev (d + 1) 151 171 [some (.ref a0), some (.int p1), some (.int x2), some (.int b3), o4, o5, o6, o7, o8, o9, o10, o11] [] M _
        refine z_xP zt151 81 2 [some (.ref a0), some (.int p1), some (.int x2), some (.int b3), o4, o5, o6, o7, o8, o9, o10, o11] [] rfl rfl ?_
        exact ih.1 M x2 (some (.int b3)) (o4) (o5) (o6) (o7) (o8) (o9) (o10) (o11) X ⟨by omega, by omega⟩ (by omega)
      refine z_xP zt151 8 17 [some (.ref a0), some (.int p1), some (.int b2), some (.int b3), o4, o5, o6, o7, o8, o9, o10, o11] [.ref a0] rfl rfl ?_
      refine z_xgR (κ := .inr (113, 0, 12, 0, 64 * ((z_bl q : Nat) : Int) - 1)) zt151 9 rfl zo151 zzf2_9 X k0 (by decide) (by decide) rfl (fun (a5 : Nat) h4 k6 => ?_)
      refine z_xP zt151 10 21 [some (.ref a0), some (.int p1), some (.int b2), some (.int b3), o4, o5, o6, o7, o8, o9, o10, o11] [.int b2, .ref a5] rfl rfl ?_
      refine z_xil zt151 11 rfl X k6 (by decide) (by omega) (by omega) (fun (x7 : Int32) h8 (h9 : 0 ≤ x7.toInt) (h10 : x7.toInt ≤ 64 * ((z_bl q : Nat) : Int) - 1) => ?_)
      refine z_xP zt151 12 23 [some (.ref a0), some (.int p1), some (.int b2), some (.int b3), o4, o5, o6, o7, o8, o9, o10, o11] [.ref a0, .int x7] rfl rfl ?_
      refine z_xgv zt151 13 rfl zo151 zzf2_9 X k0 (by decide) h4 ?_
      refine z_xP zt151 14 27 [some (.ref a0), some (.int p1), some (.int b2), some (.int b3), o4, o5, o6, o7, o8, o9, o10, o11] [.int b3, .ref a5, .int x7] rfl rfl ?_
      refine z_xil zt151 15 rfl X k6 (by decide) (by omega) (by omega) (fun (x11 : Int32) h12 (h13 : 0 ≤ x11.toInt) (h14 : x11.toInt ≤ 64 * ((z_bl q : Nat) : Int) - 1) => ?_)
      refine z_xI zt151 16 rfl rfl (fun (x15 : Int32) (h16 : 0 ≤ x15.toInt ∧ x15.toInt ≤ x7.toInt ∧ x15.toInt ≤ x11.toInt) => ?_) (z_pAnd2 rfl rfl (by omega) (by omega))
      refine z_xP zt151 17 32 [some (.ref a0), some (.int p1), some (.int b2), some (.int b3), some (.int x15), o5, o6, o7, o8, o9, o10, o11] [.ref a0] rfl rfl ?_
      refine z_xgv zt151 18 rfl zo151 zzf2_9 X k0 (by decide) h4 ?_
      refine z_xP zt151 19 36 [some (.ref a0), some (.int p1), some (.int b2), some (.int b3), some (.int x15), o5, o6, o7, o8, o9, o10, o11] [.int b2, .ref a5] rfl rfl ?_
      refine z_xil zt151 20 rfl X k6 (by decide) (by omega) (by omega) (fun (x17 : Int32) h18 (h19 : 0 ≤ x17.toInt) (h20 : x17.toInt ≤ 64 * ((z_bl q : Nat) : Int) - 1) => ?_)
      have h21 := congrArg Int32.toInt (h18.symm.trans h8)
      refine z_xP zt151 21 38 [some (.ref a0), some (.int p1), some (.int b2), some (.int b3), some (.int x15), o5, o6, o7, o8, o9, o10, o11] [.ref a0, .int x17] rfl rfl ?_
      refine z_xgv zt151 22 rfl zo151 zzf2_9 X k0 (by decide) h4 ?_
      refine z_xP zt151 23 42 [some (.ref a0), some (.int p1), some (.int b2), some (.int b3), some (.int x15), o5, o6, o7, o8, o9, o10, o11] [.int b3, .ref a5, .int x17] rfl rfl ?_
      refine z_xil zt151 24 rfl X k6 (by decide) (by omega) (by omega) (fun (x22 : Int32) h23 (h24 : 0 ≤ x22.toInt) (h25 : x22.toInt ≤ 64 * ((z_bl q : Nat) : Int) - 1) => ?_)
      have h26 := congrArg Int32.toInt (h23.symm.trans h12)
      refine z_xI zt151 25 rfl rfl (fun (x27 : Int32) (h28 : 0 ≤ x27.toInt ∧ x27.toInt < 1024 ∧ x17.toInt ≤ x27.toInt ∧ x22.toInt ≤ x27.toInt) => ?_) (z_pOr 10 rfl rfl (by omega) (by omega) (by decide) (by omega) (by omega) (by decide))
      refine z_xP zt151 26 48 [some (.ref a0), some (.int p1), some (.int b2), some (.int b3), some (.int x15), some (.int x27), o6, o7, o8, o9, o10, o11] [.int 1, .int b3] rfl rfl ?_
      refine z_xI zt151 27 rfl rfl (fun (x29 : Int32) (h30 : x29.toInt = b3.toInt + 1) => ?_) (z_pAdd rfl rfl (by omega) (by omega))
      refine z_xP zt151 28 51 [some (.ref a0), some (.int p1), some (.int b2), some (.int b3), some (.int x15), some (.int x27), some (.int x29), o7, o8, o9, o10, o11] [] rfl rfl ?_
      exact ih.2.2.1 M b2 b3 x15 x27 x29 (o7) (o8) (o9) (o10) (o11) X ⟨by omega, by omega⟩ ⟨by omega, by omega⟩ ⟨by omega, by omega⟩ ⟨by omega, by omega⟩ ⟨by omega, by omega⟩ ⟨by omega, by omega⟩ (by omega)
    · skip
      intro M b2 b3 b4 b5 b6 o7 o8 o9 o10 o11 X hh0 hh1 hh2 hh3 hh4 hh5 hE
      have g0 := X.1.p2 k0
      refine z_xP zt151 29 54 [some (.ref a0), some (.int p1), some (.int b2), some (.int b3), some (.int b4), some (.int b5), some (.int b6), o7, o8, o9, o10, o11] [.int p1, .int b6] rfl rfl ?_
      refine z_xJ zt151 30 rfl rfl (fun (h1 : p1.toInt ≤ b6.toInt) => ?_) (fun (h1 : b6.toInt < p1.toInt) => ?_)
      · skip
        refine z_xN zt151 78 rfl rfl (fun (x2 : Int32) (h3 : x2.toInt = b3.toInt + 1) => ?_) (z_pAdd rfl rfl (by omega) (by omega))
        show z_ev (d + 1) 151 165 [some (.ref a0), some (.int p1), some (.int b2), some (.int x2), some (.int b4), some (.int b5), some (.int b6), o7, o8, o9, o10, o11] [] M _
        refine z_xP zt151 79 11 [some (.ref a0), some (.int p1), some (.int b2), some (.int x2), some (.int b4), some (.int b5), some (.int b6), o7, o8, o9, o10, o11] [] rfl rfl ?_
        exact ih.2.1 M b2 x2 (some (.int b4)) (some (.int b5)) (some (.int b6)) (o7) (o8) (o9) (o10) (o11) X ⟨by omega, by omega⟩ ⟨by omega, by omega⟩ ⟨by omega, by omega⟩ (by omega)
      refine z_xP zt151 31 60 [some (.ref a0), some (.int p1), some (.int b2), some (.int b3), some (.int b4), some (.int b5), some (.int b6), o7, o8, o9, o10, o11] [.int 1, .int b6] rfl rfl ?_
      refine z_xI zt151 32 rfl rfl (fun (x4 : Int32) (h5 : x4.toInt = b6.toInt + 1) => ?_) (z_pAdd rfl rfl (by omega) (by omega))
      refine z_xP zt151 33 63 [some (.ref a0), some (.int p1), some (.int b2), some (.int b3), some (.int b4), some (.int b5), some (.int b6), some (.int x4), o8, o9, o10, o11] [] rfl rfl ?_
      exact ih.2.2.2 M b2 b3 b4 b5 b6 x4 (o8) (o9) (o10) (o11) X ⟨by omega, by omega⟩ ⟨by omega, by omega⟩ ⟨by omega, by omega⟩ ⟨by omega, by omega⟩ ⟨by omega, by omega⟩ ⟨by omega, by omega⟩ ⟨by omega, by omega⟩ (by omega)
    · skip
      intro M b2 b3 b4 b5 b6 b7 o8 o9 o10 o11 X hh0 hh1 hh2 hh3 hh4 hh5 hh6 hE
      have g0 := X.1.p2 k0
      refine z_xP zt151 34 66 [some (.ref a0), some (.int p1), some (.int b2), some (.int b3), some (.int b4), some (.int b5), some (.int b6), some (.int b7), o8, o9, o10, o11] [.int p1, .int b7] rfl rfl ?_
      refine z_xJ zt151 35 rfl rfl (fun (h1 : p1.toInt ≤ b7.toInt) => ?_) (fun (h1 : b7.toInt < p1.toInt) => ?_)
      · skip
        refine z_xN zt151 76 rfl rfl (fun (x2 : Int32) (h3 : x2.toInt = b6.toInt + 1) => ?_) (z_pAdd rfl rfl (by omega) (by omega))
        show z_ev (d + 1) 151 159 [some (.ref a0), some (.int p1), some (.int b2), some (.int b3), some (.int b4), some (.int b5), some (.int x2), some (.int b7), o8, o9, o10, o11] [] M _
        refine z_xP zt151 77 51 [some (.ref a0), some (.int p1), some (.int b2), some (.int b3), some (.int b4), some (.int b5), some (.int x2), some (.int b7), o8, o9, o10, o11] [] rfl rfl ?_
        exact ih.2.2.1 M b2 b3 b4 b5 x2 (some (.int b7)) (o8) (o9) (o10) (o11) X ⟨by omega, by omega⟩ ⟨by omega, by omega⟩ ⟨by omega, by omega⟩ ⟨by omega, by omega⟩ ⟨by omega, by omega⟩ ⟨by omega, by omega⟩ (by omega)
      refine z_xP zt151 36 70 [some (.ref a0), some (.int p1), some (.int b2), some (.int b3), some (.int b4), some (.int b5), some (.int b6), some (.int b7), o8, o9, o10, o11] [.ref a0] rfl rfl ?_
      refine z_xgR (κ := .inr (113, 0, 12, 0, 64 * ((z_bl q : Nat) : Int) - 1)) zt151 37 rfl zo151 zzf2_9 X k0 (by decide) (by decide) rfl (fun (a5 : Nat) h4 k6 => ?_)
      refine z_xP zt151 38 75 [some (.ref a0), some (.int p1), some (.int b2), some (.int b3), some (.int b4), some (.int b5), some (.int b6), some (.int b7), o8, o9, o10, o11] [.int b6, .ref a5] rfl rfl ?_
      refine z_xil zt151 39 rfl X k6 (by decide) (by omega) (by omega) (fun (x7 : Int32) h8 (h9 : 0 ≤ x7.toInt) (h10 : x7.toInt ≤ 64 * ((z_bl q : Nat) : Int) - 1) => ?_)
      refine z_xP zt151 40 77 [some (.ref a0), some (.int p1), some (.int b2), some (.int b3), some (.int b4), some (.int b5), some (.int b6), some (.int b7), o8, o9, o10, o11] [.ref a0, .int x7] rfl rfl ?_
      refine z_xgv zt151 41 rfl zo151 zzf2_9 X k0 (by decide) h4 ?_
      refine z_xP zt151 42 82 [some (.ref a0), some (.int p1), some (.int b2), some (.int b3), some (.int b4), some (.int b5), some (.int b6), some (.int b7), o8, o9, o10, o11] [.int b7, .ref a5, .int x7] rfl rfl ?_
      refine z_xil zt151 43 rfl X k6 (by decide) (by omega) (by omega) (fun (x11 : Int32) h12 (h13 : 0 ≤ x11.toInt) (h14 : x11.toInt ≤ 64 * ((z_bl q : Nat) : Int) - 1) => ?_)
      refine z_xI zt151 44 rfl rfl (fun (x15 : Int32) (h16 : 0 ≤ x15.toInt ∧ x15.toInt ≤ x7.toInt ∧ x15.toInt ≤ x11.toInt) => ?_) (z_pAnd2 rfl rfl (by omega) (by omega))
      refine z_xP zt151 45 87 [some (.ref a0), some (.int p1), some (.int b2), some (.int b3), some (.int b4), some (.int b5), some (.int b6), some (.int b7), some (.int x15), o9, o10, o11] [.ref a0] rfl rfl ?_
      refine z_xgv zt151 46 rfl zo151 zzf2_9 X k0 (by decide) h4 ?_
      refine z_xP zt151 47 92 [some (.ref a0), some (.int p1), some (.int b2), some (.int b3), some (.int b4), some (.int b5), some (.int b6), some (.int b7), some (.int x15), o9, o10, o11] [.int b6, .ref a5] rfl rfl ?_
      refine z_xil zt151 48 rfl X k6 (by decide) (by omega) (by omega) (fun (x17 : Int32) h18 (h19 : 0 ≤ x17.toInt) (h20 : x17.toInt ≤ 64 * ((z_bl q : Nat) : Int) - 1) => ?_)
      have h21 := congrArg Int32.toInt (h18.symm.trans h8)
      refine z_xP zt151 49 94 [some (.ref a0), some (.int p1), some (.int b2), some (.int b3), some (.int b4), some (.int b5), some (.int b6), some (.int b7), some (.int x15), o9, o10, o11] [.ref a0, .int x17] rfl rfl ?_
      refine z_xgv zt151 50 rfl zo151 zzf2_9 X k0 (by decide) h4 ?_
      refine z_xP zt151 51 99 [some (.ref a0), some (.int p1), some (.int b2), some (.int b3), some (.int b4), some (.int b5), some (.int b6), some (.int b7), some (.int x15), o9, o10, o11] [.int b7, .ref a5, .int x17] rfl rfl ?_
      refine z_xil zt151 52 rfl X k6 (by decide) (by omega) (by omega) (fun (x22 : Int32) h23 (h24 : 0 ≤ x22.toInt) (h25 : x22.toInt ≤ 64 * ((z_bl q : Nat) : Int) - 1) => ?_)
      have h26 := congrArg Int32.toInt (h23.symm.trans h12)
      refine z_xI zt151 53 rfl rfl (fun (x27 : Int32) (h28 : 0 ≤ x27.toInt ∧ x27.toInt < 1024 ∧ x17.toInt ≤ x27.toInt ∧ x22.toInt ≤ x27.toInt) => ?_) (z_pOr 10 rfl rfl (by omega) (by omega) (by decide) (by omega) (by omega) (by decide))
      refine z_xP zt151 54 107 [some (.ref a0), some (.int p1), some (.int b2), some (.int b3), some (.int b4), some (.int b5), some (.int b6), some (.int b7), some (.int x15), some (.int x27), o10, o11] [.int x27, .int b4] rfl rfl ?_
      refine z_xI zt151 55 rfl rfl (fun (x29 : Int32) (h30 : 0 ≤ x29.toInt ∧ x29.toInt ≤ b4.toInt ∧ x29.toInt ≤ x27.toInt) => ?_) (z_pAnd2 rfl rfl (by omega) (by omega))
      refine z_xP zt151 56 112 [some (.ref a0), some (.int p1), some (.int b2), some (.int b3), some (.int b4), some (.int b5), some (.int b6), some (.int b7), some (.int x15), some (.int x27), o10, o11] [.int x15, .int b5, .int x29] rfl rfl ?_
      refine z_xI zt151 57 rfl rfl (fun (x31 : Int32) (h32 : 0 ≤ x31.toInt ∧ x31.toInt ≤ b5.toInt ∧ x31.toInt ≤ x15.toInt) => ?_) (z_pAnd2 rfl rfl (by omega) (by omega))
      refine z_xI zt151 58 rfl rfl (fun (x33 : Int32) (h34 : 0 ≤ x33.toInt ∧ x33.toInt < 1024 ∧ x29.toInt ≤ x33.toInt ∧ x31.toInt ≤ x33.toInt) => ?_) (z_pOr 10 rfl rfl (by omega) (by omega) (by decide) (by omega) (by omega) (by decide))
      refine z_xP zt151 59 120 [some (.ref a0), some (.int p1), some (.int b2), some (.int b3), some (.int b4), some (.int b5), some (.int b6), some (.int b7), some (.int x15), some (.int x27), some (.int x33), o11] [.int x15, .int b4] rfl rfl ?_
      refine z_xI zt151 60 rfl rfl (fun (x35 : Int32) (h36 : 0 ≤ x35.toInt ∧ x35.toInt < 1024 ∧ b4.toInt ≤ x35.toInt ∧ x15.toInt ≤ x35.toInt) => ?_) (z_pOr 10 rfl rfl (by omega) (by omega) (by decide) (by omega) (by omega) (by decide))
      refine z_xP zt151 61 125 [some (.ref a0), some (.int p1), some (.int b2), some (.int b3), some (.int b4), some (.int b5), some (.int b6), some (.int b7), some (.int x15), some (.int x27), some (.int x33), o11] [.int x27, .int b5, .int x35] rfl rfl ?_
      refine z_xI zt151 62 rfl rfl (fun (x37 : Int32) (h38 : 0 ≤ x37.toInt ∧ x37.toInt ≤ b5.toInt ∧ x37.toInt ≤ x27.toInt) => ?_) (z_pAnd2 rfl rfl (by omega) (by omega))
      refine z_xI zt151 63 rfl rfl (fun (x39 : Int32) (h40 : 0 ≤ x39.toInt ∧ x39.toInt < 1024 ∧ x35.toInt ≤ x39.toInt ∧ x37.toInt ≤ x39.toInt) => ?_) (z_pOr 10 rfl rfl (by omega) (by omega) (by decide) (by omega) (by omega) (by decide))
      refine z_xP zt151 64 133 [some (.ref a0), some (.int p1), some (.int b2), some (.int b3), some (.int b4), some (.int b5), some (.int b6), some (.int b7), some (.int x15), some (.int x27), some (.int x33), some (.int x39)] [.ref a0, .int x33, .ref a0] rfl rfl ?_
      refine z_xgI zt151 65 rfl zo151 zzf2_32 X k0 (by decide) (by decide) rfl (fun (x42 : Int32) h41 (h43 : ((z_po q : Nat) : Int) - 1 ≤ x42.toInt) (h44 : x42.toInt ≤ ((z_po q : Nat) : Int) - 1) => ?_)
      refine z_xP zt151 66 139 [some (.ref a0), some (.int p1), some (.int b2), some (.int b3), some (.int b4), some (.int b5), some (.int b6), some (.int b7), some (.int x15), some (.int x27), some (.int x33), some (.int x39)] [.int (-1), .int x39, .int x42, .int x33, .ref a0] rfl rfl ?_
      refine z_xI zt151 67 rfl rfl (P := fun _ => True) (fun (x45 : Int32) _ => ?_) trivial
      refine z_xI zt151 68 rfl rfl (fun (x47 : Int32) (h48 : 0 ≤ x47.toInt ∧ x47.toInt ≤ x42.toInt) => ?_) (z_pAndL rfl (by omega))
      refine z_xP zt151 69 142 [some (.ref a0), some (.int p1), some (.int b2), some (.int b3), some (.int b4), some (.int b5), some (.int b6), some (.int b7), some (.int x15), some (.int x27), some (.int x33), some (.int x39)] [.int p1, .int x47, .int x33, .ref a0] rfl rfl ?_
      refine z_xcV (vs := [.ref a0, .int x33, .int x47, .int p1]) (r := []) (L2 := [some (.ref a0), some (.int x33), some (.int x47), some (.int p1), none]) zt151 70 rfl zo151 zzcV2_119 (Or.inl rfl) rfl X k0 rfl rfl rfl (Nat.le_of_ble_eq_true rfl) zzm152 (Nat.le_of_ble_eq_true rfl) rfl ?_
      refine zC152 X.1 k0 (by omega) (by omega) (by omega) (fun x51 M49 X50 h52 h53 => ?_)
      have X54 := X.go X50 (z_sb (by decide))
      show z_ev (d + 1) 151 145 [some (.ref a0), some (.int p1), some (.int b2), some (.int b3), some (.int b4), some (.int b5), some (.int b6), some (.int b7), some (.int x15), some (.int x27), some (.int x33), some (.int x39)] [.int x51] M49 _
      refine z_xZ zt151 71 rfl rfl (fun (h56 : x51.toInt ≠ 0) => ?_) (fun (h56 : x51.toInt = 0) => ?_)
      · skip
        refine z_xN zt151 74 rfl rfl (fun (x57 : Int32) (h58 : x57.toInt = b7.toInt + 1) => ?_) (z_pAdd rfl rfl (by omega) (by omega))
        show z_ev (d + 1) 151 153 [some (.ref a0), some (.int p1), some (.int b2), some (.int b3), some (.int b4), some (.int b5), some (.int b6), some (.int x57), some (.int x15), some (.int x27), some (.int x33), some (.int x39)] [] M49 _
        refine z_xP zt151 75 63 [some (.ref a0), some (.int p1), some (.int b2), some (.int b3), some (.int b4), some (.int b5), some (.int b6), some (.int x57), some (.int x15), some (.int x27), some (.int x33), some (.int x39)] [] rfl rfl ?_
        exact ih.2.2.2 M49 b2 b3 b4 b5 b6 x57 (some (.int x15)) (some (.int x27)) (some (.int x33)) (some (.int x39)) X54 ⟨by omega, by omega⟩ ⟨by omega, by omega⟩ ⟨by omega, by omega⟩ ⟨by omega, by omega⟩ ⟨by omega, by omega⟩ ⟨by omega, by omega⟩ ⟨by omega, by omega⟩ (by omega)
      refine z_xP zt151 72 149 [some (.ref a0), some (.int p1), some (.int b2), some (.int b3), some (.int b4), some (.int b5), some (.int b6), some (.int b7), some (.int x15), some (.int x27), some (.int x33), some (.int x39)] [.int 0] rfl rfl ?_
      have q0 : ((0 : Int32)).toInt = 0 := rfl
      exact z_xrz zt151 73 rfl zzr151 (by decide) (by decide) (kk 0 M49 X54 (by omega) (by omega))
theorem zC151 {T : List zK} {d : Nat} {K : Option Value → zH → Prop} {a0 : Nat} {q : Nat} {t : Nat} {m : Nat} {p1 : Int32} {M0 : zH} (hW : z_W M0 T) (k0 : T[a0]? = some (.inl (2, q, t, m, 0))) (u1 : (-2147483648) ≤ p1.toInt ∧ p1.toInt ≤ 12) (kk : ∀ (x : Int32) (M1 : zH), z_X T zw151 M0 M1 → 0 ≤ x.toInt → x.toInt ≤ 1 → K (some (.int x)) M1) : z_ev (d + 1) 151 0 [some (.ref a0), some (.int p1), none, none, none, none, none, none, none, none, none, none] [] M0 K := by
  have X : z_X T zw151 M0 M0 := .refl hW
  have g0 := X.1.p2 k0
  refine z_xP zt151 0 2 [some (.ref a0), some (.int p1), some (.int 0), none, none, none, none, none, none, none, none, none] [] rfl rfl ?_
  have q0 : ((0 : Int32)).toInt = 0 := rfl
  exact (zB151 k0 u1 kk 10725000).1 M0 (0) none none none none none none none none none X (by decide) (by omega)
def zw153 : List Nat := []
theorem zB153 {T : List zK} {d : Nat} {K : Option Value → zH → Prop} {a0 : Nat} {q : Nat} {t : Nat} {m : Nat} {p1 : Int32} {M0 : zH} (k0 : T[a0]? = some (.inl (2, q, t, m, 0))) (u1 : (-2147483648) ≤ p1.toInt ∧ p1.toInt ≤ 12) (kk : ∀ (x : Int32) (M1 : zH), z_X T zw153 M0 M1 → 0 ≤ x.toInt → x.toInt ≤ 1 → K (some (.int x)) M1) : ∀ n : Nat, (∀ (M : zH) (b2 : Int32) (o3 : Option Value) (o4 : Option Value) (o5 : Option Value) (o6 : Option Value) (o7 : Option Value), z_X T zw153 M0 M → 0 ≤ b2.toInt ∧ b2.toInt ≤ 12 → ((((((0) * 4 + 2) * 13 + (12 - b2.toInt)) * 4 + 3) * 12 + (0)) * 4 + 3) * 11 + (0) < (n : Int) → z_ev d 153 2 [some (.ref a0), some (.int p1), some (.int b2), o3, o4, o5, o6, o7] [] M K) ∧ (∀ (M : zH) (b2 : Int32) (b3 : Int32) (o4 : Option Value) (o5 : Option Value) (o6 : Option Value) (o7 : Option Value), z_X T zw153 M0 M → 1 ≤ p1.toInt ∧ p1.toInt ≤ 12 → 0 ≤ b2.toInt ∧ b2.toInt ≤ 11 → 1 ≤ b3.toInt ∧ b3.toInt ≤ 12 → ((((((0) * 4 + 2) * 13 + (12 - b2.toInt)) * 4 + 1) * 12 + (12 - b3.toInt)) * 4 + 3) * 11 + (0) < (n : Int) → z_ev d 153 11 [some (.ref a0), some (.int p1), some (.int b2), some (.int b3), o4, o5, o6, o7] [] M K) ∧ (∀ (M : zH) (b2 : Int32) (b3 : Int32) (b4 : Int32) (b5 : Int32) (b6 : Int32) (o7 : Option Value), z_X T zw153 M0 M → 2 ≤ p1.toInt ∧ p1.toInt ≤ 12 → 0 ≤ b2.toInt ∧ b2.toInt ≤ 11 → 1 ≤ b3.toInt ∧ b3.toInt ≤ 11 → 0 ≤ b4.toInt ∧ b4.toInt ≤ 1023 → 0 ≤ b5.toInt ∧ b5.toInt ≤ 1023 → 2 ≤ b6.toInt ∧ b6.toInt ≤ 12 → b4.toInt < 64 * ((z_bl q : Nat) : Int) → b5.toInt < 64 * ((z_bl q : Nat) : Int) → ((((((0) * 4 + 2) * 13 + (12 - b2.toInt)) * 4 + 1) * 12 + (12 - b3.toInt)) * 4 + 0) * 11 + (12 - b6.toInt) < (n : Int) → z_ev d 153 51 [some (.ref a0), some (.int p1), some (.int b2), some (.int b3), some (.int b4), some (.int b5), some (.int b6), o7] [] M K) := by
  intro n
  induction n with
  | zero => exact ⟨(by intros; exfalso; omega), (by intros; exfalso; omega), (by intros; exfalso; omega)⟩
  | succ n ih =>
    refine ⟨?_, ?_, ?_⟩
    · skip
      intro M b2 o3 o4 o5 o6 o7 X hh0 hE
      have g0 := X.1.p2 k0
      refine z_xP zt153 1 4 [some (.ref a0), some (.int p1), some (.int b2), o3, o4, o5, o6, o7] [.int p1, .int b2] rfl rfl ?_
      have h1 := z_b32 p1
      refine z_xJ zt153 2 rfl rfl (fun (h2 : p1.toInt ≤ b2.toInt) => ?_) (fun (h2 : b2.toInt < p1.toInt) => ?_)
      · skip
        refine z_xP zt153 58 116 [some (.ref a0), some (.int p1), some (.int b2), o3, o4, o5, o6, o7] [.int 1] rfl rfl ?_
        have q1 : ((1 : Int32)).toInt = 1 := rfl
        exact z_xrz zt153 59 rfl zzr153 (by decide) (by decide) (kk 1 M X (by omega) (by omega))
      refine z_xP zt153 3 9 [some (.ref a0), some (.int p1), some (.int b2), o3, o4, o5, o6, o7] [.int 1, .int b2] rfl rfl ?_
      refine z_xI zt153 4 rfl rfl (fun (x3 : Int32) (h4 : x3.toInt = b2.toInt + 1) => ?_) (z_pAdd rfl rfl (by omega) (by omega))
      refine z_xP zt153 5 11 [some (.ref a0), some (.int p1), some (.int b2), some (.int x3), o4, o5, o6, o7] [] rfl rfl ?_
      exact ih.2.1 M b2 x3 (o4) (o5) (o6) (o7) X ⟨by omega, by omega⟩ ⟨by omega, by omega⟩ ⟨by omega, by omega⟩ (by omega)
    · skip
      intro M b2 b3 o4 o5 o6 o7 X hh0 hh1 hh2 hE
      have g0 := X.1.p2 k0
      refine z_xP zt153 6 13 [some (.ref a0), some (.int p1), some (.int b2), some (.int b3), o4, o5, o6, o7] [.int p1, .int b3] rfl rfl ?_
      refine z_xJ zt153 7 rfl rfl (fun (h1 : p1.toInt ≤ b3.toInt) => ?_) (fun (h1 : b3.toInt < p1.toInt) => ?_)
      · skip
        refine z_xN zt153 56 rfl rfl (fun (x2 : Int32) (h3 : x2.toInt = b2.toInt + 1) => ?_) (z_pAdd rfl rfl (by omega) (by omega))
        show z_ev d 153 112 [some (.ref a0), some (.int p1), some (.int x2), some (.int b3), o4, o5, o6, o7] [] M _
        refine z_xP zt153 57 2 [some (.ref a0), some (.int p1), some (.int x2), some (.int b3), o4, o5, o6, o7] [] rfl rfl ?_
        exact ih.1 M x2 (some (.int b3)) (o4) (o5) (o6) (o7) X ⟨by omega, by omega⟩ (by omega)
      refine z_xP zt153 8 17 [some (.ref a0), some (.int p1), some (.int b2), some (.int b3), o4, o5, o6, o7] [.ref a0] rfl rfl ?_
      refine z_xgR (κ := .inr (113, 0, 12, 0, 64 * ((z_bl q : Nat) : Int) - 1)) zt153 9 rfl zo153 zzf2_9 X k0 (by decide) (by decide) rfl (fun (a5 : Nat) h4 k6 => ?_)
      refine z_xP zt153 10 21 [some (.ref a0), some (.int p1), some (.int b2), some (.int b3), o4, o5, o6, o7] [.int b2, .ref a5] rfl rfl ?_
      refine z_xil zt153 11 rfl X k6 (by decide) (by omega) (by omega) (fun (x7 : Int32) h8 (h9 : 0 ≤ x7.toInt) (h10 : x7.toInt ≤ 64 * ((z_bl q : Nat) : Int) - 1) => ?_)
      refine z_xP zt153 12 23 [some (.ref a0), some (.int p1), some (.int b2), some (.int b3), o4, o5, o6, o7] [.ref a0, .int x7] rfl rfl ?_
      refine z_xgv zt153 13 rfl zo153 zzf2_9 X k0 (by decide) h4 ?_
      refine z_xP zt153 14 27 [some (.ref a0), some (.int p1), some (.int b2), some (.int b3), o4, o5, o6, o7] [.int b3, .ref a5, .int x7] rfl rfl ?_
      refine z_xil zt153 15 rfl X k6 (by decide) (by omega) (by omega) (fun (x11 : Int32) h12 (h13 : 0 ≤ x11.toInt) (h14 : x11.toInt ≤ 64 * ((z_bl q : Nat) : Int) - 1) => ?_)
      refine z_xI zt153 16 rfl rfl (fun (x15 : Int32) (h16 : 0 ≤ x15.toInt ∧ x15.toInt ≤ x7.toInt ∧ x15.toInt ≤ x11.toInt) => ?_) (z_pAnd2 rfl rfl (by omega) (by omega))
      refine z_xP zt153 17 32 [some (.ref a0), some (.int p1), some (.int b2), some (.int b3), some (.int x15), o5, o6, o7] [.ref a0] rfl rfl ?_
      refine z_xgv zt153 18 rfl zo153 zzf2_9 X k0 (by decide) h4 ?_
      refine z_xP zt153 19 36 [some (.ref a0), some (.int p1), some (.int b2), some (.int b3), some (.int x15), o5, o6, o7] [.int b2, .ref a5] rfl rfl ?_
      refine z_xil zt153 20 rfl X k6 (by decide) (by omega) (by omega) (fun (x17 : Int32) h18 (h19 : 0 ≤ x17.toInt) (h20 : x17.toInt ≤ 64 * ((z_bl q : Nat) : Int) - 1) => ?_)
      have h21 := congrArg Int32.toInt (h18.symm.trans h8)
      refine z_xP zt153 21 38 [some (.ref a0), some (.int p1), some (.int b2), some (.int b3), some (.int x15), o5, o6, o7] [.ref a0, .int x17] rfl rfl ?_
      refine z_xgv zt153 22 rfl zo153 zzf2_9 X k0 (by decide) h4 ?_
      refine z_xP zt153 23 42 [some (.ref a0), some (.int p1), some (.int b2), some (.int b3), some (.int x15), o5, o6, o7] [.int b3, .ref a5, .int x17] rfl rfl ?_
      refine z_xil zt153 24 rfl X k6 (by decide) (by omega) (by omega) (fun (x22 : Int32) h23 (h24 : 0 ≤ x22.toInt) (h25 : x22.toInt ≤ 64 * ((z_bl q : Nat) : Int) - 1) => ?_)
      have h26 := congrArg Int32.toInt (h23.symm.trans h12)
      refine z_xI zt153 25 rfl rfl (fun (x27 : Int32) (h28 : 0 ≤ x27.toInt ∧ x27.toInt < 64 * ((z_bl q : Nat) : Int)) => ?_) (z_pOrB rfl rfl (by omega) (by omega) (by omega) (by omega) (by omega) (by omega))
      refine z_xP zt153 26 48 [some (.ref a0), some (.int p1), some (.int b2), some (.int b3), some (.int x15), some (.int x27), o6, o7] [.int 1, .int b3] rfl rfl ?_
      refine z_xI zt153 27 rfl rfl (fun (x29 : Int32) (h30 : x29.toInt = b3.toInt + 1) => ?_) (z_pAdd rfl rfl (by omega) (by omega))
      refine z_xP zt153 28 51 [some (.ref a0), some (.int p1), some (.int b2), some (.int b3), some (.int x15), some (.int x27), some (.int x29), o7] [] rfl rfl ?_
      exact ih.2.2 M b2 b3 x15 x27 x29 (o7) X ⟨by omega, by omega⟩ ⟨by omega, by omega⟩ ⟨by omega, by omega⟩ ⟨by omega, by omega⟩ ⟨by omega, by omega⟩ ⟨by omega, by omega⟩ (by omega) (by omega) (by omega)
    · skip
      intro M b2 b3 b4 b5 b6 o7 X hh0 hh1 hh2 hh3 hh4 hh5 hh6 hh7 hE
      have g0 := X.1.p2 k0
      refine z_xP zt153 29 54 [some (.ref a0), some (.int p1), some (.int b2), some (.int b3), some (.int b4), some (.int b5), some (.int b6), o7] [.int p1, .int b6] rfl rfl ?_
      refine z_xJ zt153 30 rfl rfl (fun (h1 : p1.toInt ≤ b6.toInt) => ?_) (fun (h1 : b6.toInt < p1.toInt) => ?_)
      · skip
        refine z_xN zt153 54 rfl rfl (fun (x2 : Int32) (h3 : x2.toInt = b3.toInt + 1) => ?_) (z_pAdd rfl rfl (by omega) (by omega))
        show z_ev d 153 106 [some (.ref a0), some (.int p1), some (.int b2), some (.int x2), some (.int b4), some (.int b5), some (.int b6), o7] [] M _
        refine z_xP zt153 55 11 [some (.ref a0), some (.int p1), some (.int b2), some (.int x2), some (.int b4), some (.int b5), some (.int b6), o7] [] rfl rfl ?_
        exact ih.2.1 M b2 x2 (some (.int b4)) (some (.int b5)) (some (.int b6)) (o7) X ⟨by omega, by omega⟩ ⟨by omega, by omega⟩ ⟨by omega, by omega⟩ (by omega)
      refine z_xP zt153 31 62 [some (.ref a0), some (.int p1), some (.int b2), some (.int b3), some (.int b4), some (.int b5), some (.int b6), o7] [.ref a0, .int b5, .int b4] rfl rfl ?_
      refine z_xgR (κ := .inr (113, 0, 12, 0, 64 * ((z_bl q : Nat) : Int) - 1)) zt153 32 rfl zo153 zzf2_9 X k0 (by decide) (by decide) rfl (fun (a5 : Nat) h4 k6 => ?_)
      refine z_xP zt153 33 67 [some (.ref a0), some (.int p1), some (.int b2), some (.int b3), some (.int b4), some (.int b5), some (.int b6), o7] [.int b6, .ref a5, .int b5, .int b4] rfl rfl ?_
      refine z_xil zt153 34 rfl X k6 (by decide) (by omega) (by omega) (fun (x7 : Int32) h8 (h9 : 0 ≤ x7.toInt) (h10 : x7.toInt ≤ 64 * ((z_bl q : Nat) : Int) - 1) => ?_)
      refine z_xI zt153 35 rfl rfl (fun (x11 : Int32) (h12 : 0 ≤ x11.toInt ∧ x11.toInt ≤ b5.toInt ∧ x11.toInt ≤ x7.toInt) => ?_) (z_pAnd2 rfl rfl (by omega) (by omega))
      refine z_xI zt153 36 rfl rfl (fun (x13 : Int32) (h14 : 0 ≤ x13.toInt ∧ x13.toInt < 64 * ((z_bl q : Nat) : Int)) => ?_) (z_pOrB rfl rfl (by omega) (by omega) (by omega) (by omega) (by omega) (by omega))
      refine z_xP zt153 37 73 [some (.ref a0), some (.int p1), some (.int b2), some (.int b3), some (.int b4), some (.int b5), some (.int b6), some (.int x13)] [.ref a0] rfl rfl ?_
      refine z_xgR (κ := .inr (112, 1, z_bl q, 0, 0)) zt153 38 rfl zo153 zzf2_47 X k0 (by decide) (by decide) rfl (fun (a16 : Nat) h15 k17 => ?_)
      refine z_xP zt153 39 80 [some (.ref a0), some (.int p1), some (.int b2), some (.int b3), some (.int b4), some (.int b5), some (.int b6), some (.int x13)] [.int 6, .int x13, .ref a16] rfl rfl ?_
      refine z_xI zt153 40 rfl rfl (fun (x18 : Int32) (h19 : x18.toInt = x13.toInt / 64) => ?_) (z_pShr (c := 64) 6 rfl rfl (by decide))
      refine z_xll zt153 41 rfl X k17 (by decide) (by omega) (by omega) (fun (y20 : Int64) => ?_)
      refine z_xP zt153 42 86 [some (.ref a0), some (.int p1), some (.int b2), some (.int b3), some (.int b4), some (.int b5), some (.int b6), some (.int x13)] [.int 63, .int x13, .long y20] rfl rfl ?_
      refine z_xI zt153 43 rfl rfl (fun (x21 : Int32) (h22 : 0 ≤ x21.toInt ∧ x21.toInt ≤ x13.toInt ∧ x21.toInt ≤ 63) => ?_) (z_pAnd2 rfl rfl (by omega) (by omega))
      refine z_xL zt153 44 rfl rfl (P := fun _ => True) (fun (y23 : Int64) _ => ?_) trivial
      refine z_xP zt153 45 89 [some (.ref a0), some (.int p1), some (.int b2), some (.int b3), some (.int b4), some (.int b5), some (.int b6), some (.int x13)] [.long 1, .long y23] rfl rfl ?_
      refine z_xL zt153 46 rfl rfl (P := fun _ => True) (fun (y25 : Int64) _ => ?_) trivial
      refine z_xP zt153 47 91 [some (.ref a0), some (.int p1), some (.int b2), some (.int b3), some (.int b4), some (.int b5), some (.int b6), some (.int x13)] [.long 0, .long y25] rfl rfl ?_
      refine z_xI zt153 48 rfl rfl (fun (x27 : Int32) (h28 : (x27.toInt < 0 ∧ y25.toInt < 0) ∨ (x27.toInt = 0 ∧ y25.toInt = 0) ∨ (0 < x27.toInt ∧ 0 < y25.toInt)) => ?_) (z_qCmp rfl rfl)
      refine z_xZ zt153 49 rfl rfl (fun (h29 : x27.toInt ≠ 0) => ?_) (fun (h29 : x27.toInt = 0) => ?_)
      · skip
        refine z_xN zt153 52 rfl rfl (fun (x30 : Int32) (h31 : x30.toInt = b6.toInt + 1) => ?_) (z_pAdd rfl rfl (by omega) (by omega))
        show z_ev d 153 100 [some (.ref a0), some (.int p1), some (.int b2), some (.int b3), some (.int b4), some (.int b5), some (.int x30), some (.int x13)] [] M _
        refine z_xP zt153 53 51 [some (.ref a0), some (.int p1), some (.int b2), some (.int b3), some (.int b4), some (.int b5), some (.int x30), some (.int x13)] [] rfl rfl ?_
        exact ih.2.2 M b2 b3 b4 b5 x30 (some (.int x13)) X ⟨by omega, by omega⟩ ⟨by omega, by omega⟩ ⟨by omega, by omega⟩ ⟨by omega, by omega⟩ ⟨by omega, by omega⟩ ⟨by omega, by omega⟩ (by omega) (by omega) (by omega)
      refine z_xP zt153 50 96 [some (.ref a0), some (.int p1), some (.int b2), some (.int b3), some (.int b4), some (.int b5), some (.int b6), some (.int x13)] [.int 0] rfl rfl ?_
      have q0 : ((0 : Int32)).toInt = 0 := rfl
      exact z_xrz zt153 51 rfl zzr153 (by decide) (by decide) (kk 0 M X (by omega) (by omega))
theorem zC153 {T : List zK} {d : Nat} {K : Option Value → zH → Prop} {a0 : Nat} {q : Nat} {t : Nat} {m : Nat} {p1 : Int32} {M0 : zH} (hW : z_W M0 T) (k0 : T[a0]? = some (.inl (2, q, t, m, 0))) (u1 : (-2147483648) ≤ p1.toInt ∧ p1.toInt ≤ 12) (kk : ∀ (x : Int32) (M1 : zH), z_X T zw153 M0 M1 → 0 ≤ x.toInt → x.toInt ≤ 1 → K (some (.int x)) M1) : z_ev d 153 0 [some (.ref a0), some (.int p1), none, none, none, none, none, none] [] M0 K := by
  have X : z_X T zw153 M0 M0 := .refl hW
  have g0 := X.1.p2 k0
  refine z_xP zt153 0 2 [some (.ref a0), some (.int p1), some (.int 0), none, none, none, none, none] [] rfl rfl ?_
  have q0 : ((0 : Int32)).toInt = 0 := rfl
  exact (zB153 k0 u1 kk 109824).1 M0 (0) none none none none none X (by decide) (by omega)
def zw147 : List Nat := [112, 113]
theorem zB147 {T : List zK} {d : Nat} {K : Option Value → zH → Prop} {a0 : Nat} {q : Nat} {t : Nat} {m : Nat} {p1 : Int32} {p2 : Int32} {M0 : zH} (k0 : T[a0]? = some (.inl (2, q, t, m, 0))) (u1 : 1 ≤ p1.toInt ∧ p1.toInt ≤ 5) (u2 : 0 ≤ p2.toInt ∧ p2.toInt ≤ 2) (kk : ∀ (x : Int32) (M1 : zH), z_X T zw147 M0 M1 → K (some (.int x)) M1) : ∀ n : Nat, (∀ (M : zH) (b3 : Int32) (b4 : Int32) (b5 : Int32) (b6 : Int32) (o7 : Option Value), z_X T zw147 M0 M → 0 ≤ b3.toInt ∧ b3.toInt ≤ 9 → 0 ≤ b4.toInt ∧ b4.toInt ≤ 255 → 0 ≤ b6.toInt ∧ b6.toInt ≤ 256 → ((0) * 2 + 0) * 257 + (256 - b6.toInt) < (n : Int) → z_ev (d + 4) 147 12 [some (.ref a0), some (.int p1), some (.int p2), some (.int b3), some (.int b4), some (.int b5), some (.int b6), o7] [] M K) := by
  intro n
  induction n with
  | zero => exact by intros; exfalso; omega
  | succ n ih =>
    intro M b3 b4 b5 b6 o7 X hh0 hh1 hh2 hE
    have g0 := X.1.p2 k0
    refine z_xP zt147 1 16 [some (.ref a0), some (.int p1), some (.int p2), some (.int b3), some (.int b4), some (.int b5), some (.int b6), o7] [.ref a0, .int 1, .int b6] rfl rfl ?_
    refine z_xgI zt147 2 rfl zo147 zzf2_25 X k0 (by decide) (by decide) rfl (fun (x2 : Int32) h1 (h3 : (t : Int) ≤ x2.toInt) (h4 : x2.toInt ≤ (t : Int)) => ?_)
    refine z_xI zt147 3 rfl rfl (fun (x5 : Int32) (h6 : 1 ≤ x5.toInt ∧ x5.toInt ≤ 256) => ?_) (z_pShlB (a := 1) (b := 8) (c := 256) (r := 256) rfl rfl (by omega) (by omega) (by omega) (by omega) (by decide) (by decide) (by decide) (by decide))
    refine z_xJ zt147 4 rfl rfl (fun (h7 : x5.toInt ≤ b6.toInt) => ?_) (fun (h7 : b6.toInt < x5.toInt) => ?_)
    · skip
      refine z_xP zt147 19 76 [some (.ref a0), some (.int p1), some (.int p2), some (.int b3), some (.int b4), some (.int b5), some (.int b6), o7] [.int b5] rfl rfl ?_
      refine z_xZ zt147 20 rfl rfl (fun (h8 : b5.toInt ≠ 0) => ?_) (fun (h8 : b5.toInt = 0) => ?_)
      · skip
        refine z_xP zt147 23 83 [some (.ref a0), some (.int p1), some (.int p2), some (.int b3), some (.int b4), some (.int b5), some (.int b6), o7] [.int p2] rfl rfl ?_
        refine z_xZ zt147 24 rfl rfl (fun (h9 : p2.toInt ≠ 0) => ?_) (fun (h9 : p2.toInt = 0) => ?_)
        · skip
          refine z_xP zt147 26 92 [some (.ref a0), some (.int p1), some (.int p2), some (.int b3), some (.int b4), some (.int b5), some (.int b6), o7] [.int 1, .int p2] rfl rfl ?_
          refine z_xJ zt147 27 rfl rfl (fun (h10 : p2.toInt ≠ 1) => ?_) (fun (h10 : p2.toInt = 1) => ?_)
          · skip
            refine z_xP zt147 29 102 [some (.ref a0), some (.int p1), some (.int p2), some (.int b3), some (.int b4), some (.int b5), some (.int b6), o7] [.int b5] rfl rfl ?_
            exact z_xri zt147 30 rfl zzr147 (kk b5 M X)
          refine z_xP zt147 28 102 [some (.ref a0), some (.int p1), some (.int p2), some (.int b3), some (.int b4), some (.int b5), some (.int b6), o7] [.int b4] rfl rfl ?_
          exact z_xri zt147 30 rfl zzr147 (kk b4 M X)
        refine z_xP zt147 25 102 [some (.ref a0), some (.int p1), some (.int p2), some (.int b3), some (.int b4), some (.int b5), some (.int b6), o7] [.int b3] rfl rfl ?_
        exact z_xri zt147 30 rfl zzr147 (kk b3 M X)
      refine z_xP zt147 21 81 [some (.ref a0), some (.int p1), some (.int p2), some (.int b3), some (.int b4), some (.int b5), some (.int b6), o7] [.int (-2)] rfl rfl ?_
      have qm2 : (((-2) : Int32)).toInt = (-2) := rfl
      exact z_xri zt147 22 rfl zzr147 (kk (-2) M X)
    refine z_xP zt147 5 25 [some (.ref a0), some (.int p1), some (.int p2), some (.int b3), some (.int b4), some (.int b5), some (.int b6), o7] [.int b6] rfl rfl ?_
    refine z_xcS (vs := [.int b6]) (r := []) (L2 := [some (.int b6)]) zt147 6 rfl zo147 zzcS2_86 (Or.inl rfl) (Nat.le_of_ble_eq_true rfl) rfl rfl (Nat.le_of_ble_eq_true rfl) zzm31 (Nat.le_of_ble_eq_true rfl) rfl ?_
    refine zC31 X.1 (fun x13 M11 X12 h14 h15 => ?_)
    have X16 := X.go X12 (z_sb (by decide))
    show z_ev (d + 4) 147 28 [some (.ref a0), some (.int p1), some (.int p2), some (.int b3), some (.int b4), some (.int b5), some (.int b6), o7] [.int x13] M11 _
    refine z_xP zt147 7 33 [some (.ref a0), some (.int p1), some (.int p2), some (.int b3), some (.int b4), some (.int b5), some (.int b6), some (.int x13)] [.int b3, .int x13] rfl rfl ?_
    refine z_xJ zt147 8 rfl rfl (fun (h18 : b3.toInt < x13.toInt) => ?_) (fun (h18 : x13.toInt ≤ b3.toInt) => ?_)
    · skip
      refine z_xN zt147 17 rfl rfl (fun (x19 : Int32) (h20 : x19.toInt = b6.toInt + 1) => ?_) (z_pAdd rfl rfl (by omega) (by omega))
      show z_ev (d + 4) 147 71 [some (.ref a0), some (.int p1), some (.int p2), some (.int b3), some (.int b4), some (.int b5), some (.int x19), some (.int x13)] [] M11 _
      refine z_xP zt147 18 12 [some (.ref a0), some (.int p1), some (.int p2), some (.int b3), some (.int b4), some (.int b5), some (.int x19), some (.int x13)] [] rfl rfl ?_
      exact ih M11 b3 b4 b5 x19 (some (.int x13)) X16 ⟨by omega, by omega⟩ ⟨by omega, by omega⟩ ⟨by omega, by omega⟩ (by omega)
    refine z_xP zt147 9 40 [some (.ref a0), some (.int p1), some (.int p2), some (.int b3), some (.int b4), some (.int b5), some (.int b6), some (.int x13)] [.int p1, .int b6, .ref a0] rfl rfl ?_
    refine z_xcV (vs := [.ref a0, .int b6, .int p1]) (r := []) (L2 := [some (.ref a0), some (.int b6), some (.int p1), none]) zt147 10 rfl zo147 zzcV2_103 (Or.inl rfl) rfl X16 k0 rfl rfl rfl (Nat.le_of_ble_eq_true rfl) zzm148 (Nat.le_of_ble_eq_true rfl) rfl ?_
    refine z_xP zt148 0 2 [some (.ref a0), some (.int b6), some (.int p1), none] [.int b6, .ref a0] rfl rfl ?_
    refine z_xcV (vs := [.ref a0, .int b6]) (r := []) (L2 := [some (.ref a0), some (.int b6), none, none, none, none, none, none]) zt148 1 rfl zo148 zzcV2_107 (Or.inl rfl) rfl X16 k0 rfl rfl rfl (Nat.le_of_ble_eq_true rfl) zzm149 (Nat.le_of_ble_eq_true rfl) rfl ?_
    refine zC149 X16.1 k0 (by omega) (fun x23 M21 X22  => ?_)
    have X24 := X16.go X22 (z_sb (by decide))
    show z_ev (d + 3) 148 5 [some (.ref a0), some (.int b6), some (.int p1), none] [.int x23] M21 _
    refine z_xP zt148 2 9 [some (.ref a0), some (.int b6), some (.int p1), some (.int x23)] [.int 12, .int x23] rfl rfl ?_
    refine z_xJ zt148 3 rfl rfl (fun (h26 : x23.toInt ≤ 12) => ?_) (fun (h26 : 12 < x23.toInt) => ?_)
    · skip
      refine z_xP zt148 6 16 [some (.ref a0), some (.int b6), some (.int p1), some (.int x23)] [.int 3, .int p1] rfl rfl ?_
      refine z_xJ zt148 7 rfl rfl (fun (h27 : 3 ≤ p1.toInt) => ?_) (fun (h27 : p1.toInt < 3) => ?_)
      · skip
        refine z_xP zt148 10 23 [some (.ref a0), some (.int b6), some (.int p1), some (.int x23)] [.int 4, .int p1] rfl rfl ?_
        refine z_xJ zt148 11 rfl rfl (fun (h28 : p1.toInt ≠ 4) => ?_) (fun (h28 : p1.toInt = 4) => ?_)
        · skip
          refine z_xP zt148 15 36 [some (.ref a0), some (.int b6), some (.int p1), some (.int x23)] [.int x23, .ref a0] rfl rfl ?_
          refine z_xcV (vs := [.ref a0, .int x23]) (r := []) (L2 := [some (.ref a0), some (.int x23), none, none, none, none, none, none]) zt148 16 rfl zo148 zzcV2_113 (Or.inl rfl) rfl X24 k0 rfl rfl rfl (Nat.le_of_ble_eq_true rfl) zzm153 (Nat.le_of_ble_eq_true rfl) rfl ?_
          have h29 := z_b32 x23
          refine zC153 X24.1 k0 (by omega) (fun x32 M30 X31 h33 h34 => ?_)
          have X35 := X24.go X31 (z_sb (by decide))
          show z_ev (d + 3) 148 39 [some (.ref a0), some (.int b6), some (.int p1), some (.int x23)] [.int x32] M30 _
          refine z_xrz zt148 17 rfl zzr148 (by omega) (by omega) ?_
          show z_ev (d + 4) 147 43 [some (.ref a0), some (.int p1), some (.int p2), some (.int b3), some (.int b4), some (.int b5), some (.int b6), some (.int x13)] [.int x32] M30 _
          refine z_xZ zt147 11 rfl rfl (fun (h37 : x32.toInt ≠ 0) => ?_) (fun (h37 : x32.toInt = 0) => ?_)
          · skip
            refine z_xP zt147 13 52 [some (.ref a0), some (.int p1), some (.int p2), some (.int b3), some (.int b4), some (.int b5), some (.int b6), some (.int x13)] [.int b3, .int x13] rfl rfl ?_
            refine z_xJ zt147 14 rfl rfl (fun (h38 : b3.toInt ≤ x13.toInt) => ?_) (fun (h38 : x13.toInt < b3.toInt) => ?_)
            · skip
              have h39 := z_b32 b5
              refine z_xN zt147 16 rfl rfl (fun (x40 : Int32) (h41 : True) => ?_) (trivial)
              show z_ev (d + 4) 147 68 [some (.ref a0), some (.int p1), some (.int p2), some (.int b3), some (.int b4), some (.int x40), some (.int b6), some (.int x13)] [] M30 _
              refine z_xN zt147 17 rfl rfl (fun (x42 : Int32) (h43 : x42.toInt = b6.toInt + 1) => ?_) (z_pAdd rfl rfl (by omega) (by omega))
              show z_ev (d + 4) 147 71 [some (.ref a0), some (.int p1), some (.int p2), some (.int b3), some (.int b4), some (.int x40), some (.int x42), some (.int x13)] [] M30 _
              refine z_xP zt147 18 12 [some (.ref a0), some (.int p1), some (.int p2), some (.int b3), some (.int b4), some (.int x40), some (.int x42), some (.int x13)] [] rfl rfl ?_
              exact ih M30 b3 b4 x40 x42 (some (.int x13)) X35 ⟨by omega, by omega⟩ ⟨by omega, by omega⟩ ⟨by omega, by omega⟩ (by omega)
            refine z_xP zt147 15 65 [some (.ref a0), some (.int p1), some (.int p2), some (.int x13), some (.int b6), some (.int 0), some (.int b6), some (.int x13)] [] rfl rfl ?_
            refine z_xN zt147 16 rfl rfl (fun (x44 : Int32) (h45 : x44.toInt = 0 + 1) => ?_) (z_pAdd rfl rfl (by omega) (by omega))
            show z_ev (d + 4) 147 68 [some (.ref a0), some (.int p1), some (.int p2), some (.int x13), some (.int b6), some (.int x44), some (.int b6), some (.int x13)] [] M30 _
            refine z_xN zt147 17 rfl rfl (fun (x46 : Int32) (h47 : x46.toInt = b6.toInt + 1) => ?_) (z_pAdd rfl rfl (by omega) (by omega))
            show z_ev (d + 4) 147 71 [some (.ref a0), some (.int p1), some (.int p2), some (.int x13), some (.int b6), some (.int x44), some (.int x46), some (.int x13)] [] M30 _
            refine z_xP zt147 18 12 [some (.ref a0), some (.int p1), some (.int p2), some (.int x13), some (.int b6), some (.int x44), some (.int x46), some (.int x13)] [] rfl rfl ?_
            exact ih M30 x13 b6 x44 x46 (some (.int x13)) X35 ⟨by omega, by omega⟩ ⟨by omega, by omega⟩ ⟨by omega, by omega⟩ (by omega)
          refine z_xP zt147 12 68 [some (.ref a0), some (.int p1), some (.int p2), some (.int b3), some (.int b4), some (.int b5), some (.int b6), some (.int x13)] [] rfl rfl ?_
          refine z_xN zt147 17 rfl rfl (fun (x48 : Int32) (h49 : x48.toInt = b6.toInt + 1) => ?_) (z_pAdd rfl rfl (by omega) (by omega))
          show z_ev (d + 4) 147 71 [some (.ref a0), some (.int p1), some (.int p2), some (.int b3), some (.int b4), some (.int b5), some (.int x48), some (.int x13)] [] M30 _
          refine z_xP zt147 18 12 [some (.ref a0), some (.int p1), some (.int p2), some (.int b3), some (.int b4), some (.int b5), some (.int x48), some (.int x13)] [] rfl rfl ?_
          exact ih M30 b3 b4 b5 x48 (some (.int x13)) X35 ⟨by omega, by omega⟩ ⟨by omega, by omega⟩ ⟨by omega, by omega⟩ (by omega)
        refine z_xP zt148 12 28 [some (.ref a0), some (.int b6), some (.int p1), some (.int x23)] [.int x23, .ref a0] rfl rfl ?_
        refine z_xcV (vs := [.ref a0, .int x23]) (r := []) (L2 := [some (.ref a0), some (.int x23), none, none, none, none, none, none, none, none, none, none]) zt148 13 rfl zo148 zzcV2_110 (Or.inl rfl) rfl X24 k0 rfl rfl rfl (Nat.le_of_ble_eq_true rfl) zzm151 (Nat.le_of_ble_eq_true rfl) rfl ?_
        have h50 := z_b32 x23
        refine zC151 X24.1 k0 (by omega) (fun x53 M51 X52 h54 h55 => ?_)
        have X56 := X24.go X52 (z_sb (by decide))
        show z_ev (d + 3) 148 31 [some (.ref a0), some (.int b6), some (.int p1), some (.int x23)] [.int x53] M51 _
        refine z_xP zt148 14 39 [some (.ref a0), some (.int b6), some (.int p1), some (.int x23)] [.int x53] rfl rfl ?_
        refine z_xrz zt148 17 rfl zzr148 (by omega) (by omega) ?_
        show z_ev (d + 4) 147 43 [some (.ref a0), some (.int p1), some (.int p2), some (.int b3), some (.int b4), some (.int b5), some (.int b6), some (.int x13)] [.int x53] M51 _
        refine z_xZ zt147 11 rfl rfl (fun (h58 : x53.toInt ≠ 0) => ?_) (fun (h58 : x53.toInt = 0) => ?_)
        · skip
          refine z_xP zt147 13 52 [some (.ref a0), some (.int p1), some (.int p2), some (.int b3), some (.int b4), some (.int b5), some (.int b6), some (.int x13)] [.int b3, .int x13] rfl rfl ?_
          refine z_xJ zt147 14 rfl rfl (fun (h59 : b3.toInt ≤ x13.toInt) => ?_) (fun (h59 : x13.toInt < b3.toInt) => ?_)
          · skip
            have h60 := z_b32 b5
            refine z_xN zt147 16 rfl rfl (fun (x61 : Int32) (h62 : True) => ?_) (trivial)
            show z_ev (d + 4) 147 68 [some (.ref a0), some (.int p1), some (.int p2), some (.int b3), some (.int b4), some (.int x61), some (.int b6), some (.int x13)] [] M51 _
            refine z_xN zt147 17 rfl rfl (fun (x63 : Int32) (h64 : x63.toInt = b6.toInt + 1) => ?_) (z_pAdd rfl rfl (by omega) (by omega))
            show z_ev (d + 4) 147 71 [some (.ref a0), some (.int p1), some (.int p2), some (.int b3), some (.int b4), some (.int x61), some (.int x63), some (.int x13)] [] M51 _
            refine z_xP zt147 18 12 [some (.ref a0), some (.int p1), some (.int p2), some (.int b3), some (.int b4), some (.int x61), some (.int x63), some (.int x13)] [] rfl rfl ?_
            exact ih M51 b3 b4 x61 x63 (some (.int x13)) X56 ⟨by omega, by omega⟩ ⟨by omega, by omega⟩ ⟨by omega, by omega⟩ (by omega)
          refine z_xP zt147 15 65 [some (.ref a0), some (.int p1), some (.int p2), some (.int x13), some (.int b6), some (.int 0), some (.int b6), some (.int x13)] [] rfl rfl ?_
          refine z_xN zt147 16 rfl rfl (fun (x65 : Int32) (h66 : x65.toInt = 0 + 1) => ?_) (z_pAdd rfl rfl (by omega) (by omega))
          show z_ev (d + 4) 147 68 [some (.ref a0), some (.int p1), some (.int p2), some (.int x13), some (.int b6), some (.int x65), some (.int b6), some (.int x13)] [] M51 _
          refine z_xN zt147 17 rfl rfl (fun (x67 : Int32) (h68 : x67.toInt = b6.toInt + 1) => ?_) (z_pAdd rfl rfl (by omega) (by omega))
          show z_ev (d + 4) 147 71 [some (.ref a0), some (.int p1), some (.int p2), some (.int x13), some (.int b6), some (.int x65), some (.int x67), some (.int x13)] [] M51 _
          refine z_xP zt147 18 12 [some (.ref a0), some (.int p1), some (.int p2), some (.int x13), some (.int b6), some (.int x65), some (.int x67), some (.int x13)] [] rfl rfl ?_
          exact ih M51 x13 b6 x65 x67 (some (.int x13)) X56 ⟨by omega, by omega⟩ ⟨by omega, by omega⟩ ⟨by omega, by omega⟩ (by omega)
        refine z_xP zt147 12 68 [some (.ref a0), some (.int p1), some (.int p2), some (.int b3), some (.int b4), some (.int b5), some (.int b6), some (.int x13)] [] rfl rfl ?_
        refine z_xN zt147 17 rfl rfl (fun (x69 : Int32) (h70 : x69.toInt = b6.toInt + 1) => ?_) (z_pAdd rfl rfl (by omega) (by omega))
        show z_ev (d + 4) 147 71 [some (.ref a0), some (.int p1), some (.int p2), some (.int b3), some (.int b4), some (.int b5), some (.int x69), some (.int x13)] [] M51 _
        refine z_xP zt147 18 12 [some (.ref a0), some (.int p1), some (.int p2), some (.int b3), some (.int b4), some (.int b5), some (.int x69), some (.int x13)] [] rfl rfl ?_
        exact ih M51 b3 b4 b5 x69 (some (.int x13)) X56 ⟨by omega, by omega⟩ ⟨by omega, by omega⟩ ⟨by omega, by omega⟩ (by omega)
      refine z_xP zt148 8 20 [some (.ref a0), some (.int b6), some (.int p1), some (.int x23)] [.int 1] rfl rfl ?_
      refine z_xrz zt148 9 rfl zzr148 (by decide) (by decide) ?_
      show z_ev (d + 4) 147 43 [some (.ref a0), some (.int p1), some (.int p2), some (.int b3), some (.int b4), some (.int b5), some (.int b6), some (.int x13)] [.int 1] M21 _
      refine z_xZ zt147 11 rfl rfl (fun (h71 : (1 : Int) ≠ 0) => ?_) (fun (h71 : (1 : Int) = 0) => absurd h71 (by omega))
      refine z_xP zt147 13 52 [some (.ref a0), some (.int p1), some (.int p2), some (.int b3), some (.int b4), some (.int b5), some (.int b6), some (.int x13)] [.int b3, .int x13] rfl rfl ?_
      refine z_xJ zt147 14 rfl rfl (fun (h72 : b3.toInt ≤ x13.toInt) => ?_) (fun (h72 : x13.toInt < b3.toInt) => ?_)
      · skip
        have h73 := z_b32 b5
        refine z_xN zt147 16 rfl rfl (fun (x74 : Int32) (h75 : True) => ?_) (trivial)
        show z_ev (d + 4) 147 68 [some (.ref a0), some (.int p1), some (.int p2), some (.int b3), some (.int b4), some (.int x74), some (.int b6), some (.int x13)] [] M21 _
        refine z_xN zt147 17 rfl rfl (fun (x76 : Int32) (h77 : x76.toInt = b6.toInt + 1) => ?_) (z_pAdd rfl rfl (by omega) (by omega))
        show z_ev (d + 4) 147 71 [some (.ref a0), some (.int p1), some (.int p2), some (.int b3), some (.int b4), some (.int x74), some (.int x76), some (.int x13)] [] M21 _
        refine z_xP zt147 18 12 [some (.ref a0), some (.int p1), some (.int p2), some (.int b3), some (.int b4), some (.int x74), some (.int x76), some (.int x13)] [] rfl rfl ?_
        exact ih M21 b3 b4 x74 x76 (some (.int x13)) X24 ⟨by omega, by omega⟩ ⟨by omega, by omega⟩ ⟨by omega, by omega⟩ (by omega)
      refine z_xP zt147 15 65 [some (.ref a0), some (.int p1), some (.int p2), some (.int x13), some (.int b6), some (.int 0), some (.int b6), some (.int x13)] [] rfl rfl ?_
      refine z_xN zt147 16 rfl rfl (fun (x78 : Int32) (h79 : x78.toInt = 0 + 1) => ?_) (z_pAdd rfl rfl (by omega) (by omega))
      show z_ev (d + 4) 147 68 [some (.ref a0), some (.int p1), some (.int p2), some (.int x13), some (.int b6), some (.int x78), some (.int b6), some (.int x13)] [] M21 _
      refine z_xN zt147 17 rfl rfl (fun (x80 : Int32) (h81 : x80.toInt = b6.toInt + 1) => ?_) (z_pAdd rfl rfl (by omega) (by omega))
      show z_ev (d + 4) 147 71 [some (.ref a0), some (.int p1), some (.int p2), some (.int x13), some (.int b6), some (.int x78), some (.int x80), some (.int x13)] [] M21 _
      refine z_xP zt147 18 12 [some (.ref a0), some (.int p1), some (.int p2), some (.int x13), some (.int b6), some (.int x78), some (.int x80), some (.int x13)] [] rfl rfl ?_
      exact ih M21 x13 b6 x78 x80 (some (.int x13)) X24 ⟨by omega, by omega⟩ ⟨by omega, by omega⟩ ⟨by omega, by omega⟩ (by omega)
    refine z_xP zt148 4 13 [some (.ref a0), some (.int b6), some (.int p1), some (.int x23)] [.int 0] rfl rfl ?_
    refine z_xrz zt148 5 rfl zzr148 (by decide) (by decide) ?_
    show z_ev (d + 4) 147 43 [some (.ref a0), some (.int p1), some (.int p2), some (.int b3), some (.int b4), some (.int b5), some (.int b6), some (.int x13)] [.int 0] M21 _
    refine z_xZ zt147 11 rfl rfl (fun (h82 : (0 : Int) ≠ 0) => absurd h82 (by omega)) (fun (h82 : (0 : Int) = 0) => ?_)
    refine z_xP zt147 12 68 [some (.ref a0), some (.int p1), some (.int p2), some (.int b3), some (.int b4), some (.int b5), some (.int b6), some (.int x13)] [] rfl rfl ?_
    refine z_xN zt147 17 rfl rfl (fun (x83 : Int32) (h84 : x83.toInt = b6.toInt + 1) => ?_) (z_pAdd rfl rfl (by omega) (by omega))
    show z_ev (d + 4) 147 71 [some (.ref a0), some (.int p1), some (.int p2), some (.int b3), some (.int b4), some (.int b5), some (.int x83), some (.int x13)] [] M21 _
    refine z_xP zt147 18 12 [some (.ref a0), some (.int p1), some (.int p2), some (.int b3), some (.int b4), some (.int b5), some (.int x83), some (.int x13)] [] rfl rfl ?_
    exact ih M21 b3 b4 b5 x83 (some (.int x13)) X24 ⟨by omega, by omega⟩ ⟨by omega, by omega⟩ ⟨by omega, by omega⟩ (by omega)
theorem zC147 {T : List zK} {d : Nat} {K : Option Value → zH → Prop} {a0 : Nat} {q : Nat} {t : Nat} {m : Nat} {p1 : Int32} {p2 : Int32} {M0 : zH} (hW : z_W M0 T) (k0 : T[a0]? = some (.inl (2, q, t, m, 0))) (u1 : 1 ≤ p1.toInt ∧ p1.toInt ≤ 5) (u2 : 0 ≤ p2.toInt ∧ p2.toInt ≤ 2) (kk : ∀ (x : Int32) (M1 : zH), z_X T zw147 M0 M1 → K (some (.int x)) M1) : z_ev (d + 4) 147 0 [some (.ref a0), some (.int p1), some (.int p2), none, none, none, none, none] [] M0 K := by
  have X : z_X T zw147 M0 M0 := .refl hW
  have g0 := X.1.p2 k0
  refine z_xP zt147 0 12 [some (.ref a0), some (.int p1), some (.int p2), some (.int 9), some (.int 0), some (.int 0), some (.int 0), none] [] rfl rfl ?_
  have q0 : ((0 : Int32)).toInt = 0 := rfl
  have q9 : ((9 : Int32)).toInt = 9 := rfl
  exact (zB147 k0 u1 u2 kk 514) M0 (9) (0) (0) (0) none X (by decide) (by decide) (by decide) (by omega)
def zw146 : List Nat := [112, 113]
theorem zC146 {T : List zK} {d : Nat} {K : Option Value → zH → Prop} {p1 : Int32} {p2 : Int32} {p3 : Int32} {M0 : zH} (hW : z_W M0 T)  (hG : z_GG T M0) (kk : ∀ (x : Int32) (M1 : zH), z_X T zw146 M0 M1 → K (some (.int x)) M1) : z_ev (d + 5) 146 0 [some (.ref 4), some (.int p1), some (.int p2), some (.int p3), none] [] M0 K := by
  have X : z_X T zw146 M0 M0 := .refl hW
  refine z_xP zt146 0 2 [some (.ref 4), some (.int p1), some (.int p2), some (.int p3), none] [.int p1, .ref 4] rfl rfl ?_
  have f4 : T[4]? = some (.inl (0, 0, 0, 0, 0)) := X.1.k rfl (by decide)
  refine z_xcV (vs := [.ref 4, .int p1]) (r := []) (L2 := [some (.ref 4), some (.int p1)]) zt146 1 rfl zo146 zzcV0_108 (Or.inl rfl) rfl X f4 rfl rfl rfl (Nat.le_of_ble_eq_true rfl) zzm37 (Nat.le_of_ble_eq_true rfl) rfl ?_
  refine z_xP zt37 0 1 [some (.ref 4), some (.int p1)] [.int p1] rfl rfl ?_
  refine z_xZ zt37 1 rfl rfl (fun (h1 : p1.toInt < 0) => ?_) (fun (h1 : 0 ≤ p1.toInt) => ?_)
  · skip
    refine z_xP zt37 5 25 [some (.ref 4), some (.int p1)] [.null] rfl rfl ?_
    refine z_xrn zt37 11 rfl zzr37 ?_
    show z_ev (d + 5) 146 5 [some (.ref 4), some (.int p1), some (.int p2), some (.int p3), none] [.null] M0 _
    refine z_xP zt146 2 31 [some (.ref 4), some (.int p1), some (.int p2), some (.int p3), some (.null)] [] rfl rfl ?_
    refine z_xP zt146 11 32 [some (.ref 4), some (.int p1), some (.int p2), some (.int p3), some (.null)] [.int (-1)] rfl rfl ?_
    have qm1 : (((-1) : Int32)).toInt = (-1) := rfl
    exact z_xri zt146 12 rfl zzr146 (kk (-1) M0 X)
  refine z_xP zt37 2 6 [some (.ref 4), some (.int p1)] [.ref 4, .int p1] rfl rfl ?_
  refine z_xgI zt37 3 rfl zo37 zzf0_59 X f4 (by decide) (by decide) rfl (fun (x3 : Int32) h2 (h4 : 0 ≤ x3.toInt) (h5 : x3.toInt ≤ 8) => ?_)
  have h6 := z_b32 p1
  refine z_xJ zt37 4 rfl rfl (fun (h7 : p1.toInt < x3.toInt) => ?_) (fun (h7 : x3.toInt ≤ p1.toInt) => ?_)
  · skip
    refine z_xP zt37 6 17 [some (.ref 4), some (.int p1)] [.ref 4] rfl rfl ?_
    refine z_xgX (b := 10) zt37 7 rfl zo37 zzf0_18 X f4 (by decide) (by decide) rfl ?_
    refine z_xP zt37 8 21 [some (.ref 4), some (.int p1)] [.int p1, .ref 10] rfl rfl ?_
    have f10 : T[10]? = some (.inr (10, 2, 8, 9, 0)) := X.1.k rfl (by decide)
    refine z_xal zt37 9 rfl X f10 (by decide) (by decide) (by decide) (by omega) (by omega) (fun (a8 : Nat) h9 h10 => ?_) (fun h11 => absurd h11 (z_Gs (hG.go X (by decide)).2.1 h2 (by omega) (by omega)))
    obtain ⟨q12, t13, m14, k15⟩ : ∃ q t m, T[a8]? = some (.inl (3, q, t, m, 9)) := h10
    have g16 := X.1.p3 k15
    refine z_xgR (κ := .inl (2, q12, t13, m14, 0)) zt37 10 rfl zo37 zzf0_89 X k15 (by decide) (by decide) rfl (fun (a18 : Nat) h17 k19 => ?_)
    have g20 := X.1.p2 k19
    refine z_xra zt37 11 rfl zzr37 ?_
    show z_ev (d + 5) 146 5 [some (.ref 4), some (.int p1), some (.int p2), some (.int p3), none] [.ref a18] M0 _
    refine z_xP zt146 2 12 [some (.ref 4), some (.int p1), some (.int p2), some (.int p3), some (.ref a18)] [] rfl rfl ?_
    refine z_xP zt146 3 14 [some (.ref 4), some (.int p1), some (.int p2), some (.int p3), some (.ref a18)] [.int 1, .int p2] rfl rfl ?_
    refine z_xJ zt146 4 rfl rfl (fun (h21 : p2.toInt < 1) => ?_) (fun (h21 : 1 ≤ p2.toInt) => ?_)
    · skip
      refine z_xP zt146 11 32 [some (.ref 4), some (.int p1), some (.int p2), some (.int p3), some (.ref a18)] [.int (-1)] rfl rfl ?_
      have qm1 : (((-1) : Int32)).toInt = (-1) := rfl
      exact z_xri zt146 12 rfl zzr146 (kk (-1) M0 X)
    refine z_xP zt146 5 19 [some (.ref 4), some (.int p1), some (.int p2), some (.int p3), some (.ref a18)] [.int 5, .int p2] rfl rfl ?_
    refine z_xJ zt146 6 rfl rfl (fun (h22 : 5 < p2.toInt) => ?_) (fun (h22 : p2.toInt ≤ 5) => ?_)
    · skip
      refine z_xP zt146 11 32 [some (.ref 4), some (.int p1), some (.int p2), some (.int p3), some (.ref a18)] [.int (-1)] rfl rfl ?_
      have qm1 : (((-1) : Int32)).toInt = (-1) := rfl
      exact z_xri zt146 12 rfl zzr146 (kk (-1) M0 X)
    refine z_xP zt146 7 23 [some (.ref 4), some (.int p1), some (.int p2), some (.int p3), some (.ref a18)] [.int p3] rfl rfl ?_
    refine z_xZ zt146 8 rfl rfl (fun (h23 : p3.toInt < 0) => ?_) (fun (h23 : 0 ≤ p3.toInt) => ?_)
    · skip
      refine z_xP zt146 11 32 [some (.ref 4), some (.int p1), some (.int p2), some (.int p3), some (.ref a18)] [.int (-1)] rfl rfl ?_
      have qm1 : (((-1) : Int32)).toInt = (-1) := rfl
      exact z_xri zt146 12 rfl zzr146 (kk (-1) M0 X)
    refine z_xP zt146 9 28 [some (.ref 4), some (.int p1), some (.int p2), some (.int p3), some (.ref a18)] [.int 2, .int p3] rfl rfl ?_
    refine z_xJ zt146 10 rfl rfl (fun (h24 : p3.toInt ≤ 2) => ?_) (fun (h24 : 2 < p3.toInt) => ?_)
    · skip
      refine z_xP zt146 13 37 [some (.ref 4), some (.int p1), some (.int p2), some (.int p3), some (.ref a18)] [.int p3, .int p2, .ref a18] rfl rfl ?_
      refine z_xcV (vs := [.ref a18, .int p2, .int p3]) (r := []) (L2 := [some (.ref a18), some (.int p2), some (.int p3), none, none, none, none, none]) zt146 14 rfl zo146 zzcV0_288 (Or.inl rfl) rfl X k19 rfl rfl rfl (Nat.le_of_ble_eq_true rfl) zzm147 (Nat.le_of_ble_eq_true rfl) rfl ?_
      refine zC147 X.1 k19 (by omega) (by omega) (fun x27 M25 X26  => ?_)
      have X28 := X.go X26 (z_sb (by decide))
      show z_ev (d + 5) 146 40 [some (.ref 4), some (.int p1), some (.int p2), some (.int p3), some (.ref a18)] [.int x27] M25 _
      exact z_xri zt146 15 rfl zzr146 (kk x27 M25 X28)
    refine z_xP zt146 11 32 [some (.ref 4), some (.int p1), some (.int p2), some (.int p3), some (.ref a18)] [.int (-1)] rfl rfl ?_
    have qm1 : (((-1) : Int32)).toInt = (-1) := rfl
    exact z_xri zt146 12 rfl zzr146 (kk (-1) M0 X)
  refine z_xP zt37 5 25 [some (.ref 4), some (.int p1)] [.null] rfl rfl ?_
  refine z_xrn zt37 11 rfl zzr37 ?_
  show z_ev (d + 5) 146 5 [some (.ref 4), some (.int p1), some (.int p2), some (.int p3), none] [.null] M0 _
  refine z_xP zt146 2 31 [some (.ref 4), some (.int p1), some (.int p2), some (.int p3), some (.null)] [] rfl rfl ?_
  refine z_xP zt146 11 32 [some (.ref 4), some (.int p1), some (.int p2), some (.int p3), some (.null)] [.int (-1)] rfl rfl ?_
  have qm1 : (((-1) : Int32)).toInt = (-1) := rfl
  exact z_xri zt146 12 rfl zzr146 (kk (-1) M0 X)
def zw156 : List Nat := []
theorem zB156 {T : List zK} {d : Nat} {K : Option Value → zH → Prop} {a0 : Nat} {q : Nat} {t : Nat} {m : Nat} {J : Nat} {M0 : zH} (k0 : T[a0]? = some (.inl (3, q, t, m, J))) (kk : ∀ (x : Int32) (M1 : zH), z_X T zw156 M0 M1 → K (some (.int x)) M1) : ∀ n : Nat, (∀ (M : zH) (b1 : Int32) (b2 : Int32), z_X T zw156 M0 M → 0 ≤ b2.toInt ∧ b2.toInt ≤ 10 → ((0) * 2 + 0) * 11 + (10 - b2.toInt) < (n : Int) → z_ev d 156 4 [some (.ref a0), some (.int b1), some (.int b2)] [] M K) := by
  intro n
  induction n with
  | zero => exact by intros; exfalso; omega
  | succ n ih =>
    intro M b1 b2 X hh0 hE
    have g0 := X.1.p3 k0
    refine z_xP zt156 1 6 [some (.ref a0), some (.int b1), some (.int b2)] [.ref a0, .int b2] rfl rfl ?_
    refine z_xgR (κ := .inl (2, q, t, m, 0)) zt156 2 rfl zo156 zzf3_39 X k0 (by decide) (by decide) rfl (fun (a2 : Nat) h1 k3 => ?_)
    have g4 := X.1.p2 k3
    refine z_xgI zt156 3 rfl zo156 zzf3_63 X k3 (by decide) (by decide) rfl (fun (x6 : Int32) h5 (h7 : (q : Int) ≤ x6.toInt) (h8 : x6.toInt ≤ (q : Int)) => ?_)
    refine z_xJ zt156 4 rfl rfl (fun (h9 : x6.toInt ≤ b2.toInt) => ?_) (fun (h9 : b2.toInt < x6.toInt) => ?_)
    · skip
      refine z_xP zt156 15 34 [some (.ref a0), some (.int b1), some (.int b2)] [.int b1] rfl rfl ?_
      exact z_xri zt156 16 rfl zzr156 (kk b1 M X)
    refine z_xP zt156 5 18 [some (.ref a0), some (.int b1), some (.int b2)] [.int 10, .int b1] rfl rfl ?_
    have h10 := z_b32 b1
    refine z_xI zt156 6 rfl rfl (P := fun _ => True) (fun (x11 : Int32) _ => ?_) trivial
    refine z_xP zt156 7 20 [some (.ref a0), some (.int b1), some (.int b2)] [.ref a0, .int x11] rfl rfl ?_
    refine z_xgR (κ := .inr (208, 0, 10, 0, ((q : Nat) : Int) - 1)) zt156 8 rfl zo156 zzf3_30 X k0 (by decide) (by decide) rfl (fun (a14 : Nat) h13 k15 => ?_)
    refine z_xP zt156 9 24 [some (.ref a0), some (.int b1), some (.int b2)] [.int b2, .ref a14, .int x11] rfl rfl ?_
    refine z_xil zt156 10 rfl X k15 (by decide) (by omega) (by omega) (fun (x16 : Int32) h17 (h18 : 0 ≤ x16.toInt) (h19 : x16.toInt ≤ ((q : Nat) : Int) - 1) => ?_)
    have h20 := z_b32 x11
    refine z_xI zt156 11 rfl rfl (P := fun _ => True) (fun (x21 : Int32) _ => ?_) trivial
    refine z_xP zt156 12 27 [some (.ref a0), some (.int x21), some (.int b2)] [] rfl rfl ?_
    refine z_xN zt156 13 rfl rfl (fun (x23 : Int32) (h24 : x23.toInt = b2.toInt + 1) => ?_) (z_pAdd rfl rfl (by omega) (by omega))
    show z_ev d 156 30 [some (.ref a0), some (.int x21), some (.int x23)] [] M _
    refine z_xP zt156 14 4 [some (.ref a0), some (.int x21), some (.int x23)] [] rfl rfl ?_
    exact ih M x21 x23 X ⟨by omega, by omega⟩ (by omega)
theorem zC156 {T : List zK} {d : Nat} {K : Option Value → zH → Prop} {a0 : Nat} {q : Nat} {t : Nat} {m : Nat} {J : Nat} {M0 : zH} (hW : z_W M0 T) (k0 : T[a0]? = some (.inl (3, q, t, m, J))) (kk : ∀ (x : Int32) (M1 : zH), z_X T zw156 M0 M1 → K (some (.int x)) M1) : z_ev d 156 0 [some (.ref a0), none, none] [] M0 K := by
  have X : z_X T zw156 M0 M0 := .refl hW
  have g0 := X.1.p3 k0
  refine z_xP zt156 0 4 [some (.ref a0), some (.int 0), some (.int 0)] [] rfl rfl ?_
  have q0 : ((0 : Int32)).toInt = 0 := rfl
  exact (zB156 k0 kk 22) M0 (0) (0) X (by decide) (by omega)
def zw157 : List Nat := [208]
theorem zB157 {T : List zK} {d : Nat} {K : Option Value → zH → Prop} {a0 : Nat} {q : Nat} {t : Nat} {m : Nat} {J : Nat} {M0 : zH} (k0 : T[a0]? = some (.inl (3, q, t, m, J))) (kk : ∀ (M1 : zH), z_X T zw157 M0 M1 → K none M1) : ∀ n : Nat, (∀ (M : zH) (b1 : Int32) (b2 : Int32), z_X T zw157 M0 M → 0 ≤ b1.toInt ∧ b1.toInt ≤ 9 → (-1) ≤ b2.toInt ∧ b2.toInt ≤ 8 → ((0) * 4 + 2) * 10 + (b2.toInt - (-1)) < (n : Int) → z_ev (d + 1) 157 14 [some (.ref a0), some (.int b1), some (.int b2), none, none, none] [] M K) ∧ (∀ (M : zH) (b1 : Int32) (b2 : Int32) (b3 : Int32), z_X T zw157 M0 M → 0 ≤ b1.toInt ∧ b1.toInt ≤ 9 → 0 ≤ b2.toInt ∧ b2.toInt ≤ 8 → 0 ≤ b3.toInt ∧ b3.toInt ≤ 9 → ((0) * 4 + 1) * 10 + (b3.toInt - 0) < (n : Int) → z_ev (d + 1) 157 48 [some (.ref a0), some (.int b1), some (.int b2), some (.int b3), none, none] [] M K) ∧ (∀ (M : zH) (b1 : Int32) (b2 : Int32) (b3 : Int32) (b4 : Int32) (b5 : Int32), z_X T zw157 M0 M → 0 ≤ b1.toInt ∧ b1.toInt ≤ 9 → 0 ≤ b2.toInt ∧ b2.toInt ≤ 8 → 0 ≤ b3.toInt ∧ b3.toInt ≤ 9 → 1 ≤ b4.toInt ∧ b4.toInt ≤ 9 → 0 ≤ b5.toInt ∧ b5.toInt ≤ 9 → ((0) * 4 + 0) * 10 + (9 - b4.toInt) < (n : Int) → z_ev (d + 1) 157 88 [some (.ref a0), some (.int b1), some (.int b2), some (.int b3), some (.int b4), some (.int b5)] [] M K) := by
  intro n
  induction n with
  | zero => exact ⟨(by intros; exfalso; omega), (by intros; exfalso; omega), (by intros; exfalso; omega)⟩
  | succ n ih =>
    refine ⟨?_, ?_, ?_⟩
    · skip
      intro M b1 b2 X hh0 hh1 hE
      have g0 := X.1.p3 k0
      refine z_xP zt157 8 15 [some (.ref a0), some (.int b1), some (.int b2), none, none, none] [.int b2] rfl rfl ?_
      refine z_xZ zt157 9 rfl rfl (fun (h1 : b2.toInt < 0) => ?_) (fun (h1 : 0 ≤ b2.toInt) => ?_)
      · skip
        refine z_xP zt157 22 42 [some (.ref a0), some (.int b1), some (.int b2), none, none, none] [.int b2] rfl rfl ?_
        refine z_xZ zt157 23 rfl rfl (fun (h2 : 0 ≤ b2.toInt) => absurd h2 (by omega)) (fun (h2 : b2.toInt < 0) => ?_)
        exact z_xrv zt157 24 rfl zzr157 (kk M X)
      refine z_xP zt157 10 19 [some (.ref a0), some (.int b1), some (.int b2), none, none, none] [.ref a0] rfl rfl ?_
      refine z_xgR (κ := .inr (208, 0, 10, 0, ((q : Nat) : Int) - 1)) zt157 11 rfl zo157 zzf3_30 X k0 (by decide) (by decide) rfl (fun (a4 : Nat) h3 k5 => ?_)
      refine z_xP zt157 12 23 [some (.ref a0), some (.int b1), some (.int b2), none, none, none] [.int b2, .ref a4] rfl rfl ?_
      refine z_xil zt157 13 rfl X k5 (by decide) (by omega) (by omega) (fun (x6 : Int32) h7 (h8 : 0 ≤ x6.toInt) (h9 : x6.toInt ≤ ((q : Nat) : Int) - 1) => ?_)
      refine z_xP zt157 14 25 [some (.ref a0), some (.int b1), some (.int b2), none, none, none] [.ref a0, .int x6] rfl rfl ?_
      refine z_xgv zt157 15 rfl zo157 zzf3_30 X k0 (by decide) h3 ?_
      refine z_xP zt157 16 30 [some (.ref a0), some (.int b1), some (.int b2), none, none, none] [.int 1, .int b2, .ref a4, .int x6] rfl rfl ?_
      refine z_xI zt157 17 rfl rfl (fun (x10 : Int32) (h11 : x10.toInt = b2.toInt + 1) => ?_) (z_pAdd rfl rfl (by omega) (by omega))
      refine z_xil zt157 18 rfl X k5 (by decide) (by omega) (by omega) (fun (x12 : Int32) h13 (h14 : 0 ≤ x12.toInt) (h15 : x12.toInt ≤ ((q : Nat) : Int) - 1) => ?_)
      refine z_xJ zt157 19 rfl rfl (fun (h16 : x6.toInt ≤ x12.toInt) => ?_) (fun (h16 : x12.toInt < x6.toInt) => ?_)
      · skip
        refine z_xP zt157 22 42 [some (.ref a0), some (.int b1), some (.int b2), none, none, none] [.int b2] rfl rfl ?_
        refine z_xZ zt157 23 rfl rfl (fun (h17 : 0 ≤ b2.toInt) => ?_) (fun (h17 : b2.toInt < 0) => absurd h17 (by omega))
        refine z_xP zt157 25 48 [some (.ref a0), some (.int b1), some (.int b2), some (.int b1), none, none] [] rfl rfl ?_
        exact ih.2.1 M b1 b2 b1 X ⟨by omega, by omega⟩ ⟨by omega, by omega⟩ ⟨by omega, by omega⟩ (by omega)
      refine z_xN zt157 20 rfl rfl (fun (x18 : Int32) (h19 : x18.toInt = b2.toInt + (-1)) => ?_) (z_pAdd rfl rfl (by omega) (by omega))
      show z_ev (d + 1) 157 38 [some (.ref a0), some (.int b1), some (.int x18), none, none, none] [] M _
      refine z_xP zt157 21 14 [some (.ref a0), some (.int b1), some (.int x18), none, none, none] [] rfl rfl ?_
      exact ih.1 M b1 x18 X ⟨by omega, by omega⟩ ⟨by omega, by omega⟩ (by omega)
    · skip
      intro M b1 b2 b3 X hh0 hh1 hh2 hE
      have g0 := X.1.p3 k0
      refine z_xP zt157 26 50 [some (.ref a0), some (.int b1), some (.int b2), some (.int b3), none, none] [.int b2, .int b3] rfl rfl ?_
      refine z_xJ zt157 27 rfl rfl (fun (h1 : b3.toInt ≤ b2.toInt) => ?_) (fun (h1 : b2.toInt < b3.toInt) => ?_)
      · skip
        refine z_xP zt157 39 77 [some (.ref a0), some (.int b1), some (.int b2), some (.int b3), none, none] [.int b3, .int b2, .ref a0] rfl rfl ?_
        refine z_xcV (vs := [.ref a0, .int b2, .int b3]) (r := []) (L2 := [some (.ref a0), some (.int b2), some (.int b3), none]) zt157 40 rfl zo157 zzcV3_132 (Or.inl rfl) rfl X k0 rfl rfl rfl (Nat.le_of_ble_eq_true rfl) zzm158 (Nat.le_of_ble_eq_true rfl) rfl ?_
        refine z_xP zt158 0 1 [some (.ref a0), some (.int b2), some (.int b3), none] [.ref a0] rfl rfl ?_
        refine z_xgR (κ := .inr (208, 0, 10, 0, ((q : Nat) : Int) - 1)) zt158 1 rfl zo158 zzf3_30 X k0 (by decide) (by decide) rfl (fun (a3 : Nat) h2 k4 => ?_)
        refine z_xP zt158 2 5 [some (.ref a0), some (.int b2), some (.int b3), none] [.int b2, .ref a3] rfl rfl ?_
        refine z_xil zt158 3 rfl X k4 (by decide) (by omega) (by omega) (fun (x5 : Int32) h6 (h7 : 0 ≤ x5.toInt) (h8 : x5.toInt ≤ ((q : Nat) : Int) - 1) => ?_)
        refine z_xP zt158 4 8 [some (.ref a0), some (.int b2), some (.int b3), some (.int x5)] [.ref a0] rfl rfl ?_
        refine z_xgv zt158 5 rfl zo158 zzf3_30 X k0 (by decide) h2 ?_
        refine z_xP zt158 6 13 [some (.ref a0), some (.int b2), some (.int b3), some (.int x5)] [.ref a0, .int b2, .ref a3] rfl rfl ?_
        refine z_xgv zt158 7 rfl zo158 zzf3_30 X k0 (by decide) h2 ?_
        refine z_xP zt158 8 17 [some (.ref a0), some (.int b2), some (.int b3), some (.int x5)] [.int b3, .ref a3, .int b2, .ref a3] rfl rfl ?_
        refine z_xil zt158 9 rfl X k4 (by decide) (by omega) (by omega) (fun (x9 : Int32) h10 (h11 : 0 ≤ x9.toInt) (h12 : x9.toInt ≤ ((q : Nat) : Int) - 1) => ?_)
        refine z_xis zt158 10 rfl X k4 (by decide) (X.1.g4 k4 (by decide)) (by omega) (by omega) (by omega) (by omega) (by decide) (fun M13 X14 e15 h16 => ?_)
        refine z_xP zt158 11 20 [some (.ref a0), some (.int b2), some (.int b3), some (.int x5)] [.ref a0] rfl rfl ?_
        have h17 := (e15.f k0 (by decide) h2)
        refine z_xgv zt158 12 rfl zo158 zzf3_30 X14 k0 (by decide) h17 ?_
        refine z_xP zt158 13 25 [some (.ref a0), some (.int b2), some (.int b3), some (.int x5)] [.int x5, .int b3, .ref a3] rfl rfl ?_
        refine z_xis zt158 14 rfl X14 k4 (by decide) (X14.1.g4 k4 (by decide)) (by omega) (by omega) (by omega) (by omega) (by decide) (fun M18 X19 e20 h21 => ?_)
        refine z_xrv zt158 15 rfl zzr158 ?_
        show z_ev (d + 1) 157 80 [some (.ref a0), some (.int b1), some (.int b2), some (.int b3), none, none] [] M18 _
        refine z_xP zt157 41 82 [some (.ref a0), some (.int b1), some (.int b2), some (.int b3), none, none] [.int 1, .int b2] rfl rfl ?_
        refine z_xI zt157 42 rfl rfl (fun (x22 : Int32) (h23 : x22.toInt = b2.toInt + 1) => ?_) (z_pAdd rfl rfl (by omega) (by omega))
        refine z_xP zt157 43 88 [some (.ref a0), some (.int b1), some (.int b2), some (.int b3), some (.int x22), some (.int b1)] [] rfl rfl ?_
        exact ih.2.2 M18 b1 b2 b3 x22 b1 X19 ⟨by omega, by omega⟩ ⟨by omega, by omega⟩ ⟨by omega, by omega⟩ ⟨by omega, by omega⟩ ⟨by omega, by omega⟩ (by omega)
      refine z_xP zt157 28 54 [some (.ref a0), some (.int b1), some (.int b2), some (.int b3), none, none] [.ref a0] rfl rfl ?_
      refine z_xgR (κ := .inr (208, 0, 10, 0, ((q : Nat) : Int) - 1)) zt157 29 rfl zo157 zzf3_30 X k0 (by decide) (by decide) rfl (fun (a25 : Nat) h24 k26 => ?_)
      refine z_xP zt157 30 58 [some (.ref a0), some (.int b1), some (.int b2), some (.int b3), none, none] [.int b3, .ref a25] rfl rfl ?_
      refine z_xil zt157 31 rfl X k26 (by decide) (by omega) (by omega) (fun (x27 : Int32) h28 (h29 : 0 ≤ x27.toInt) (h30 : x27.toInt ≤ ((q : Nat) : Int) - 1) => ?_)
      refine z_xP zt157 32 60 [some (.ref a0), some (.int b1), some (.int b2), some (.int b3), none, none] [.ref a0, .int x27] rfl rfl ?_
      refine z_xgv zt157 33 rfl zo157 zzf3_30 X k0 (by decide) h24 ?_
      refine z_xP zt157 34 64 [some (.ref a0), some (.int b1), some (.int b2), some (.int b3), none, none] [.int b2, .ref a25, .int x27] rfl rfl ?_
      refine z_xil zt157 35 rfl X k26 (by decide) (by omega) (by omega) (fun (x31 : Int32) h32 (h33 : 0 ≤ x31.toInt) (h34 : x31.toInt ≤ ((q : Nat) : Int) - 1) => ?_)
      refine z_xJ zt157 36 rfl rfl (fun (h35 : x31.toInt ≤ x27.toInt) => ?_) (fun (h35 : x27.toInt < x31.toInt) => ?_)
      · skip
        refine z_xP zt157 39 77 [some (.ref a0), some (.int b1), some (.int b2), some (.int b3), none, none] [.int b3, .int b2, .ref a0] rfl rfl ?_
        refine z_xcV (vs := [.ref a0, .int b2, .int b3]) (r := []) (L2 := [some (.ref a0), some (.int b2), some (.int b3), none]) zt157 40 rfl zo157 zzcV3_132 (Or.inl rfl) rfl X k0 rfl rfl rfl (Nat.le_of_ble_eq_true rfl) zzm158 (Nat.le_of_ble_eq_true rfl) rfl ?_
        refine z_xP zt158 0 1 [some (.ref a0), some (.int b2), some (.int b3), none] [.ref a0] rfl rfl ?_
        refine z_xgv zt158 1 rfl zo158 zzf3_30 X k0 (by decide) h24 ?_
        refine z_xP zt158 2 5 [some (.ref a0), some (.int b2), some (.int b3), none] [.int b2, .ref a25] rfl rfl ?_
        refine z_xil zt158 3 rfl X k26 (by decide) (by omega) (by omega) (fun (x36 : Int32) h37 (h38 : 0 ≤ x36.toInt) (h39 : x36.toInt ≤ ((q : Nat) : Int) - 1) => ?_)
        have h40 := congrArg Int32.toInt (h37.symm.trans h32)
        refine z_xP zt158 4 8 [some (.ref a0), some (.int b2), some (.int b3), some (.int x36)] [.ref a0] rfl rfl ?_
        refine z_xgv zt158 5 rfl zo158 zzf3_30 X k0 (by decide) h24 ?_
        refine z_xP zt158 6 13 [some (.ref a0), some (.int b2), some (.int b3), some (.int x36)] [.ref a0, .int b2, .ref a25] rfl rfl ?_
        refine z_xgv zt158 7 rfl zo158 zzf3_30 X k0 (by decide) h24 ?_
        refine z_xP zt158 8 17 [some (.ref a0), some (.int b2), some (.int b3), some (.int x36)] [.int b3, .ref a25, .int b2, .ref a25] rfl rfl ?_
        refine z_xil zt158 9 rfl X k26 (by decide) (by omega) (by omega) (fun (x41 : Int32) h42 (h43 : 0 ≤ x41.toInt) (h44 : x41.toInt ≤ ((q : Nat) : Int) - 1) => ?_)
        have h45 := congrArg Int32.toInt (h42.symm.trans h28)
        refine z_xis zt158 10 rfl X k26 (by decide) (X.1.g4 k26 (by decide)) (by omega) (by omega) (by omega) (by omega) (by decide) (fun M46 X47 e48 h49 => ?_)
        refine z_xP zt158 11 20 [some (.ref a0), some (.int b2), some (.int b3), some (.int x36)] [.ref a0] rfl rfl ?_
        have h50 := (e48.f k0 (by decide) h24)
        refine z_xgv zt158 12 rfl zo158 zzf3_30 X47 k0 (by decide) h50 ?_
        refine z_xP zt158 13 25 [some (.ref a0), some (.int b2), some (.int b3), some (.int x36)] [.int x36, .int b3, .ref a25] rfl rfl ?_
        refine z_xis zt158 14 rfl X47 k26 (by decide) (X47.1.g4 k26 (by decide)) (by omega) (by omega) (by omega) (by omega) (by decide) (fun M51 X52 e53 h54 => ?_)
        refine z_xrv zt158 15 rfl zzr158 ?_
        show z_ev (d + 1) 157 80 [some (.ref a0), some (.int b1), some (.int b2), some (.int b3), none, none] [] M51 _
        refine z_xP zt157 41 82 [some (.ref a0), some (.int b1), some (.int b2), some (.int b3), none, none] [.int 1, .int b2] rfl rfl ?_
        refine z_xI zt157 42 rfl rfl (fun (x55 : Int32) (h56 : x55.toInt = b2.toInt + 1) => ?_) (z_pAdd rfl rfl (by omega) (by omega))
        refine z_xP zt157 43 88 [some (.ref a0), some (.int b1), some (.int b2), some (.int b3), some (.int x55), some (.int b1)] [] rfl rfl ?_
        exact ih.2.2 M51 b1 b2 b3 x55 b1 X52 ⟨by omega, by omega⟩ ⟨by omega, by omega⟩ ⟨by omega, by omega⟩ ⟨by omega, by omega⟩ ⟨by omega, by omega⟩ (by omega)
      refine z_xN zt157 37 rfl rfl (fun (x57 : Int32) (h58 : x57.toInt = b3.toInt + (-1)) => ?_) (z_pAdd rfl rfl (by omega) (by omega))
      show z_ev (d + 1) 157 71 [some (.ref a0), some (.int b1), some (.int b2), some (.int x57), none, none] [] M _
      refine z_xP zt157 38 48 [some (.ref a0), some (.int b1), some (.int b2), some (.int x57), none, none] [] rfl rfl ?_
      exact ih.2.1 M b1 b2 x57 X ⟨by omega, by omega⟩ ⟨by omega, by omega⟩ ⟨by omega, by omega⟩ (by omega)
    · skip
      intro M b1 b2 b3 b4 b5 X hh0 hh1 hh2 hh3 hh4 hE
      have g0 := X.1.p3 k0
      refine z_xP zt157 44 92 [some (.ref a0), some (.int b1), some (.int b2), some (.int b3), some (.int b4), some (.int b5)] [.int b5, .int b4] rfl rfl ?_
      refine z_xJ zt157 45 rfl rfl (fun (h1 : b5.toInt ≤ b4.toInt) => ?_) (fun (h1 : b4.toInt < b5.toInt) => ?_)
      · skip
        exact z_xrv zt157 51 rfl zzr157 (kk M X)
      refine z_xP zt157 46 100 [some (.ref a0), some (.int b1), some (.int b2), some (.int b3), some (.int b4), some (.int b5)] [.int b5, .int b4, .ref a0] rfl rfl ?_
      refine z_xcV (vs := [.ref a0, .int b4, .int b5]) (r := []) (L2 := [some (.ref a0), some (.int b4), some (.int b5), none]) zt157 47 rfl zo157 zzcV3_132 (Or.inl rfl) rfl X k0 rfl rfl rfl (Nat.le_of_ble_eq_true rfl) zzm158 (Nat.le_of_ble_eq_true rfl) rfl ?_
      refine z_xP zt158 0 1 [some (.ref a0), some (.int b4), some (.int b5), none] [.ref a0] rfl rfl ?_
      refine z_xgR (κ := .inr (208, 0, 10, 0, ((q : Nat) : Int) - 1)) zt158 1 rfl zo158 zzf3_30 X k0 (by decide) (by decide) rfl (fun (a3 : Nat) h2 k4 => ?_)
      refine z_xP zt158 2 5 [some (.ref a0), some (.int b4), some (.int b5), none] [.int b4, .ref a3] rfl rfl ?_
      refine z_xil zt158 3 rfl X k4 (by decide) (by omega) (by omega) (fun (x5 : Int32) h6 (h7 : 0 ≤ x5.toInt) (h8 : x5.toInt ≤ ((q : Nat) : Int) - 1) => ?_)
      refine z_xP zt158 4 8 [some (.ref a0), some (.int b4), some (.int b5), some (.int x5)] [.ref a0] rfl rfl ?_
      refine z_xgv zt158 5 rfl zo158 zzf3_30 X k0 (by decide) h2 ?_
      refine z_xP zt158 6 13 [some (.ref a0), some (.int b4), some (.int b5), some (.int x5)] [.ref a0, .int b4, .ref a3] rfl rfl ?_
      refine z_xgv zt158 7 rfl zo158 zzf3_30 X k0 (by decide) h2 ?_
      refine z_xP zt158 8 17 [some (.ref a0), some (.int b4), some (.int b5), some (.int x5)] [.int b5, .ref a3, .int b4, .ref a3] rfl rfl ?_
      refine z_xil zt158 9 rfl X k4 (by decide) (by omega) (by omega) (fun (x9 : Int32) h10 (h11 : 0 ≤ x9.toInt) (h12 : x9.toInt ≤ ((q : Nat) : Int) - 1) => ?_)
      refine z_xis zt158 10 rfl X k4 (by decide) (X.1.g4 k4 (by decide)) (by omega) (by omega) (by omega) (by omega) (by decide) (fun M13 X14 e15 h16 => ?_)
      refine z_xP zt158 11 20 [some (.ref a0), some (.int b4), some (.int b5), some (.int x5)] [.ref a0] rfl rfl ?_
      have h17 := (e15.f k0 (by decide) h2)
      refine z_xgv zt158 12 rfl zo158 zzf3_30 X14 k0 (by decide) h17 ?_
      refine z_xP zt158 13 25 [some (.ref a0), some (.int b4), some (.int b5), some (.int x5)] [.int x5, .int b5, .ref a3] rfl rfl ?_
      refine z_xis zt158 14 rfl X14 k4 (by decide) (X14.1.g4 k4 (by decide)) (by omega) (by omega) (by omega) (by omega) (by decide) (fun M18 X19 e20 h21 => ?_)
      refine z_xrv zt158 15 rfl zzr158 ?_
      show z_ev (d + 1) 157 103 [some (.ref a0), some (.int b1), some (.int b2), some (.int b3), some (.int b4), some (.int b5)] [] M18 _
      refine z_xN zt157 48 rfl rfl (fun (x22 : Int32) (h23 : x22.toInt = b4.toInt + 1) => ?_) (z_pAdd rfl rfl (by omega) (by omega))
      show z_ev (d + 1) 157 106 [some (.ref a0), some (.int b1), some (.int b2), some (.int b3), some (.int x22), some (.int b5)] [] M18 _
      refine z_xN zt157 49 rfl rfl (fun (x24 : Int32) (h25 : x24.toInt = b5.toInt + (-1)) => ?_) (z_pAdd rfl rfl (by omega) (by omega))
      show z_ev (d + 1) 157 109 [some (.ref a0), some (.int b1), some (.int b2), some (.int b3), some (.int x22), some (.int x24)] [] M18 _
      refine z_xP zt157 50 88 [some (.ref a0), some (.int b1), some (.int b2), some (.int b3), some (.int x22), some (.int x24)] [] rfl rfl ?_
      exact ih.2.2 M18 b1 b2 b3 x22 x24 X19 ⟨by omega, by omega⟩ ⟨by omega, by omega⟩ ⟨by omega, by omega⟩ ⟨by omega, by omega⟩ ⟨by omega, by omega⟩ (by omega)
theorem zC157 {T : List zK} {d : Nat} {K : Option Value → zH → Prop} {a0 : Nat} {q : Nat} {t : Nat} {m : Nat} {J : Nat} {M0 : zH} (hW : z_W M0 T) (k0 : T[a0]? = some (.inl (3, q, t, m, J))) (kk : ∀ (M1 : zH), z_X T zw157 M0 M1 → K none M1) : z_ev (d + 1) 157 0 [some (.ref a0), none, none, none, none, none] [] M0 K := by
  have X : z_X T zw157 M0 M0 := .refl hW
  have g0 := X.1.p3 k0
  refine z_xP zt157 0 1 [some (.ref a0), none, none, none, none, none] [.ref a0] rfl rfl ?_
  refine z_xgR (κ := .inl (2, q, t, m, 0)) zt157 1 rfl zo157 zzf3_39 X k0 (by decide) (by decide) rfl (fun (a2 : Nat) h1 k3 => ?_)
  have g4 := X.1.p2 k3
  refine z_xgI zt157 2 rfl zo157 zzf3_63 X k3 (by decide) (by decide) rfl (fun (x6 : Int32) h5 (h7 : (q : Int) ≤ x6.toInt) (h8 : x6.toInt ≤ (q : Int)) => ?_)
  refine z_xP zt157 3 8 [some (.ref a0), none, none, none, none, none] [.int 1, .int x6] rfl rfl ?_
  refine z_xI zt157 4 rfl rfl (fun (x9 : Int32) (h10 : x9.toInt = x6.toInt - 1) => ?_) (z_pSub rfl rfl (by omega) (by omega))
  refine z_xP zt157 5 12 [some (.ref a0), some (.int x9), none, none, none, none] [.int 1, .int x9] rfl rfl ?_
  refine z_xI zt157 6 rfl rfl (fun (x11 : Int32) (h12 : x11.toInt = x9.toInt - 1) => ?_) (z_pSub rfl rfl (by omega) (by omega))
  refine z_xP zt157 7 14 [some (.ref a0), some (.int x9), some (.int x11), none, none, none] [] rfl rfl ?_
  exact (zB157 k0 kk 40).1 M0 x9 x11 X ⟨by omega, by omega⟩ ⟨by omega, by omega⟩ (by omega)
def zw155 : List Nat := [208, 209]
theorem zB155 {T : List zK} {d : Nat} {K : Option Value → zH → Prop} {a0 : Nat} {q : Nat} {t : Nat} {m : Nat} {J : Nat} {p1 : Int32} {p2 : Int32} {M0 : zH} (k0 : T[a0]? = some (.inl (3, q, t, m, J))) (u1 : 0 ≤ p1.toInt ∧ p1.toInt ≤ 9) (u2 : 0 ≤ p2.toInt ∧ p2.toInt ≤ 1) (kk : ∀ (x : Int32) (M1 : zH), z_X T zw155 M0 M1 → K (some (.int x)) M1) : ∀ n : Nat, (∀ (M : zH) (b3 : Int32) (b4 : Int32) (b5 : Int32), z_X T zw155 M0 M → 0 ≤ b3.toInt ∧ b3.toInt ≤ 0 → 2 ≤ b5.toInt ∧ b5.toInt ≤ 11 → ((0) * 3 + 1) * 2147483648 + (11 - b5.toInt) < (n : Int) → z_ev (d + 3) 155 13 [some (.ref a0), some (.int p1), some (.int p2), some (.int b3), some (.int b4), some (.int b5)] [] M K) ∧ (∀ (M : zH) (b3 : Int32) (b4 : Int32) (b5 : Int32), z_X T zw155 M0 M → 0 ≤ b5.toInt ∧ b5.toInt ≤ 2147483647 → ((0) * 3 + 0) * 2147483648 + (2147483647 - b5.toInt) < (n : Int) → z_ev (d + 3) 155 41 [some (.ref a0), some (.int p1), some (.int p2), some (.int b3), some (.int b4), some (.int b5)] [] M K) := by
  intro n
  induction n with
  | zero => exact ⟨(by intros; exfalso; omega), (by intros; exfalso; omega)⟩
  | succ n ih =>
    refine ⟨?_, ?_⟩
    · skip
      intro M b3 b4 b5 X hh0 hh1 hE
      have g0 := X.1.p3 k0
      refine z_xP zt155 3 16 [some (.ref a0), some (.int p1), some (.int p2), some (.int b3), some (.int b4), some (.int b5)] [.ref a0, .int b5] rfl rfl ?_
      refine z_xgR (κ := .inl (2, q, t, m, 0)) zt155 4 rfl zo155 zzf3_39 X k0 (by decide) (by decide) rfl (fun (a2 : Nat) h1 k3 => ?_)
      have g4 := X.1.p2 k3
      refine z_xgI zt155 5 rfl zo155 zzf3_63 X k3 (by decide) (by decide) rfl (fun (x6 : Int32) h5 (h7 : (q : Int) ≤ x6.toInt) (h8 : x6.toInt ≤ (q : Int)) => ?_)
      refine z_xJ zt155 6 rfl rfl (fun (h9 : x6.toInt < b5.toInt) => ?_) (fun (h9 : b5.toInt ≤ x6.toInt) => ?_)
      · skip
        refine z_xP zt155 12 41 [some (.ref a0), some (.int p1), some (.int p2), some (.int b3), some (.int b4), some (.int 0)] [] rfl rfl ?_
        have q0 : ((0 : Int32)).toInt = 0 := rfl
        exact ih.2 M b3 b4 (0) X (by decide) (by omega)
      refine z_xP zt155 7 29 [some (.ref a0), some (.int p1), some (.int p2), some (.int b3), some (.int b4), some (.int b5)] [.int b5, .int b4] rfl rfl ?_
      have h10 := z_b32 b4
      refine z_xI zt155 8 rfl rfl (P := fun _ => True) (fun (x11 : Int32) _ => ?_) trivial
      refine z_xP zt155 9 32 [some (.ref a0), some (.int p1), some (.int p2), some (.int b3), some (.int x11), some (.int b5)] [] rfl rfl ?_
      refine z_xN zt155 10 rfl rfl (fun (x13 : Int32) (h14 : x13.toInt = b5.toInt + 1) => ?_) (z_pAdd rfl rfl (by omega) (by omega))
      show z_ev (d + 3) 155 35 [some (.ref a0), some (.int p1), some (.int p2), some (.int b3), some (.int x11), some (.int x13)] [] M _
      refine z_xP zt155 11 13 [some (.ref a0), some (.int p1), some (.int p2), some (.int b3), some (.int x11), some (.int x13)] [] rfl rfl ?_
      exact ih.1 M b3 x11 x13 X ⟨by omega, by omega⟩ ⟨by omega, by omega⟩ (by omega)
    · skip
      intro M b3 b4 b5 X hh0 hE
      have g0 := X.1.p3 k0
      refine z_xP zt155 13 45 [some (.ref a0), some (.int p1), some (.int p2), some (.int b3), some (.int b4), some (.int b5)] [.int b4, .int b5] rfl rfl ?_
      have h1 := z_b32 b5
      have h2 := z_b32 b4
      refine z_xJ zt155 14 rfl rfl (fun (h3 : b4.toInt ≤ b5.toInt) => ?_) (fun (h3 : b5.toInt < b4.toInt) => ?_)
      · skip
        refine z_xP zt155 32 83 [some (.ref a0), some (.int p1), some (.int p2), some (.int b3), some (.int b4), some (.int b5)] [.int p2] rfl rfl ?_
        refine z_xZ zt155 33 rfl rfl (fun (h4 : p2.toInt = 0) => ?_) (fun (h4 : p2.toInt ≠ 0) => ?_)
        · skip
          refine z_xP zt155 35 92 [some (.ref a0), some (.int p1), some (.int p2), some (.int b3), some (.int b4), some (.int b5)] [.int b3] rfl rfl ?_
          exact z_xri zt155 36 rfl zzr155 (kk b3 M X)
        refine z_xP zt155 34 92 [some (.ref a0), some (.int p1), some (.int p2), some (.int b3), some (.int b4), some (.int b5)] [.int (-2)] rfl rfl ?_
        have qm2 : (((-2) : Int32)).toInt = (-2) := rfl
        exact z_xri zt155 36 rfl zzr155 (kk (-2) M X)
      refine z_xP zt155 15 50 [some (.ref a0), some (.int p1), some (.int p2), some (.int b3), some (.int b4), some (.int b5)] [.int 0, .ref a0] rfl rfl ?_
      refine z_xcV (vs := [.ref a0, .int 0]) (r := []) (L2 := [some (.ref a0), some (.int 0), none, none, none, none, none]) zt155 16 rfl zo155 zzcV3_123 (Or.inl rfl) rfl X k0 rfl rfl rfl (Nat.le_of_ble_eq_true rfl) zzm90 (Nat.le_of_ble_eq_true rfl) rfl ?_
      have q0 : ((0 : Int32)).toInt = 0 := rfl
      have q0 : ((0 : Int32)).toInt = 0 := rfl
      refine zC90 X.1 k0 (fun x7 M5 X6 h8 h9 => ?_)
      have X10 := X.go X6 (z_sb (by decide))
      show z_ev (d + 3) 155 53 [some (.ref a0), some (.int p1), some (.int p2), some (.int b3), some (.int b4), some (.int b5)] [.int x7] M5 _
      refine z_xP zt155 17 54 [some (.ref a0), some (.int p1), some (.int p2), some (.int b3), some (.int b4), some (.int b5)] [.int p1, .int x7] rfl rfl ?_
      refine z_xI zt155 18 rfl rfl (fun (x12 : Int32) (h13 : 0 ≤ x12.toInt ∧ x12.toInt ≤ x7.toInt) => ?_) (z_pShrN rfl (by omega))
      refine z_xP zt155 19 56 [some (.ref a0), some (.int p1), some (.int p2), some (.int b3), some (.int b4), some (.int b5)] [.int 1, .int x12] rfl rfl ?_
      refine z_xI zt155 20 rfl rfl (fun (x14 : Int32) (h15 : 0 ≤ x14.toInt ∧ x14.toInt ≤ x12.toInt ∧ x14.toInt ≤ 1) => ?_) (z_pAnd2 rfl rfl (by omega) (by omega))
      refine z_xZ zt155 21 rfl rfl (fun (h16 : x14.toInt = 0) => ?_) (fun (h16 : x14.toInt ≠ 0) => ?_)
      · skip
        refine z_xP zt155 28 73 [some (.ref a0), some (.int p1), some (.int p2), some (.int b3), some (.int b4), some (.int b5)] [.ref a0] rfl rfl ?_
        refine z_xcV (vs := [.ref a0]) (r := []) (L2 := [some (.ref a0), none, none, none, none, none]) zt155 29 rfl zo155 zzcV3_129 (Or.inl rfl) rfl X10 k0 rfl rfl rfl (Nat.le_of_ble_eq_true rfl) zzm157 (Nat.le_of_ble_eq_true rfl) rfl ?_
        refine zC157 X10.1 k0 (fun M17 X18  => ?_)
        have X19 := X10.go X18 (z_sb (by decide))
        show z_ev (d + 3) 155 76 [some (.ref a0), some (.int p1), some (.int p2), some (.int b3), some (.int b4), some (.int b5)] [] M17 _
        refine z_xN zt155 30 rfl rfl (fun (x21 : Int32) (h22 : x21.toInt = b5.toInt + 1) => ?_) (z_pAdd rfl rfl (by omega) (by omega))
        show z_ev (d + 3) 155 79 [some (.ref a0), some (.int p1), some (.int p2), some (.int b3), some (.int b4), some (.int x21)] [] M17 _
        refine z_xP zt155 31 41 [some (.ref a0), some (.int p1), some (.int p2), some (.int b3), some (.int b4), some (.int x21)] [] rfl rfl ?_
        have h23 := z_b32 x21
        exact ih.2 M17 b3 b4 x21 X19 ⟨by omega, by omega⟩ (by omega)
      refine z_xP zt155 22 61 [some (.ref a0), some (.int p1), some (.int p2), some (.int b3), some (.int b4), some (.int b5)] [.int p2] rfl rfl ?_
      refine z_xZ zt155 23 rfl rfl (fun (h24 : p2.toInt = 0) => ?_) (fun (h24 : p2.toInt ≠ 0) => ?_)
      · skip
        have h25 := z_b32 b3
        refine z_xN zt155 27 rfl rfl (fun (x26 : Int32) (h27 : True) => ?_) (trivial)
        show z_ev (d + 3) 155 72 [some (.ref a0), some (.int p1), some (.int p2), some (.int x26), some (.int b4), some (.int b5)] [] M5 _
        refine z_xP zt155 28 73 [some (.ref a0), some (.int p1), some (.int p2), some (.int x26), some (.int b4), some (.int b5)] [.ref a0] rfl rfl ?_
        refine z_xcV (vs := [.ref a0]) (r := []) (L2 := [some (.ref a0), none, none, none, none, none]) zt155 29 rfl zo155 zzcV3_129 (Or.inl rfl) rfl X10 k0 rfl rfl rfl (Nat.le_of_ble_eq_true rfl) zzm157 (Nat.le_of_ble_eq_true rfl) rfl ?_
        refine zC157 X10.1 k0 (fun M28 X29  => ?_)
        have X30 := X10.go X29 (z_sb (by decide))
        show z_ev (d + 3) 155 76 [some (.ref a0), some (.int p1), some (.int p2), some (.int x26), some (.int b4), some (.int b5)] [] M28 _
        refine z_xN zt155 30 rfl rfl (fun (x32 : Int32) (h33 : x32.toInt = b5.toInt + 1) => ?_) (z_pAdd rfl rfl (by omega) (by omega))
        show z_ev (d + 3) 155 79 [some (.ref a0), some (.int p1), some (.int p2), some (.int x26), some (.int b4), some (.int x32)] [] M28 _
        refine z_xP zt155 31 41 [some (.ref a0), some (.int p1), some (.int p2), some (.int x26), some (.int b4), some (.int x32)] [] rfl rfl ?_
        have h34 := z_b32 x32
        exact ih.2 M28 x26 b4 x32 X30 ⟨by omega, by omega⟩ (by omega)
      refine z_xP zt155 24 65 [some (.ref a0), some (.int p1), some (.int p2), some (.int b3), some (.int b4), some (.int b5)] [.ref a0] rfl rfl ?_
      refine z_xcV (vs := [.ref a0]) (r := []) (L2 := [some (.ref a0), none, none]) zt155 25 rfl zo155 zzcV3_126 (Or.inl rfl) rfl X10 k0 rfl rfl rfl (Nat.le_of_ble_eq_true rfl) zzm156 (Nat.le_of_ble_eq_true rfl) rfl ?_
      refine zC156 X10.1 k0 (fun x37 M35 X36  => ?_)
      have X38 := X10.go X36 (z_sb (by decide))
      show z_ev (d + 3) 155 68 [some (.ref a0), some (.int p1), some (.int p2), some (.int b3), some (.int b4), some (.int b5)] [.int x37] M35 _
      exact z_xri zt155 26 rfl zzr155 (kk x37 M35 X38)
theorem zC155 {T : List zK} {d : Nat} {K : Option Value → zH → Prop} {a0 : Nat} {q : Nat} {t : Nat} {m : Nat} {J : Nat} {p1 : Int32} {p2 : Int32} {M0 : zH} (hW : z_W M0 T) (k0 : T[a0]? = some (.inl (3, q, t, m, J))) (u1 : 0 ≤ p1.toInt ∧ p1.toInt ≤ 9) (u2 : 0 ≤ p2.toInt ∧ p2.toInt ≤ 1) (kk : ∀ (x : Int32) (M1 : zH), z_X T zw155 M0 M1 → K (some (.int x)) M1) : z_ev (d + 3) 155 0 [some (.ref a0), some (.int p1), some (.int p2), none, none, none] [] M0 K := by
  have X : z_X T zw155 M0 M0 := .refl hW
  have g0 := X.1.p3 k0
  refine z_xP zt155 0 2 [some (.ref a0), some (.int p1), some (.int p2), none, none, none] [.int 0, .ref a0] rfl rfl ?_
  refine z_xcV (vs := [.ref a0, .int 0]) (r := []) (L2 := [some (.ref a0), some (.int 0), none, none]) zt155 1 rfl zo155 zzcV3_119 (Or.inl rfl) rfl X k0 rfl rfl rfl (Nat.le_of_ble_eq_true rfl) zzm87 (Nat.le_of_ble_eq_true rfl) rfl ?_
  have q0 : ((0 : Int32)).toInt = 0 := rfl
  have q0 : ((0 : Int32)).toInt = 0 := rfl
  refine zC87 X.1 k0 (by decide) (fun M1 X2  => ?_)
  have X3 := X.go X2 (z_sb (by decide))
  show z_ev (d + 3) 155 5 [some (.ref a0), some (.int p1), some (.int p2), none, none, none] [] M1 _
  refine z_xP zt155 2 13 [some (.ref a0), some (.int p1), some (.int p2), some (.int 0), some (.int 1), some (.int 2)] [] rfl rfl ?_
  have q0 : ((0 : Int32)).toInt = 0 := rfl
  have q1 : ((1 : Int32)).toInt = 1 := rfl
  have q2 : ((2 : Int32)).toInt = 2 := rfl
  exact (zB155 k0 u1 u2 kk 6442450944).1 M1 (0) (1) (2) X3 (by decide) (by decide) (by omega)
def zw154 : List Nat := [208, 209]
theorem zC154 {T : List zK} {d : Nat} {K : Option Value → zH → Prop} {p1 : Int32} {p2 : Int32} {p3 : Int32} {M0 : zH} (hW : z_W M0 T)  (hG : z_GG T M0) (kk : ∀ (x : Int32) (M1 : zH), z_X T zw154 M0 M1 → K (some (.int x)) M1) : z_ev (d + 4) 154 0 [some (.ref 4), some (.int p1), some (.int p2), some (.int p3), none] [] M0 K := by
  have X : z_X T zw154 M0 M0 := .refl hW
  refine z_xP zt154 0 2 [some (.ref 4), some (.int p1), some (.int p2), some (.int p3), none] [.int p1, .ref 4] rfl rfl ?_
  have f4 : T[4]? = some (.inl (0, 0, 0, 0, 0)) := X.1.k rfl (by decide)
  refine z_xcV (vs := [.ref 4, .int p1]) (r := []) (L2 := [some (.ref 4), some (.int p1)]) zt154 1 rfl zo154 zzcV0_85 (Or.inl rfl) rfl X f4 rfl rfl rfl (Nat.le_of_ble_eq_true rfl) zzm35 (Nat.le_of_ble_eq_true rfl) rfl ?_
  refine z_xP zt35 0 1 [some (.ref 4), some (.int p1)] [.int p1] rfl rfl ?_
  refine z_xZ zt35 1 rfl rfl (fun (h1 : p1.toInt < 0) => ?_) (fun (h1 : 0 ≤ p1.toInt) => ?_)
  · skip
    refine z_xP zt35 5 22 [some (.ref 4), some (.int p1)] [.null] rfl rfl ?_
    refine z_xrn zt35 10 rfl zzr35 ?_
    show z_ev (d + 4) 154 5 [some (.ref 4), some (.int p1), some (.int p2), some (.int p3), none] [.null] M0 _
    refine z_xP zt154 2 31 [some (.ref 4), some (.int p1), some (.int p2), some (.int p3), some (.null)] [] rfl rfl ?_
    refine z_xP zt154 11 32 [some (.ref 4), some (.int p1), some (.int p2), some (.int p3), some (.null)] [.int (-1)] rfl rfl ?_
    have qm1 : (((-1) : Int32)).toInt = (-1) := rfl
    exact z_xri zt154 12 rfl zzr154 (kk (-1) M0 X)
  refine z_xP zt35 2 6 [some (.ref 4), some (.int p1)] [.ref 4, .int p1] rfl rfl ?_
  refine z_xgI zt35 3 rfl zo35 zzf0_59 X f4 (by decide) (by decide) rfl (fun (x3 : Int32) h2 (h4 : 0 ≤ x3.toInt) (h5 : x3.toInt ≤ 8) => ?_)
  have h6 := z_b32 p1
  refine z_xJ zt35 4 rfl rfl (fun (h7 : p1.toInt < x3.toInt) => ?_) (fun (h7 : x3.toInt ≤ p1.toInt) => ?_)
  · skip
    refine z_xP zt35 6 17 [some (.ref 4), some (.int p1)] [.ref 4] rfl rfl ?_
    refine z_xgX (b := 10) zt35 7 rfl zo35 zzf0_18 X f4 (by decide) (by decide) rfl ?_
    refine z_xP zt35 8 21 [some (.ref 4), some (.int p1)] [.int p1, .ref 10] rfl rfl ?_
    have f10 : T[10]? = some (.inr (10, 2, 8, 9, 0)) := X.1.k rfl (by decide)
    refine z_xal zt35 9 rfl X f10 (by decide) (by decide) (by decide) (by omega) (by omega) (fun (a8 : Nat) h9 h10 => ?_) (fun h11 => absurd h11 (z_Gs (hG.go X (by decide)).2.1 h2 (by omega) (by omega)))
    obtain ⟨q12, t13, m14, k15⟩ : ∃ q t m, T[a8]? = some (.inl (3, q, t, m, 9)) := h10
    have g16 := X.1.p3 k15
    refine z_xra zt35 10 rfl zzr35 ?_
    show z_ev (d + 4) 154 5 [some (.ref 4), some (.int p1), some (.int p2), some (.int p3), none] [.ref a8] M0 _
    refine z_xP zt154 2 12 [some (.ref 4), some (.int p1), some (.int p2), some (.int p3), some (.ref a8)] [] rfl rfl ?_
    refine z_xP zt154 3 14 [some (.ref 4), some (.int p1), some (.int p2), some (.int p3), some (.ref a8)] [.ref a8] rfl rfl ?_
    refine z_xgR (κ := .inl (2, q12, t13, m14, 0)) zt154 4 rfl zo154 zzf0_89 X k15 (by decide) (by decide) rfl (fun (a18 : Nat) h17 k19 => ?_)
    have g20 := X.1.p2 k19
    refine z_xP zt154 5 18 [some (.ref 4), some (.int p1), some (.int p2), some (.int p3), some (.ref a8)] [.int p2, .ref a18] rfl rfl ?_
    refine z_xcV (vs := [.ref a18, .int p2]) (r := []) (L2 := [some (.ref a18), some (.int p2)]) zt154 6 rfl zo154 zzcV0_129 (Or.inl rfl) rfl X k19 rfl rfl rfl (Nat.le_of_ble_eq_true rfl) zzm48 (Nat.le_of_ble_eq_true rfl) rfl ?_
    refine z_xP zt48 0 1 [some (.ref a18), some (.int p2)] [.int p2] rfl rfl ?_
    refine z_xZ zt48 1 rfl rfl (fun (h21 : p2.toInt < 0) => ?_) (fun (h21 : 0 ≤ p2.toInt) => ?_)
    · skip
      refine z_xP zt48 6 17 [some (.ref a18), some (.int p2)] [.int 0] rfl rfl ?_
      refine z_xrz zt48 7 rfl zzr48 (by decide) (by decide) ?_
      show z_ev (d + 4) 154 21 [some (.ref 4), some (.int p1), some (.int p2), some (.int p3), some (.ref a8)] [.int 0] M0 _
      refine z_xZ zt154 7 rfl rfl (fun (h22 : (0 : Int) = 0) => ?_) (fun (h22 : (0 : Int) ≠ 0) => absurd h22 (by omega))
      refine z_xP zt154 11 32 [some (.ref 4), some (.int p1), some (.int p2), some (.int p3), some (.ref a8)] [.int (-1)] rfl rfl ?_
      have qm1 : (((-1) : Int32)).toInt = (-1) := rfl
      exact z_xri zt154 12 rfl zzr154 (kk (-1) M0 X)
    refine z_xP zt48 2 6 [some (.ref a18), some (.int p2)] [.ref a18, .int p2] rfl rfl ?_
    refine z_xgI zt48 3 rfl zo48 zzf2_15 X k19 (by decide) (by decide) rfl (fun (x24 : Int32) h23 (h25 : (q12 : Int) ≤ x24.toInt) (h26 : x24.toInt ≤ (q12 : Int)) => ?_)
    have h27 := z_b32 p2
    refine z_xJ zt48 4 rfl rfl (fun (h28 : x24.toInt ≤ p2.toInt) => ?_) (fun (h28 : p2.toInt < x24.toInt) => ?_)
    · skip
      refine z_xP zt48 6 17 [some (.ref a18), some (.int p2)] [.int 0] rfl rfl ?_
      refine z_xrz zt48 7 rfl zzr48 (by decide) (by decide) ?_
      show z_ev (d + 4) 154 21 [some (.ref 4), some (.int p1), some (.int p2), some (.int p3), some (.ref a8)] [.int 0] M0 _
      refine z_xZ zt154 7 rfl rfl (fun (h29 : (0 : Int) = 0) => ?_) (fun (h29 : (0 : Int) ≠ 0) => absurd h29 (by omega))
      refine z_xP zt154 11 32 [some (.ref 4), some (.int p1), some (.int p2), some (.int p3), some (.ref a8)] [.int (-1)] rfl rfl ?_
      have qm1 : (((-1) : Int32)).toInt = (-1) := rfl
      exact z_xri zt154 12 rfl zzr154 (kk (-1) M0 X)
    refine z_xP zt48 5 17 [some (.ref a18), some (.int p2)] [.int 1] rfl rfl ?_
    refine z_xrz zt48 7 rfl zzr48 (by decide) (by decide) ?_
    show z_ev (d + 4) 154 21 [some (.ref 4), some (.int p1), some (.int p2), some (.int p3), some (.ref a8)] [.int 1] M0 _
    refine z_xZ zt154 7 rfl rfl (fun (h30 : (1 : Int) = 0) => absurd h30 (by omega)) (fun (h30 : (1 : Int) ≠ 0) => ?_)
    refine z_xP zt154 8 25 [some (.ref 4), some (.int p1), some (.int p2), some (.int p3), some (.ref a8)] [.int p3] rfl rfl ?_
    refine z_xcS (vs := [.int p3]) (r := []) (L2 := [some (.int p3)]) zt154 9 rfl zo154 zzcS0_172 (Or.inl rfl) (Nat.le_of_ble_eq_true rfl) rfl rfl (Nat.le_of_ble_eq_true rfl) zzm64 (Nat.le_of_ble_eq_true rfl) rfl ?_
    refine z_xP zt64 0 1 [some (.int p3)] [.int p3] rfl rfl ?_
    refine z_xZ zt64 1 rfl rfl (fun (h31 : p3.toInt = 0) => ?_) (fun (h31 : p3.toInt ≠ 0) => ?_)
    · skip
      refine z_xP zt64 4 14 [some (.int p3)] [.int 1] rfl rfl ?_
      refine z_xrz zt64 6 rfl zzr64 (by decide) (by decide) ?_
      show z_ev (d + 4) 154 28 [some (.ref 4), some (.int p1), some (.int p2), some (.int p3), some (.ref a8)] [.int 1] M0 _
      refine z_xZ zt154 10 rfl rfl (fun (h32 : (1 : Int) ≠ 0) => ?_) (fun (h32 : (1 : Int) = 0) => absurd h32 (by omega))
      refine z_xP zt154 13 35 [some (.ref 4), some (.int p1), some (.int p2), some (.int p3), some (.ref a8)] [.ref a8] rfl rfl ?_
      refine z_xgv zt154 14 rfl zo154 zzf0_89 X k15 (by decide) h17 ?_
      refine z_xgv zt154 15 rfl zo154 zzf0_93 X k19 (by decide) h23 ?_
      refine z_xP zt154 16 43 [some (.ref 4), some (.int p1), some (.int p2), some (.int p3), some (.ref a8)] [.int 6, .int x24] rfl rfl ?_
      refine z_xJ zt154 17 rfl rfl (fun (h33 : x24.toInt ≤ 6) => ?_) (fun (h33 : 6 < x24.toInt) => ?_)
      · skip
        refine z_xP zt154 20 54 [some (.ref 4), some (.int p1), some (.int p2), some (.int p3), some (.ref a8)] [.int 1, .int p3, .int p2, .ref a8] rfl rfl ?_
        refine z_xJ zt154 21 rfl rfl (fun (h34 : p3.toInt ≠ 1) => ?_) (fun (h34 : p3.toInt = 1) => absurd h34 (by omega))
        refine z_xP zt154 23 62 [some (.ref 4), some (.int p1), some (.int p2), some (.int p3), some (.ref a8)] [.int 0, .int p2, .ref a8] rfl rfl ?_
        refine z_xcV (vs := [.ref a8, .int p2, .int 0]) (r := []) (L2 := [some (.ref a8), some (.int p2), some (.int 0), none, none, none]) zt154 24 rfl zo154 zzcV0_291 (Or.inl rfl) rfl X k15 rfl rfl rfl (Nat.le_of_ble_eq_true rfl) zzm155 (Nat.le_of_ble_eq_true rfl) rfl ?_
        have q0 : ((0 : Int32)).toInt = 0 := rfl
        have q0 : ((0 : Int32)).toInt = 0 := rfl
        refine zC155 X.1 k15 (by omega) (by decide) (fun x37 M35 X36  => ?_)
        have X38 := X.go X36 (z_sb (by decide))
        show z_ev (d + 4) 154 65 [some (.ref 4), some (.int p1), some (.int p2), some (.int p3), some (.ref a8)] [.int x37] M35 _
        exact z_xri zt154 25 rfl zzr154 (kk x37 M35 X38)
      refine z_xP zt154 18 48 [some (.ref 4), some (.int p1), some (.int p2), some (.int p3), some (.ref a8)] [.int (-4)] rfl rfl ?_
      have qm4 : (((-4) : Int32)).toInt = (-4) := rfl
      exact z_xri zt154 19 rfl zzr154 (kk (-4) M0 X)
    refine z_xP zt64 2 6 [some (.int p3)] [.int 1, .int p3] rfl rfl ?_
    refine z_xJ zt64 3 rfl rfl (fun (h40 : p3.toInt ≠ 1) => ?_) (fun (h40 : p3.toInt = 1) => ?_)
    · skip
      refine z_xP zt64 5 14 [some (.int p3)] [.int 0] rfl rfl ?_
      refine z_xrz zt64 6 rfl zzr64 (by decide) (by decide) ?_
      show z_ev (d + 4) 154 28 [some (.ref 4), some (.int p1), some (.int p2), some (.int p3), some (.ref a8)] [.int 0] M0 _
      refine z_xZ zt154 10 rfl rfl (fun (h41 : (0 : Int) ≠ 0) => absurd h41 (by omega)) (fun (h41 : (0 : Int) = 0) => ?_)
      refine z_xP zt154 11 32 [some (.ref 4), some (.int p1), some (.int p2), some (.int p3), some (.ref a8)] [.int (-1)] rfl rfl ?_
      have qm1 : (((-1) : Int32)).toInt = (-1) := rfl
      exact z_xri zt154 12 rfl zzr154 (kk (-1) M0 X)
    refine z_xP zt64 4 14 [some (.int p3)] [.int 1] rfl rfl ?_
    refine z_xrz zt64 6 rfl zzr64 (by decide) (by decide) ?_
    show z_ev (d + 4) 154 28 [some (.ref 4), some (.int p1), some (.int p2), some (.int p3), some (.ref a8)] [.int 1] M0 _
    refine z_xZ zt154 10 rfl rfl (fun (h42 : (1 : Int) ≠ 0) => ?_) (fun (h42 : (1 : Int) = 0) => absurd h42 (by omega))
    refine z_xP zt154 13 35 [some (.ref 4), some (.int p1), some (.int p2), some (.int p3), some (.ref a8)] [.ref a8] rfl rfl ?_
    refine z_xgv zt154 14 rfl zo154 zzf0_89 X k15 (by decide) h17 ?_
    refine z_xgv zt154 15 rfl zo154 zzf0_93 X k19 (by decide) h23 ?_
    refine z_xP zt154 16 43 [some (.ref 4), some (.int p1), some (.int p2), some (.int p3), some (.ref a8)] [.int 6, .int x24] rfl rfl ?_
    refine z_xJ zt154 17 rfl rfl (fun (h43 : x24.toInt ≤ 6) => ?_) (fun (h43 : 6 < x24.toInt) => ?_)
    · skip
      refine z_xP zt154 20 54 [some (.ref 4), some (.int p1), some (.int p2), some (.int p3), some (.ref a8)] [.int 1, .int p3, .int p2, .ref a8] rfl rfl ?_
      refine z_xJ zt154 21 rfl rfl (fun (h44 : p3.toInt ≠ 1) => absurd h44 (by omega)) (fun (h44 : p3.toInt = 1) => ?_)
      refine z_xP zt154 22 62 [some (.ref 4), some (.int p1), some (.int p2), some (.int p3), some (.ref a8)] [.int 1, .int p2, .ref a8] rfl rfl ?_
      refine z_xcV (vs := [.ref a8, .int p2, .int 1]) (r := []) (L2 := [some (.ref a8), some (.int p2), some (.int 1), none, none, none]) zt154 24 rfl zo154 zzcV0_291 (Or.inl rfl) rfl X k15 rfl rfl rfl (Nat.le_of_ble_eq_true rfl) zzm155 (Nat.le_of_ble_eq_true rfl) rfl ?_
      have q1 : ((1 : Int32)).toInt = 1 := rfl
      have q1 : ((1 : Int32)).toInt = 1 := rfl
      refine zC155 X.1 k15 (by omega) (by decide) (fun x47 M45 X46  => ?_)
      have X48 := X.go X46 (z_sb (by decide))
      show z_ev (d + 4) 154 65 [some (.ref 4), some (.int p1), some (.int p2), some (.int p3), some (.ref a8)] [.int x47] M45 _
      exact z_xri zt154 25 rfl zzr154 (kk x47 M45 X48)
    refine z_xP zt154 18 48 [some (.ref 4), some (.int p1), some (.int p2), some (.int p3), some (.ref a8)] [.int (-4)] rfl rfl ?_
    have qm4 : (((-4) : Int32)).toInt = (-4) := rfl
    exact z_xri zt154 19 rfl zzr154 (kk (-4) M0 X)
  refine z_xP zt35 5 22 [some (.ref 4), some (.int p1)] [.null] rfl rfl ?_
  refine z_xrn zt35 10 rfl zzr35 ?_
  show z_ev (d + 4) 154 5 [some (.ref 4), some (.int p1), some (.int p2), some (.int p3), none] [.null] M0 _
  refine z_xP zt154 2 31 [some (.ref 4), some (.int p1), some (.int p2), some (.int p3), some (.null)] [] rfl rfl ?_
  refine z_xP zt154 11 32 [some (.ref 4), some (.int p1), some (.int p2), some (.int p3), some (.null)] [.int (-1)] rfl rfl ?_
  have qm1 : (((-1) : Int32)).toInt = (-1) := rfl
  exact z_xri zt154 12 rfl zzr154 (kk (-1) M0 X)
def zw161 : List Nat := [13]
theorem zC161 {T : List zK} {d : Nat} {K : Option Value → zH → Prop} {a0 : Nat} {ci : Nat} {p1 : Int32} {M0 : zH} (hW : z_W M0 T) (w0 : 4 ≤ ci ∧ ci ≤ 11) (k0 : T[a0]? = some (.inl (ci, 0, 0, 0, 0))) (hn : 0 ≤ (z_Ar M0 13 0).toInt ∧ (z_Ar M0 13 0).toInt ≤ 1000000) (kk : ∀ (M1 : zH), z_X T zw161 M0 M1 → (z_Ar M0 13 0).toInt ≤ (z_Ar M1 13 0).toInt ∧ (z_Ar M1 13 0).toInt ≤ (z_Ar M0 13 0).toInt + 1 → K none M1) : z_ev d 161 0 [some (.ref a0), some (.int p1)] [] M0 K := by
  have X : z_X T zw161 M0 M0 := .refl hW
  refine z_xP zt161 0 1 [some (.ref a0), some (.int p1)] [.ref a0] rfl rfl ?_
  refine z_xgX (b := 13) zt161 1 rfl zo161 zzf4_18 X k0 (z_w8 (fun c => c ∈ ([4, 5, 6, 7, 8, 9, 10, 11] : List Nat)) (by decide) (by decide) (by decide) (by decide) (by decide) (by decide) (by decide) (by decide) w0) (z_nf8 w0 (by decide)) (z_fs8 w0) ?_
  refine z_xP zt161 2 6 [some (.ref a0), some (.int p1)] [.int 0, .ref 13, .int 0, .ref 13] rfl rfl ?_
  have f13 : T[13]? = some (.inr (13, 0, 25, (-2147483648), 2147483647)) := X.1.k rfl (by decide)
  refine z_xil zt161 3 rfl X f13 (by decide) (by decide) (by decide) (fun (x1 : Int32) h2 (h3 : (-2147483648) ≤ x1.toInt) (h4 : x1.toInt ≤ 2147483647) => ?_)
  have q0 : ((0 : Int32)).toInt = 0 := rfl
  have h5 := z_r0 h2 (by omega)
  refine z_xP zt161 4 8 [some (.ref a0), some (.int p1)] [.int 1, .int x1, .int 0, .ref 13] rfl rfl ?_
  have h6 := z_b32 x1
  refine z_xI zt161 5 rfl rfl (fun (x7 : Int32) (h8 : x7.toInt = x1.toInt + 1) => ?_) (z_pAdd rfl rfl (by omega) (by omega))
  have q0 : ((0 : Int32)).toInt = 0 := rfl
  refine z_xis zt161 6 rfl X f13 (by decide) (by decide) (by decide) (by decide) (Int32.le_toInt _) (Int32.toInt_le _) (by decide) (fun M9 X10 e11 h12 => ?_)
  have q0 : ((0 : Int32)).toInt = 0 := rfl
  have h13 := z_u0 h12 (by omega)
  refine z_xP zt161 7 11 [some (.ref a0), some (.int p1)] [.ref a0] rfl rfl ?_
  refine z_xgX (b := 13) zt161 8 rfl zo161 zzf4_18 X10 k0 (z_w8 (fun c => c ∈ ([4, 5, 6, 7, 8, 9, 10, 11] : List Nat)) (by decide) (by decide) (by decide) (by decide) (by decide) (by decide) (by decide) (by decide) w0) (z_nf8 w0 (by decide)) (z_fs8 w0) ?_
  refine z_xP zt161 9 15 [some (.ref a0), some (.int p1)] [.int 0, .ref 13] rfl rfl ?_
  refine z_xil zt161 10 rfl X10 f13 (by decide) (by decide) (by decide) (fun (x14 : Int32) h15 (h16 : (-2147483648) ≤ x14.toInt) (h17 : x14.toInt ≤ 2147483647) => ?_)
  have h18 := congrArg Int32.toInt (h15.symm.trans (z_upe h12))
  have q0 : ((0 : Int32)).toInt = 0 := rfl
  have h19 := z_r0 h15 (by omega)
  refine z_xP zt161 11 17 [some (.ref a0), some (.int p1)] [.ref a0, .int x14] rfl rfl ?_
  refine z_xgX (b := 13) zt161 12 rfl zo161 zzf4_18 X10 k0 (z_w8 (fun c => c ∈ ([4, 5, 6, 7, 8, 9, 10, 11] : List Nat)) (by decide) (by decide) (by decide) (by decide) (by decide) (by decide) (by decide) (by decide) w0) (z_nf8 w0 (by decide)) (z_fs8 w0) ?_
  refine z_xln zt161 13 rfl X10 f13 (by decide) (by decide) (fun (x20 : Int32) (h21 : x20.toInt = ((25 : Nat) : Int)) => ?_)
  refine z_xJ zt161 14 rfl rfl (fun (h22 : x20.toInt ≤ x14.toInt) => ?_) (fun (h22 : x14.toInt < x20.toInt) => ?_)
  · skip
    exact z_xrv zt161 23 rfl zzr161 (kk M9 X10 ⟨by omega, by omega⟩)
  refine z_xP zt161 15 25 [some (.ref a0), some (.int p1)] [.ref a0] rfl rfl ?_
  refine z_xgX (b := 13) zt161 16 rfl zo161 zzf4_18 X10 k0 (z_w8 (fun c => c ∈ ([4, 5, 6, 7, 8, 9, 10, 11] : List Nat)) (by decide) (by decide) (by decide) (by decide) (by decide) (by decide) (by decide) (by decide) w0) (z_nf8 w0 (by decide)) (z_fs8 w0) ?_
  refine z_xP zt161 17 29 [some (.ref a0), some (.int p1)] [.ref a0, .ref 13] rfl rfl ?_
  refine z_xgX (b := 13) zt161 18 rfl zo161 zzf4_18 X10 k0 (z_w8 (fun c => c ∈ ([4, 5, 6, 7, 8, 9, 10, 11] : List Nat)) (by decide) (by decide) (by decide) (by decide) (by decide) (by decide) (by decide) (by decide) w0) (z_nf8 w0 (by decide)) (z_fs8 w0) ?_
  refine z_xP zt161 19 33 [some (.ref a0), some (.int p1)] [.int 0, .ref 13, .ref 13] rfl rfl ?_
  refine z_xil zt161 20 rfl X10 f13 (by decide) (by decide) (by decide) (fun (x23 : Int32) h24 (h25 : (-2147483648) ≤ x23.toInt) (h26 : x23.toInt ≤ 2147483647) => ?_)
  have h27 := congrArg Int32.toInt (h24.symm.trans (z_upe h12))
  have q0 : ((0 : Int32)).toInt = 0 := rfl
  have h28 := z_r0 h24 (by omega)
  refine z_xP zt161 21 35 [some (.ref a0), some (.int p1)] [.int p1, .int x23, .ref 13] rfl rfl ?_
  refine z_xis zt161 22 rfl X10 f13 (by decide) (by decide) (by omega) (by omega) (Int32.le_toInt _) (Int32.toInt_le _) (by decide) (fun M29 X30 e31 h32 => ?_)
  have h33 := z_u0 h32 (by omega)
  exact z_xrv zt161 23 rfl zzr161 (kk M29 X30 ⟨by omega, by omega⟩)
def zw163 : List Nat := [13]
theorem zC163 {T : List zK} {d : Nat} {K : Option Value → zH → Prop} {a0 : Nat} {ci : Nat} {p1 : Int32} {M0 : zH} (hW : z_W M0 T) (w0 : 4 ≤ ci ∧ ci ≤ 11) (k0 : T[a0]? = some (.inl (ci, 0, 0, 0, 0))) (hn : 0 ≤ (z_Ar M0 13 0).toInt ∧ (z_Ar M0 13 0).toInt ≤ 999990) (kk : ∀ (x : Int32) (M1 : zH), z_X T zw163 M0 M1 → (z_Ar M0 13 0).toInt ≤ (z_Ar M1 13 0).toInt ∧ (z_Ar M1 13 0).toInt ≤ (z_Ar M0 13 0).toInt + 1 → K (some (.int x)) M1) : z_ev (d + 1) 163 0 [some (.ref a0), some (.int p1)] [] M0 K := by
  have X : z_X T zw163 M0 M0 := .refl hW
  refine z_xP zt163 0 2 [some (.ref a0), some (.int p1)] [.int 1, .ref a0] rfl rfl ?_
  refine z_xcV (vs := [.ref a0, .int 1]) (r := []) (L2 := [some (.ref a0), some (.int 1)]) zt163 1 rfl zo163 zzcV4_31 (Or.inr rfl) rfl X k0 (z_w8 (fun c => (([(10, 161), (7, 161), (5, 161), (11, 161), (8, 161), (6, 161), (9, 161), (4, 161)] : List (Nat × Nat)).find? fun t => t.1 == c) = some (c, 161)) rfl rfl rfl rfl rfl rfl rfl rfl w0) rfl rfl (Nat.le_of_ble_eq_true rfl) zzm161 (Nat.le_of_ble_eq_true rfl) rfl ?_
  have q1 : ((1 : Int32)).toInt = 1 := rfl
  have q1 : ((1 : Int32)).toInt = 1 := rfl
  refine zC161 X.1 w0 k0 ⟨by omega, by omega⟩ (fun M1 X2 h3 => ?_)
  have X4 := X.go X2 (z_sb (by decide))
  show z_ev (d + 1) 163 5 [some (.ref a0), some (.int p1)] [] M1 _
  refine z_xP zt163 2 7 [some (.ref a0), some (.int p1)] [.ref a0, .int p1] rfl rfl ?_
  refine z_xgI zt163 3 rfl zo163 zzf4_15 X4 k0 (z_w8 (fun c => c ∈ ([4, 5, 6, 7, 8, 9, 10, 11] : List Nat)) (by decide) (by decide) (by decide) (by decide) (by decide) (by decide) (by decide) (by decide) w0) (z_nf8 w0 (by decide)) (z_fs8 w0) (fun (x7 : Int32) h6 (h8 : 0 ≤ x7.toInt) (h9 : x7.toInt ≤ 19) => ?_)
  have h10 := z_b32 p1
  refine z_xI zt163 4 rfl rfl (P := fun _ => True) (fun (x11 : Int32) _ => ?_) trivial
  exact z_xri zt163 5 rfl zzr163 (kk x11 M1 X4 ⟨by omega, by omega⟩)
def zw160 : List Nat := [13]
theorem zC160 {T : List zK} {d : Nat} {K : Option Value → zH → Prop} {a0 : Nat} {ci : Nat} {p1 : Int32} {M0 : zH} (hW : z_W M0 T) (w0 : ci = 5 ∨ ci = 6 ∨ ci = 7) (k0 : T[a0]? = some (.inl (ci, 0, 0, 0, 0))) (hn : 0 ≤ (z_Ar M0 13 0).toInt ∧ (z_Ar M0 13 0).toInt ≤ 999980) (kk : ∀ (x : Int32) (M1 : zH), z_X T zw160 M0 M1 → (z_Ar M0 13 0).toInt ≤ (z_Ar M1 13 0).toInt ∧ (z_Ar M1 13 0).toInt ≤ (z_Ar M0 13 0).toInt + 2 → K (some (.int x)) M1) : z_ev (d + 2) 160 0 [some (.ref a0), some (.int p1)] [] M0 K := by
  have X : z_X T zw160 M0 M0 := .refl hW
  have w0r : 4 ≤ ci ∧ ci ≤ 11 := by omega
  refine z_xP zt160 0 3 [some (.ref a0), some (.int p1)] [.int 20, .ref a0] rfl rfl ?_
  refine z_xcV (vs := [.ref a0, .int 20]) (r := []) (L2 := [some (.ref a0), some (.int 20)]) zt160 1 rfl zo160 zzcV5_13 (Or.inr rfl) rfl X k0 (z_wE3 (fun c => (([(7, 161), (5, 161), (6, 161)] : List (Nat × Nat)).find? fun t => t.1 == c) = some (c, 161)) rfl rfl rfl w0) rfl rfl (Nat.le_of_ble_eq_true rfl) zzm161 (Nat.le_of_ble_eq_true rfl) rfl ?_
  have q20 : ((20 : Int32)).toInt = 20 := rfl
  have q20 : ((20 : Int32)).toInt = 20 := rfl
  refine zC161 X.1 w0r k0 ⟨by omega, by omega⟩ (fun M1 X2 h3 => ?_)
  have X4 := X.go X2 (z_sb (by decide))
  show z_ev (d + 2) 160 6 [some (.ref a0), some (.int p1)] [] M1 _
  refine z_xP zt160 2 8 [some (.ref a0), some (.int p1)] [.int p1, .ref a0] rfl rfl ?_
  refine z_xcI (vs := [.ref a0, .int p1]) (r := []) (L2 := [some (.ref a0), some (.int p1)]) zt160 3 rfl zo160 zzcI5_19 (Or.inr (Or.inl rfl)) rfl X4 k0 rfl rfl (Nat.le_of_ble_eq_true rfl) zzm163 (Nat.le_of_ble_eq_true rfl) rfl ?_
  refine zC163 X4.1 w0r k0 ⟨by omega, by omega⟩ (fun x9 M6 X7 h8 => ?_)
  have X10 := X4.go X7 (z_sb (by decide))
  show z_ev (d + 2) 160 11 [some (.ref a0), some (.int p1)] [.int x9] M6 _
  refine z_xP zt160 4 12 [some (.ref a0), some (.int p1)] [.int 1, .int x9] rfl rfl ?_
  have h12 := z_b32 x9
  refine z_xI zt160 5 rfl rfl (P := fun _ => True) (fun (x13 : Int32) _ => ?_) trivial
  exact z_xri zt160 6 rfl zzr160 (kk x13 M6 X10 ⟨by omega, by omega⟩)
def zw162 : List Nat := [13]
theorem zC162 {T : List zK} {d : Nat} {K : Option Value → zH → Prop} {a0 : Nat} {p1 : Int32} {M0 : zH} (hW : z_W M0 T) (k0 : T[a0]? = some (.inl (8, 0, 0, 0, 0))) (hn : 0 ≤ (z_Ar M0 13 0).toInt ∧ (z_Ar M0 13 0).toInt ≤ 999980) (kk : ∀ (x : Int32) (M1 : zH), z_X T zw162 M0 M1 → (z_Ar M0 13 0).toInt ≤ (z_Ar M1 13 0).toInt ∧ (z_Ar M1 13 0).toInt ≤ (z_Ar M0 13 0).toInt + 2 → K (some (.int x)) M1) : z_ev (d + 2) 162 0 [some (.ref a0), some (.int p1)] [] M0 K := by
  have X : z_X T zw162 M0 M0 := .refl hW
  refine z_xP zt162 0 3 [some (.ref a0), some (.int p1)] [.int 50, .ref a0] rfl rfl ?_
  refine z_xcV (vs := [.ref a0, .int 50]) (r := []) (L2 := [some (.ref a0), some (.int 50)]) zt162 1 rfl zo162 zzcV8_28 (Or.inr rfl) rfl X k0 rfl rfl rfl (Nat.le_of_ble_eq_true rfl) zzm161 (Nat.le_of_ble_eq_true rfl) rfl ?_
  have q50 : ((50 : Int32)).toInt = 50 := rfl
  have q50 : ((50 : Int32)).toInt = 50 := rfl
  refine zC161 X.1 (by decide) k0 ⟨by omega, by omega⟩ (fun M1 X2 h3 => ?_)
  have X4 := X.go X2 (z_sb (by decide))
  show z_ev (d + 2) 162 6 [some (.ref a0), some (.int p1)] [] M1 _
  refine z_xP zt162 2 8 [some (.ref a0), some (.int p1)] [.int p1, .ref a0] rfl rfl ?_
  refine z_xcI (vs := [.ref a0, .int p1]) (r := []) (L2 := [some (.ref a0), some (.int p1)]) zt162 3 rfl zo162 zzcI8_34 (Or.inr (Or.inl rfl)) rfl X4 k0 rfl rfl (Nat.le_of_ble_eq_true rfl) zzm163 (Nat.le_of_ble_eq_true rfl) rfl ?_
  refine zC163 X4.1 (by decide) k0 ⟨by omega, by omega⟩ (fun x9 M6 X7 h8 => ?_)
  have X10 := X4.go X7 (z_sb (by decide))
  show z_ev (d + 2) 162 11 [some (.ref a0), some (.int p1)] [.int x9] M6 _
  refine z_xP zt162 4 12 [some (.ref a0), some (.int p1)] [.int 5, .int x9] rfl rfl ?_
  refine z_xI zt162 5 rfl rfl (P := fun _ => True) (fun (x12 : Int32) _ => ?_) trivial
  exact z_xri zt162 6 rfl zzr162 (kk x12 M6 X10 ⟨by omega, by omega⟩)
def zwVcounts : List Nat := [13]
theorem zVcounts {j pc : Nat} {segs : List (List (Nat × Instr × Nat))} {idx : Nat} {d : Nat} {T : List zK} {rs : List Nat} {M0 M : zH} {L : zL} {r : zS} {K : Option Value → zH → Prop} {w c oc : Nat} {x0 : Int32} (ht : z_dcs j segs = true) (n : Nat) (hk : segs[n]? = some [(pc, .invokevirtual idx, 3)]) (ho : z_oc j = oc) (hq : (z_find z_cV oc idx).map (·.1) = some (2, 1, [(4, 163), (10, 163), (7, 160), (5, 160), (11, 163), (8, 162), (6, 160), (9, 163)])) (hX : z_X T rs M0 M) (hw : T[w]? = some (.inl (c, 0, 0, 0, 0))) (hc : 4 ≤ c ∧ c ≤ 11) (hr : z_ws r ≤ 8) (hn : 0 ≤ (z_Ar M 13 0).toInt ∧ (z_Ar M 13 0).toInt ≤ 999980) (kk : ∀ (x : Int32) (M1 : zH), z_X T zwVcounts M M1 → (z_Ar M 13 0).toInt ≤ (z_Ar M1 13 0).toInt ∧ (z_Ar M1 13 0).toInt ≤ (z_Ar M 13 0).toInt + 2 → z_ev (d + 1 + 2) j (pc + 3) L (.int x :: r) M1 K) : z_ev (d + 1 + 2) j pc L (.int x0 :: .ref w :: r) M K := by
  refine z_w8 (fun c => T[w]? = some (.inl (c, 0, 0, 0, 0)) → z_ev (d + 1 + 2) j pc L (.int x0 :: .ref w :: r) M K) ?_ ?_ ?_ ?_ ?_ ?_ ?_ ?_ hc hw
  · intro hw
    refine z_xcV (vs := [.ref w, .int x0]) (r := r) (L2 := [some (.ref w), some (.int x0)]) ht n hk ho hq (Or.inr rfl) rfl hX hw rfl rfl rfl hr zzm163 (Nat.le_of_ble_eq_true rfl) rfl ?_
    refine zC163 hX.1 (by decide) hw ⟨by omega, by omega⟩ (fun x M1 X1 h3 => ?_)
    exact kk x M1 ((z_X.refl hX.1).go X1 (z_sb (by decide))) ⟨by omega, by omega⟩
  · intro hw
    refine z_xcV (vs := [.ref w, .int x0]) (r := r) (L2 := [some (.ref w), some (.int x0)]) ht n hk ho hq (Or.inr rfl) rfl hX hw rfl rfl rfl hr zzm160 (Nat.le_of_ble_eq_true rfl) rfl ?_
    refine zC160 hX.1 (by decide) hw ⟨by omega, by omega⟩ (fun x M1 X1 h3 => ?_)
    exact kk x M1 ((z_X.refl hX.1).go X1 (z_sb (by decide))) ⟨by omega, by omega⟩
  · intro hw
    refine z_xcV (vs := [.ref w, .int x0]) (r := r) (L2 := [some (.ref w), some (.int x0)]) ht n hk ho hq (Or.inr rfl) rfl hX hw rfl rfl rfl hr zzm160 (Nat.le_of_ble_eq_true rfl) rfl ?_
    refine zC160 hX.1 (by decide) hw ⟨by omega, by omega⟩ (fun x M1 X1 h3 => ?_)
    exact kk x M1 ((z_X.refl hX.1).go X1 (z_sb (by decide))) ⟨by omega, by omega⟩
  · intro hw
    refine z_xcV (vs := [.ref w, .int x0]) (r := r) (L2 := [some (.ref w), some (.int x0)]) ht n hk ho hq (Or.inr rfl) rfl hX hw rfl rfl rfl hr zzm160 (Nat.le_of_ble_eq_true rfl) rfl ?_
    refine zC160 hX.1 (by decide) hw ⟨by omega, by omega⟩ (fun x M1 X1 h3 => ?_)
    exact kk x M1 ((z_X.refl hX.1).go X1 (z_sb (by decide))) ⟨by omega, by omega⟩
  · intro hw
    refine z_xcV (vs := [.ref w, .int x0]) (r := r) (L2 := [some (.ref w), some (.int x0)]) ht n hk ho hq (Or.inr rfl) rfl hX hw rfl rfl rfl hr zzm162 (Nat.le_of_ble_eq_true rfl) rfl ?_
    refine zC162 hX.1 hw ⟨by omega, by omega⟩ (fun x M1 X1 h3 => ?_)
    exact kk x M1 ((z_X.refl hX.1).go X1 (z_sb (by decide))) ⟨by omega, by omega⟩
  · intro hw
    refine z_xcV (vs := [.ref w, .int x0]) (r := r) (L2 := [some (.ref w), some (.int x0)]) ht n hk ho hq (Or.inr rfl) rfl hX hw rfl rfl rfl hr zzm163 (Nat.le_of_ble_eq_true rfl) rfl ?_
    refine zC163 hX.1 (by decide) hw ⟨by omega, by omega⟩ (fun x M1 X1 h3 => ?_)
    exact kk x M1 ((z_X.refl hX.1).go X1 (z_sb (by decide))) ⟨by omega, by omega⟩
  · intro hw
    refine z_xcV (vs := [.ref w, .int x0]) (r := r) (L2 := [some (.ref w), some (.int x0)]) ht n hk ho hq (Or.inr rfl) rfl hX hw rfl rfl rfl hr zzm163 (Nat.le_of_ble_eq_true rfl) rfl ?_
    refine zC163 hX.1 (by decide) hw ⟨by omega, by omega⟩ (fun x M1 X1 h3 => ?_)
    exact kk x M1 ((z_X.refl hX.1).go X1 (z_sb (by decide))) ⟨by omega, by omega⟩
  · intro hw
    refine z_xcV (vs := [.ref w, .int x0]) (r := r) (L2 := [some (.ref w), some (.int x0)]) ht n hk ho hq (Or.inr rfl) rfl hX hw rfl rfl rfl hr zzm163 (Nat.le_of_ble_eq_true rfl) rfl ?_
    refine zC163 hX.1 (by decide) hw ⟨by omega, by omega⟩ (fun x M1 X1 h3 => ?_)
    exact kk x M1 ((z_X.refl hX.1).go X1 (z_sb (by decide))) ⟨by omega, by omega⟩
def zw167 : List Nat := [13]
theorem zC167 {T : List zK} {d : Nat} {K : Option Value → zH → Prop} {a0 : Nat} {ci : Nat} {p1 : Int32} {M0 : zH} (hW : z_W M0 T) (w0 : 4 ≤ ci ∧ ci ≤ 11) (k0 : T[a0]? = some (.inl (ci, 0, 0, 0, 0))) (hn : 0 ≤ (z_Ar M0 13 0).toInt ∧ (z_Ar M0 13 0).toInt ≤ 300000) (kk : ∀ (x : Int32) (M1 : zH), z_X T zw167 M0 M1 → (z_Ar M0 13 0).toInt ≤ (z_Ar M1 13 0).toInt ∧ (z_Ar M1 13 0).toInt ≤ (z_Ar M0 13 0).toInt + 6 → K (some (.int x)) M1) : z_ev (d + 3) 167 0 [some (.ref a0), some (.int p1)] [] M0 K := by
  have X : z_X T zw167 M0 M0 := .refl hW
  refine z_xP zt167 0 3 [some (.ref a0), some (.int p1)] [.int 10, .ref a0] rfl rfl ?_
  refine z_xcV (vs := [.ref a0, .int 10]) (r := []) (L2 := [some (.ref a0), some (.int 10)]) zt167 1 rfl zo167 zzcV4_31 (Or.inr rfl) rfl X k0 (z_w8 (fun c => (([(10, 161), (7, 161), (5, 161), (11, 161), (8, 161), (6, 161), (9, 161), (4, 161)] : List (Nat × Nat)).find? fun t => t.1 == c) = some (c, 161)) rfl rfl rfl rfl rfl rfl rfl rfl w0) rfl rfl (Nat.le_of_ble_eq_true rfl) zzm161 (Nat.le_of_ble_eq_true rfl) rfl ?_
  have q10 : ((10 : Int32)).toInt = 10 := rfl
  have q10 : ((10 : Int32)).toInt = 10 := rfl
  refine zC161 X.1 w0 k0 ⟨by omega, by omega⟩ (fun M1 X2 h3 => ?_)
  have X4 := X.go X2 (z_sb (by decide))
  show z_ev (d + 3) 167 6 [some (.ref a0), some (.int p1)] [] M1 _
  refine z_xP zt167 2 8 [some (.ref a0), some (.int p1)] [.int p1, .ref a0] rfl rfl ?_
  refine zVcounts zt167 3 rfl zo167 zzcV4_35 X4 k0 w0 (Nat.le_of_ble_eq_true rfl) ⟨by omega, by omega⟩ (fun x8 M6 X7 h9 => ?_)
  have X10 := X4.go X7 (z_sb (by decide))
  show z_ev (d + 3) 167 11 [some (.ref a0), some (.int p1)] [.int x8] M6 _
  refine z_xP zt167 4 12 [some (.ref a0), some (.int p1)] [.int 2, .int x8] rfl rfl ?_
  have h12 := z_b32 x8
  refine z_xI zt167 5 rfl rfl (P := fun _ => True) (fun (x13 : Int32) _ => ?_) trivial
  exact z_xri zt167 6 rfl zzr167 (kk x13 M6 X10 ⟨by omega, by omega⟩)
def zw165 : List Nat := [13]
theorem zC165 {T : List zK} {d : Nat} {K : Option Value → zH → Prop} {a0 : Nat} {ci : Nat} {p1 : Int32} {M0 : zH} (hW : z_W M0 T) (w0 : ci = 9 ∨ ci = 10) (k0 : T[a0]? = some (.inl (ci, 0, 0, 0, 0))) (hn : 0 ≤ (z_Ar M0 13 0).toInt ∧ (z_Ar M0 13 0).toInt ≤ 200000) (kk : ∀ (x : Int32) (M1 : zH), z_X T zw165 M0 M1 → (z_Ar M0 13 0).toInt ≤ (z_Ar M1 13 0).toInt ∧ (z_Ar M1 13 0).toInt ≤ (z_Ar M0 13 0).toInt + 12 → K (some (.int x)) M1) : z_ev (d + 4) 165 0 [some (.ref a0), some (.int p1)] [] M0 K := by
  have X : z_X T zw165 M0 M0 := .refl hW
  have w0r : 4 ≤ ci ∧ ci ≤ 11 := by omega
  refine z_xP zt165 0 3 [some (.ref a0), some (.int p1)] [.int 60, .ref a0] rfl rfl ?_
  refine z_xcV (vs := [.ref a0, .int 60]) (r := []) (L2 := [some (.ref a0), some (.int 60)]) zt165 1 rfl zo165 zzcV9_27 (Or.inr rfl) rfl X k0 (z_wE2 (fun c => (([(10, 161), (9, 161)] : List (Nat × Nat)).find? fun t => t.1 == c) = some (c, 161)) rfl rfl w0) rfl rfl (Nat.le_of_ble_eq_true rfl) zzm161 (Nat.le_of_ble_eq_true rfl) rfl ?_
  have q60 : ((60 : Int32)).toInt = 60 := rfl
  have q60 : ((60 : Int32)).toInt = 60 := rfl
  refine zC161 X.1 w0r k0 ⟨by omega, by omega⟩ (fun M1 X2 h3 => ?_)
  have X4 := X.go X2 (z_sb (by decide))
  show z_ev (d + 4) 165 6 [some (.ref a0), some (.int p1)] [] M1 _
  refine z_xP zt165 2 8 [some (.ref a0), some (.int p1)] [.int p1, .ref a0] rfl rfl ?_
  refine z_xcI (vs := [.ref a0, .int p1]) (r := []) (L2 := [some (.ref a0), some (.int p1)]) zt165 3 rfl zo165 zzcI9_30 (Or.inr (Or.inl rfl)) rfl X4 k0 rfl rfl (Nat.le_of_ble_eq_true rfl) zzm167 (Nat.le_of_ble_eq_true rfl) rfl ?_
  refine zC167 X4.1 w0r k0 ⟨by omega, by omega⟩ (fun x9 M6 X7 h8 => ?_)
  have X10 := X4.go X7 (z_sb (by decide))
  show z_ev (d + 4) 165 11 [some (.ref a0), some (.int p1)] [.int x9] M6 _
  have h12 := z_b32 x9
  refine z_xI zt165 4 rfl rfl (P := fun _ => True) (fun (x13 : Int32) _ => ?_) trivial
  exact z_xri zt165 5 rfl zzr165 (kk x13 M6 X10 ⟨by omega, by omega⟩)
def zw164 : List Nat := [13]
theorem zC164 {T : List zK} {d : Nat} {K : Option Value → zH → Prop} {a0 : Nat} {p1 : Int32} {M0 : zH} (hW : z_W M0 T) (k0 : T[a0]? = some (.inl (10, 0, 0, 0, 0))) (hn : 0 ≤ (z_Ar M0 13 0).toInt ∧ (z_Ar M0 13 0).toInt ≤ 100000) (kk : ∀ (x : Int32) (M1 : zH), z_X T zw164 M0 M1 → (z_Ar M0 13 0).toInt ≤ (z_Ar M1 13 0).toInt ∧ (z_Ar M1 13 0).toInt ≤ (z_Ar M0 13 0).toInt + 18 → K (some (.int x)) M1) : z_ev (d + 5) 164 0 [some (.ref a0), some (.int p1)] [] M0 K := by
  have X : z_X T zw164 M0 M0 := .refl hW
  refine z_xP zt164 0 3 [some (.ref a0), some (.int p1)] [.int 71, .ref a0] rfl rfl ?_
  refine z_xcV (vs := [.ref a0, .int 71]) (r := []) (L2 := [some (.ref a0), some (.int 71)]) zt164 1 rfl zo164 zzcV10_38 (Or.inr rfl) rfl X k0 rfl rfl rfl (Nat.le_of_ble_eq_true rfl) zzm161 (Nat.le_of_ble_eq_true rfl) rfl ?_
  have q71 : ((71 : Int32)).toInt = 71 := rfl
  have q71 : ((71 : Int32)).toInt = 71 := rfl
  refine zC161 X.1 (by decide) k0 ⟨by omega, by omega⟩ (fun M1 X2 h3 => ?_)
  have X4 := X.go X2 (z_sb (by decide))
  show z_ev (d + 5) 164 6 [some (.ref a0), some (.int p1)] [] M1 _
  refine z_xP zt164 2 8 [some (.ref a0), some (.int p1)] [.int p1, .ref a0] rfl rfl ?_
  refine z_xcI (vs := [.ref a0, .int p1]) (r := []) (L2 := [some (.ref a0), some (.int p1)]) zt164 3 rfl zo164 zzcI10_46 (Or.inr (Or.inl rfl)) rfl X4 k0 rfl rfl (Nat.le_of_ble_eq_true rfl) zzm165 (Nat.le_of_ble_eq_true rfl) rfl ?_
  refine zC165 X4.1 (by decide) k0 ⟨by omega, by omega⟩ (fun x9 M6 X7 h8 => ?_)
  have X10 := X4.go X7 (z_sb (by decide))
  show z_ev (d + 5) 164 11 [some (.ref a0), some (.int p1)] [.int x9] M6 _
  refine z_xP zt164 4 12 [some (.ref a0), some (.int p1)] [.ref a0, .int x9] rfl rfl ?_
  refine z_xgI zt164 5 rfl zo164 zzf10_7 X10 k0 (by decide) (by decide) rfl (fun (x13 : Int32) h12 (h14 : 0 ≤ x13.toInt) (h15 : x13.toInt ≤ 8) => ?_)
  have h16 := z_b32 x9
  refine z_xI zt164 6 rfl rfl (P := fun _ => True) (fun (x17 : Int32) _ => ?_) trivial
  exact z_xri zt164 7 rfl zzr164 (kk x17 M6 X10 ⟨by omega, by omega⟩)
def zw166 : List Nat := [13]
theorem zC166 {T : List zK} {d : Nat} {K : Option Value → zH → Prop} {a0 : Nat} {p1 : Int32} {M0 : zH} (hW : z_W M0 T) (k0 : T[a0]? = some (.inl (6, 0, 0, 0, 0))) (hn : 0 ≤ (z_Ar M0 13 0).toInt ∧ (z_Ar M0 13 0).toInt ≤ 200000) (kk : ∀ (x : Int32) (M1 : zH), z_X T zw166 M0 M1 → (z_Ar M0 13 0).toInt ≤ (z_Ar M1 13 0).toInt ∧ (z_Ar M1 13 0).toInt ≤ (z_Ar M0 13 0).toInt + 12 → K (some (.int x)) M1) : z_ev (d + 4) 166 0 [some (.ref a0), some (.int p1)] [] M0 K := by
  have X : z_X T zw166 M0 M0 := .refl hW
  refine z_xP zt166 0 3 [some (.ref a0), some (.int p1)] [.int 30, .ref a0] rfl rfl ?_
  refine z_xcV (vs := [.ref a0, .int 30]) (r := []) (L2 := [some (.ref a0), some (.int 30)]) zt166 1 rfl zo166 zzcV6_30 (Or.inr rfl) rfl X k0 rfl rfl rfl (Nat.le_of_ble_eq_true rfl) zzm161 (Nat.le_of_ble_eq_true rfl) rfl ?_
  have q30 : ((30 : Int32)).toInt = 30 := rfl
  have q30 : ((30 : Int32)).toInt = 30 := rfl
  refine zC161 X.1 (by decide) k0 ⟨by omega, by omega⟩ (fun M1 X2 h3 => ?_)
  have X4 := X.go X2 (z_sb (by decide))
  show z_ev (d + 4) 166 6 [some (.ref a0), some (.int p1)] [] M1 _
  refine z_xP zt166 2 8 [some (.ref a0), some (.int p1)] [.int p1, .ref a0] rfl rfl ?_
  refine z_xcI (vs := [.ref a0, .int p1]) (r := []) (L2 := [some (.ref a0), some (.int p1)]) zt166 3 rfl zo166 zzcI6_36 (Or.inr (Or.inr (Or.inr rfl))) rfl X4 k0 rfl rfl (Nat.le_of_ble_eq_true rfl) zzm167 (Nat.le_of_ble_eq_true rfl) rfl ?_
  refine zC167 X4.1 (by decide) k0 ⟨by omega, by omega⟩ (fun x9 M6 X7 h8 => ?_)
  have X10 := X4.go X7 (z_sb (by decide))
  show z_ev (d + 4) 166 11 [some (.ref a0), some (.int p1)] [.int x9] M6 _
  refine z_xP zt166 4 13 [some (.ref a0), some (.int p1)] [.int 2, .ref a0, .int x9] rfl rfl ?_
  refine z_xcV (vs := [.ref a0, .int 2]) (r := [.int x9]) (L2 := [some (.ref a0), some (.int 2)]) zt166 5 rfl zo166 zzcV6_39 (Or.inr rfl) rfl X10 k0 rfl rfl rfl (Nat.le_of_ble_eq_true rfl) zzm160 (Nat.le_of_ble_eq_true rfl) rfl ?_
  have q2 : ((2 : Int32)).toInt = 2 := rfl
  have q2 : ((2 : Int32)).toInt = 2 := rfl
  refine zC160 X10.1 (by decide) k0 ⟨by omega, by omega⟩ (fun x15 M12 X13 h14 => ?_)
  have X16 := X10.go X13 (z_sb (by decide))
  show z_ev (d + 4) 166 16 [some (.ref a0), some (.int p1)] [.int x15, .int x9] M12 _
  have h18 := z_b32 x9
  have h19 := z_b32 x15
  refine z_xI zt166 6 rfl rfl (P := fun _ => True) (fun (x20 : Int32) _ => ?_) trivial
  exact z_xri zt166 7 rfl zzr166 (kk x20 M12 X16 ⟨by omega, by omega⟩)
def zwVweighs : List Nat := [13]
theorem zVweighs {j pc : Nat} {segs : List (List (Nat × Instr × Nat))} {idx : Nat} {d : Nat} {T : List zK} {rs : List Nat} {M0 M : zH} {L : zL} {r : zS} {K : Option Value → zH → Prop} {w c oc : Nat} {x0 : Int32} (ht : z_dcs j segs = true) (n : Nat) (hk : segs[n]? = some [(pc, .invokevirtual idx, 3)]) (ho : z_oc j = oc) (hq : (z_find z_cV oc idx).map (·.1) = some (2, 1, [(4, 167), (10, 164), (7, 167), (5, 167), (11, 167), (8, 167), (6, 166), (9, 165)])) (hX : z_X T rs M0 M) (hw : T[w]? = some (.inl (c, 0, 0, 0, 0))) (hc : 4 ≤ c ∧ c ≤ 11) (hr : z_ws r ≤ 8) (hn : 0 ≤ (z_Ar M 13 0).toInt ∧ (z_Ar M 13 0).toInt ≤ 99900) (kk : ∀ (x : Int32) (M1 : zH), z_X T zwVweighs M M1 → (z_Ar M 13 0).toInt ≤ (z_Ar M1 13 0).toInt ∧ (z_Ar M1 13 0).toInt ≤ (z_Ar M 13 0).toInt + 18 → z_ev (d + 1 + 5) j (pc + 3) L (.int x :: r) M1 K) : z_ev (d + 1 + 5) j pc L (.int x0 :: .ref w :: r) M K := by
  refine z_w8 (fun c => T[w]? = some (.inl (c, 0, 0, 0, 0)) → z_ev (d + 1 + 5) j pc L (.int x0 :: .ref w :: r) M K) ?_ ?_ ?_ ?_ ?_ ?_ ?_ ?_ hc hw
  · intro hw
    refine z_xcV (vs := [.ref w, .int x0]) (r := r) (L2 := [some (.ref w), some (.int x0)]) ht n hk ho hq (Or.inr rfl) rfl hX hw rfl rfl rfl hr zzm167 (Nat.le_of_ble_eq_true rfl) rfl ?_
    refine zC167 hX.1 (by decide) hw ⟨by omega, by omega⟩ (fun x M1 X1 h3 => ?_)
    exact kk x M1 ((z_X.refl hX.1).go X1 (z_sb (by decide))) ⟨by omega, by omega⟩
  · intro hw
    refine z_xcV (vs := [.ref w, .int x0]) (r := r) (L2 := [some (.ref w), some (.int x0)]) ht n hk ho hq (Or.inr rfl) rfl hX hw rfl rfl rfl hr zzm167 (Nat.le_of_ble_eq_true rfl) rfl ?_
    refine zC167 hX.1 (by decide) hw ⟨by omega, by omega⟩ (fun x M1 X1 h3 => ?_)
    exact kk x M1 ((z_X.refl hX.1).go X1 (z_sb (by decide))) ⟨by omega, by omega⟩
  · intro hw
    refine z_xcV (vs := [.ref w, .int x0]) (r := r) (L2 := [some (.ref w), some (.int x0)]) ht n hk ho hq (Or.inr rfl) rfl hX hw rfl rfl rfl hr zzm166 (Nat.le_of_ble_eq_true rfl) rfl ?_
    refine zC166 hX.1 hw ⟨by omega, by omega⟩ (fun x M1 X1 h3 => ?_)
    exact kk x M1 ((z_X.refl hX.1).go X1 (z_sb (by decide))) ⟨by omega, by omega⟩
  · intro hw
    refine z_xcV (vs := [.ref w, .int x0]) (r := r) (L2 := [some (.ref w), some (.int x0)]) ht n hk ho hq (Or.inr rfl) rfl hX hw rfl rfl rfl hr zzm167 (Nat.le_of_ble_eq_true rfl) rfl ?_
    refine zC167 hX.1 (by decide) hw ⟨by omega, by omega⟩ (fun x M1 X1 h3 => ?_)
    exact kk x M1 ((z_X.refl hX.1).go X1 (z_sb (by decide))) ⟨by omega, by omega⟩
  · intro hw
    refine z_xcV (vs := [.ref w, .int x0]) (r := r) (L2 := [some (.ref w), some (.int x0)]) ht n hk ho hq (Or.inr rfl) rfl hX hw rfl rfl rfl hr zzm167 (Nat.le_of_ble_eq_true rfl) rfl ?_
    refine zC167 hX.1 (by decide) hw ⟨by omega, by omega⟩ (fun x M1 X1 h3 => ?_)
    exact kk x M1 ((z_X.refl hX.1).go X1 (z_sb (by decide))) ⟨by omega, by omega⟩
  · intro hw
    refine z_xcV (vs := [.ref w, .int x0]) (r := r) (L2 := [some (.ref w), some (.int x0)]) ht n hk ho hq (Or.inr rfl) rfl hX hw rfl rfl rfl hr zzm165 (Nat.le_of_ble_eq_true rfl) rfl ?_
    refine zC165 hX.1 (by decide) hw ⟨by omega, by omega⟩ (fun x M1 X1 h3 => ?_)
    exact kk x M1 ((z_X.refl hX.1).go X1 (z_sb (by decide))) ⟨by omega, by omega⟩
  · intro hw
    refine z_xcV (vs := [.ref w, .int x0]) (r := r) (L2 := [some (.ref w), some (.int x0)]) ht n hk ho hq (Or.inr rfl) rfl hX hw rfl rfl rfl hr zzm164 (Nat.le_of_ble_eq_true rfl) rfl ?_
    refine zC164 hX.1 hw ⟨by omega, by omega⟩ (fun x M1 X1 h3 => ?_)
    exact kk x M1 ((z_X.refl hX.1).go X1 (z_sb (by decide))) ⟨by omega, by omega⟩
  · intro hw
    refine z_xcV (vs := [.ref w, .int x0]) (r := r) (L2 := [some (.ref w), some (.int x0)]) ht n hk ho hq (Or.inr rfl) rfl hX hw rfl rfl rfl hr zzm167 (Nat.le_of_ble_eq_true rfl) rfl ?_
    refine zC167 hX.1 (by decide) hw ⟨by omega, by omega⟩ (fun x M1 X1 h3 => ?_)
    exact kk x M1 ((z_X.refl hX.1).go X1 (z_sb (by decide))) ⟨by omega, by omega⟩
def zw170 : List Nat := [13]
theorem zC170 {T : List zK} {d : Nat} {K : Option Value → zH → Prop} {a0 : Nat} {ci : Nat} {p1 : Int32} {M0 : zH} (hW : z_W M0 T) (w0 : 4 ≤ ci ∧ ci ≤ 11) (k0 : T[a0]? = some (.inl (ci, 0, 0, 0, 0))) (hn : 0 ≤ (z_Ar M0 13 0).toInt ∧ (z_Ar M0 13 0).toInt ≤ 200000) (kk : ∀ (x : Int32) (M1 : zH), z_X T zw170 M0 M1 → (z_Ar M0 13 0).toInt ≤ (z_Ar M1 13 0).toInt ∧ (z_Ar M1 13 0).toInt ≤ (z_Ar M0 13 0).toInt + 2 → K (some (.int x)) M1) : z_ev (d + 1) 170 0 [some (.ref a0), some (.int p1)] [] M0 K := by
  have X : z_X T zw170 M0 M0 := .refl hW
  refine z_xP zt170 0 3 [some (.ref a0), some (.int p1)] [.int 11, .ref a0] rfl rfl ?_
  refine z_xcV (vs := [.ref a0, .int 11]) (r := []) (L2 := [some (.ref a0), some (.int 11)]) zt170 1 rfl zo170 zzcV4_31 (Or.inr rfl) rfl X k0 (z_w8 (fun c => (([(10, 161), (7, 161), (5, 161), (11, 161), (8, 161), (6, 161), (9, 161), (4, 161)] : List (Nat × Nat)).find? fun t => t.1 == c) = some (c, 161)) rfl rfl rfl rfl rfl rfl rfl rfl w0) rfl rfl (Nat.le_of_ble_eq_true rfl) zzm161 (Nat.le_of_ble_eq_true rfl) rfl ?_
  have q11 : ((11 : Int32)).toInt = 11 := rfl
  have q11 : ((11 : Int32)).toInt = 11 := rfl
  refine zC161 X.1 w0 k0 ⟨by omega, by omega⟩ (fun M1 X2 h3 => ?_)
  have X4 := X.go X2 (z_sb (by decide))
  show z_ev (d + 1) 170 6 [some (.ref a0), some (.int p1)] [] M1 _
  refine z_xP zt170 2 8 [some (.ref a0), some (.int p1)] [.ref a0, .int p1] rfl rfl ?_
  refine z_xgI zt170 3 rfl zo170 zzf4_15 X4 k0 (z_w8 (fun c => c ∈ ([4, 5, 6, 7, 8, 9, 10, 11] : List Nat)) (by decide) (by decide) (by decide) (by decide) (by decide) (by decide) (by decide) (by decide) w0) (z_nf8 w0 (by decide)) (z_fs8 w0) (fun (x7 : Int32) h6 (h8 : 0 ≤ x7.toInt) (h9 : x7.toInt ≤ 19) => ?_)
  refine z_xI zt170 4 rfl rfl (P := fun _ => True) (fun (x10 : Int32) _ => ?_) trivial
  exact z_xri zt170 5 rfl zzr170 (kk x10 M1 X4 ⟨by omega, by omega⟩)
def zw168 : List Nat := [13]
theorem zC168 {T : List zK} {d : Nat} {K : Option Value → zH → Prop} {a0 : Nat} {p1 : Int32} {M0 : zH} (hW : z_W M0 T) (k0 : T[a0]? = some (.inl (10, 0, 0, 0, 0))) (hn : 0 ≤ (z_Ar M0 13 0).toInt ∧ (z_Ar M0 13 0).toInt ≤ 100000) (kk : ∀ (x : Int32) (M1 : zH), z_X T zw168 M0 M1 → (z_Ar M0 13 0).toInt ≤ (z_Ar M1 13 0).toInt ∧ (z_Ar M1 13 0).toInt ≤ (z_Ar M0 13 0).toInt + 4 → K (some (.int x)) M1) : z_ev (d + 2) 168 0 [some (.ref a0), some (.int p1)] [] M0 K := by
  have X : z_X T zw168 M0 M0 := .refl hW
  refine z_xP zt168 0 3 [some (.ref a0), some (.int p1)] [.int 70, .ref a0] rfl rfl ?_
  refine z_xcV (vs := [.ref a0, .int 70]) (r := []) (L2 := [some (.ref a0), some (.int 70)]) zt168 1 rfl zo168 zzcV10_38 (Or.inr rfl) rfl X k0 rfl rfl rfl (Nat.le_of_ble_eq_true rfl) zzm161 (Nat.le_of_ble_eq_true rfl) rfl ?_
  have q70 : ((70 : Int32)).toInt = 70 := rfl
  have q70 : ((70 : Int32)).toInt = 70 := rfl
  refine zC161 X.1 (by decide) k0 ⟨by omega, by omega⟩ (fun M1 X2 h3 => ?_)
  have X4 := X.go X2 (z_sb (by decide))
  show z_ev (d + 2) 168 6 [some (.ref a0), some (.int p1)] [] M1 _
  refine z_xP zt168 2 9 [some (.ref a0), some (.int p1)] [.int 1, .int p1, .ref a0] rfl rfl ?_
  have h6 := z_b32 p1
  refine z_xI zt168 3 rfl rfl (P := fun _ => True) (fun (x7 : Int32) _ => ?_) trivial
  refine z_xcI (vs := [.ref a0, .int x7]) (r := []) (L2 := [some (.ref a0), some (.int x7)]) zt168 4 rfl zo168 zzcI10_42 (Or.inr (Or.inr (Or.inr rfl))) rfl X4 k0 rfl rfl (Nat.le_of_ble_eq_true rfl) zzm170 (Nat.le_of_ble_eq_true rfl) rfl ?_
  refine zC170 X4.1 (by decide) k0 ⟨by omega, by omega⟩ (fun x12 M9 X10 h11 => ?_)
  have X13 := X4.go X10 (z_sb (by decide))
  show z_ev (d + 2) 168 13 [some (.ref a0), some (.int p1)] [.int x12] M9 _
  exact z_xri zt168 5 rfl zzr168 (kk x12 M9 X13 ⟨by omega, by omega⟩)
def zw169 : List Nat := [13]
theorem zC169 {T : List zK} {d : Nat} {K : Option Value → zH → Prop} {a0 : Nat} {p1 : Int32} {M0 : zH} (hW : z_W M0 T) (k0 : T[a0]? = some (.inl (7, 0, 0, 0, 0))) (hn : 0 ≤ (z_Ar M0 13 0).toInt ∧ (z_Ar M0 13 0).toInt ≤ 100000) (kk : ∀ (x : Int32) (M1 : zH), z_X T zw169 M0 M1 → (z_Ar M0 13 0).toInt ≤ (z_Ar M1 13 0).toInt ∧ (z_Ar M1 13 0).toInt ≤ (z_Ar M0 13 0).toInt + 4 → K (some (.int x)) M1) : z_ev (d + 2) 169 0 [some (.ref a0), some (.int p1)] [] M0 K := by
  have X : z_X T zw169 M0 M0 := .refl hW
  refine z_xP zt169 0 3 [some (.ref a0), some (.int p1)] [.int 40, .ref a0] rfl rfl ?_
  refine z_xcV (vs := [.ref a0, .int 40]) (r := []) (L2 := [some (.ref a0), some (.int 40)]) zt169 1 rfl zo169 zzcV7_33 (Or.inr rfl) rfl X k0 rfl rfl rfl (Nat.le_of_ble_eq_true rfl) zzm161 (Nat.le_of_ble_eq_true rfl) rfl ?_
  have q40 : ((40 : Int32)).toInt = 40 := rfl
  have q40 : ((40 : Int32)).toInt = 40 := rfl
  refine zC161 X.1 (by decide) k0 ⟨by omega, by omega⟩ (fun M1 X2 h3 => ?_)
  have X4 := X.go X2 (z_sb (by decide))
  show z_ev (d + 2) 169 6 [some (.ref a0), some (.int p1)] [] M1 _
  refine z_xP zt169 2 8 [some (.ref a0), some (.int p1)] [.int p1, .ref a0] rfl rfl ?_
  refine z_xcI (vs := [.ref a0, .int p1]) (r := []) (L2 := [some (.ref a0), some (.int p1)]) zt169 3 rfl zo169 zzcI7_39 (Or.inr (Or.inr (Or.inr rfl))) rfl X4 k0 rfl rfl (Nat.le_of_ble_eq_true rfl) zzm170 (Nat.le_of_ble_eq_true rfl) rfl ?_
  refine zC170 X4.1 (by decide) k0 ⟨by omega, by omega⟩ (fun x9 M6 X7 h8 => ?_)
  have X10 := X4.go X7 (z_sb (by decide))
  show z_ev (d + 2) 169 11 [some (.ref a0), some (.int p1)] [.int x9] M6 _
  refine z_xP zt169 4 12 [some (.ref a0), some (.int p1)] [.int 3, .int x9] rfl rfl ?_
  have h12 := z_b32 x9
  refine z_xI zt169 5 rfl rfl (P := fun _ => True) (fun (x13 : Int32) _ => ?_) trivial
  exact z_xri zt169 6 rfl zzr169 (kk x13 M6 X10 ⟨by omega, by omega⟩)
def zwVbinds : List Nat := [13]
theorem zVbinds {j pc : Nat} {segs : List (List (Nat × Instr × Nat))} {idx : Nat} {d : Nat} {T : List zK} {rs : List Nat} {M0 M : zH} {L : zL} {r : zS} {K : Option Value → zH → Prop} {w c oc : Nat} {x0 : Int32} (ht : z_dcs j segs = true) (n : Nat) (hk : segs[n]? = some [(pc, .invokevirtual idx, 3)]) (ho : z_oc j = oc) (hq : (z_find z_cV oc idx).map (·.1) = some (2, 1, [(4, 170), (10, 168), (7, 169), (5, 170), (11, 170), (8, 170), (6, 170), (9, 170)])) (hX : z_X T rs M0 M) (hw : T[w]? = some (.inl (c, 0, 0, 0, 0))) (hc : 4 ≤ c ∧ c ≤ 11) (hr : z_ws r ≤ 8) (hn : 0 ≤ (z_Ar M 13 0).toInt ∧ (z_Ar M 13 0).toInt ≤ 100000) (kk : ∀ (x : Int32) (M1 : zH), z_X T zwVbinds M M1 → (z_Ar M 13 0).toInt ≤ (z_Ar M1 13 0).toInt ∧ (z_Ar M1 13 0).toInt ≤ (z_Ar M 13 0).toInt + 4 → z_ev (d + 1 + 2) j (pc + 3) L (.int x :: r) M1 K) : z_ev (d + 1 + 2) j pc L (.int x0 :: .ref w :: r) M K := by
  refine z_w8 (fun c => T[w]? = some (.inl (c, 0, 0, 0, 0)) → z_ev (d + 1 + 2) j pc L (.int x0 :: .ref w :: r) M K) ?_ ?_ ?_ ?_ ?_ ?_ ?_ ?_ hc hw
  · intro hw
    refine z_xcV (vs := [.ref w, .int x0]) (r := r) (L2 := [some (.ref w), some (.int x0)]) ht n hk ho hq (Or.inr rfl) rfl hX hw rfl rfl rfl hr zzm170 (Nat.le_of_ble_eq_true rfl) rfl ?_
    refine zC170 hX.1 (by decide) hw ⟨by omega, by omega⟩ (fun x M1 X1 h3 => ?_)
    exact kk x M1 ((z_X.refl hX.1).go X1 (z_sb (by decide))) ⟨by omega, by omega⟩
  · intro hw
    refine z_xcV (vs := [.ref w, .int x0]) (r := r) (L2 := [some (.ref w), some (.int x0)]) ht n hk ho hq (Or.inr rfl) rfl hX hw rfl rfl rfl hr zzm170 (Nat.le_of_ble_eq_true rfl) rfl ?_
    refine zC170 hX.1 (by decide) hw ⟨by omega, by omega⟩ (fun x M1 X1 h3 => ?_)
    exact kk x M1 ((z_X.refl hX.1).go X1 (z_sb (by decide))) ⟨by omega, by omega⟩
  · intro hw
    refine z_xcV (vs := [.ref w, .int x0]) (r := r) (L2 := [some (.ref w), some (.int x0)]) ht n hk ho hq (Or.inr rfl) rfl hX hw rfl rfl rfl hr zzm170 (Nat.le_of_ble_eq_true rfl) rfl ?_
    refine zC170 hX.1 (by decide) hw ⟨by omega, by omega⟩ (fun x M1 X1 h3 => ?_)
    exact kk x M1 ((z_X.refl hX.1).go X1 (z_sb (by decide))) ⟨by omega, by omega⟩
  · intro hw
    refine z_xcV (vs := [.ref w, .int x0]) (r := r) (L2 := [some (.ref w), some (.int x0)]) ht n hk ho hq (Or.inr rfl) rfl hX hw rfl rfl rfl hr zzm169 (Nat.le_of_ble_eq_true rfl) rfl ?_
    refine zC169 hX.1 hw ⟨by omega, by omega⟩ (fun x M1 X1 h3 => ?_)
    exact kk x M1 ((z_X.refl hX.1).go X1 (z_sb (by decide))) ⟨by omega, by omega⟩
  · intro hw
    refine z_xcV (vs := [.ref w, .int x0]) (r := r) (L2 := [some (.ref w), some (.int x0)]) ht n hk ho hq (Or.inr rfl) rfl hX hw rfl rfl rfl hr zzm170 (Nat.le_of_ble_eq_true rfl) rfl ?_
    refine zC170 hX.1 (by decide) hw ⟨by omega, by omega⟩ (fun x M1 X1 h3 => ?_)
    exact kk x M1 ((z_X.refl hX.1).go X1 (z_sb (by decide))) ⟨by omega, by omega⟩
  · intro hw
    refine z_xcV (vs := [.ref w, .int x0]) (r := r) (L2 := [some (.ref w), some (.int x0)]) ht n hk ho hq (Or.inr rfl) rfl hX hw rfl rfl rfl hr zzm170 (Nat.le_of_ble_eq_true rfl) rfl ?_
    refine zC170 hX.1 (by decide) hw ⟨by omega, by omega⟩ (fun x M1 X1 h3 => ?_)
    exact kk x M1 ((z_X.refl hX.1).go X1 (z_sb (by decide))) ⟨by omega, by omega⟩
  · intro hw
    refine z_xcV (vs := [.ref w, .int x0]) (r := r) (L2 := [some (.ref w), some (.int x0)]) ht n hk ho hq (Or.inr rfl) rfl hX hw rfl rfl rfl hr zzm168 (Nat.le_of_ble_eq_true rfl) rfl ?_
    refine zC168 hX.1 hw ⟨by omega, by omega⟩ (fun x M1 X1 h3 => ?_)
    exact kk x M1 ((z_X.refl hX.1).go X1 (z_sb (by decide))) ⟨by omega, by omega⟩
  · intro hw
    refine z_xcV (vs := [.ref w, .int x0]) (r := r) (L2 := [some (.ref w), some (.int x0)]) ht n hk ho hq (Or.inr rfl) rfl hX hw rfl rfl rfl hr zzm170 (Nat.le_of_ble_eq_true rfl) rfl ?_
    refine zC170 hX.1 (by decide) hw ⟨by omega, by omega⟩ (fun x M1 X1 h3 => ?_)
    exact kk x M1 ((z_X.refl hX.1).go X1 (z_sb (by decide))) ⟨by omega, by omega⟩
def zw173 : List Nat := [13]
theorem zC173 {T : List zK} {d : Nat} {K : Option Value → zH → Prop} {a0 : Nat} {ci : Nat} {p1 : Int32} {M0 : zH} (hW : z_W M0 T) (w0 : 4 ≤ ci ∧ ci ≤ 11) (k0 : T[a0]? = some (.inl (ci, 0, 0, 0, 0))) (hn : 0 ≤ (z_Ar M0 13 0).toInt ∧ (z_Ar M0 13 0).toInt ≤ 20000) (kk : ∀ (x : Int32) (M1 : zH), z_X T zw173 M0 M1 → (z_Ar M0 13 0).toInt ≤ (z_Ar M1 13 0).toInt ∧ (z_Ar M1 13 0).toInt ≤ (z_Ar M0 13 0).toInt + 30 → K (some (.int x)) M1) : z_ev (d + 6) 173 0 [some (.ref a0), some (.int p1)] [] M0 K := by
  have X : z_X T zw173 M0 M0 := .refl hW
  refine z_xP zt173 0 2 [some (.ref a0), some (.int p1)] [.int 2, .ref a0] rfl rfl ?_
  refine z_xcV (vs := [.ref a0, .int 2]) (r := []) (L2 := [some (.ref a0), some (.int 2)]) zt173 1 rfl zo173 zzcV4_31 (Or.inr rfl) rfl X k0 (z_w8 (fun c => (([(10, 161), (7, 161), (5, 161), (11, 161), (8, 161), (6, 161), (9, 161), (4, 161)] : List (Nat × Nat)).find? fun t => t.1 == c) = some (c, 161)) rfl rfl rfl rfl rfl rfl rfl rfl w0) rfl rfl (Nat.le_of_ble_eq_true rfl) zzm161 (Nat.le_of_ble_eq_true rfl) rfl ?_
  have q2 : ((2 : Int32)).toInt = 2 := rfl
  have q2 : ((2 : Int32)).toInt = 2 := rfl
  refine zC161 X.1 w0 k0 ⟨by omega, by omega⟩ (fun M1 X2 h3 => ?_)
  have X4 := X.go X2 (z_sb (by decide))
  show z_ev (d + 6) 173 5 [some (.ref a0), some (.int p1)] [] M1 _
  refine z_xP zt173 2 7 [some (.ref a0), some (.int p1)] [.int p1, .ref a0] rfl rfl ?_
  refine zVweighs zt173 3 rfl zo173 zzcV4_39 X4 k0 w0 (Nat.le_of_ble_eq_true rfl) ⟨by omega, by omega⟩ (fun x8 M6 X7 h9 => ?_)
  have X10 := X4.go X7 (z_sb (by decide))
  show z_ev (d + 6) 173 10 [some (.ref a0), some (.int p1)] [.int x8] M6 _
  refine z_xP zt173 4 12 [some (.ref a0), some (.int p1)] [.int 1, .ref a0, .int x8] rfl rfl ?_
  refine zVbinds zt173 5 rfl zo173 zzcV4_42 X10 k0 w0 (Nat.le_of_ble_eq_true rfl) ⟨by omega, by omega⟩ (fun x14 M12 X13 h15 => ?_)
  have X16 := X10.go X13 (z_sb (by decide))
  show z_ev (d + 6) 173 15 [some (.ref a0), some (.int p1)] [.int x14, .int x8] M12 _
  have h18 := z_b32 x8
  have h19 := z_b32 x14
  refine z_xI zt173 6 rfl rfl (P := fun _ => True) (fun (x20 : Int32) _ => ?_) trivial
  exact z_xri zt173 7 rfl zzr173 (kk x20 M12 X16 ⟨by omega, by omega⟩)
def zw171 : List Nat := [13]
theorem zC171 {T : List zK} {d : Nat} {K : Option Value → zH → Prop} {a0 : Nat} {ci : Nat} {p1 : Int32} {M0 : zH} (hW : z_W M0 T) (w0 : ci = 9 ∨ ci = 10) (k0 : T[a0]? = some (.inl (ci, 0, 0, 0, 0))) (hn : 0 ≤ (z_Ar M0 13 0).toInt ∧ (z_Ar M0 13 0).toInt ≤ 10000) (kk : ∀ (x : Int32) (M1 : zH), z_X T zw171 M0 M1 → (z_Ar M0 13 0).toInt ≤ (z_Ar M1 13 0).toInt ∧ (z_Ar M1 13 0).toInt ≤ (z_Ar M0 13 0).toInt + 40 → K (some (.int x)) M1) : z_ev (d + 7) 171 0 [some (.ref a0), some (.int p1)] [] M0 K := by
  have X : z_X T zw171 M0 M0 := .refl hW
  have w0r : 4 ≤ ci ∧ ci ≤ 11 := by omega
  refine z_xP zt171 0 3 [some (.ref a0), some (.int p1)] [.int 61, .ref a0] rfl rfl ?_
  refine z_xcV (vs := [.ref a0, .int 61]) (r := []) (L2 := [some (.ref a0), some (.int 61)]) zt171 1 rfl zo171 zzcV9_27 (Or.inr rfl) rfl X k0 (z_wE2 (fun c => (([(10, 161), (9, 161)] : List (Nat × Nat)).find? fun t => t.1 == c) = some (c, 161)) rfl rfl w0) rfl rfl (Nat.le_of_ble_eq_true rfl) zzm161 (Nat.le_of_ble_eq_true rfl) rfl ?_
  have q61 : ((61 : Int32)).toInt = 61 := rfl
  have q61 : ((61 : Int32)).toInt = 61 := rfl
  refine zC161 X.1 w0r k0 ⟨by omega, by omega⟩ (fun M1 X2 h3 => ?_)
  have X4 := X.go X2 (z_sb (by decide))
  show z_ev (d + 7) 171 6 [some (.ref a0), some (.int p1)] [] M1 _
  refine z_xP zt171 2 8 [some (.ref a0), some (.int p1)] [.int p1, .ref a0] rfl rfl ?_
  refine z_xcI (vs := [.ref a0, .int p1]) (r := []) (L2 := [some (.ref a0), some (.int p1)]) zt171 3 rfl zo171 zzcI9_33 (Or.inr (Or.inl rfl)) rfl X4 k0 rfl rfl (Nat.le_of_ble_eq_true rfl) zzm173 (Nat.le_of_ble_eq_true rfl) rfl ?_
  refine zC173 X4.1 w0r k0 ⟨by omega, by omega⟩ (fun x9 M6 X7 h8 => ?_)
  have X10 := X4.go X7 (z_sb (by decide))
  show z_ev (d + 7) 171 11 [some (.ref a0), some (.int p1)] [.int x9] M6 _
  refine z_xP zt171 4 12 [some (.ref a0), some (.int p1)] [.ref a0, .int x9] rfl rfl ?_
  refine z_xgI zt171 5 rfl zo171 zzf9_7 X10 k0 (z_wE2 (fun c => c ∈ ([4, 5, 6, 7, 8, 9, 10, 11] : List Nat)) (by decide) (by decide) w0) (z_nf8 w0r (by decide)) (z_fs8 w0r) (fun (x13 : Int32) h12 (h14 : 0 ≤ x13.toInt) (h15 : x13.toInt ≤ 9) => ?_)
  have h16 := z_b32 x9
  refine z_xI zt171 6 rfl rfl (P := fun _ => True) (fun (x17 : Int32) _ => ?_) trivial
  exact z_xri zt171 7 rfl zzr171 (kk x17 M6 X10 ⟨by omega, by omega⟩)
def zw172 : List Nat := [13]
theorem zC172 {T : List zK} {d : Nat} {K : Option Value → zH → Prop} {a0 : Nat} {p1 : Int32} {M0 : zH} (hW : z_W M0 T) (k0 : T[a0]? = some (.inl (11, 0, 0, 0, 0))) (hn : 0 ≤ (z_Ar M0 13 0).toInt ∧ (z_Ar M0 13 0).toInt ≤ 10000) (kk : ∀ (x : Int32) (M1 : zH), z_X T zw172 M0 M1 → (z_Ar M0 13 0).toInt ≤ (z_Ar M1 13 0).toInt ∧ (z_Ar M1 13 0).toInt ≤ (z_Ar M0 13 0).toInt + 40 → K (some (.int x)) M1) : z_ev (d + 7) 172 0 [some (.ref a0), some (.int p1)] [] M0 K := by
  have X : z_X T zw172 M0 M0 := .refl hW
  refine z_xP zt172 0 3 [some (.ref a0), some (.int p1)] [.int 80, .ref a0] rfl rfl ?_
  refine z_xcV (vs := [.ref a0, .int 80]) (r := []) (L2 := [some (.ref a0), some (.int 80)]) zt172 1 rfl zo172 zzcV11_44 (Or.inr rfl) rfl X k0 rfl rfl rfl (Nat.le_of_ble_eq_true rfl) zzm161 (Nat.le_of_ble_eq_true rfl) rfl ?_
  have q80 : ((80 : Int32)).toInt = 80 := rfl
  have q80 : ((80 : Int32)).toInt = 80 := rfl
  refine zC161 X.1 (by decide) k0 ⟨by omega, by omega⟩ (fun M1 X2 h3 => ?_)
  have X4 := X.go X2 (z_sb (by decide))
  show z_ev (d + 7) 172 6 [some (.ref a0), some (.int p1)] [] M1 _
  refine z_xP zt172 2 8 [some (.ref a0), some (.int p1)] [.int p1, .ref a0] rfl rfl ?_
  refine z_xcI (vs := [.ref a0, .int p1]) (r := []) (L2 := [some (.ref a0), some (.int p1)]) zt172 3 rfl zo172 zzcI11_48 (Or.inr (Or.inl rfl)) rfl X4 k0 rfl rfl (Nat.le_of_ble_eq_true rfl) zzm173 (Nat.le_of_ble_eq_true rfl) rfl ?_
  refine zC173 X4.1 (by decide) k0 ⟨by omega, by omega⟩ (fun x9 M6 X7 h8 => ?_)
  have X10 := X4.go X7 (z_sb (by decide))
  show z_ev (d + 7) 172 11 [some (.ref a0), some (.int p1)] [.int x9] M6 _
  refine z_xP zt172 4 12 [some (.ref a0), some (.int p1)] [.int 2, .int x9] rfl rfl ?_
  have h12 := z_b32 x9
  refine z_xI zt172 5 rfl rfl (P := fun _ => True) (fun (x13 : Int32) _ => ?_) trivial
  refine z_xP zt172 6 15 [some (.ref a0), some (.int p1)] [.int p1, .ref a0, .int x13] rfl rfl ?_
  refine z_xcI (vs := [.ref a0, .int p1]) (r := [.int x13]) (L2 := [some (.ref a0), some (.int p1)]) zt172 7 rfl zo172 zzcI11_51 (Or.inr (Or.inl rfl)) rfl X10 k0 rfl rfl (Nat.le_of_ble_eq_true rfl) zzm170 (Nat.le_of_ble_eq_true rfl) rfl ?_
  refine zC170 X10.1 (by decide) k0 ⟨by omega, by omega⟩ (fun x18 M15 X16 h17 => ?_)
  have X19 := X10.go X16 (z_sb (by decide))
  show z_ev (d + 7) 172 18 [some (.ref a0), some (.int p1)] [.int x18, .int x13] M15 _
  have h21 := z_b32 x13
  have h22 := z_b32 x18
  refine z_xI zt172 8 rfl rfl (P := fun _ => True) (fun (x23 : Int32) _ => ?_) trivial
  exact z_xri zt172 9 rfl zzr172 (kk x23 M15 X19 ⟨by omega, by omega⟩)
def zwVtells : List Nat := [13]
theorem zVtells {j pc : Nat} {segs : List (List (Nat × Instr × Nat))} {idx : Nat} {d : Nat} {T : List zK} {rs : List Nat} {M0 M : zH} {L : zL} {r : zS} {K : Option Value → zH → Prop} {w c oc : Nat} {x0 : Int32} (ht : z_dcs j segs = true) (n : Nat) (hk : segs[n]? = some [(pc, .invokevirtual idx, 3)]) (ho : z_oc j = oc) (hq : (z_find z_cV oc idx).map (·.1) = some (2, 1, [(4, 173), (10, 171), (7, 173), (5, 173), (11, 172), (8, 173), (6, 173), (9, 171)])) (hX : z_X T rs M0 M) (hw : T[w]? = some (.inl (c, 0, 0, 0, 0))) (hc : 4 ≤ c ∧ c ≤ 11) (hr : z_ws r ≤ 8) (hn : 0 ≤ (z_Ar M 13 0).toInt ∧ (z_Ar M 13 0).toInt ≤ 10000) (kk : ∀ (x : Int32) (M1 : zH), z_X T zwVtells M M1 → (z_Ar M 13 0).toInt ≤ (z_Ar M1 13 0).toInt ∧ (z_Ar M1 13 0).toInt ≤ (z_Ar M 13 0).toInt + 40 → z_ev (d + 1 + 7) j (pc + 3) L (.int x :: r) M1 K) : z_ev (d + 1 + 7) j pc L (.int x0 :: .ref w :: r) M K := by
  refine z_w8 (fun c => T[w]? = some (.inl (c, 0, 0, 0, 0)) → z_ev (d + 1 + 7) j pc L (.int x0 :: .ref w :: r) M K) ?_ ?_ ?_ ?_ ?_ ?_ ?_ ?_ hc hw
  · intro hw
    refine z_xcV (vs := [.ref w, .int x0]) (r := r) (L2 := [some (.ref w), some (.int x0)]) ht n hk ho hq (Or.inr rfl) rfl hX hw rfl rfl rfl hr zzm173 (Nat.le_of_ble_eq_true rfl) rfl ?_
    refine zC173 hX.1 (by decide) hw ⟨by omega, by omega⟩ (fun x M1 X1 h3 => ?_)
    exact kk x M1 ((z_X.refl hX.1).go X1 (z_sb (by decide))) ⟨by omega, by omega⟩
  · intro hw
    refine z_xcV (vs := [.ref w, .int x0]) (r := r) (L2 := [some (.ref w), some (.int x0)]) ht n hk ho hq (Or.inr rfl) rfl hX hw rfl rfl rfl hr zzm173 (Nat.le_of_ble_eq_true rfl) rfl ?_
    refine zC173 hX.1 (by decide) hw ⟨by omega, by omega⟩ (fun x M1 X1 h3 => ?_)
    exact kk x M1 ((z_X.refl hX.1).go X1 (z_sb (by decide))) ⟨by omega, by omega⟩
  · intro hw
    refine z_xcV (vs := [.ref w, .int x0]) (r := r) (L2 := [some (.ref w), some (.int x0)]) ht n hk ho hq (Or.inr rfl) rfl hX hw rfl rfl rfl hr zzm173 (Nat.le_of_ble_eq_true rfl) rfl ?_
    refine zC173 hX.1 (by decide) hw ⟨by omega, by omega⟩ (fun x M1 X1 h3 => ?_)
    exact kk x M1 ((z_X.refl hX.1).go X1 (z_sb (by decide))) ⟨by omega, by omega⟩
  · intro hw
    refine z_xcV (vs := [.ref w, .int x0]) (r := r) (L2 := [some (.ref w), some (.int x0)]) ht n hk ho hq (Or.inr rfl) rfl hX hw rfl rfl rfl hr zzm173 (Nat.le_of_ble_eq_true rfl) rfl ?_
    refine zC173 hX.1 (by decide) hw ⟨by omega, by omega⟩ (fun x M1 X1 h3 => ?_)
    exact kk x M1 ((z_X.refl hX.1).go X1 (z_sb (by decide))) ⟨by omega, by omega⟩
  · intro hw
    refine z_xcV (vs := [.ref w, .int x0]) (r := r) (L2 := [some (.ref w), some (.int x0)]) ht n hk ho hq (Or.inr rfl) rfl hX hw rfl rfl rfl hr zzm173 (Nat.le_of_ble_eq_true rfl) rfl ?_
    refine zC173 hX.1 (by decide) hw ⟨by omega, by omega⟩ (fun x M1 X1 h3 => ?_)
    exact kk x M1 ((z_X.refl hX.1).go X1 (z_sb (by decide))) ⟨by omega, by omega⟩
  · intro hw
    refine z_xcV (vs := [.ref w, .int x0]) (r := r) (L2 := [some (.ref w), some (.int x0)]) ht n hk ho hq (Or.inr rfl) rfl hX hw rfl rfl rfl hr zzm171 (Nat.le_of_ble_eq_true rfl) rfl ?_
    refine zC171 hX.1 (by decide) hw ⟨by omega, by omega⟩ (fun x M1 X1 h3 => ?_)
    exact kk x M1 ((z_X.refl hX.1).go X1 (z_sb (by decide))) ⟨by omega, by omega⟩
  · intro hw
    refine z_xcV (vs := [.ref w, .int x0]) (r := r) (L2 := [some (.ref w), some (.int x0)]) ht n hk ho hq (Or.inr rfl) rfl hX hw rfl rfl rfl hr zzm171 (Nat.le_of_ble_eq_true rfl) rfl ?_
    refine zC171 hX.1 (by decide) hw ⟨by omega, by omega⟩ (fun x M1 X1 h3 => ?_)
    exact kk x M1 ((z_X.refl hX.1).go X1 (z_sb (by decide))) ⟨by omega, by omega⟩
  · intro hw
    refine z_xcV (vs := [.ref w, .int x0]) (r := r) (L2 := [some (.ref w), some (.int x0)]) ht n hk ho hq (Or.inr rfl) rfl hX hw rfl rfl rfl hr zzm172 (Nat.le_of_ble_eq_true rfl) rfl ?_
    refine zC172 hX.1 hw ⟨by omega, by omega⟩ (fun x M1 X1 h3 => ?_)
    exact kk x M1 ((z_X.refl hX.1).go X1 (z_sb (by decide))) ⟨by omega, by omega⟩
def zw159 : List Nat := [13]
theorem zC159 {T : List zK} {d : Nat} {K : Option Value → zH → Prop} {p1 : Int32} {p2 : Int32} {p3 : Int32} {M0 : zH} (hW : z_W M0 T)  (hG : z_GG T M0) (kk : ∀ (x : Int32) (M1 : zH), z_X T zw159 M0 M1 → K (some (.int x)) M1) : z_ev (d + 8) 159 0 [some (.ref 4), some (.int p1), some (.int p2), some (.int p3), none] [] M0 K := by
  have X : z_X T zw159 M0 M0 := .refl hW
  refine z_xP zt159 0 1 [some (.ref 4), some (.int p1), some (.int p2), some (.int p3), none] [.ref 4] rfl rfl ?_
  have f4 : T[4]? = some (.inl (0, 0, 0, 0, 0)) := X.1.k rfl (by decide)
  refine z_xgX (b := 13) zt159 1 rfl zo159 zzf0_31 X f4 (by decide) (by decide) rfl ?_
  refine z_xP zt159 2 6 [some (.ref 4), some (.int p1), some (.int p2), some (.int p3), none] [.int 0, .int 0, .ref 13] rfl rfl ?_
  have f13 : T[13]? = some (.inr (13, 0, 25, (-2147483648), 2147483647)) := X.1.k rfl (by decide)
  have q0 : ((0 : Int32)).toInt = 0 := rfl
  refine z_xis zt159 3 rfl X f13 (by decide) (by decide) (by decide) (by decide) (by omega) (by omega) (by decide) (fun M1 X2 e3 h4 => ?_)
  have q0 : ((0 : Int32)).toInt = 0 := rfl
  have h5 := z_u0 h4 (by omega)
  refine z_xP zt159 4 9 [some (.ref 4), some (.int p1), some (.int p2), some (.int p3), none] [.int p1, .ref 4] rfl rfl ?_
  refine z_xcV (vs := [.ref 4, .int p1]) (r := []) (L2 := [some (.ref 4), some (.int p1)]) zt159 5 rfl zo159 zzcV0_221 (Or.inl rfl) rfl X2 f4 rfl rfl rfl (Nat.le_of_ble_eq_true rfl) zzm84 (Nat.le_of_ble_eq_true rfl) rfl ?_
  refine z_xP zt84 0 1 [some (.ref 4), some (.int p1)] [.int p1] rfl rfl ?_
  refine z_xZ zt84 1 rfl rfl (fun (h6 : p1.toInt < 0) => ?_) (fun (h6 : 0 ≤ p1.toInt) => ?_)
  · skip
    refine z_xP zt84 5 22 [some (.ref 4), some (.int p1)] [.null] rfl rfl ?_
    refine z_xrn zt84 10 rfl zzr84 ?_
    show z_ev (d + 8) 159 12 [some (.ref 4), some (.int p1), some (.int p2), some (.int p3), none] [.null] M1 _
    refine z_xP zt159 6 19 [some (.ref 4), some (.int p1), some (.int p2), some (.int p3), some (.null)] [] rfl rfl ?_
    refine z_xP zt159 7 20 [some (.ref 4), some (.int p1), some (.int p2), some (.int p3), some (.null)] [.int 0] rfl rfl ?_
    have q0 : ((0 : Int32)).toInt = 0 := rfl
    exact z_xri zt159 8 rfl zzr159 (kk 0 M1 X2)
  refine z_xP zt84 2 6 [some (.ref 4), some (.int p1)] [.ref 4, .int p1] rfl rfl ?_
  refine z_xgI zt84 3 rfl zo84 zzf0_188 X2 f4 (by decide) (by decide) rfl (fun (x8 : Int32) h7 (h9 : 0 ≤ x8.toInt) (h10 : x8.toInt ≤ 20) => ?_)
  have h11 := z_b32 p1
  refine z_xJ zt84 4 rfl rfl (fun (h12 : p1.toInt < x8.toInt) => ?_) (fun (h12 : x8.toInt ≤ p1.toInt) => ?_)
  · skip
    refine z_xP zt84 6 17 [some (.ref 4), some (.int p1)] [.ref 4] rfl rfl ?_
    refine z_xgX (b := 12) zt84 7 rfl zo84 zzf0_27 X2 f4 (by decide) (by decide) rfl ?_
    refine z_xP zt84 8 21 [some (.ref 4), some (.int p1)] [.int p1, .ref 12] rfl rfl ?_
    have f12 : T[12]? = some (.inr (12, 3, 20, 0, 0)) := X2.1.k rfl (by decide)
    refine z_xal zt84 9 rfl X2 f12 (by decide) (by decide) (by decide) (by omega) (by omega) (fun (a13 : Nat) h14 h15 => ?_) (fun h16 => absurd h16 (z_Gb (hG.go X2 (by decide)).2.1 h7 (by omega) (by omega)))
    obtain ⟨c17, w18l, w18u, k19⟩ : ∃ ci, 4 ≤ ci ∧ ci ≤ 11 ∧ T[a13]? = some (.inl (ci, 0, 0, 0, 0)) := h15
    have w18 := And.intro w18l w18u
    refine z_xra zt84 10 rfl zzr84 ?_
    show z_ev (d + 8) 159 12 [some (.ref 4), some (.int p1), some (.int p2), some (.int p3), none] [.ref a13] M1 _
    refine z_xP zt159 6 21 [some (.ref 4), some (.int p1), some (.int p2), some (.int p3), some (.ref a13)] [] rfl rfl ?_
    refine z_xP zt159 9 22 [some (.ref 4), some (.int p1), some (.int p2), some (.int p3), some (.ref a13)] [.int p2] rfl rfl ?_
    by_cases h20 : p2.toInt = 0
    · refine z_xSC zt159 10 (z_sub (k := 0) h20 rfl) 52 rfl rfl ?_
      refine z_xP zt159 11 55 [some (.ref 4), some (.int p1), some (.int p2), some (.int p3), some (.ref a13)] [.int p3, .ref a13] rfl rfl ?_
      refine zVcounts zt159 12 rfl zo159 zzcV0_295 X2 k19 w18 (Nat.le_of_ble_eq_true rfl) ⟨by omega, by omega⟩ (fun x23 M21 X22 h24 => ?_)
      have X25 := X2.go X22 (z_sb (by decide))
      show z_ev (d + 8) 159 58 [some (.ref 4), some (.int p1), some (.int p2), some (.int p3), some (.ref a13)] [.int x23] M21 _
      exact z_xri zt159 13 rfl zzr159 (kk x23 M21 X25)
    by_cases h27 : p2.toInt = 1
    · refine z_xSC zt159 10 (z_sub (k := 1) h27 rfl) 59 rfl rfl ?_
      refine z_xP zt159 14 62 [some (.ref 4), some (.int p1), some (.int p2), some (.int p3), some (.ref a13)] [.int p3, .ref a13] rfl rfl ?_
      refine zVweighs zt159 15 rfl zo159 zzcV0_298 X2 k19 w18 (Nat.le_of_ble_eq_true rfl) ⟨by omega, by omega⟩ (fun x30 M28 X29 h31 => ?_)
      have X32 := X2.go X29 (z_sb (by decide))
      show z_ev (d + 8) 159 65 [some (.ref 4), some (.int p1), some (.int p2), some (.int p3), some (.ref a13)] [.int x30] M28 _
      exact z_xri zt159 16 rfl zzr159 (kk x30 M28 X32)
    by_cases h34 : p2.toInt = 2
    · refine z_xSC zt159 10 (z_sub (k := 2) h34 rfl) 66 rfl rfl ?_
      refine z_xP zt159 17 69 [some (.ref 4), some (.int p1), some (.int p2), some (.int p3), some (.ref a13)] [.int p3, .ref a13] rfl rfl ?_
      refine zVbinds zt159 18 rfl zo159 zzcV0_301 X2 k19 w18 (Nat.le_of_ble_eq_true rfl) ⟨by omega, by omega⟩ (fun x37 M35 X36 h38 => ?_)
      have X39 := X2.go X36 (z_sb (by decide))
      show z_ev (d + 8) 159 72 [some (.ref 4), some (.int p1), some (.int p2), some (.int p3), some (.ref a13)] [.int x37] M35 _
      exact z_xri zt159 19 rfl zzr159 (kk x37 M35 X39)
    by_cases h41 : p2.toInt = 3
    · refine z_xSC zt159 10 (z_sub (k := 3) h41 rfl) 73 rfl rfl ?_
      refine z_xP zt159 20 76 [some (.ref 4), some (.int p1), some (.int p2), some (.int p3), some (.ref a13)] [.int p3, .ref a13] rfl rfl ?_
      refine zVtells zt159 21 rfl zo159 zzcV0_304 X2 k19 w18 (Nat.le_of_ble_eq_true rfl) ⟨by omega, by omega⟩ (fun x44 M42 X43 h45 => ?_)
      have X46 := X2.go X43 (z_sb (by decide))
      show z_ev (d + 8) 159 79 [some (.ref 4), some (.int p1), some (.int p2), some (.int p3), some (.ref a13)] [.int x44] M42 _
      exact z_xri zt159 22 rfl zzr159 (kk x44 M42 X46)
    refine z_xSD zt159 10 rfl rfl (by omega) ?_
    refine z_xP zt159 23 81 [some (.ref 4), some (.int p1), some (.int p2), some (.int p3), some (.ref a13)] [.int 0] rfl rfl ?_
    have q0 : ((0 : Int32)).toInt = 0 := rfl
    exact z_xri zt159 24 rfl zzr159 (kk 0 M1 X2)
  refine z_xP zt84 5 22 [some (.ref 4), some (.int p1)] [.null] rfl rfl ?_
  refine z_xrn zt84 10 rfl zzr84 ?_
  show z_ev (d + 8) 159 12 [some (.ref 4), some (.int p1), some (.int p2), some (.int p3), none] [.null] M1 _
  refine z_xP zt159 6 19 [some (.ref 4), some (.int p1), some (.int p2), some (.int p3), some (.null)] [] rfl rfl ?_
  refine z_xP zt159 7 20 [some (.ref 4), some (.int p1), some (.int p2), some (.int p3), some (.null)] [.int 0] rfl rfl ?_
  have q0 : ((0 : Int32)).toInt = 0 := rfl
  exact z_xri zt159 8 rfl zzr159 (kk 0 M1 X2)
def zw174 : List Nat := []
theorem zC174 {T : List zK} {d : Nat} {K : Option Value → zH → Prop} {p1 : Int32} {M0 : zH} (hW : z_W M0 T)  (kk : ∀ (x : Int32) (M1 : zH), z_X T zw174 M0 M1 → K (some (.int x)) M1) : z_ev d 174 0 [some (.ref 4), some (.int p1)] [] M0 K := by
  have X : z_X T zw174 M0 M0 := .refl hW
  refine z_xP zt174 0 1 [some (.ref 4), some (.int p1)] [.int p1] rfl rfl ?_
  refine z_xZ zt174 1 rfl rfl (fun (h1 : p1.toInt < 0) => ?_) (fun (h1 : 0 ≤ p1.toInt) => ?_)
  · skip
    refine z_xP zt174 9 21 [some (.ref 4), some (.int p1)] [.int (-1)] rfl rfl ?_
    have qm1 : (((-1) : Int32)).toInt = (-1) := rfl
    exact z_xri zt174 10 rfl zzr174 (kk (-1) M0 X)
  refine z_xP zt174 2 6 [some (.ref 4), some (.int p1)] [.ref 4, .int p1] rfl rfl ?_
  have f4 : T[4]? = some (.inl (0, 0, 0, 0, 0)) := X.1.k rfl (by decide)
  refine z_xgX (b := 13) zt174 3 rfl zo174 zzf0_31 X f4 (by decide) (by decide) rfl ?_
  refine z_xP zt174 4 10 [some (.ref 4), some (.int p1)] [.int 0, .ref 13, .int p1] rfl rfl ?_
  have f13 : T[13]? = some (.inr (13, 0, 25, (-2147483648), 2147483647)) := X.1.k rfl (by decide)
  refine z_xil zt174 5 rfl X f13 (by decide) (by decide) (by decide) (fun (x2 : Int32) h3 (h4 : (-2147483648) ≤ x2.toInt) (h5 : x2.toInt ≤ 2147483647) => ?_)
  have q0 : ((0 : Int32)).toInt = 0 := rfl
  have h6 := z_r0 h3 (by omega)
  have h7 := z_b32 p1
  have h8 := z_b32 x2
  refine z_xJ zt174 6 rfl rfl (fun (h9 : x2.toInt ≤ p1.toInt) => ?_) (fun (h9 : p1.toInt < x2.toInt) => ?_)
  · skip
    refine z_xP zt174 9 21 [some (.ref 4), some (.int p1)] [.int (-1)] rfl rfl ?_
    have qm1 : (((-1) : Int32)).toInt = (-1) := rfl
    exact z_xri zt174 10 rfl zzr174 (kk (-1) M0 X)
  refine z_xP zt174 7 17 [some (.ref 4), some (.int p1)] [.int 24, .int p1] rfl rfl ?_
  refine z_xJ zt174 8 rfl rfl (fun (h10 : p1.toInt < 24) => ?_) (fun (h10 : 24 ≤ p1.toInt) => ?_)
  · skip
    refine z_xP zt174 11 23 [some (.ref 4), some (.int p1)] [.ref 4] rfl rfl ?_
    refine z_xgX (b := 13) zt174 12 rfl zo174 zzf0_31 X f4 (by decide) (by decide) rfl ?_
    refine z_xP zt174 13 28 [some (.ref 4), some (.int p1)] [.int 1, .int p1, .ref 13] rfl rfl ?_
    refine z_xI zt174 14 rfl rfl (fun (x11 : Int32) (h12 : x11.toInt = p1.toInt + 1) => ?_) (z_pAdd rfl rfl (by omega) (by omega))
    refine z_xil zt174 15 rfl X f13 (by decide) (by omega) (by omega) (fun (x13 : Int32) h14 (h15 : (-2147483648) ≤ x13.toInt) (h16 : x13.toInt ≤ 2147483647) => ?_)
    have h17 := z_r0 h14 (by omega)
    exact z_xri zt174 16 rfl zzr174 (kk x13 M0 X)
  refine z_xP zt174 9 21 [some (.ref 4), some (.int p1)] [.int (-1)] rfl rfl ?_
  have qm1 : (((-1) : Int32)).toInt = (-1) := rfl
  exact z_xri zt174 10 rfl zzr174 (kk (-1) M0 X)
def zw175 : List Nat := [14, 17]
theorem zC175 {T : List zK} {d : Nat} {K : Option Value → zH → Prop} {p1 : Int32} {p2 : Int32} {M0 : zH} (hW : z_W M0 T)  (hG : z_GG T M0) (kk : ∀ (x : Int32) (M1 : zH), z_X T zw175 M0 M1 → (-1) ≤ x.toInt → x.toInt ≤ 1 → K (some (.int x)) M1) : z_ev (d + 1) 175 0 [some (.ref 4), some (.int p1), some (.int p2)] [] M0 K := by
  have X : z_X T zw175 M0 M0 := .refl hW
  refine z_xP zt175 0 1 [some (.ref 4), some (.int p1), some (.int p2)] [.int p1] rfl rfl ?_
  refine z_xcS (vs := [.int p1]) (r := []) (L2 := [some (.int p1)]) zt175 1 rfl zo175 zzcS0_148 (Or.inl rfl) (Nat.le_of_ble_eq_true rfl) rfl rfl (Nat.le_of_ble_eq_true rfl) zzm58 (Nat.le_of_ble_eq_true rfl) rfl ?_
  refine z_xP zt58 0 1 [some (.int p1)] [.int p1] rfl rfl ?_
  refine z_xZ zt58 1 rfl rfl (fun (h1 : p1.toInt < 0) => ?_) (fun (h1 : 0 ≤ p1.toInt) => ?_)
  · skip
    refine z_xP zt58 5 15 [some (.int p1)] [.int 0] rfl rfl ?_
    refine z_xrz zt58 6 rfl zzr58 (by decide) (by decide) ?_
    show z_ev (d + 1) 175 4 [some (.ref 4), some (.int p1), some (.int p2)] [.int 0] M0 _
    refine z_xZ zt175 2 rfl rfl (fun (h2 : (0 : Int) ≠ 0) => absurd h2 (by omega)) (fun (h2 : (0 : Int) = 0) => ?_)
    refine z_xP zt175 3 8 [some (.ref 4), some (.int p1), some (.int p2)] [.int (-1)] rfl rfl ?_
    have qm1 : (((-1) : Int32)).toInt = (-1) := rfl
    exact z_xri zt175 4 rfl zzr175 (kk (-1) M0 X (by omega) (by omega))
  refine z_xP zt58 2 7 [some (.int p1)] [.int 6, .int p1] rfl rfl ?_
  refine z_xJ zt58 3 rfl rfl (fun (h3 : 6 ≤ p1.toInt) => ?_) (fun (h3 : p1.toInt < 6) => ?_)
  · skip
    refine z_xP zt58 5 15 [some (.int p1)] [.int 0] rfl rfl ?_
    refine z_xrz zt58 6 rfl zzr58 (by decide) (by decide) ?_
    show z_ev (d + 1) 175 4 [some (.ref 4), some (.int p1), some (.int p2)] [.int 0] M0 _
    refine z_xZ zt175 2 rfl rfl (fun (h4 : (0 : Int) ≠ 0) => absurd h4 (by omega)) (fun (h4 : (0 : Int) = 0) => ?_)
    refine z_xP zt175 3 8 [some (.ref 4), some (.int p1), some (.int p2)] [.int (-1)] rfl rfl ?_
    have qm1 : (((-1) : Int32)).toInt = (-1) := rfl
    exact z_xri zt175 4 rfl zzr175 (kk (-1) M0 X (by omega) (by omega))
  refine z_xP zt58 4 15 [some (.int p1)] [.int 1] rfl rfl ?_
  refine z_xrz zt58 6 rfl zzr58 (by decide) (by decide) ?_
  show z_ev (d + 1) 175 4 [some (.ref 4), some (.int p1), some (.int p2)] [.int 1] M0 _
  refine z_xZ zt175 2 rfl rfl (fun (h5 : (1 : Int) ≠ 0) => ?_) (fun (h5 : (1 : Int) = 0) => absurd h5 (by omega))
  refine z_xP zt175 5 11 [some (.ref 4), some (.int p1), some (.int p2)] [.int (-1), .int p2] rfl rfl ?_
  refine z_xJ zt175 6 rfl rfl (fun (h6 : p2.toInt = (-1)) => ?_) (fun (h6 : p2.toInt ≠ (-1)) => ?_)
  · skip
    refine z_xP zt175 12 25 [some (.ref 4), some (.int p1), some (.int p2)] [.ref 4] rfl rfl ?_
    have f4 : T[4]? = some (.inl (0, 0, 0, 0, 0)) := X.1.k rfl (by decide)
    refine z_xgX (b := 17) zt175 13 rfl zo175 zzf0_45 X f4 (by decide) (by decide) rfl ?_
    refine z_xP zt175 14 31 [some (.ref 4), some (.int p1), some (.int p2)] [.int p2, .ref 4, .int p1, .ref 17] rfl rfl ?_
    refine z_xcV (vs := [.ref 4, .int p2]) (r := [.int p1, .ref 17]) (L2 := [some (.ref 4), some (.int p2)]) zt175 15 rfl zo175 zzcV0_221 (Or.inl rfl) rfl X f4 rfl rfl rfl (Nat.le_of_ble_eq_true rfl) zzm84 (Nat.le_of_ble_eq_true rfl) rfl ?_
    refine z_xP zt84 0 1 [some (.ref 4), some (.int p2)] [.int p2] rfl rfl ?_
    refine z_xZ zt84 1 rfl rfl (fun (h7 : p2.toInt < 0) => ?_) (fun (h7 : 0 ≤ p2.toInt) => absurd h7 (by omega))
    refine z_xP zt84 5 22 [some (.ref 4), some (.int p2)] [.null] rfl rfl ?_
    refine z_xrn zt84 10 rfl zzr84 ?_
    show z_ev (d + 1) 175 34 [some (.ref 4), some (.int p1), some (.int p2)] [.null, .int p1, .ref 17] M0 _
    have f17 : T[17]? = some (.inr (17, 3, 6, 0, 0)) := X.1.k rfl (by decide)
    refine z_xasN zt175 16 rfl X f17 (by decide) (by decide) (by omega) (by omega) (by decide) (by decide) (fun M8 X9 e10 h11 => ?_)
    refine z_xP zt175 17 36 [some (.ref 4), some (.int p1), some (.int p2)] [.ref 4] rfl rfl ?_
    refine z_xgX (b := 14) zt175 18 rfl zo175 zzf0_35 X9 f4 (by decide) (by decide) rfl ?_
    refine z_xP zt175 19 42 [some (.ref 4), some (.int p1), some (.int p2)] [.int (-1), .int p2, .int p1, .ref 14] rfl rfl ?_
    refine z_xJ zt175 20 rfl rfl (fun (h12 : p2.toInt ≠ (-1)) => absurd h12 (by omega)) (fun (h12 : p2.toInt = (-1)) => ?_)
    refine z_xP zt175 21 50 [some (.ref 4), some (.int p1), some (.int p2)] [.int (-1), .int p1, .ref 14] rfl rfl ?_
    have f14 : T[14]? = some (.inr (14, 0, 6, (-1), 5)) := X9.1.k rfl (by decide)
    have qm1 : (((-1) : Int32)).toInt = (-1) := rfl
    refine z_xis zt175 23 rfl X9 f14 (by decide) (by decide) (by omega) (by omega) (by omega) (by omega) (by decide) (fun M13 X14 e15 h16 => ?_)
    refine z_xP zt175 24 52 [some (.ref 4), some (.int p1), some (.int p2)] [.int 1] rfl rfl ?_
    have q1 : ((1 : Int32)).toInt = 1 := rfl
    exact z_xri zt175 25 rfl zzr175 (kk 1 M13 X14 (by omega) (by omega))
  refine z_xP zt175 7 16 [some (.ref 4), some (.int p1), some (.int p2)] [.int p2, .ref 4] rfl rfl ?_
  have f4 : T[4]? = some (.inl (0, 0, 0, 0, 0)) := X.1.k rfl (by decide)
  refine z_xcV (vs := [.ref 4, .int p2]) (r := []) (L2 := [some (.ref 4), some (.int p2)]) zt175 8 rfl zo175 zzcV0_221 (Or.inl rfl) rfl X f4 rfl rfl rfl (Nat.le_of_ble_eq_true rfl) zzm84 (Nat.le_of_ble_eq_true rfl) rfl ?_
  refine z_xP zt84 0 1 [some (.ref 4), some (.int p2)] [.int p2] rfl rfl ?_
  refine z_xZ zt84 1 rfl rfl (fun (h17 : p2.toInt < 0) => ?_) (fun (h17 : 0 ≤ p2.toInt) => ?_)
  · skip
    refine z_xP zt84 5 22 [some (.ref 4), some (.int p2)] [.null] rfl rfl ?_
    refine z_xrn zt84 10 rfl zzr84 ?_
    show z_ev (d + 1) 175 19 [some (.ref 4), some (.int p1), some (.int p2)] [.null] M0 _
    refine z_xP zt175 9 22 [some (.ref 4), some (.int p1), some (.int p2)] [] rfl rfl ?_
    refine z_xP zt175 10 23 [some (.ref 4), some (.int p1), some (.int p2)] [.int (-1)] rfl rfl ?_
    have qm1 : (((-1) : Int32)).toInt = (-1) := rfl
    exact z_xri zt175 11 rfl zzr175 (kk (-1) M0 X (by omega) (by omega))
  refine z_xP zt84 2 6 [some (.ref 4), some (.int p2)] [.ref 4, .int p2] rfl rfl ?_
  refine z_xgI zt84 3 rfl zo84 zzf0_188 X f4 (by decide) (by decide) rfl (fun (x19 : Int32) h18 (h20 : 0 ≤ x19.toInt) (h21 : x19.toInt ≤ 20) => ?_)
  have h22 := z_b32 p2
  refine z_xJ zt84 4 rfl rfl (fun (h23 : p2.toInt < x19.toInt) => ?_) (fun (h23 : x19.toInt ≤ p2.toInt) => ?_)
  · skip
    refine z_xP zt84 6 17 [some (.ref 4), some (.int p2)] [.ref 4] rfl rfl ?_
    refine z_xgX (b := 12) zt84 7 rfl zo84 zzf0_27 X f4 (by decide) (by decide) rfl ?_
    refine z_xP zt84 8 21 [some (.ref 4), some (.int p2)] [.int p2, .ref 12] rfl rfl ?_
    have f12 : T[12]? = some (.inr (12, 3, 20, 0, 0)) := X.1.k rfl (by decide)
    refine z_xal zt84 9 rfl X f12 (by decide) (by decide) (by decide) (by omega) (by omega) (fun (a24 : Nat) h25 h26 => ?_) (fun h27 => absurd h27 (z_Gb (hG.go X (by decide)).2.1 h18 (by omega) (by omega)))
    obtain ⟨c28, w29l, w29u, k30⟩ : ∃ ci, 4 ≤ ci ∧ ci ≤ 11 ∧ T[a24]? = some (.inl (ci, 0, 0, 0, 0)) := h26
    have w29 := And.intro w29l w29u
    refine z_xra zt84 10 rfl zzr84 ?_
    show z_ev (d + 1) 175 19 [some (.ref 4), some (.int p1), some (.int p2)] [.ref a24] M0 _
    refine z_xP zt175 9 24 [some (.ref 4), some (.int p1), some (.int p2)] [] rfl rfl ?_
    refine z_xP zt175 12 25 [some (.ref 4), some (.int p1), some (.int p2)] [.ref 4] rfl rfl ?_
    refine z_xgX (b := 17) zt175 13 rfl zo175 zzf0_45 X f4 (by decide) (by decide) rfl ?_
    refine z_xP zt175 14 31 [some (.ref 4), some (.int p1), some (.int p2)] [.int p2, .ref 4, .int p1, .ref 17] rfl rfl ?_
    refine z_xcV (vs := [.ref 4, .int p2]) (r := [.int p1, .ref 17]) (L2 := [some (.ref 4), some (.int p2)]) zt175 15 rfl zo175 zzcV0_221 (Or.inl rfl) rfl X f4 rfl rfl rfl (Nat.le_of_ble_eq_true rfl) zzm84 (Nat.le_of_ble_eq_true rfl) rfl ?_
    refine z_xP zt84 0 1 [some (.ref 4), some (.int p2)] [.int p2] rfl rfl ?_
    refine z_xZ zt84 1 rfl rfl (fun (h31 : p2.toInt < 0) => absurd h31 (by omega)) (fun (h31 : 0 ≤ p2.toInt) => ?_)
    refine z_xP zt84 2 6 [some (.ref 4), some (.int p2)] [.ref 4, .int p2] rfl rfl ?_
    refine z_xgv zt84 3 rfl zo84 zzf0_188 X f4 (by decide) h18 ?_
    refine z_xJ zt84 4 rfl rfl (fun (h32 : p2.toInt < x19.toInt) => ?_) (fun (h32 : x19.toInt ≤ p2.toInt) => ?_)
    · skip
      refine z_xP zt84 6 17 [some (.ref 4), some (.int p2)] [.ref 4] rfl rfl ?_
      refine z_xgX (b := 12) zt84 7 rfl zo84 zzf0_27 X f4 (by decide) (by decide) rfl ?_
      refine z_xP zt84 8 21 [some (.ref 4), some (.int p2)] [.int p2, .ref 12] rfl rfl ?_
      refine z_xalv zt84 9 rfl X f12 (by decide) (by decide) (by decide) (by omega) (by omega) h25 ?_
      refine z_xra zt84 10 rfl zzr84 ?_
      show z_ev (d + 1) 175 34 [some (.ref 4), some (.int p1), some (.int p2)] [.ref a24, .int p1, .ref 17] M0 _
      have f17 : T[17]? = some (.inr (17, 3, 6, 0, 0)) := X.1.k rfl (by decide)
      refine z_xasW zt175 16 rfl X f17 (by decide) (by omega) (by omega) k30 w29 (by decide) (fun M33 X34 e35 h36 => ?_)
      refine z_xP zt175 17 36 [some (.ref 4), some (.int p1), some (.int p2)] [.ref 4] rfl rfl ?_
      refine z_xgX (b := 14) zt175 18 rfl zo175 zzf0_35 X34 f4 (by decide) (by decide) rfl ?_
      refine z_xP zt175 19 42 [some (.ref 4), some (.int p1), some (.int p2)] [.int (-1), .int p2, .int p1, .ref 14] rfl rfl ?_
      refine z_xJ zt175 20 rfl rfl (fun (h37 : p2.toInt ≠ (-1)) => ?_) (fun (h37 : p2.toInt = (-1)) => absurd h37 (by omega))
      refine z_xP zt175 22 50 [some (.ref 4), some (.int p1), some (.int p2)] [.int 5, .int p1, .ref 14] rfl rfl ?_
      have f14 : T[14]? = some (.inr (14, 0, 6, (-1), 5)) := X34.1.k rfl (by decide)
      have q5 : ((5 : Int32)).toInt = 5 := rfl
      refine z_xis zt175 23 rfl X34 f14 (by decide) (by decide) (by omega) (by omega) (by omega) (by omega) (by decide) (fun M38 X39 e40 h41 => ?_)
      refine z_xP zt175 24 52 [some (.ref 4), some (.int p1), some (.int p2)] [.int 1] rfl rfl ?_
      have q1 : ((1 : Int32)).toInt = 1 := rfl
      exact z_xri zt175 25 rfl zzr175 (kk 1 M38 X39 (by omega) (by omega))
    refine z_xP zt84 5 22 [some (.ref 4), some (.int p2)] [.null] rfl rfl ?_
    refine z_xrn zt84 10 rfl zzr84 ?_
    show z_ev (d + 1) 175 34 [some (.ref 4), some (.int p1), some (.int p2)] [.null, .int p1, .ref 17] M0 _
    have f17 : T[17]? = some (.inr (17, 3, 6, 0, 0)) := X.1.k rfl (by decide)
    refine z_xasN zt175 16 rfl X f17 (by decide) (by decide) (by omega) (by omega) (by decide) (by decide) (fun M42 X43 e44 h45 => ?_)
    refine z_xP zt175 17 36 [some (.ref 4), some (.int p1), some (.int p2)] [.ref 4] rfl rfl ?_
    refine z_xgX (b := 14) zt175 18 rfl zo175 zzf0_35 X43 f4 (by decide) (by decide) rfl ?_
    refine z_xP zt175 19 42 [some (.ref 4), some (.int p1), some (.int p2)] [.int (-1), .int p2, .int p1, .ref 14] rfl rfl ?_
    refine z_xJ zt175 20 rfl rfl (fun (h46 : p2.toInt ≠ (-1)) => ?_) (fun (h46 : p2.toInt = (-1)) => absurd h46 (by omega))
    refine z_xP zt175 22 50 [some (.ref 4), some (.int p1), some (.int p2)] [.int 5, .int p1, .ref 14] rfl rfl ?_
    have f14 : T[14]? = some (.inr (14, 0, 6, (-1), 5)) := X43.1.k rfl (by decide)
    have q5 : ((5 : Int32)).toInt = 5 := rfl
    refine z_xis zt175 23 rfl X43 f14 (by decide) (by decide) (by omega) (by omega) (by omega) (by omega) (by decide) (fun M47 X48 e49 h50 => ?_)
    refine z_xP zt175 24 52 [some (.ref 4), some (.int p1), some (.int p2)] [.int 1] rfl rfl ?_
    have q1 : ((1 : Int32)).toInt = 1 := rfl
    exact z_xri zt175 25 rfl zzr175 (kk 1 M47 X48 (by omega) (by omega))
  refine z_xP zt84 5 22 [some (.ref 4), some (.int p2)] [.null] rfl rfl ?_
  refine z_xrn zt84 10 rfl zzr84 ?_
  show z_ev (d + 1) 175 19 [some (.ref 4), some (.int p1), some (.int p2)] [.null] M0 _
  refine z_xP zt175 9 22 [some (.ref 4), some (.int p1), some (.int p2)] [] rfl rfl ?_
  refine z_xP zt175 10 23 [some (.ref 4), some (.int p1), some (.int p2)] [.int (-1)] rfl rfl ?_
  have qm1 : (((-1) : Int32)).toInt = (-1) := rfl
  exact z_xri zt175 11 rfl zzr175 (kk (-1) M0 X (by omega) (by omega))
def zw176 : List Nat := [14, 15, 16, 17]
theorem zC176 {T : List zK} {d : Nat} {K : Option Value → zH → Prop} {p1 : Int32} {p2 : Int32} {p3 : Int32} {M0 : zH} (hW : z_W M0 T)  (kk : ∀ (x : Int32) (M1 : zH), z_X T zw176 M0 M1 → (-14) ≤ x.toInt → x.toInt ≤ 1 → K (some (.int x)) M1) : z_ev (d + 2) 176 0 [some (.ref 4), some (.int p1), some (.int p2), some (.int p3)] [] M0 K := by
  have X : z_X T zw176 M0 M0 := .refl hW
  refine z_xP zt176 0 1 [some (.ref 4), some (.int p1), some (.int p2), some (.int p3)] [.int p1] rfl rfl ?_
  refine z_xcS (vs := [.int p1]) (r := []) (L2 := [some (.int p1)]) zt176 1 rfl zo176 zzcS0_148 (Or.inl rfl) (Nat.le_of_ble_eq_true rfl) rfl rfl (Nat.le_of_ble_eq_true rfl) zzm58 (Nat.le_of_ble_eq_true rfl) rfl ?_
  refine z_xP zt58 0 1 [some (.int p1)] [.int p1] rfl rfl ?_
  refine z_xZ zt58 1 rfl rfl (fun (h1 : p1.toInt < 0) => ?_) (fun (h1 : 0 ≤ p1.toInt) => ?_)
  · skip
    refine z_xP zt58 5 15 [some (.int p1)] [.int 0] rfl rfl ?_
    refine z_xrz zt58 6 rfl zzr58 (by decide) (by decide) ?_
    show z_ev (d + 2) 176 4 [some (.ref 4), some (.int p1), some (.int p2), some (.int p3)] [.int 0] M0 _
    refine z_xZ zt176 2 rfl rfl (fun (h2 : (0 : Int) = 0) => ?_) (fun (h2 : (0 : Int) ≠ 0) => absurd h2 (by omega))
    refine z_xP zt176 9 23 [some (.ref 4), some (.int p1), some (.int p2), some (.int p3)] [.int (-1)] rfl rfl ?_
    have qm1 : (((-1) : Int32)).toInt = (-1) := rfl
    exact z_xri zt176 10 rfl zzr176 (kk (-1) M0 X (by omega) (by omega))
  refine z_xP zt58 2 7 [some (.int p1)] [.int 6, .int p1] rfl rfl ?_
  refine z_xJ zt58 3 rfl rfl (fun (h3 : 6 ≤ p1.toInt) => ?_) (fun (h3 : p1.toInt < 6) => ?_)
  · skip
    refine z_xP zt58 5 15 [some (.int p1)] [.int 0] rfl rfl ?_
    refine z_xrz zt58 6 rfl zzr58 (by decide) (by decide) ?_
    show z_ev (d + 2) 176 4 [some (.ref 4), some (.int p1), some (.int p2), some (.int p3)] [.int 0] M0 _
    refine z_xZ zt176 2 rfl rfl (fun (h4 : (0 : Int) = 0) => ?_) (fun (h4 : (0 : Int) ≠ 0) => absurd h4 (by omega))
    refine z_xP zt176 9 23 [some (.ref 4), some (.int p1), some (.int p2), some (.int p3)] [.int (-1)] rfl rfl ?_
    have qm1 : (((-1) : Int32)).toInt = (-1) := rfl
    exact z_xri zt176 10 rfl zzr176 (kk (-1) M0 X (by omega) (by omega))
  refine z_xP zt58 4 15 [some (.int p1)] [.int 1] rfl rfl ?_
  refine z_xrz zt58 6 rfl zzr58 (by decide) (by decide) ?_
  show z_ev (d + 2) 176 4 [some (.ref 4), some (.int p1), some (.int p2), some (.int p3)] [.int 1] M0 _
  refine z_xZ zt176 2 rfl rfl (fun (h5 : (1 : Int) = 0) => absurd h5 (by omega)) (fun (h5 : (1 : Int) ≠ 0) => ?_)
  refine z_xP zt176 3 8 [some (.ref 4), some (.int p1), some (.int p2), some (.int p3)] [.int p2] rfl rfl ?_
  refine z_xZ zt176 4 rfl rfl (fun (h6 : p2.toInt < 0) => ?_) (fun (h6 : 0 ≤ p2.toInt) => ?_)
  · skip
    refine z_xP zt176 9 23 [some (.ref 4), some (.int p1), some (.int p2), some (.int p3)] [.int (-1)] rfl rfl ?_
    have qm1 : (((-1) : Int32)).toInt = (-1) := rfl
    exact z_xri zt176 10 rfl zzr176 (kk (-1) M0 X (by omega) (by omega))
  refine z_xP zt176 5 13 [some (.ref 4), some (.int p1), some (.int p2), some (.int p3)] [.int 4, .int p2] rfl rfl ?_
  refine z_xJ zt176 6 rfl rfl (fun (h7 : 4 < p2.toInt) => ?_) (fun (h7 : p2.toInt ≤ 4) => ?_)
  · skip
    refine z_xP zt176 9 23 [some (.ref 4), some (.int p1), some (.int p2), some (.int p3)] [.int (-1)] rfl rfl ?_
    have qm1 : (((-1) : Int32)).toInt = (-1) := rfl
    exact z_xri zt176 10 rfl zzr176 (kk (-1) M0 X (by omega) (by omega))
  refine z_xP zt176 7 19 [some (.ref 4), some (.int p1), some (.int p2), some (.int p3)] [.int 60, .int p3] rfl rfl ?_
  refine z_xJ zt176 8 rfl rfl (fun (h8 : p3.toInt ≤ 60) => ?_) (fun (h8 : 60 < p3.toInt) => ?_)
  · skip
    refine z_xP zt176 11 25 [some (.ref 4), some (.int p1), some (.int p2), some (.int p3)] [.int p3] rfl rfl ?_
    refine z_xZ zt176 12 rfl rfl (fun (h9 : 0 ≤ p3.toInt) => ?_) (fun (h9 : p3.toInt < 0) => ?_)
    · skip
      refine z_xP zt176 15 32 [some (.ref 4), some (.int p1), some (.int p2), some (.int p3)] [.ref 4] rfl rfl ?_
      have f4 : T[4]? = some (.inl (0, 0, 0, 0, 0)) := X.1.k rfl (by decide)
      refine z_xgX (b := 17) zt176 16 rfl zo176 zzf0_45 X f4 (by decide) (by decide) rfl ?_
      refine z_xP zt176 17 37 [some (.ref 4), some (.int p1), some (.int p2), some (.int p3)] [.null, .int p1, .ref 17] rfl rfl ?_
      have f17 : T[17]? = some (.inr (17, 3, 6, 0, 0)) := X.1.k rfl (by decide)
      refine z_xasN zt176 18 rfl X f17 (by decide) (by decide) (by omega) (by omega) (by decide) (by decide) (fun M10 X11 e12 h13 => ?_)
      refine z_xP zt176 19 39 [some (.ref 4), some (.int p1), some (.int p2), some (.int p3)] [.ref 4] rfl rfl ?_
      refine z_xgX (b := 14) zt176 20 rfl zo176 zzf0_35 X11 f4 (by decide) (by decide) rfl ?_
      refine z_xP zt176 21 44 [some (.ref 4), some (.int p1), some (.int p2), some (.int p3)] [.int p2, .int p1, .ref 14] rfl rfl ?_
      have f14 : T[14]? = some (.inr (14, 0, 6, (-1), 5)) := X11.1.k rfl (by decide)
      refine z_xis zt176 22 rfl X11 f14 (by decide) (by decide) (by omega) (by omega) (by omega) (by omega) (by decide) (fun M14 X15 e16 h17 => ?_)
      refine z_xP zt176 23 46 [some (.ref 4), some (.int p1), some (.int p2), some (.int p3)] [.ref 4] rfl rfl ?_
      refine z_xgX (b := 15) zt176 24 rfl zo176 zzf0_38 X15 f4 (by decide) (by decide) rfl ?_
      refine z_xP zt176 25 51 [some (.ref 4), some (.int p1), some (.int p2), some (.int p3)] [.int p3, .int p1, .ref 15] rfl rfl ?_
      have f15 : T[15]? = some (.inr (15, 0, 6, 0, 60)) := X15.1.k rfl (by decide)
      refine z_xis zt176 26 rfl X15 f15 (by decide) (by decide) (by omega) (by omega) (by omega) (by omega) (by decide) (fun M18 X19 e20 h21 => ?_)
      refine z_xP zt176 27 53 [some (.ref 4), some (.int p1), some (.int p2), some (.int p3)] [.ref 4] rfl rfl ?_
      refine z_xgX (b := 16) zt176 28 rfl zo176 zzf0_41 X19 f4 (by decide) (by decide) rfl ?_
      refine z_xP zt176 29 59 [some (.ref 4), some (.int p1), some (.int p2), some (.int p3)] [.int 60, .int p1, .ref 16] rfl rfl ?_
      refine z_xI zt176 30 rfl rfl (fun (x22 : Int32) (h23 : x22.toInt = p1.toInt * 60) => ?_) (z_pMul rfl rfl (by omega) (by omega))
      refine z_xP zt176 31 63 [some (.ref 4), some (.int p1), some (.int p2), some (.int p3)] [.int 60, .int p1, .int x22, .ref 16] rfl rfl ?_
      refine z_xI zt176 32 rfl rfl (fun (x24 : Int32) (h25 : x24.toInt = p1.toInt * 60) => ?_) (z_pMul rfl rfl (by omega) (by omega))
      refine z_xP zt176 33 65 [some (.ref 4), some (.int p1), some (.int p2), some (.int p3)] [.int p3, .int x24, .int x22, .ref 16] rfl rfl ?_
      refine z_xI zt176 34 rfl rfl (fun (x26 : Int32) (h27 : x26.toInt = x24.toInt + p3.toInt) => ?_) (z_pAdd rfl rfl (by omega) (by omega))
      refine z_xP zt176 35 67 [some (.ref 4), some (.int p1), some (.int p2), some (.int p3)] [.long 0, .int x26, .int x22, .ref 16] rfl rfl ?_
      refine z_xcS (vs := [.ref 16, .int x22, .int x26, .long 0]) (r := []) (L2 := [some (.ref 16), some (.int x22), some (.int x26), some (.long 0), none, none]) zt176 36 rfl zo176 zzcS0_307 (Or.inl rfl) (Nat.le_of_ble_eq_true rfl) rfl rfl (Nat.le_of_ble_eq_true rfl) zzm20 (Nat.le_of_ble_eq_true rfl) rfl ?_
      have q0 : ((0 : Int64)).toInt = 0 := rfl
      have f16 : T[16]? = some (.inr (16, 1, 360, 0, 0)) := X19.1.k rfl (by decide)
      have q0 : ((0 : Int64)).toInt = 0 := rfl
      refine zC20 X19.1 ⟨(by decide), (by decide)⟩ f16 (by omega) (by omega) (by decide) ⟨by omega, by omega⟩ (fun M28 X29  => ?_)
      have X30 := X19.go X29 (z_sb (by decide))
      show z_ev (d + 2) 176 70 [some (.ref 4), some (.int p1), some (.int p2), some (.int p3)] [] M28 _
      refine z_xP zt176 37 71 [some (.ref 4), some (.int p1), some (.int p2), some (.int p3)] [.int 1] rfl rfl ?_
      have q1 : ((1 : Int32)).toInt = 1 := rfl
      exact z_xri zt176 38 rfl zzr176 (kk 1 M28 X30 (by omega) (by omega))
    refine z_xP zt176 13 30 [some (.ref 4), some (.int p1), some (.int p2), some (.int p3)] [.int (-14)] rfl rfl ?_
    have qm14 : (((-14) : Int32)).toInt = (-14) := rfl
    exact z_xri zt176 14 rfl zzr176 (kk (-14) M0 X (by omega) (by omega))
  refine z_xP zt176 9 23 [some (.ref 4), some (.int p1), some (.int p2), some (.int p3)] [.int (-1)] rfl rfl ?_
  have qm1 : (((-1) : Int32)).toInt = (-1) := rfl
  exact z_xri zt176 10 rfl zzr176 (kk (-1) M0 X (by omega) (by omega))
def zw177 : List Nat := [16]
theorem zC177 {T : List zK} {d : Nat} {K : Option Value → zH → Prop} {p1 : Int32} {p2 : Int32} {p3 : Int64} {M0 : zH} (hW : z_W M0 T)  (kk : ∀ (x : Int32) (M1 : zH), z_X T zw177 M0 M1 → (-13) ≤ x.toInt → x.toInt ≤ 1 → K (some (.int x)) M1) : z_ev (d + 2) 177 0 [some (.ref 4), some (.int p1), some (.int p2), some (.long p3), none, none] [] M0 K := by
  have X : z_X T zw177 M0 M0 := .refl hW
  refine z_xP zt177 0 3 [some (.ref 4), some (.int p1), some (.int p2), some (.long p3), none, none] [.int p2, .int p1, .ref 4] rfl rfl ?_
  have f4 : T[4]? = some (.inl (0, 0, 0, 0, 0)) := X.1.k rfl (by decide)
  refine z_xcV (vs := [.ref 4, .int p1, .int p2]) (r := []) (L2 := [some (.ref 4), some (.int p1), some (.int p2)]) zt177 1 rfl zo177 zzcV0_313 (Or.inl rfl) rfl X f4 rfl rfl rfl (Nat.le_of_ble_eq_true rfl) zzm178 (Nat.le_of_ble_eq_true rfl) rfl ?_
  refine z_xP zt178 0 1 [some (.ref 4), some (.int p1), some (.int p2)] [.int p1] rfl rfl ?_
  refine z_xcS (vs := [.int p1]) (r := []) (L2 := [some (.int p1)]) zt178 1 rfl zo178 zzcS0_148 (Or.inl rfl) (Nat.le_of_ble_eq_true rfl) rfl rfl (Nat.le_of_ble_eq_true rfl) zzm58 (Nat.le_of_ble_eq_true rfl) rfl ?_
  refine z_xP zt58 0 1 [some (.int p1)] [.int p1] rfl rfl ?_
  refine z_xZ zt58 1 rfl rfl (fun (h1 : p1.toInt < 0) => ?_) (fun (h1 : 0 ≤ p1.toInt) => ?_)
  · skip
    refine z_xP zt58 5 15 [some (.int p1)] [.int 0] rfl rfl ?_
    refine z_xrz zt58 6 rfl zzr58 (by decide) (by decide) ?_
    show z_ev (d + 1) 178 4 [some (.ref 4), some (.int p1), some (.int p2)] [.int 0] M0 _
    refine z_xZ zt178 2 rfl rfl (fun (h2 : (0 : Int) ≠ 0) => absurd h2 (by omega)) (fun (h2 : (0 : Int) = 0) => ?_)
    refine z_xP zt178 3 8 [some (.ref 4), some (.int p1), some (.int p2)] [.int (-1)] rfl rfl ?_
    refine z_xri zt178 4 rfl zzr178 ?_
    show z_ev (d + 2) 177 6 [some (.ref 4), some (.int p1), some (.int p2), some (.long p3), none, none] [.int (-1)] M0 _
    refine z_xP zt177 2 10 [some (.ref 4), some (.int p1), some (.int p2), some (.long p3), none, some (.int (-1))] [.int (-1)] rfl rfl ?_
    refine z_xZ zt177 3 rfl rfl (fun (h3 : ((-1) : Int) = 0) => absurd h3 (by omega)) (fun (h3 : ((-1) : Int) ≠ 0) => ?_)
    refine z_xP zt177 4 15 [some (.ref 4), some (.int p1), some (.int p2), some (.long p3), none, some (.int (-1))] [.int (-1)] rfl rfl ?_
    have qm1 : (((-1) : Int32)).toInt = (-1) := rfl
    exact z_xri zt177 5 rfl zzr177 (kk (-1) M0 X (by omega) (by omega))
  refine z_xP zt58 2 7 [some (.int p1)] [.int 6, .int p1] rfl rfl ?_
  refine z_xJ zt58 3 rfl rfl (fun (h4 : 6 ≤ p1.toInt) => ?_) (fun (h4 : p1.toInt < 6) => ?_)
  · skip
    refine z_xP zt58 5 15 [some (.int p1)] [.int 0] rfl rfl ?_
    refine z_xrz zt58 6 rfl zzr58 (by decide) (by decide) ?_
    show z_ev (d + 1) 178 4 [some (.ref 4), some (.int p1), some (.int p2)] [.int 0] M0 _
    refine z_xZ zt178 2 rfl rfl (fun (h5 : (0 : Int) ≠ 0) => absurd h5 (by omega)) (fun (h5 : (0 : Int) = 0) => ?_)
    refine z_xP zt178 3 8 [some (.ref 4), some (.int p1), some (.int p2)] [.int (-1)] rfl rfl ?_
    refine z_xri zt178 4 rfl zzr178 ?_
    show z_ev (d + 2) 177 6 [some (.ref 4), some (.int p1), some (.int p2), some (.long p3), none, none] [.int (-1)] M0 _
    refine z_xP zt177 2 10 [some (.ref 4), some (.int p1), some (.int p2), some (.long p3), none, some (.int (-1))] [.int (-1)] rfl rfl ?_
    refine z_xZ zt177 3 rfl rfl (fun (h6 : ((-1) : Int) = 0) => absurd h6 (by omega)) (fun (h6 : ((-1) : Int) ≠ 0) => ?_)
    refine z_xP zt177 4 15 [some (.ref 4), some (.int p1), some (.int p2), some (.long p3), none, some (.int (-1))] [.int (-1)] rfl rfl ?_
    have qm1 : (((-1) : Int32)).toInt = (-1) := rfl
    exact z_xri zt177 5 rfl zzr177 (kk (-1) M0 X (by omega) (by omega))
  refine z_xP zt58 4 15 [some (.int p1)] [.int 1] rfl rfl ?_
  refine z_xrz zt58 6 rfl zzr58 (by decide) (by decide) ?_
  show z_ev (d + 1) 178 4 [some (.ref 4), some (.int p1), some (.int p2)] [.int 1] M0 _
  refine z_xZ zt178 2 rfl rfl (fun (h7 : (1 : Int) ≠ 0) => ?_) (fun (h7 : (1 : Int) = 0) => absurd h7 (by omega))
  refine z_xP zt178 5 10 [some (.ref 4), some (.int p1), some (.int p2)] [.ref 4] rfl rfl ?_
  refine z_xgX (b := 14) zt178 6 rfl zo178 zzf0_35 X f4 (by decide) (by decide) rfl ?_
  refine z_xP zt178 7 14 [some (.ref 4), some (.int p1), some (.int p2)] [.int p1, .ref 14] rfl rfl ?_
  have f14 : T[14]? = some (.inr (14, 0, 6, (-1), 5)) := X.1.k rfl (by decide)
  refine z_xil zt178 8 rfl X f14 (by decide) (by omega) (by omega) (fun (x8 : Int32) h9 (h10 : (-1) ≤ x8.toInt) (h11 : x8.toInt ≤ 5) => ?_)
  refine z_xP zt178 9 16 [some (.ref 4), some (.int p1), some (.int p2)] [.int (-1), .int x8] rfl rfl ?_
  refine z_xJ zt178 10 rfl rfl (fun (h12 : x8.toInt ≠ (-1)) => ?_) (fun (h12 : x8.toInt = (-1)) => ?_)
  · skip
    refine z_xP zt178 13 23 [some (.ref 4), some (.int p1), some (.int p2)] [.ref 4] rfl rfl ?_
    refine z_xgX (b := 14) zt178 14 rfl zo178 zzf0_35 X f4 (by decide) (by decide) rfl ?_
    refine z_xP zt178 15 27 [some (.ref 4), some (.int p1), some (.int p2)] [.int p1, .ref 14] rfl rfl ?_
    refine z_xil zt178 16 rfl X f14 (by decide) (by omega) (by omega) (fun (x13 : Int32) h14 (h15 : (-1) ≤ x13.toInt) (h16 : x13.toInt ≤ 5) => ?_)
    have h17 := congrArg Int32.toInt (h14.symm.trans h9)
    refine z_xP zt178 17 29 [some (.ref 4), some (.int p1), some (.int p2)] [.int 5, .int x13] rfl rfl ?_
    refine z_xJ zt178 18 rfl rfl (fun (h18 : x13.toInt ≠ 5) => ?_) (fun (h18 : x13.toInt = 5) => ?_)
    · skip
      refine z_xP zt178 21 36 [some (.ref 4), some (.int p1), some (.int p2)] [.int p2] rfl rfl ?_
      refine z_xZ zt178 22 rfl rfl (fun (h19 : p2.toInt < 0) => ?_) (fun (h19 : 0 ≤ p2.toInt) => ?_)
      · skip
        refine z_xP zt178 28 55 [some (.ref 4), some (.int p1), some (.int p2)] [.int (-13)] rfl rfl ?_
        refine z_xri zt178 30 rfl zzr178 ?_
        show z_ev (d + 2) 177 6 [some (.ref 4), some (.int p1), some (.int p2), some (.long p3), none, none] [.int (-13)] M0 _
        refine z_xP zt177 2 10 [some (.ref 4), some (.int p1), some (.int p2), some (.long p3), none, some (.int (-13))] [.int (-13)] rfl rfl ?_
        refine z_xZ zt177 3 rfl rfl (fun (h20 : ((-13) : Int) = 0) => absurd h20 (by omega)) (fun (h20 : ((-13) : Int) ≠ 0) => ?_)
        refine z_xP zt177 4 15 [some (.ref 4), some (.int p1), some (.int p2), some (.long p3), none, some (.int (-13))] [.int (-13)] rfl rfl ?_
        have qm13 : (((-13) : Int32)).toInt = (-13) := rfl
        exact z_xri zt177 5 rfl zzr177 (kk (-13) M0 X (by omega) (by omega))
      refine z_xP zt178 23 41 [some (.ref 4), some (.int p1), some (.int p2)] [.ref 4, .int p2] rfl rfl ?_
      refine z_xgX (b := 15) zt178 24 rfl zo178 zzf0_38 X f4 (by decide) (by decide) rfl ?_
      refine z_xP zt178 25 45 [some (.ref 4), some (.int p1), some (.int p2)] [.int p1, .ref 15, .int p2] rfl rfl ?_
      have f15 : T[15]? = some (.inr (15, 0, 6, 0, 60)) := X.1.k rfl (by decide)
      refine z_xil zt178 26 rfl X f15 (by decide) (by omega) (by omega) (fun (x21 : Int32) h22 (h23 : 0 ≤ x21.toInt) (h24 : x21.toInt ≤ 60) => ?_)
      have h25 := z_b32 p2
      refine z_xJ zt178 27 rfl rfl (fun (h26 : p2.toInt < x21.toInt) => ?_) (fun (h26 : x21.toInt ≤ p2.toInt) => ?_)
      · skip
        refine z_xP zt178 29 55 [some (.ref 4), some (.int p1), some (.int p2)] [.int 0] rfl rfl ?_
        refine z_xri zt178 30 rfl zzr178 ?_
        show z_ev (d + 2) 177 6 [some (.ref 4), some (.int p1), some (.int p2), some (.long p3), none, none] [.int 0] M0 _
        refine z_xP zt177 2 10 [some (.ref 4), some (.int p1), some (.int p2), some (.long p3), none, some (.int 0)] [.int 0] rfl rfl ?_
        refine z_xZ zt177 3 rfl rfl (fun (h27 : (0 : Int) = 0) => ?_) (fun (h27 : (0 : Int) ≠ 0) => absurd h27 (by omega))
        refine z_xP zt177 6 17 [some (.ref 4), some (.int p1), some (.int p2), some (.long p3), none, some (.int 0)] [.ref 4] rfl rfl ?_
        refine z_xgX (b := 16) zt177 7 rfl zo177 zzf0_41 X f4 (by decide) (by decide) rfl ?_
        refine z_xP zt177 8 23 [some (.ref 4), some (.int p1), some (.int p2), some (.long p3), none, some (.int 0)] [.int 60, .int p1, .ref 16] rfl rfl ?_
        refine z_xI zt177 9 rfl rfl (fun (x28 : Int32) (h29 : x28.toInt = p1.toInt * 60) => ?_) (z_pMul rfl rfl (by omega) (by omega))
        refine z_xP zt177 10 25 [some (.ref 4), some (.int p1), some (.int p2), some (.long p3), none, some (.int 0)] [.int p2, .int x28, .ref 16] rfl rfl ?_
        refine z_xI zt177 11 rfl rfl (fun (x30 : Int32) (h31 : x30.toInt = x28.toInt + p2.toInt) => ?_) (z_pAdd rfl rfl (by omega) (by omega))
        refine z_xP zt177 12 27 [some (.ref 4), some (.int p1), some (.int p2), some (.long p3), none, some (.int 0)] [.ref 4, .int x30, .ref 16] rfl rfl ?_
        refine z_xgX (b := 14) zt177 13 rfl zo177 zzf0_35 X f4 (by decide) (by decide) rfl ?_
        refine z_xP zt177 14 31 [some (.ref 4), some (.int p1), some (.int p2), some (.long p3), none, some (.int 0)] [.int p1, .ref 14, .int x30, .ref 16] rfl rfl ?_
        refine z_xil zt177 15 rfl X f14 (by decide) (by omega) (by omega) (fun (x32 : Int32) h33 (h34 : (-1) ≤ x32.toInt) (h35 : x32.toInt ≤ 5) => ?_)
        have h36 := congrArg Int32.toInt (h33.symm.trans h9)
        refine z_xP zt177 16 33 [some (.ref 4), some (.int p1), some (.int p2), some (.long p3), none, some (.int 0)] [.long p3, .int x32, .int x30, .ref 16] rfl rfl ?_
        refine z_xcS (vs := [.int x32, .long p3]) (r := [.int x30, .ref 16]) (L2 := [some (.int x32), some (.long p3), none]) zt177 17 rfl zo177 zzcS0_316 (Or.inl rfl) (Nat.le_of_ble_eq_true rfl) rfl rfl (Nat.le_of_ble_eq_true rfl) zzm179 (Nat.le_of_ble_eq_true rfl) rfl ?_
        refine z_xP zt179 0 1 [some (.int x32), some (.long p3), none] [.int x32] rfl rfl ?_
        by_cases h37 : x32.toInt = 0
        · refine z_xSC zt179 1 (z_sub (k := 0) h37 rfl) 32 rfl rfl ?_
          refine z_xP zt179 2 33 [some (.int x32), some (.long p3), none] [.long p3] rfl rfl ?_
          refine z_xI zt179 3 rfl rfl (P := fun _ => True) (fun (x38 : Int32) _ => ?_) trivial
          refine z_xI zt179 4 rfl rfl (P := fun _ => True) (fun (x40 : Int32) _ => ?_) trivial
          have h42 := z_b32 x40
          refine z_xL zt179 5 rfl rfl (fun (y43 : Int64) (h44 : y43.toInt = x40.toInt) => ?_) (z_qI2L rfl)
          refine z_xrl zt179 6 rfl zzr179 ?_
          show z_ev (d + 2) 177 36 [some (.ref 4), some (.int p1), some (.int p2), some (.long p3), none, some (.int 0)] [.long y43, .int x30, .ref 16] M0 _
          have f16 : T[16]? = some (.inr (16, 1, 360, 0, 0)) := X.1.k rfl (by decide)
          refine z_xls zt177 18 rfl X f16 (by decide) (by decide) (by omega) (by omega) (by decide) (fun M45 X46 e47 => ?_)
          refine z_xP zt177 19 38 [some (.ref 4), some (.int p1), some (.int p2), some (.long p3), none, some (.int 0)] [.int 1] rfl rfl ?_
          have q1 : ((1 : Int32)).toInt = 1 := rfl
          exact z_xri zt177 20 rfl zzr177 (kk 1 M45 X46 (by omega) (by omega))
        by_cases h48 : x32.toInt = 1
        · refine z_xSC zt179 1 (z_sub (k := 1) h48 rfl) 37 rfl rfl ?_
          refine z_xP zt179 7 38 [some (.int x32), some (.long p3), none] [.long p3] rfl rfl ?_
          refine z_xI zt179 8 rfl rfl (P := fun _ => True) (fun (x49 : Int32) _ => ?_) trivial
          refine z_xI zt179 9 rfl rfl (P := fun _ => True) (fun (x51 : Int32) _ => ?_) trivial
          have h53 := z_b32 x51
          refine z_xL zt179 10 rfl rfl (fun (y54 : Int64) (h55 : y54.toInt = x51.toInt) => ?_) (z_qI2L rfl)
          refine z_xrl zt179 11 rfl zzr179 ?_
          show z_ev (d + 2) 177 36 [some (.ref 4), some (.int p1), some (.int p2), some (.long p3), none, some (.int 0)] [.long y54, .int x30, .ref 16] M0 _
          have f16 : T[16]? = some (.inr (16, 1, 360, 0, 0)) := X.1.k rfl (by decide)
          refine z_xls zt177 18 rfl X f16 (by decide) (by decide) (by omega) (by omega) (by decide) (fun M56 X57 e58 => ?_)
          refine z_xP zt177 19 38 [some (.ref 4), some (.int p1), some (.int p2), some (.long p3), none, some (.int 0)] [.int 1] rfl rfl ?_
          have q1 : ((1 : Int32)).toInt = 1 := rfl
          exact z_xri zt177 20 rfl zzr177 (kk 1 M56 X57 (by omega) (by omega))
        by_cases h59 : x32.toInt = 2
        · refine z_xSC zt179 1 (z_sub (k := 2) h59 rfl) 42 rfl rfl ?_
          refine z_xP zt179 12 43 [some (.int x32), some (.long p3), none] [.long p3] rfl rfl ?_
          refine z_xI zt179 13 rfl rfl (P := fun _ => True) (fun (x60 : Int32) _ => ?_) trivial
          have h62 := z_b32 x60
          refine z_xL zt179 14 rfl rfl (fun (y63 : Int64) (h64 : y63.toInt = x60.toInt) => ?_) (z_qI2L rfl)
          refine z_xrl zt179 15 rfl zzr179 ?_
          show z_ev (d + 2) 177 36 [some (.ref 4), some (.int p1), some (.int p2), some (.long p3), none, some (.int 0)] [.long y63, .int x30, .ref 16] M0 _
          have f16 : T[16]? = some (.inr (16, 1, 360, 0, 0)) := X.1.k rfl (by decide)
          refine z_xls zt177 18 rfl X f16 (by decide) (by decide) (by omega) (by omega) (by decide) (fun M65 X66 e67 => ?_)
          refine z_xP zt177 19 38 [some (.ref 4), some (.int p1), some (.int p2), some (.long p3), none, some (.int 0)] [.int 1] rfl rfl ?_
          have q1 : ((1 : Int32)).toInt = 1 := rfl
          exact z_xri zt177 20 rfl zzr177 (kk 1 M65 X66 (by omega) (by omega))
        by_cases h68 : x32.toInt = 3
        · refine z_xSC zt179 1 (z_sub (k := 3) h68 rfl) 46 rfl rfl ?_
          refine z_xP zt179 16 47 [some (.int x32), some (.long p3), none] [.long p3] rfl rfl ?_
          refine z_xrl zt179 17 rfl zzr179 ?_
          show z_ev (d + 2) 177 36 [some (.ref 4), some (.int p1), some (.int p2), some (.long p3), none, some (.int 0)] [.long p3, .int x30, .ref 16] M0 _
          have f16 : T[16]? = some (.inr (16, 1, 360, 0, 0)) := X.1.k rfl (by decide)
          refine z_xls zt177 18 rfl X f16 (by decide) (by decide) (by omega) (by omega) (by decide) (fun M69 X70 e71 => ?_)
          refine z_xP zt177 19 38 [some (.ref 4), some (.int p1), some (.int p2), some (.long p3), none, some (.int 0)] [.int 1] rfl rfl ?_
          have q1 : ((1 : Int32)).toInt = 1 := rfl
          exact z_xri zt177 20 rfl zzr177 (kk 1 M69 X70 (by omega) (by omega))
        refine z_xSD zt179 1 rfl rfl (by omega) ?_
        refine z_xP zt179 18 50 [some (.int x32), some (.long p3), none] [.long 0, .long p3] rfl rfl ?_
        refine z_xI zt179 19 rfl rfl (fun (x72 : Int32) (h73 : (x72.toInt < 0 ∧ p3.toInt < 0) ∨ (x72.toInt = 0 ∧ p3.toInt = 0) ∨ (0 < x72.toInt ∧ 0 < p3.toInt)) => ?_) (z_qCmp rfl rfl)
        refine z_xZ zt179 20 rfl rfl (fun (h74 : x72.toInt = 0) => ?_) (fun (h74 : x72.toInt ≠ 0) => ?_)
        · skip
          refine z_xP zt179 22 59 [some (.int x32), some (.long p3), none] [.long 0] rfl rfl ?_
          refine z_xrl zt179 23 rfl zzr179 ?_
          show z_ev (d + 2) 177 36 [some (.ref 4), some (.int p1), some (.int p2), some (.long p3), none, some (.int 0)] [.long 0, .int x30, .ref 16] M0 _
          have f16 : T[16]? = some (.inr (16, 1, 360, 0, 0)) := X.1.k rfl (by decide)
          refine z_xls zt177 18 rfl X f16 (by decide) (by decide) (by omega) (by omega) (by decide) (fun M75 X76 e77 => ?_)
          refine z_xP zt177 19 38 [some (.ref 4), some (.int p1), some (.int p2), some (.long p3), none, some (.int 0)] [.int 1] rfl rfl ?_
          have q1 : ((1 : Int32)).toInt = 1 := rfl
          exact z_xri zt177 20 rfl zzr177 (kk 1 M75 X76 (by omega) (by omega))
        refine z_xP zt179 21 59 [some (.int x32), some (.long p3), none] [.long 1] rfl rfl ?_
        refine z_xrl zt179 23 rfl zzr179 ?_
        show z_ev (d + 2) 177 36 [some (.ref 4), some (.int p1), some (.int p2), some (.long p3), none, some (.int 0)] [.long 1, .int x30, .ref 16] M0 _
        have f16 : T[16]? = some (.inr (16, 1, 360, 0, 0)) := X.1.k rfl (by decide)
        refine z_xls zt177 18 rfl X f16 (by decide) (by decide) (by omega) (by omega) (by decide) (fun M78 X79 e80 => ?_)
        refine z_xP zt177 19 38 [some (.ref 4), some (.int p1), some (.int p2), some (.long p3), none, some (.int 0)] [.int 1] rfl rfl ?_
        have q1 : ((1 : Int32)).toInt = 1 := rfl
        exact z_xri zt177 20 rfl zzr177 (kk 1 M78 X79 (by omega) (by omega))
      refine z_xP zt178 28 55 [some (.ref 4), some (.int p1), some (.int p2)] [.int (-13)] rfl rfl ?_
      refine z_xri zt178 30 rfl zzr178 ?_
      show z_ev (d + 2) 177 6 [some (.ref 4), some (.int p1), some (.int p2), some (.long p3), none, none] [.int (-13)] M0 _
      refine z_xP zt177 2 10 [some (.ref 4), some (.int p1), some (.int p2), some (.long p3), none, some (.int (-13))] [.int (-13)] rfl rfl ?_
      refine z_xZ zt177 3 rfl rfl (fun (h81 : ((-13) : Int) = 0) => absurd h81 (by omega)) (fun (h81 : ((-13) : Int) ≠ 0) => ?_)
      refine z_xP zt177 4 15 [some (.ref 4), some (.int p1), some (.int p2), some (.long p3), none, some (.int (-13))] [.int (-13)] rfl rfl ?_
      have qm13 : (((-13) : Int32)).toInt = (-13) := rfl
      exact z_xri zt177 5 rfl zzr177 (kk (-13) M0 X (by omega) (by omega))
    refine z_xP zt178 19 34 [some (.ref 4), some (.int p1), some (.int p2)] [.int (-12)] rfl rfl ?_
    refine z_xri zt178 20 rfl zzr178 ?_
    show z_ev (d + 2) 177 6 [some (.ref 4), some (.int p1), some (.int p2), some (.long p3), none, none] [.int (-12)] M0 _
    refine z_xP zt177 2 10 [some (.ref 4), some (.int p1), some (.int p2), some (.long p3), none, some (.int (-12))] [.int (-12)] rfl rfl ?_
    refine z_xZ zt177 3 rfl rfl (fun (h82 : ((-12) : Int) = 0) => absurd h82 (by omega)) (fun (h82 : ((-12) : Int) ≠ 0) => ?_)
    refine z_xP zt177 4 15 [some (.ref 4), some (.int p1), some (.int p2), some (.long p3), none, some (.int (-12))] [.int (-12)] rfl rfl ?_
    have qm12 : (((-12) : Int32)).toInt = (-12) := rfl
    exact z_xri zt177 5 rfl zzr177 (kk (-12) M0 X (by omega) (by omega))
  refine z_xP zt178 11 21 [some (.ref 4), some (.int p1), some (.int p2)] [.int (-11)] rfl rfl ?_
  refine z_xri zt178 12 rfl zzr178 ?_
  show z_ev (d + 2) 177 6 [some (.ref 4), some (.int p1), some (.int p2), some (.long p3), none, none] [.int (-11)] M0 _
  refine z_xP zt177 2 10 [some (.ref 4), some (.int p1), some (.int p2), some (.long p3), none, some (.int (-11))] [.int (-11)] rfl rfl ?_
  refine z_xZ zt177 3 rfl rfl (fun (h83 : ((-11) : Int) = 0) => absurd h83 (by omega)) (fun (h83 : ((-11) : Int) ≠ 0) => ?_)
  refine z_xP zt177 4 15 [some (.ref 4), some (.int p1), some (.int p2), some (.long p3), none, some (.int (-11))] [.int (-11)] rfl rfl ?_
  have qm11 : (((-11) : Int32)).toInt = (-11) := rfl
  exact z_xri zt177 5 rfl zzr177 (kk (-11) M0 X (by omega) (by omega))
def zw180 : List Nat := []
theorem zC180 {T : List zK} {d : Nat} {K : Option Value → zH → Prop} {p1 : Int32} {p2 : Int32} {M0 : zH} (hW : z_W M0 T)  (kk : ∀ (x : Int64) (M1 : zH), z_X T zw180 M0 M1 → K (some (.long x)) M1) : z_ev (d + 2) 180 0 [some (.ref 4), some (.int p1), some (.int p2)] [] M0 K := by
  have X : z_X T zw180 M0 M0 := .refl hW
  refine z_xP zt180 0 3 [some (.ref 4), some (.int p1), some (.int p2)] [.int p2, .int p1, .ref 4] rfl rfl ?_
  have f4 : T[4]? = some (.inl (0, 0, 0, 0, 0)) := X.1.k rfl (by decide)
  refine z_xcV (vs := [.ref 4, .int p1, .int p2]) (r := []) (L2 := [some (.ref 4), some (.int p1), some (.int p2)]) zt180 1 rfl zo180 zzcV0_313 (Or.inl rfl) rfl X f4 rfl rfl rfl (Nat.le_of_ble_eq_true rfl) zzm178 (Nat.le_of_ble_eq_true rfl) rfl ?_
  refine z_xP zt178 0 1 [some (.ref 4), some (.int p1), some (.int p2)] [.int p1] rfl rfl ?_
  refine z_xcS (vs := [.int p1]) (r := []) (L2 := [some (.int p1)]) zt178 1 rfl zo178 zzcS0_148 (Or.inl rfl) (Nat.le_of_ble_eq_true rfl) rfl rfl (Nat.le_of_ble_eq_true rfl) zzm58 (Nat.le_of_ble_eq_true rfl) rfl ?_
  refine z_xP zt58 0 1 [some (.int p1)] [.int p1] rfl rfl ?_
  refine z_xZ zt58 1 rfl rfl (fun (h1 : p1.toInt < 0) => ?_) (fun (h1 : 0 ≤ p1.toInt) => ?_)
  · skip
    refine z_xP zt58 5 15 [some (.int p1)] [.int 0] rfl rfl ?_
    refine z_xrz zt58 6 rfl zzr58 (by decide) (by decide) ?_
    show z_ev (d + 1) 178 4 [some (.ref 4), some (.int p1), some (.int p2)] [.int 0] M0 _
    refine z_xZ zt178 2 rfl rfl (fun (h2 : (0 : Int) ≠ 0) => absurd h2 (by omega)) (fun (h2 : (0 : Int) = 0) => ?_)
    refine z_xP zt178 3 8 [some (.ref 4), some (.int p1), some (.int p2)] [.int (-1)] rfl rfl ?_
    refine z_xri zt178 4 rfl zzr178 ?_
    show z_ev (d + 2) 180 6 [some (.ref 4), some (.int p1), some (.int p2)] [.int (-1)] M0 _
    refine z_xZ zt180 2 rfl rfl (fun (h3 : ((-1) : Int) = 0) => absurd h3 (by omega)) (fun (h3 : ((-1) : Int) ≠ 0) => ?_)
    refine z_xl2 zt180 3 rfl zo180 zkl0_322 ?_
    have qm9223372036854775808 : (((-9223372036854775808) : Int64)).toInt = (-9223372036854775808) := rfl
    exact z_xrl zt180 4 rfl zzr180 (kk (-9223372036854775808) M0 X)
  refine z_xP zt58 2 7 [some (.int p1)] [.int 6, .int p1] rfl rfl ?_
  refine z_xJ zt58 3 rfl rfl (fun (h4 : 6 ≤ p1.toInt) => ?_) (fun (h4 : p1.toInt < 6) => ?_)
  · skip
    refine z_xP zt58 5 15 [some (.int p1)] [.int 0] rfl rfl ?_
    refine z_xrz zt58 6 rfl zzr58 (by decide) (by decide) ?_
    show z_ev (d + 1) 178 4 [some (.ref 4), some (.int p1), some (.int p2)] [.int 0] M0 _
    refine z_xZ zt178 2 rfl rfl (fun (h5 : (0 : Int) ≠ 0) => absurd h5 (by omega)) (fun (h5 : (0 : Int) = 0) => ?_)
    refine z_xP zt178 3 8 [some (.ref 4), some (.int p1), some (.int p2)] [.int (-1)] rfl rfl ?_
    refine z_xri zt178 4 rfl zzr178 ?_
    show z_ev (d + 2) 180 6 [some (.ref 4), some (.int p1), some (.int p2)] [.int (-1)] M0 _
    refine z_xZ zt180 2 rfl rfl (fun (h6 : ((-1) : Int) = 0) => absurd h6 (by omega)) (fun (h6 : ((-1) : Int) ≠ 0) => ?_)
    refine z_xl2 zt180 3 rfl zo180 zkl0_322 ?_
    have qm9223372036854775808 : (((-9223372036854775808) : Int64)).toInt = (-9223372036854775808) := rfl
    exact z_xrl zt180 4 rfl zzr180 (kk (-9223372036854775808) M0 X)
  refine z_xP zt58 4 15 [some (.int p1)] [.int 1] rfl rfl ?_
  refine z_xrz zt58 6 rfl zzr58 (by decide) (by decide) ?_
  show z_ev (d + 1) 178 4 [some (.ref 4), some (.int p1), some (.int p2)] [.int 1] M0 _
  refine z_xZ zt178 2 rfl rfl (fun (h7 : (1 : Int) ≠ 0) => ?_) (fun (h7 : (1 : Int) = 0) => absurd h7 (by omega))
  refine z_xP zt178 5 10 [some (.ref 4), some (.int p1), some (.int p2)] [.ref 4] rfl rfl ?_
  refine z_xgX (b := 14) zt178 6 rfl zo178 zzf0_35 X f4 (by decide) (by decide) rfl ?_
  refine z_xP zt178 7 14 [some (.ref 4), some (.int p1), some (.int p2)] [.int p1, .ref 14] rfl rfl ?_
  have f14 : T[14]? = some (.inr (14, 0, 6, (-1), 5)) := X.1.k rfl (by decide)
  refine z_xil zt178 8 rfl X f14 (by decide) (by omega) (by omega) (fun (x8 : Int32) h9 (h10 : (-1) ≤ x8.toInt) (h11 : x8.toInt ≤ 5) => ?_)
  refine z_xP zt178 9 16 [some (.ref 4), some (.int p1), some (.int p2)] [.int (-1), .int x8] rfl rfl ?_
  refine z_xJ zt178 10 rfl rfl (fun (h12 : x8.toInt ≠ (-1)) => ?_) (fun (h12 : x8.toInt = (-1)) => ?_)
  · skip
    refine z_xP zt178 13 23 [some (.ref 4), some (.int p1), some (.int p2)] [.ref 4] rfl rfl ?_
    refine z_xgX (b := 14) zt178 14 rfl zo178 zzf0_35 X f4 (by decide) (by decide) rfl ?_
    refine z_xP zt178 15 27 [some (.ref 4), some (.int p1), some (.int p2)] [.int p1, .ref 14] rfl rfl ?_
    refine z_xil zt178 16 rfl X f14 (by decide) (by omega) (by omega) (fun (x13 : Int32) h14 (h15 : (-1) ≤ x13.toInt) (h16 : x13.toInt ≤ 5) => ?_)
    have h17 := congrArg Int32.toInt (h14.symm.trans h9)
    refine z_xP zt178 17 29 [some (.ref 4), some (.int p1), some (.int p2)] [.int 5, .int x13] rfl rfl ?_
    refine z_xJ zt178 18 rfl rfl (fun (h18 : x13.toInt ≠ 5) => ?_) (fun (h18 : x13.toInt = 5) => ?_)
    · skip
      refine z_xP zt178 21 36 [some (.ref 4), some (.int p1), some (.int p2)] [.int p2] rfl rfl ?_
      refine z_xZ zt178 22 rfl rfl (fun (h19 : p2.toInt < 0) => ?_) (fun (h19 : 0 ≤ p2.toInt) => ?_)
      · skip
        refine z_xP zt178 28 55 [some (.ref 4), some (.int p1), some (.int p2)] [.int (-13)] rfl rfl ?_
        refine z_xri zt178 30 rfl zzr178 ?_
        show z_ev (d + 2) 180 6 [some (.ref 4), some (.int p1), some (.int p2)] [.int (-13)] M0 _
        refine z_xZ zt180 2 rfl rfl (fun (h20 : ((-13) : Int) = 0) => absurd h20 (by omega)) (fun (h20 : ((-13) : Int) ≠ 0) => ?_)
        refine z_xl2 zt180 3 rfl zo180 zkl0_322 ?_
        have qm9223372036854775808 : (((-9223372036854775808) : Int64)).toInt = (-9223372036854775808) := rfl
        exact z_xrl zt180 4 rfl zzr180 (kk (-9223372036854775808) M0 X)
      refine z_xP zt178 23 41 [some (.ref 4), some (.int p1), some (.int p2)] [.ref 4, .int p2] rfl rfl ?_
      refine z_xgX (b := 15) zt178 24 rfl zo178 zzf0_38 X f4 (by decide) (by decide) rfl ?_
      refine z_xP zt178 25 45 [some (.ref 4), some (.int p1), some (.int p2)] [.int p1, .ref 15, .int p2] rfl rfl ?_
      have f15 : T[15]? = some (.inr (15, 0, 6, 0, 60)) := X.1.k rfl (by decide)
      refine z_xil zt178 26 rfl X f15 (by decide) (by omega) (by omega) (fun (x21 : Int32) h22 (h23 : 0 ≤ x21.toInt) (h24 : x21.toInt ≤ 60) => ?_)
      have h25 := z_b32 p2
      refine z_xJ zt178 27 rfl rfl (fun (h26 : p2.toInt < x21.toInt) => ?_) (fun (h26 : x21.toInt ≤ p2.toInt) => ?_)
      · skip
        refine z_xP zt178 29 55 [some (.ref 4), some (.int p1), some (.int p2)] [.int 0] rfl rfl ?_
        refine z_xri zt178 30 rfl zzr178 ?_
        show z_ev (d + 2) 180 6 [some (.ref 4), some (.int p1), some (.int p2)] [.int 0] M0 _
        refine z_xZ zt180 2 rfl rfl (fun (h27 : (0 : Int) = 0) => ?_) (fun (h27 : (0 : Int) ≠ 0) => absurd h27 (by omega))
        refine z_xP zt180 5 14 [some (.ref 4), some (.int p1), some (.int p2)] [.ref 4] rfl rfl ?_
        refine z_xgX (b := 16) zt180 6 rfl zo180 zzf0_41 X f4 (by decide) (by decide) rfl ?_
        refine z_xP zt180 7 20 [some (.ref 4), some (.int p1), some (.int p2)] [.int 60, .int p1, .ref 16] rfl rfl ?_
        refine z_xI zt180 8 rfl rfl (fun (x28 : Int32) (h29 : x28.toInt = p1.toInt * 60) => ?_) (z_pMul rfl rfl (by omega) (by omega))
        refine z_xP zt180 9 22 [some (.ref 4), some (.int p1), some (.int p2)] [.int p2, .int x28, .ref 16] rfl rfl ?_
        refine z_xI zt180 10 rfl rfl (fun (x30 : Int32) (h31 : x30.toInt = x28.toInt + p2.toInt) => ?_) (z_pAdd rfl rfl (by omega) (by omega))
        have f16 : T[16]? = some (.inr (16, 1, 360, 0, 0)) := X.1.k rfl (by decide)
        refine z_xll zt180 11 rfl X f16 (by decide) (by omega) (by omega) (fun (y32 : Int64) => ?_)
        exact z_xrl zt180 12 rfl zzr180 (kk y32 M0 X)
      refine z_xP zt178 28 55 [some (.ref 4), some (.int p1), some (.int p2)] [.int (-13)] rfl rfl ?_
      refine z_xri zt178 30 rfl zzr178 ?_
      show z_ev (d + 2) 180 6 [some (.ref 4), some (.int p1), some (.int p2)] [.int (-13)] M0 _
      refine z_xZ zt180 2 rfl rfl (fun (h33 : ((-13) : Int) = 0) => absurd h33 (by omega)) (fun (h33 : ((-13) : Int) ≠ 0) => ?_)
      refine z_xl2 zt180 3 rfl zo180 zkl0_322 ?_
      have qm9223372036854775808 : (((-9223372036854775808) : Int64)).toInt = (-9223372036854775808) := rfl
      exact z_xrl zt180 4 rfl zzr180 (kk (-9223372036854775808) M0 X)
    refine z_xP zt178 19 34 [some (.ref 4), some (.int p1), some (.int p2)] [.int (-12)] rfl rfl ?_
    refine z_xri zt178 20 rfl zzr178 ?_
    show z_ev (d + 2) 180 6 [some (.ref 4), some (.int p1), some (.int p2)] [.int (-12)] M0 _
    refine z_xZ zt180 2 rfl rfl (fun (h34 : ((-12) : Int) = 0) => absurd h34 (by omega)) (fun (h34 : ((-12) : Int) ≠ 0) => ?_)
    refine z_xl2 zt180 3 rfl zo180 zkl0_322 ?_
    have qm9223372036854775808 : (((-9223372036854775808) : Int64)).toInt = (-9223372036854775808) := rfl
    exact z_xrl zt180 4 rfl zzr180 (kk (-9223372036854775808) M0 X)
  refine z_xP zt178 11 21 [some (.ref 4), some (.int p1), some (.int p2)] [.int (-11)] rfl rfl ?_
  refine z_xri zt178 12 rfl zzr178 ?_
  show z_ev (d + 2) 180 6 [some (.ref 4), some (.int p1), some (.int p2)] [.int (-11)] M0 _
  refine z_xZ zt180 2 rfl rfl (fun (h35 : ((-11) : Int) = 0) => absurd h35 (by omega)) (fun (h35 : ((-11) : Int) ≠ 0) => ?_)
  refine z_xl2 zt180 3 rfl zo180 zkl0_322 ?_
  have qm9223372036854775808 : (((-9223372036854775808) : Int64)).toInt = (-9223372036854775808) := rfl
  exact z_xrl zt180 4 rfl zzr180 (kk (-9223372036854775808) M0 X)
def zw181 : List Nat := [16]
theorem zC181 {T : List zK} {d : Nat} {K : Option Value → zH → Prop} {p1 : Int32} {p2 : Int32} {p3 : Int32} {p4 : Int32} {p5 : Int32} {M0 : zH} (hW : z_W M0 T)  (kk : ∀ (x : Int32) (M1 : zH), z_X T zw181 M0 M1 → (-13) ≤ x.toInt → x.toInt ≤ 60 → K (some (.int x)) M1) : z_ev (d + 1) 181 0 [some (.ref 4), some (.int p1), some (.int p2), some (.int p3), some (.int p4), some (.int p5)] [] M0 K := by
  have X : z_X T zw181 M0 M0 := .refl hW
  refine z_xP zt181 0 1 [some (.ref 4), some (.int p1), some (.int p2), some (.int p3), some (.int p4), some (.int p5)] [.int p1] rfl rfl ?_
  refine z_xcS (vs := [.int p1]) (r := []) (L2 := [some (.int p1)]) zt181 1 rfl zo181 zzcS0_148 (Or.inl rfl) (Nat.le_of_ble_eq_true rfl) rfl rfl (Nat.le_of_ble_eq_true rfl) zzm58 (Nat.le_of_ble_eq_true rfl) rfl ?_
  refine z_xP zt58 0 1 [some (.int p1)] [.int p1] rfl rfl ?_
  refine z_xZ zt58 1 rfl rfl (fun (h1 : p1.toInt < 0) => ?_) (fun (h1 : 0 ≤ p1.toInt) => ?_)
  · skip
    refine z_xP zt58 5 15 [some (.int p1)] [.int 0] rfl rfl ?_
    refine z_xrz zt58 6 rfl zzr58 (by decide) (by decide) ?_
    show z_ev (d + 1) 181 4 [some (.ref 4), some (.int p1), some (.int p2), some (.int p3), some (.int p4), some (.int p5)] [.int 0] M0 _
    refine z_xZ zt181 2 rfl rfl (fun (h2 : (0 : Int) = 0) => ?_) (fun (h2 : (0 : Int) ≠ 0) => absurd h2 (by omega))
    refine z_xP zt181 6 15 [some (.ref 4), some (.int p1), some (.int p2), some (.int p3), some (.int p4), some (.int p5)] [.int (-1)] rfl rfl ?_
    have qm1 : (((-1) : Int32)).toInt = (-1) := rfl
    exact z_xri zt181 7 rfl zzr181 (kk (-1) M0 X (by omega) (by omega))
  refine z_xP zt58 2 7 [some (.int p1)] [.int 6, .int p1] rfl rfl ?_
  refine z_xJ zt58 3 rfl rfl (fun (h3 : 6 ≤ p1.toInt) => ?_) (fun (h3 : p1.toInt < 6) => ?_)
  · skip
    refine z_xP zt58 5 15 [some (.int p1)] [.int 0] rfl rfl ?_
    refine z_xrz zt58 6 rfl zzr58 (by decide) (by decide) ?_
    show z_ev (d + 1) 181 4 [some (.ref 4), some (.int p1), some (.int p2), some (.int p3), some (.int p4), some (.int p5)] [.int 0] M0 _
    refine z_xZ zt181 2 rfl rfl (fun (h4 : (0 : Int) = 0) => ?_) (fun (h4 : (0 : Int) ≠ 0) => absurd h4 (by omega))
    refine z_xP zt181 6 15 [some (.ref 4), some (.int p1), some (.int p2), some (.int p3), some (.int p4), some (.int p5)] [.int (-1)] rfl rfl ?_
    have qm1 : (((-1) : Int32)).toInt = (-1) := rfl
    exact z_xri zt181 7 rfl zzr181 (kk (-1) M0 X (by omega) (by omega))
  refine z_xP zt58 4 15 [some (.int p1)] [.int 1] rfl rfl ?_
  refine z_xrz zt58 6 rfl zzr58 (by decide) (by decide) ?_
  show z_ev (d + 1) 181 4 [some (.ref 4), some (.int p1), some (.int p2), some (.int p3), some (.int p4), some (.int p5)] [.int 1] M0 _
  refine z_xZ zt181 2 rfl rfl (fun (h5 : (1 : Int) = 0) => absurd h5 (by omega)) (fun (h5 : (1 : Int) ≠ 0) => ?_)
  refine z_xP zt181 3 8 [some (.ref 4), some (.int p1), some (.int p2), some (.int p3), some (.int p4), some (.int p5)] [.int p3] rfl rfl ?_
  refine z_xcS (vs := [.int p3]) (r := []) (L2 := [some (.int p3)]) zt181 4 rfl zo181 zzcS0_148 (Or.inl rfl) (Nat.le_of_ble_eq_true rfl) rfl rfl (Nat.le_of_ble_eq_true rfl) zzm58 (Nat.le_of_ble_eq_true rfl) rfl ?_
  refine z_xP zt58 0 1 [some (.int p3)] [.int p3] rfl rfl ?_
  refine z_xZ zt58 1 rfl rfl (fun (h6 : p3.toInt < 0) => ?_) (fun (h6 : 0 ≤ p3.toInt) => ?_)
  · skip
    refine z_xP zt58 5 15 [some (.int p3)] [.int 0] rfl rfl ?_
    refine z_xrz zt58 6 rfl zzr58 (by decide) (by decide) ?_
    show z_ev (d + 1) 181 11 [some (.ref 4), some (.int p1), some (.int p2), some (.int p3), some (.int p4), some (.int p5)] [.int 0] M0 _
    refine z_xZ zt181 5 rfl rfl (fun (h7 : (0 : Int) ≠ 0) => absurd h7 (by omega)) (fun (h7 : (0 : Int) = 0) => ?_)
    refine z_xP zt181 6 15 [some (.ref 4), some (.int p1), some (.int p2), some (.int p3), some (.int p4), some (.int p5)] [.int (-1)] rfl rfl ?_
    have qm1 : (((-1) : Int32)).toInt = (-1) := rfl
    exact z_xri zt181 7 rfl zzr181 (kk (-1) M0 X (by omega) (by omega))
  refine z_xP zt58 2 7 [some (.int p3)] [.int 6, .int p3] rfl rfl ?_
  refine z_xJ zt58 3 rfl rfl (fun (h8 : 6 ≤ p3.toInt) => ?_) (fun (h8 : p3.toInt < 6) => ?_)
  · skip
    refine z_xP zt58 5 15 [some (.int p3)] [.int 0] rfl rfl ?_
    refine z_xrz zt58 6 rfl zzr58 (by decide) (by decide) ?_
    show z_ev (d + 1) 181 11 [some (.ref 4), some (.int p1), some (.int p2), some (.int p3), some (.int p4), some (.int p5)] [.int 0] M0 _
    refine z_xZ zt181 5 rfl rfl (fun (h9 : (0 : Int) ≠ 0) => absurd h9 (by omega)) (fun (h9 : (0 : Int) = 0) => ?_)
    refine z_xP zt181 6 15 [some (.ref 4), some (.int p1), some (.int p2), some (.int p3), some (.int p4), some (.int p5)] [.int (-1)] rfl rfl ?_
    have qm1 : (((-1) : Int32)).toInt = (-1) := rfl
    exact z_xri zt181 7 rfl zzr181 (kk (-1) M0 X (by omega) (by omega))
  refine z_xP zt58 4 15 [some (.int p3)] [.int 1] rfl rfl ?_
  refine z_xrz zt58 6 rfl zzr58 (by decide) (by decide) ?_
  show z_ev (d + 1) 181 11 [some (.ref 4), some (.int p1), some (.int p2), some (.int p3), some (.int p4), some (.int p5)] [.int 1] M0 _
  refine z_xZ zt181 5 rfl rfl (fun (h10 : (1 : Int) ≠ 0) => ?_) (fun (h10 : (1 : Int) = 0) => absurd h10 (by omega))
  refine z_xP zt181 8 17 [some (.ref 4), some (.int p1), some (.int p2), some (.int p3), some (.int p4), some (.int p5)] [.ref 4] rfl rfl ?_
  have f4 : T[4]? = some (.inl (0, 0, 0, 0, 0)) := X.1.k rfl (by decide)
  refine z_xgX (b := 14) zt181 9 rfl zo181 zzf0_35 X f4 (by decide) (by decide) rfl ?_
  refine z_xP zt181 10 21 [some (.ref 4), some (.int p1), some (.int p2), some (.int p3), some (.int p4), some (.int p5)] [.int p1, .ref 14] rfl rfl ?_
  have f14 : T[14]? = some (.inr (14, 0, 6, (-1), 5)) := X.1.k rfl (by decide)
  refine z_xil zt181 11 rfl X f14 (by decide) (by omega) (by omega) (fun (x11 : Int32) h12 (h13 : (-1) ≤ x11.toInt) (h14 : x11.toInt ≤ 5) => ?_)
  refine z_xP zt181 12 23 [some (.ref 4), some (.int p1), some (.int p2), some (.int p3), some (.int p4), some (.int p5)] [.int (-1), .int x11] rfl rfl ?_
  refine z_xJ zt181 13 rfl rfl (fun (h15 : x11.toInt = (-1)) => ?_) (fun (h15 : x11.toInt ≠ (-1)) => ?_)
  · skip
    refine z_xP zt181 20 38 [some (.ref 4), some (.int p1), some (.int p2), some (.int p3), some (.int p4), some (.int p5)] [.int (-11)] rfl rfl ?_
    have qm11 : (((-11) : Int32)).toInt = (-11) := rfl
    exact z_xri zt181 21 rfl zzr181 (kk (-11) M0 X (by omega) (by omega))
  refine z_xP zt181 14 27 [some (.ref 4), some (.int p1), some (.int p2), some (.int p3), some (.int p4), some (.int p5)] [.ref 4] rfl rfl ?_
  refine z_xgX (b := 14) zt181 15 rfl zo181 zzf0_35 X f4 (by decide) (by decide) rfl ?_
  refine z_xP zt181 16 31 [some (.ref 4), some (.int p1), some (.int p2), some (.int p3), some (.int p4), some (.int p5)] [.int p3, .ref 14] rfl rfl ?_
  refine z_xil zt181 17 rfl X f14 (by decide) (by omega) (by omega) (fun (x16 : Int32) h17 (h18 : (-1) ≤ x16.toInt) (h19 : x16.toInt ≤ 5) => ?_)
  refine z_xP zt181 18 33 [some (.ref 4), some (.int p1), some (.int p2), some (.int p3), some (.int p4), some (.int p5)] [.int (-1), .int x16] rfl rfl ?_
  refine z_xJ zt181 19 rfl rfl (fun (h20 : x16.toInt ≠ (-1)) => ?_) (fun (h20 : x16.toInt = (-1)) => ?_)
  · skip
    refine z_xP zt181 22 40 [some (.ref 4), some (.int p1), some (.int p2), some (.int p3), some (.int p4), some (.int p5)] [.ref 4] rfl rfl ?_
    refine z_xgX (b := 14) zt181 23 rfl zo181 zzf0_35 X f4 (by decide) (by decide) rfl ?_
    refine z_xP zt181 24 44 [some (.ref 4), some (.int p1), some (.int p2), some (.int p3), some (.int p4), some (.int p5)] [.int p1, .ref 14] rfl rfl ?_
    refine z_xil zt181 25 rfl X f14 (by decide) (by omega) (by omega) (fun (x21 : Int32) h22 (h23 : (-1) ≤ x21.toInt) (h24 : x21.toInt ≤ 5) => ?_)
    have h25 := congrArg Int32.toInt (h22.symm.trans h12)
    refine z_xP zt181 26 46 [some (.ref 4), some (.int p1), some (.int p2), some (.int p3), some (.int p4), some (.int p5)] [.int 5, .int x21] rfl rfl ?_
    refine z_xJ zt181 27 rfl rfl (fun (h26 : x21.toInt = 5) => ?_) (fun (h26 : x21.toInt ≠ 5) => ?_)
    · skip
      refine z_xP zt181 37 66 [some (.ref 4), some (.int p1), some (.int p2), some (.int p3), some (.int p4), some (.int p5)] [.int (-12)] rfl rfl ?_
      have qm12 : (((-12) : Int32)).toInt = (-12) := rfl
      exact z_xri zt181 38 rfl zzr181 (kk (-12) M0 X (by omega) (by omega))
    refine z_xP zt181 28 50 [some (.ref 4), some (.int p1), some (.int p2), some (.int p3), some (.int p4), some (.int p5)] [.ref 4] rfl rfl ?_
    refine z_xgX (b := 14) zt181 29 rfl zo181 zzf0_35 X f4 (by decide) (by decide) rfl ?_
    refine z_xP zt181 30 54 [some (.ref 4), some (.int p1), some (.int p2), some (.int p3), some (.int p4), some (.int p5)] [.int p1, .ref 14] rfl rfl ?_
    refine z_xil zt181 31 rfl X f14 (by decide) (by omega) (by omega) (fun (x27 : Int32) h28 (h29 : (-1) ≤ x27.toInt) (h30 : x27.toInt ≤ 5) => ?_)
    have h31 := congrArg Int32.toInt (h28.symm.trans h12)
    refine z_xP zt181 32 56 [some (.ref 4), some (.int p1), some (.int p2), some (.int p3), some (.int p4), some (.int p5)] [.ref 4, .int x27] rfl rfl ?_
    refine z_xgX (b := 14) zt181 33 rfl zo181 zzf0_35 X f4 (by decide) (by decide) rfl ?_
    refine z_xP zt181 34 60 [some (.ref 4), some (.int p1), some (.int p2), some (.int p3), some (.int p4), some (.int p5)] [.int p3, .ref 14, .int x27] rfl rfl ?_
    refine z_xil zt181 35 rfl X f14 (by decide) (by omega) (by omega) (fun (x32 : Int32) h33 (h34 : (-1) ≤ x32.toInt) (h35 : x32.toInt ≤ 5) => ?_)
    have h36 := congrArg Int32.toInt (h33.symm.trans h17)
    refine z_xJ zt181 36 rfl rfl (fun (h37 : x27.toInt = x32.toInt) => ?_) (fun (h37 : x27.toInt ≠ x32.toInt) => ?_)
    · skip
      refine z_xP zt181 39 72 [some (.ref 4), some (.int p1), some (.int p2), some (.int p3), some (.int p4), some (.int p5)] [.int p5, .int p2, .int p1, .ref 4] rfl rfl ?_
      refine z_xcV (vs := [.ref 4, .int p1, .int p2, .int p5]) (r := []) (L2 := [some (.ref 4), some (.int p1), some (.int p2), some (.int p5)]) zt181 40 rfl zo181 zzcV0_324 (Or.inl rfl) rfl X f4 rfl rfl rfl (Nat.le_of_ble_eq_true rfl) zzm182 (Nat.le_of_ble_eq_true rfl) rfl ?_
      refine z_xP zt182 0 1 [some (.ref 4), some (.int p1), some (.int p2), some (.int p5)] [.int p2] rfl rfl ?_
      refine z_xZ zt182 1 rfl rfl (fun (h38 : p2.toInt < 0) => ?_) (fun (h38 : 0 ≤ p2.toInt) => ?_)
      · skip
        refine z_xP zt182 12 25 [some (.ref 4), some (.int p1), some (.int p2), some (.int p5)] [.int 0] rfl rfl ?_
        refine z_xrz zt182 13 rfl zzr182 (by decide) (by decide) ?_
        show z_ev (d + 1) 181 75 [some (.ref 4), some (.int p1), some (.int p2), some (.int p3), some (.int p4), some (.int p5)] [.int 0] M0 _
        refine z_xZ zt181 41 rfl rfl (fun (h39 : (0 : Int) = 0) => ?_) (fun (h39 : (0 : Int) ≠ 0) => absurd h39 (by omega))
        refine z_xP zt181 45 92 [some (.ref 4), some (.int p1), some (.int p2), some (.int p3), some (.int p4), some (.int p5)] [.int (-13)] rfl rfl ?_
        have qm13 : (((-13) : Int32)).toInt = (-13) := rfl
        exact z_xri zt181 46 rfl zzr181 (kk (-13) M0 X (by omega) (by omega))
      refine z_xP zt182 2 5 [some (.ref 4), some (.int p1), some (.int p2), some (.int p5)] [.int p5] rfl rfl ?_
      refine z_xZ zt182 3 rfl rfl (fun (h40 : p5.toInt < 0) => ?_) (fun (h40 : 0 ≤ p5.toInt) => ?_)
      · skip
        refine z_xP zt182 12 25 [some (.ref 4), some (.int p1), some (.int p2), some (.int p5)] [.int 0] rfl rfl ?_
        refine z_xrz zt182 13 rfl zzr182 (by decide) (by decide) ?_
        show z_ev (d + 1) 181 75 [some (.ref 4), some (.int p1), some (.int p2), some (.int p3), some (.int p4), some (.int p5)] [.int 0] M0 _
        refine z_xZ zt181 41 rfl rfl (fun (h41 : (0 : Int) = 0) => ?_) (fun (h41 : (0 : Int) ≠ 0) => absurd h41 (by omega))
        refine z_xP zt181 45 92 [some (.ref 4), some (.int p1), some (.int p2), some (.int p3), some (.int p4), some (.int p5)] [.int (-13)] rfl rfl ?_
        have qm13 : (((-13) : Int32)).toInt = (-13) := rfl
        exact z_xri zt181 46 rfl zzr181 (kk (-13) M0 X (by omega) (by omega))
      refine z_xP zt182 4 10 [some (.ref 4), some (.int p1), some (.int p2), some (.int p5)] [.ref 4, .int p5] rfl rfl ?_
      refine z_xgX (b := 15) zt182 5 rfl zo182 zzf0_38 X f4 (by decide) (by decide) rfl ?_
      refine z_xP zt182 6 14 [some (.ref 4), some (.int p1), some (.int p2), some (.int p5)] [.int p1, .ref 15, .int p5] rfl rfl ?_
      have f15 : T[15]? = some (.inr (15, 0, 6, 0, 60)) := X.1.k rfl (by decide)
      refine z_xil zt182 7 rfl X f15 (by decide) (by omega) (by omega) (fun (x42 : Int32) h43 (h44 : 0 ≤ x42.toInt) (h45 : x42.toInt ≤ 60) => ?_)
      refine z_xP zt182 8 16 [some (.ref 4), some (.int p1), some (.int p2), some (.int p5)] [.int p2, .int x42, .int p5] rfl rfl ?_
      have h46 := z_b32 p2
      refine z_xI zt182 9 rfl rfl (fun (x47 : Int32) (h48 : x47.toInt = x42.toInt - p2.toInt) => ?_) (z_pSub rfl rfl (by omega) (by omega))
      have h49 := z_b32 p5
      refine z_xJ zt182 10 rfl rfl (fun (h50 : x47.toInt < p5.toInt) => ?_) (fun (h50 : p5.toInt ≤ x47.toInt) => ?_)
      · skip
        refine z_xP zt182 12 25 [some (.ref 4), some (.int p1), some (.int p2), some (.int p5)] [.int 0] rfl rfl ?_
        refine z_xrz zt182 13 rfl zzr182 (by decide) (by decide) ?_
        show z_ev (d + 1) 181 75 [some (.ref 4), some (.int p1), some (.int p2), some (.int p3), some (.int p4), some (.int p5)] [.int 0] M0 _
        refine z_xZ zt181 41 rfl rfl (fun (h51 : (0 : Int) = 0) => ?_) (fun (h51 : (0 : Int) ≠ 0) => absurd h51 (by omega))
        refine z_xP zt181 45 92 [some (.ref 4), some (.int p1), some (.int p2), some (.int p3), some (.int p4), some (.int p5)] [.int (-13)] rfl rfl ?_
        have qm13 : (((-13) : Int32)).toInt = (-13) := rfl
        exact z_xri zt181 46 rfl zzr181 (kk (-13) M0 X (by omega) (by omega))
      refine z_xP zt182 11 25 [some (.ref 4), some (.int p1), some (.int p2), some (.int p5)] [.int 1] rfl rfl ?_
      refine z_xrz zt182 13 rfl zzr182 (by decide) (by decide) ?_
      show z_ev (d + 1) 181 75 [some (.ref 4), some (.int p1), some (.int p2), some (.int p3), some (.int p4), some (.int p5)] [.int 1] M0 _
      refine z_xZ zt181 41 rfl rfl (fun (h52 : (1 : Int) = 0) => absurd h52 (by omega)) (fun (h52 : (1 : Int) ≠ 0) => ?_)
      refine z_xP zt181 42 84 [some (.ref 4), some (.int p1), some (.int p2), some (.int p3), some (.int p4), some (.int p5)] [.int p5, .int p4, .int p3, .ref 4] rfl rfl ?_
      refine z_xcV (vs := [.ref 4, .int p3, .int p4, .int p5]) (r := []) (L2 := [some (.ref 4), some (.int p3), some (.int p4), some (.int p5)]) zt181 43 rfl zo181 zzcV0_324 (Or.inl rfl) rfl X f4 rfl rfl rfl (Nat.le_of_ble_eq_true rfl) zzm182 (Nat.le_of_ble_eq_true rfl) rfl ?_
      refine z_xP zt182 0 1 [some (.ref 4), some (.int p3), some (.int p4), some (.int p5)] [.int p4] rfl rfl ?_
      refine z_xZ zt182 1 rfl rfl (fun (h53 : p4.toInt < 0) => ?_) (fun (h53 : 0 ≤ p4.toInt) => ?_)
      · skip
        refine z_xP zt182 12 25 [some (.ref 4), some (.int p3), some (.int p4), some (.int p5)] [.int 0] rfl rfl ?_
        refine z_xrz zt182 13 rfl zzr182 (by decide) (by decide) ?_
        show z_ev (d + 1) 181 87 [some (.ref 4), some (.int p1), some (.int p2), some (.int p3), some (.int p4), some (.int p5)] [.int 0] M0 _
        refine z_xZ zt181 44 rfl rfl (fun (h54 : (0 : Int) ≠ 0) => absurd h54 (by omega)) (fun (h54 : (0 : Int) = 0) => ?_)
        refine z_xP zt181 45 92 [some (.ref 4), some (.int p1), some (.int p2), some (.int p3), some (.int p4), some (.int p5)] [.int (-13)] rfl rfl ?_
        have qm13 : (((-13) : Int32)).toInt = (-13) := rfl
        exact z_xri zt181 46 rfl zzr181 (kk (-13) M0 X (by omega) (by omega))
      refine z_xP zt182 2 5 [some (.ref 4), some (.int p3), some (.int p4), some (.int p5)] [.int p5] rfl rfl ?_
      refine z_xZ zt182 3 rfl rfl (fun (h55 : p5.toInt < 0) => absurd h55 (by omega)) (fun (h55 : 0 ≤ p5.toInt) => ?_)
      refine z_xP zt182 4 10 [some (.ref 4), some (.int p3), some (.int p4), some (.int p5)] [.ref 4, .int p5] rfl rfl ?_
      refine z_xgX (b := 15) zt182 5 rfl zo182 zzf0_38 X f4 (by decide) (by decide) rfl ?_
      refine z_xP zt182 6 14 [some (.ref 4), some (.int p3), some (.int p4), some (.int p5)] [.int p3, .ref 15, .int p5] rfl rfl ?_
      refine z_xil zt182 7 rfl X f15 (by decide) (by omega) (by omega) (fun (x56 : Int32) h57 (h58 : 0 ≤ x56.toInt) (h59 : x56.toInt ≤ 60) => ?_)
      refine z_xP zt182 8 16 [some (.ref 4), some (.int p3), some (.int p4), some (.int p5)] [.int p4, .int x56, .int p5] rfl rfl ?_
      have h60 := z_b32 p4
      refine z_xI zt182 9 rfl rfl (fun (x61 : Int32) (h62 : x61.toInt = x56.toInt - p4.toInt) => ?_) (z_pSub rfl rfl (by omega) (by omega))
      refine z_xJ zt182 10 rfl rfl (fun (h63 : x61.toInt < p5.toInt) => ?_) (fun (h63 : p5.toInt ≤ x61.toInt) => ?_)
      · skip
        refine z_xP zt182 12 25 [some (.ref 4), some (.int p3), some (.int p4), some (.int p5)] [.int 0] rfl rfl ?_
        refine z_xrz zt182 13 rfl zzr182 (by decide) (by decide) ?_
        show z_ev (d + 1) 181 87 [some (.ref 4), some (.int p1), some (.int p2), some (.int p3), some (.int p4), some (.int p5)] [.int 0] M0 _
        refine z_xZ zt181 44 rfl rfl (fun (h64 : (0 : Int) ≠ 0) => absurd h64 (by omega)) (fun (h64 : (0 : Int) = 0) => ?_)
        refine z_xP zt181 45 92 [some (.ref 4), some (.int p1), some (.int p2), some (.int p3), some (.int p4), some (.int p5)] [.int (-13)] rfl rfl ?_
        have qm13 : (((-13) : Int32)).toInt = (-13) := rfl
        exact z_xri zt181 46 rfl zzr181 (kk (-13) M0 X (by omega) (by omega))
      refine z_xP zt182 11 25 [some (.ref 4), some (.int p3), some (.int p4), some (.int p5)] [.int 1] rfl rfl ?_
      refine z_xrz zt182 13 rfl zzr182 (by decide) (by decide) ?_
      show z_ev (d + 1) 181 87 [some (.ref 4), some (.int p1), some (.int p2), some (.int p3), some (.int p4), some (.int p5)] [.int 1] M0 _
      refine z_xZ zt181 44 rfl rfl (fun (h65 : (1 : Int) ≠ 0) => ?_) (fun (h65 : (1 : Int) = 0) => absurd h65 (by omega))
      refine z_xP zt181 47 94 [some (.ref 4), some (.int p1), some (.int p2), some (.int p3), some (.int p4), some (.int p5)] [.ref 4] rfl rfl ?_
      refine z_xgX (b := 16) zt181 48 rfl zo181 zzf0_41 X f4 (by decide) (by decide) rfl ?_
      refine z_xP zt181 49 100 [some (.ref 4), some (.int p1), some (.int p2), some (.int p3), some (.int p4), some (.int p5)] [.int 60, .int p1, .ref 16] rfl rfl ?_
      refine z_xI zt181 50 rfl rfl (fun (x66 : Int32) (h67 : x66.toInt = p1.toInt * 60) => ?_) (z_pMul rfl rfl (by omega) (by omega))
      refine z_xP zt181 51 102 [some (.ref 4), some (.int p1), some (.int p2), some (.int p3), some (.int p4), some (.int p5)] [.int p2, .int x66, .ref 16] rfl rfl ?_
      refine z_xI zt181 52 rfl rfl (fun (x68 : Int32) (h69 : x68.toInt = x66.toInt + p2.toInt) => ?_) (z_pAdd rfl rfl (by omega) (by omega))
      refine z_xP zt181 53 104 [some (.ref 4), some (.int p1), some (.int p2), some (.int p3), some (.int p4), some (.int p5)] [.ref 4, .int x68, .ref 16] rfl rfl ?_
      refine z_xgX (b := 16) zt181 54 rfl zo181 zzf0_41 X f4 (by decide) (by decide) rfl ?_
      refine z_xP zt181 55 110 [some (.ref 4), some (.int p1), some (.int p2), some (.int p3), some (.int p4), some (.int p5)] [.int 60, .int p3, .ref 16, .int x68, .ref 16] rfl rfl ?_
      refine z_xI zt181 56 rfl rfl (fun (x70 : Int32) (h71 : x70.toInt = p3.toInt * 60) => ?_) (z_pMul rfl rfl (by omega) (by omega))
      refine z_xP zt181 57 113 [some (.ref 4), some (.int p1), some (.int p2), some (.int p3), some (.int p4), some (.int p5)] [.int p4, .int x70, .ref 16, .int x68, .ref 16] rfl rfl ?_
      refine z_xI zt181 58 rfl rfl (fun (x72 : Int32) (h73 : x72.toInt = x70.toInt + p4.toInt) => ?_) (z_pAdd rfl rfl (by omega) (by omega))
      refine z_xP zt181 59 116 [some (.ref 4), some (.int p1), some (.int p2), some (.int p3), some (.int p4), some (.int p5)] [.int p5, .int x72, .ref 16, .int x68, .ref 16] rfl rfl ?_
      have f16 : T[16]? = some (.inr (16, 1, 360, 0, 0)) := X.1.k rfl (by decide)
      refine z_xcp zt181 60 rfl zo181 zzcS0_328 (Nat.le_of_ble_eq_true rfl) X f16 f16 (by decide) (by decide) (by decide) (by decide) (by omega) (by omega) (by omega) (by omega) (by omega) (by decide) (fun M74 X75 e76 => ?_)
      refine z_xP zt181 61 121 [some (.ref 4), some (.int p1), some (.int p2), some (.int p3), some (.int p4), some (.int p5)] [.int p5] rfl rfl ?_
      exact z_xri zt181 62 rfl zzr181 (kk p5 M74 X75 (by omega) (by omega))
    refine z_xP zt181 37 66 [some (.ref 4), some (.int p1), some (.int p2), some (.int p3), some (.int p4), some (.int p5)] [.int (-12)] rfl rfl ?_
    have qm12 : (((-12) : Int32)).toInt = (-12) := rfl
    exact z_xri zt181 38 rfl zzr181 (kk (-12) M0 X (by omega) (by omega))
  refine z_xP zt181 20 38 [some (.ref 4), some (.int p1), some (.int p2), some (.int p3), some (.int p4), some (.int p5)] [.int (-11)] rfl rfl ?_
  have qm11 : (((-11) : Int32)).toInt = (-11) := rfl
  exact z_xri zt181 21 rfl zzr181 (kk (-11) M0 X (by omega) (by omega))
def zw184 : List Nat := []
theorem zB184 {T : List zK} {d : Nat} {K : Option Value → zH → Prop} {a0 : Nat} {ci : Nat} {p1 : Int32} {M0 : zH} (w0 : 4 ≤ ci ∧ ci ≤ 11) (k0 : T[a0]? = some (.inl (ci, 0, 0, 0, 0))) (u1 : 0 ≤ p1.toInt ∧ p1.toInt ≤ 7) (kk : ∀ (x : Int32) (M1 : zH), z_X T zw184 M0 M1 → 0 ≤ x.toInt → x.toInt ≤ 1 → K (some (.int x)) M1) : ∀ n : Nat, (∀ (M : zH) (b2 : Int32) (b3 : Int32), z_X T zw184 M0 M → (-1) ≤ b2.toInt ∧ b2.toInt ≤ 7 → 0 ≤ b3.toInt ∧ b3.toInt ≤ 8 → ((0) * 2 + 0) * 9 + (8 - b3.toInt) < (n : Int) → z_ev d 184 7 [some (.ref a0), some (.int p1), some (.int b2), some (.int b3)] [] M K) := by
  intro n
  induction n with
  | zero => exact by intros; exfalso; omega
  | succ n ih =>
    intro M b2 b3 X hh0 hh1 hE
    refine z_xP zt184 3 8 [some (.ref a0), some (.int p1), some (.int b2), some (.int b3)] [.int b3] rfl rfl ?_
    refine z_xgs zt184 4 rfl zo184 zg4_28 ?_
    have f3 : T[3]? = some (.inr (3, 0, 8, (-1), 5)) := X.1.k rfl (by decide)
    refine z_xln zt184 5 rfl X f3 (by decide) (by decide) (fun (x1 : Int32) (h2 : x1.toInt = ((8 : Nat) : Int)) => ?_)
    refine z_xJ zt184 6 rfl rfl (fun (h3 : x1.toInt ≤ b3.toInt) => ?_) (fun (h3 : b3.toInt < x1.toInt) => ?_)
    · skip
      refine z_xP zt184 19 39 [some (.ref a0), some (.int p1), some (.int b2), some (.int b3)] [.int 0] rfl rfl ?_
      have q0 : ((0 : Int32)).toInt = 0 := rfl
      exact z_xrz zt184 20 rfl zzr184 (by decide) (by decide) (kk 0 M X (by omega) (by omega))
    refine z_xP zt184 7 16 [some (.ref a0), some (.int p1), some (.int b2), some (.int b3)] [.int b2] rfl rfl ?_
    refine z_xZ zt184 8 rfl rfl (fun (h4 : b2.toInt < 0) => ?_) (fun (h4 : 0 ≤ b2.toInt) => ?_)
    · skip
      refine z_xP zt184 19 39 [some (.ref a0), some (.int p1), some (.int b2), some (.int b3)] [.int 0] rfl rfl ?_
      have q0 : ((0 : Int32)).toInt = 0 := rfl
      exact z_xrz zt184 20 rfl zzr184 (by decide) (by decide) (kk 0 M X (by omega) (by omega))
    refine z_xP zt184 9 21 [some (.ref a0), some (.int p1), some (.int b2), some (.int b3)] [.int p1, .int b2] rfl rfl ?_
    refine z_xJ zt184 10 rfl rfl (fun (h5 : b2.toInt ≠ p1.toInt) => ?_) (fun (h5 : b2.toInt = p1.toInt) => ?_)
    · skip
      refine z_xgs zt184 13 rfl zo184 zg4_28 ?_
      refine z_xP zt184 14 30 [some (.ref a0), some (.int p1), some (.int b2), some (.int b3)] [.int b2, .ref 3] rfl rfl ?_
      refine z_xil zt184 15 rfl X f3 (by decide) (by omega) (by omega) (fun (x6 : Int32) h7 (h8 : (-1) ≤ x6.toInt) (h9 : x6.toInt ≤ 5) => ?_)
      refine z_xP zt184 16 32 [some (.ref a0), some (.int p1), some (.int x6), some (.int b3)] [] rfl rfl ?_
      refine z_xN zt184 17 rfl rfl (fun (x10 : Int32) (h11 : x10.toInt = b3.toInt + 1) => ?_) (z_pAdd rfl rfl (by omega) (by omega))
      show z_ev d 184 35 [some (.ref a0), some (.int p1), some (.int x6), some (.int x10)] [] M _
      refine z_xP zt184 18 7 [some (.ref a0), some (.int p1), some (.int x6), some (.int x10)] [] rfl rfl ?_
      exact ih M x6 x10 X ⟨by omega, by omega⟩ ⟨by omega, by omega⟩ (by omega)
    refine z_xP zt184 11 25 [some (.ref a0), some (.int p1), some (.int b2), some (.int b3)] [.int 1] rfl rfl ?_
    have q1 : ((1 : Int32)).toInt = 1 := rfl
    exact z_xrz zt184 12 rfl zzr184 (by decide) (by decide) (kk 1 M X (by omega) (by omega))
theorem zC184 {T : List zK} {d : Nat} {K : Option Value → zH → Prop} {a0 : Nat} {ci : Nat} {p1 : Int32} {M0 : zH} (hW : z_W M0 T) (w0 : 4 ≤ ci ∧ ci ≤ 11) (k0 : T[a0]? = some (.inl (ci, 0, 0, 0, 0))) (u1 : 0 ≤ p1.toInt ∧ p1.toInt ≤ 7) (kk : ∀ (x : Int32) (M1 : zH), z_X T zw184 M0 M1 → 0 ≤ x.toInt → x.toInt ≤ 1 → K (some (.int x)) M1) : z_ev d 184 0 [some (.ref a0), some (.int p1), none, none] [] M0 K := by
  have X : z_X T zw184 M0 M0 := .refl hW
  refine z_xP zt184 0 1 [some (.ref a0), some (.int p1), none, none] [.ref a0] rfl rfl ?_
  refine z_xgI zt184 1 rfl zo184 zzf4_9 X k0 (z_w8 (fun c => c ∈ ([4, 5, 6, 7, 8, 9, 10, 11] : List Nat)) (by decide) (by decide) (by decide) (by decide) (by decide) (by decide) (by decide) (by decide) w0) (z_nf8 w0 (by decide)) (z_fs8 w0) (fun (x2 : Int32) h1 (h3 : 0 ≤ x2.toInt) (h4 : x2.toInt ≤ 7) => ?_)
  refine z_xP zt184 2 7 [some (.ref a0), some (.int p1), some (.int x2), some (.int 0)] [] rfl rfl ?_
  have q0 : ((0 : Int32)).toInt = 0 := rfl
  exact (zB184 w0 k0 u1 kk 18) M0 x2 (0) X ⟨by omega, by omega⟩ (by decide) (by omega)
def zw183 : List Nat := []
theorem zC183 {T : List zK} {d : Nat} {K : Option Value → zH → Prop} {p1 : Int32} {p2 : Int32} {M0 : zH} (hW : z_W M0 T)  (hG : z_GG T M0) (kk : ∀ (x : Int32) (M1 : zH), z_X T zw183 M0 M1 → (-12) ≤ x.toInt → x.toInt ≤ 7 → K (some (.int x)) M1) : z_ev (d + 1) 183 0 [some (.ref 4), some (.int p1), some (.int p2), none] [] M0 K := by
  have X : z_X T zw183 M0 M0 := .refl hW
  refine z_xP zt183 0 1 [some (.ref 4), some (.int p1), some (.int p2), none] [.int p1] rfl rfl ?_
  refine z_xcS (vs := [.int p1]) (r := []) (L2 := [some (.int p1)]) zt183 1 rfl zo183 zzcS0_148 (Or.inl rfl) (Nat.le_of_ble_eq_true rfl) rfl rfl (Nat.le_of_ble_eq_true rfl) zzm58 (Nat.le_of_ble_eq_true rfl) rfl ?_
  refine z_xP zt58 0 1 [some (.int p1)] [.int p1] rfl rfl ?_
  refine z_xZ zt58 1 rfl rfl (fun (h1 : p1.toInt < 0) => ?_) (fun (h1 : 0 ≤ p1.toInt) => ?_)
  · skip
    refine z_xP zt58 5 15 [some (.int p1)] [.int 0] rfl rfl ?_
    refine z_xrz zt58 6 rfl zzr58 (by decide) (by decide) ?_
    show z_ev (d + 1) 183 4 [some (.ref 4), some (.int p1), some (.int p2), none] [.int 0] M0 _
    refine z_xZ zt183 2 rfl rfl (fun (h2 : (0 : Int) = 0) => ?_) (fun (h2 : (0 : Int) ≠ 0) => absurd h2 (by omega))
    refine z_xP zt183 9 20 [some (.ref 4), some (.int p1), some (.int p2), none] [.int (-1)] rfl rfl ?_
    have qm1 : (((-1) : Int32)).toInt = (-1) := rfl
    exact z_xri zt183 10 rfl zzr183 (kk (-1) M0 X (by omega) (by omega))
  refine z_xP zt58 2 7 [some (.int p1)] [.int 6, .int p1] rfl rfl ?_
  refine z_xJ zt58 3 rfl rfl (fun (h3 : 6 ≤ p1.toInt) => ?_) (fun (h3 : p1.toInt < 6) => ?_)
  · skip
    refine z_xP zt58 5 15 [some (.int p1)] [.int 0] rfl rfl ?_
    refine z_xrz zt58 6 rfl zzr58 (by decide) (by decide) ?_
    show z_ev (d + 1) 183 4 [some (.ref 4), some (.int p1), some (.int p2), none] [.int 0] M0 _
    refine z_xZ zt183 2 rfl rfl (fun (h4 : (0 : Int) = 0) => ?_) (fun (h4 : (0 : Int) ≠ 0) => absurd h4 (by omega))
    refine z_xP zt183 9 20 [some (.ref 4), some (.int p1), some (.int p2), none] [.int (-1)] rfl rfl ?_
    have qm1 : (((-1) : Int32)).toInt = (-1) := rfl
    exact z_xri zt183 10 rfl zzr183 (kk (-1) M0 X (by omega) (by omega))
  refine z_xP zt58 4 15 [some (.int p1)] [.int 1] rfl rfl ?_
  refine z_xrz zt58 6 rfl zzr58 (by decide) (by decide) ?_
  show z_ev (d + 1) 183 4 [some (.ref 4), some (.int p1), some (.int p2), none] [.int 1] M0 _
  refine z_xZ zt183 2 rfl rfl (fun (h5 : (1 : Int) = 0) => absurd h5 (by omega)) (fun (h5 : (1 : Int) ≠ 0) => ?_)
  refine z_xP zt183 3 8 [some (.ref 4), some (.int p1), some (.int p2), none] [.int p2] rfl rfl ?_
  refine z_xZ zt183 4 rfl rfl (fun (h6 : p2.toInt < 0) => ?_) (fun (h6 : 0 ≤ p2.toInt) => ?_)
  · skip
    refine z_xP zt183 9 20 [some (.ref 4), some (.int p1), some (.int p2), none] [.int (-1)] rfl rfl ?_
    have qm1 : (((-1) : Int32)).toInt = (-1) := rfl
    exact z_xri zt183 10 rfl zzr183 (kk (-1) M0 X (by omega) (by omega))
  refine z_xP zt183 5 12 [some (.ref 4), some (.int p1), some (.int p2), none] [.int p2] rfl rfl ?_
  refine z_xgs zt183 6 rfl zo183 zg0_185 ?_
  have f3 : T[3]? = some (.inr (3, 0, 8, (-1), 5)) := X.1.k rfl (by decide)
  refine z_xln zt183 7 rfl X f3 (by decide) (by decide) (fun (x7 : Int32) (h8 : x7.toInt = ((8 : Nat) : Int)) => ?_)
  have h9 := z_b32 p2
  refine z_xJ zt183 8 rfl rfl (fun (h10 : p2.toInt < x7.toInt) => ?_) (fun (h10 : x7.toInt ≤ p2.toInt) => ?_)
  · skip
    refine z_xP zt183 11 22 [some (.ref 4), some (.int p1), some (.int p2), none] [.ref 4] rfl rfl ?_
    have f4 : T[4]? = some (.inl (0, 0, 0, 0, 0)) := X.1.k rfl (by decide)
    refine z_xgX (b := 14) zt183 12 rfl zo183 zzf0_35 X f4 (by decide) (by decide) rfl ?_
    refine z_xP zt183 13 26 [some (.ref 4), some (.int p1), some (.int p2), none] [.int p1, .ref 14] rfl rfl ?_
    have f14 : T[14]? = some (.inr (14, 0, 6, (-1), 5)) := X.1.k rfl (by decide)
    refine z_xil zt183 14 rfl X f14 (by decide) (by omega) (by omega) (fun (x11 : Int32) h12 (h13 : (-1) ≤ x11.toInt) (h14 : x11.toInt ≤ 5) => ?_)
    refine z_xP zt183 15 28 [some (.ref 4), some (.int p1), some (.int p2), none] [.int (-1), .int x11] rfl rfl ?_
    refine z_xJ zt183 16 rfl rfl (fun (h15 : x11.toInt ≠ (-1)) => ?_) (fun (h15 : x11.toInt = (-1)) => ?_)
    · skip
      refine z_xP zt183 19 35 [some (.ref 4), some (.int p1), some (.int p2), none] [.ref 4] rfl rfl ?_
      refine z_xgX (b := 17) zt183 20 rfl zo183 zzf0_45 X f4 (by decide) (by decide) rfl ?_
      refine z_xP zt183 21 39 [some (.ref 4), some (.int p1), some (.int p2), none] [.int p1, .ref 17] rfl rfl ?_
      have f17 : T[17]? = some (.inr (17, 3, 6, 0, 0)) := X.1.k rfl (by decide)
      refine z_xal zt183 22 rfl X f17 (by decide) (by decide) (by decide) (by omega) (by omega) (fun (a16 : Nat) h17 h18 => ?_) (fun h19 => ?_)
      · skip
        obtain ⟨c20, w21l, w21u, k22⟩ : ∃ ci, 4 ≤ ci ∧ ci ≤ 11 ∧ T[a16]? = some (.inl (ci, 0, 0, 0, 0)) := h18
        have w21 := And.intro w21l w21u
        refine z_xP zt183 23 45 [some (.ref 4), some (.int p1), some (.int p2), some (.ref a16)] [] rfl rfl ?_
        refine z_xP zt183 24 47 [some (.ref 4), some (.int p1), some (.int p2), some (.ref a16)] [.int p2, .ref a16] rfl rfl ?_
        refine z_xcV (vs := [.ref a16, .int p2]) (r := []) (L2 := [some (.ref a16), some (.int p2), none, none]) zt183 25 rfl zo183 zzcV0_334 (Or.inr rfl) rfl X k22 (z_w8 (fun c => (([(4, 184), (10, 184), (7, 184), (5, 184), (11, 184), (8, 184), (6, 184), (9, 184)] : List (Nat × Nat)).find? fun t => t.1 == c) = some (c, 184)) rfl rfl rfl rfl rfl rfl rfl rfl w21) rfl rfl (Nat.le_of_ble_eq_true rfl) zzm184 (Nat.le_of_ble_eq_true rfl) rfl ?_
        refine zC184 X.1 w21 k22 (by omega) (fun x25 M23 X24 h26 h27 => ?_)
        have X28 := X.go X24 (z_sb (by decide))
        show z_ev (d + 1) 183 50 [some (.ref 4), some (.int p1), some (.int p2), some (.ref a16)] [.int x25] M23 _
        refine z_xZ zt183 26 rfl rfl (fun (h30 : x25.toInt = 0) => ?_) (fun (h30 : x25.toInt ≠ 0) => ?_)
        · skip
          refine z_xP zt183 30 62 [some (.ref 4), some (.int p1), some (.int p2), some (.ref a16)] [.int (-12)] rfl rfl ?_
          have qm12 : (((-12) : Int32)).toInt = (-12) := rfl
          exact z_xri zt183 31 rfl zzr183 (kk (-12) M23 X28 (by omega) (by omega))
        refine z_xP zt183 27 54 [some (.ref 4), some (.int p1), some (.int p2), some (.ref a16)] [.ref a16] rfl rfl ?_
        refine z_xgI zt183 28 rfl zo183 zzf0_225 X28 k22 (z_w8 (fun c => c ∈ ([4, 5, 6, 7, 8, 9, 10, 11] : List Nat)) (by decide) (by decide) (by decide) (by decide) (by decide) (by decide) (by decide) (by decide) w21) (z_nf8 w21 (by decide)) (z_fs8 w21) (fun (x32 : Int32) h31 (h33 : 0 ≤ x32.toInt) (h34 : x32.toInt ≤ 7) => ?_)
        refine z_xP zt183 29 62 [some (.ref 4), some (.int p1), some (.int p2), some (.ref a16)] [.int x32] rfl rfl ?_
        exact z_xri zt183 31 rfl zzr183 (kk x32 M23 X28 (by omega) (by omega))
      refine z_xP zt183 23 60 [some (.ref 4), some (.int p1), some (.int p2), some (.null)] [] rfl rfl ?_
      refine z_xP zt183 30 62 [some (.ref 4), some (.int p1), some (.int p2), some (.null)] [.int (-12)] rfl rfl ?_
      have qm12 : (((-12) : Int32)).toInt = (-12) := rfl
      exact z_xri zt183 31 rfl zzr183 (kk (-12) M0 X (by omega) (by omega))
    refine z_xP zt183 17 33 [some (.ref 4), some (.int p1), some (.int p2), none] [.int (-11)] rfl rfl ?_
    have qm11 : (((-11) : Int32)).toInt = (-11) := rfl
    exact z_xri zt183 18 rfl zzr183 (kk (-11) M0 X (by omega) (by omega))
  refine z_xP zt183 9 20 [some (.ref 4), some (.int p1), some (.int p2), none] [.int (-1)] rfl rfl ?_
  have qm1 : (((-1) : Int32)).toInt = (-1) := rfl
  exact z_xri zt183 10 rfl zzr183 (kk (-1) M0 X (by omega) (by omega))
def zw186 : List Nat := []
theorem zB186 {T : List zK} {d : Nat} {K : Option Value → zH → Prop}  {M0 : zH}  (hG : z_GG T M0) (kk : ∀ (x : Int32) (M1 : zH), z_X T zw186 M0 M1 → K (some (.int x)) M1) : ∀ n : Nat, (∀ (M : zH) (b1 : Int32) (b2 : Int32), z_X T zw186 M0 M → 0 ≤ b2.toInt ∧ b2.toInt ≤ 8 → ((0) * 2 + 0) * 9 + (8 - b2.toInt) < (n : Int) → z_ev d 186 4 [some (.ref 4), some (.int b1), some (.int b2)] [] M K) := by
  intro n
  induction n with
  | zero => exact by intros; exfalso; omega
  | succ n ih =>
    intro M b1 b2 X hh0 hE
    refine z_xP zt186 1 6 [some (.ref 4), some (.int b1), some (.int b2)] [.ref 4, .int b2] rfl rfl ?_
    have f4 : T[4]? = some (.inl (0, 0, 0, 0, 0)) := X.1.k rfl (by decide)
    refine z_xgI zt186 2 rfl zo186 zzf0_59 X f4 (by decide) (by decide) rfl (fun (x2 : Int32) h1 (h3 : 0 ≤ x2.toInt) (h4 : x2.toInt ≤ 8) => ?_)
    refine z_xJ zt186 3 rfl rfl (fun (h5 : x2.toInt ≤ b2.toInt) => ?_) (fun (h5 : b2.toInt < x2.toInt) => ?_)
    · skip
      refine z_xP zt186 13 31 [some (.ref 4), some (.int b1), some (.int b2)] [.int b1] rfl rfl ?_
      exact z_xri zt186 14 rfl zzr186 (kk b1 M X)
    refine z_xP zt186 4 14 [some (.ref 4), some (.int b1), some (.int b2)] [.ref 4, .int b1] rfl rfl ?_
    refine z_xgX (b := 10) zt186 5 rfl zo186 zzf0_18 X f4 (by decide) (by decide) rfl ?_
    refine z_xP zt186 6 18 [some (.ref 4), some (.int b1), some (.int b2)] [.int b2, .ref 10, .int b1] rfl rfl ?_
    have f10 : T[10]? = some (.inr (10, 2, 8, 9, 0)) := X.1.k rfl (by decide)
    refine z_xal zt186 7 rfl X f10 (by decide) (by decide) (by decide) (by omega) (by omega) (fun (a6 : Nat) h7 h8 => ?_) (fun h9 => absurd h9 (z_Gs (hG.go X (by decide)).2.1 h1 (by omega) (by omega)))
    obtain ⟨q10, t11, m12, k13⟩ : ∃ q t m, T[a6]? = some (.inl (3, q, t, m, 9)) := h8
    have g14 := X.1.p3 k13
    refine z_xgI zt186 8 rfl zo186 zzf0_105 X k13 (by decide) (by decide) rfl (fun (x16 : Int32) h15 (h17 : 0 ≤ x16.toInt) (h18 : x16.toInt ≤ (9 : Int)) => ?_)
    have h19 := z_b32 b1
    refine z_xI zt186 9 rfl rfl (P := fun _ => True) (fun (x20 : Int32) _ => ?_) trivial
    refine z_xP zt186 10 24 [some (.ref 4), some (.int x20), some (.int b2)] [] rfl rfl ?_
    refine z_xN zt186 11 rfl rfl (fun (x22 : Int32) (h23 : x22.toInt = b2.toInt + 1) => ?_) (z_pAdd rfl rfl (by omega) (by omega))
    show z_ev d 186 27 [some (.ref 4), some (.int x20), some (.int x22)] [] M _
    refine z_xP zt186 12 4 [some (.ref 4), some (.int x20), some (.int x22)] [] rfl rfl ?_
    exact ih M x20 x22 X ⟨by omega, by omega⟩ (by omega)
theorem zC186 {T : List zK} {d : Nat} {K : Option Value → zH → Prop}  {M0 : zH} (hW : z_W M0 T)  (hG : z_GG T M0) (kk : ∀ (x : Int32) (M1 : zH), z_X T zw186 M0 M1 → K (some (.int x)) M1) : z_ev d 186 0 [some (.ref 4), none, none] [] M0 K := by
  have X : z_X T zw186 M0 M0 := .refl hW
  refine z_xP zt186 0 4 [some (.ref 4), some (.int 0), some (.int 0)] [] rfl rfl ?_
  have q0 : ((0 : Int32)).toInt = 0 := rfl
  exact (zB186 hG kk 18) M0 (0) (0) X (by decide) (by omega)
def zw185 : List Nat := []
theorem zC185 {T : List zK} {d : Nat} {K : Option Value → zH → Prop} {p1 : Int32} {M0 : zH} (hW : z_W M0 T)  (hG : z_GG T M0) (kk : ∀ (x : Int32) (M1 : zH), z_X T zw185 M0 M1 → K (some (.int x)) M1) : z_ev (d + 1) 185 0 [some (.ref 4), some (.int p1)] [] M0 K := by
  have X : z_X T zw185 M0 M0 := .refl hW
  refine z_xP zt185 0 1 [some (.ref 4), some (.int p1)] [.int p1] rfl rfl ?_
  by_cases h1 : p1.toInt = 0
  · refine z_xSC zt185 1 (z_sub (k := 0) h1 rfl) 36 rfl rfl ?_
    refine z_xP zt185 2 37 [some (.ref 4), some (.int p1)] [.ref 4] rfl rfl ?_
    have f4 : T[4]? = some (.inl (0, 0, 0, 0, 0)) := X.1.k rfl (by decide)
    refine z_xgI zt185 3 rfl zo185 zzf0_59 X f4 (by decide) (by decide) rfl (fun (x3 : Int32) h2 (h4 : 0 ≤ x3.toInt) (h5 : x3.toInt ≤ 8) => ?_)
    exact z_xri zt185 4 rfl zzr185 (kk x3 M0 X)
  by_cases h6 : p1.toInt = 1
  · refine z_xSC zt185 1 (z_sub (k := 1) h6 rfl) 41 rfl rfl ?_
    refine z_xP zt185 5 42 [some (.ref 4), some (.int p1)] [.ref 4] rfl rfl ?_
    have f4 : T[4]? = some (.inl (0, 0, 0, 0, 0)) := X.1.k rfl (by decide)
    refine z_xgI zt185 6 rfl zo185 zzf0_188 X f4 (by decide) (by decide) rfl (fun (x8 : Int32) h7 (h9 : 0 ≤ x8.toInt) (h10 : x8.toInt ≤ 20) => ?_)
    exact z_xri zt185 7 rfl zzr185 (kk x8 M0 X)
  by_cases h11 : p1.toInt = 2
  · refine z_xSC zt185 1 (z_sub (k := 2) h11 rfl) 46 rfl rfl ?_
    refine z_xP zt185 8 47 [some (.ref 4), some (.int p1)] [.ref 4] rfl rfl ?_
    have f4 : T[4]? = some (.inl (0, 0, 0, 0, 0)) := X.1.k rfl (by decide)
    refine z_xgX (b := 5) zt185 9 rfl zo185 zzf0_10 X f4 (by decide) (by decide) rfl ?_
    have f5 : T[5]? = some (.inl (1, 0, 0, 0, 0)) := X.1.k rfl (by decide)
    refine z_xgI zt185 10 rfl zo185 zzf0_55 X f5 (by decide) (by decide) rfl (fun (x13 : Int32) h12 (h14 : 0 ≤ x13.toInt) (h15 : x13.toInt ≤ 160) => ?_)
    exact z_xri zt185 11 rfl zzr185 (kk x13 M0 X)
  by_cases h16 : p1.toInt = 3
  · refine z_xSC zt185 1 (z_sub (k := 3) h16 rfl) 54 rfl rfl ?_
    refine z_xP zt185 12 55 [some (.ref 4), some (.int p1)] [.ref 4] rfl rfl ?_
    have f4 : T[4]? = some (.inl (0, 0, 0, 0, 0)) := X.1.k rfl (by decide)
    refine z_xcV (vs := [.ref 4]) (r := []) (L2 := [some (.ref 4), none, none]) zt185 13 rfl zo185 zzcV0_337 (Or.inl rfl) rfl X f4 rfl rfl rfl (Nat.le_of_ble_eq_true rfl) zzm186 (Nat.le_of_ble_eq_true rfl) rfl ?_
    refine zC186 X.1 (hG.go X (by decide)) (fun x19 M17 X18  => ?_)
    have X20 := X.go X18 (z_sb (by decide))
    show z_ev (d + 1) 185 58 [some (.ref 4), some (.int p1)] [.int x19] M17 _
    exact z_xri zt185 14 rfl zzr185 (kk x19 M17 X20)
  by_cases h22 : p1.toInt = 4
  · refine z_xSC zt185 1 (z_sub (k := 4) h22 rfl) 59 rfl rfl ?_
    refine z_xP zt185 15 60 [some (.ref 4), some (.int p1)] [.ref 4] rfl rfl ?_
    have f4 : T[4]? = some (.inl (0, 0, 0, 0, 0)) := X.1.k rfl (by decide)
    refine z_xgX (b := 13) zt185 16 rfl zo185 zzf0_31 X f4 (by decide) (by decide) rfl ?_
    refine z_xP zt185 17 64 [some (.ref 4), some (.int p1)] [.int 0, .ref 13] rfl rfl ?_
    have f13 : T[13]? = some (.inr (13, 0, 25, (-2147483648), 2147483647)) := X.1.k rfl (by decide)
    refine z_xil zt185 18 rfl X f13 (by decide) (by decide) (by decide) (fun (x23 : Int32) h24 (h25 : (-2147483648) ≤ x23.toInt) (h26 : x23.toInt ≤ 2147483647) => ?_)
    have q0 : ((0 : Int32)).toInt = 0 := rfl
    have h27 := z_r0 h24 (by omega)
    exact z_xri zt185 19 rfl zzr185 (kk x23 M0 X)
  refine z_xSD zt185 1 rfl rfl (by omega) ?_
  refine z_xP zt185 20 67 [some (.ref 4), some (.int p1)] [.int (-1)] rfl rfl ?_
  have qm1 : (((-1) : Int32)).toInt = (-1) := rfl
  exact z_xri zt185 21 rfl zzr185 (kk (-1) M0 X)
def zw188 : List Nat := [20, 2201]
theorem zB188 {T : List zK} {d : Nat} {K : Option Value → zH → Prop} {p1 : Int32} {p2 : Int32} {M0 : zH}  (kk : ∀ (x : Int32) (M1 : zH), z_X T zw188 M0 M1 → (-3) ≤ x.toInt → x.toInt ≤ 160 → K (some (.int x)) M1) : ∀ n : Nat, (∀ (M : zH) (b3 : Int32) (z0 : Int32), z_X T zw188 M0 M → 1 ≤ p1.toInt ∧ p1.toInt ≤ 4 → 0 ≤ b3.toInt ∧ b3.toInt ≤ 4 → z_F M 19 1 = some (.int z0) → 0 ≤ z0.toInt ∧ z0.toInt ≤ 160 → z0.toInt + p1.toInt - b3.toInt ≤ 160 → b3.toInt ≤ p1.toInt → ((0) * 2 + 0) * 5 + (4 - b3.toInt) < (n : Int) → z_ev (d + 1) 188 31 [some (.ref 19), some (.int p1), some (.int p2), some (.int b3)] [] M K) := by
  intro n
  induction n with
  | zero => exact by intros; exfalso; omega
  | succ n ih =>
    intro M b3 z0 X hh0 hh1 hp0 hh3 hh4 hh5 hE
    refine z_xP zt188 17 33 [some (.ref 19), some (.int p1), some (.int p2), some (.int b3)] [.int p1, .int b3] rfl rfl ?_
    refine z_xJ zt188 18 rfl rfl (fun (h1 : p1.toInt ≤ b3.toInt) => ?_) (fun (h1 : b3.toInt < p1.toInt) => ?_)
    · skip
      refine z_xP zt188 36 72 [some (.ref 19), some (.int p1), some (.int p2), some (.int b3)] [.ref 19] rfl rfl ?_
      have f19 : T[19]? = some (.inl (12, 0, 0, 0, 0)) := X.1.k rfl (by decide)
      refine z_xgv zt188 37 rfl zo188 zzf12_120 X f19 (by decide) hp0 ?_
      exact z_xri zt188 38 rfl zzr188 (kk z0 M X (by omega) (by omega))
    refine z_xP zt188 19 37 [some (.ref 19), some (.int p1), some (.int p2), some (.int b3)] [.ref 19] rfl rfl ?_
    have f19 : T[19]? = some (.inl (12, 0, 0, 0, 0)) := X.1.k rfl (by decide)
    refine z_xgX (b := 20) zt188 20 rfl zo188 zzf12_9 X f19 (by decide) (by decide) rfl ?_
    refine z_xP zt188 21 41 [some (.ref 19), some (.int p1), some (.int p2), some (.int b3)] [.ref 19, .ref 20] rfl rfl ?_
    refine z_xgv zt188 22 rfl zo188 zzf12_120 X f19 (by decide) hp0 ?_
    refine z_xP zt188 23 48 [some (.ref 19), some (.int p1), some (.int p2), some (.int b3)] [.int b3, .int 8, .int p2, .int z0, .ref 20] rfl rfl ?_
    refine z_xI zt188 24 rfl rfl (fun (x2 : Int32) (h3 : x2.toInt = 8 * b3.toInt) => ?_) (z_pMul rfl rfl (by omega) (by omega))
    have h4 := z_b32 p2
    refine z_xI zt188 25 rfl rfl (P := fun _ => True) (fun (x5 : Int32) _ => ?_) trivial
    refine z_xP zt188 26 53 [some (.ref 19), some (.int p1), some (.int p2), some (.int b3)] [.int 255, .int x5, .int z0, .ref 20] rfl rfl ?_
    refine z_xI zt188 27 rfl rfl (fun (x7 : Int32) (h8 : 0 ≤ x7.toInt ∧ x7.toInt ≤ 255) => ?_) (z_pAnd rfl (by omega))
    have f20 : T[20]? = some (.inr (20, 0, 160, (-2147483648), 2147483647)) := X.1.k rfl (by decide)
    refine z_xis zt188 28 rfl X f20 (by decide) (by decide) (by omega) (by omega) (Int32.le_toInt _) (Int32.toInt_le _) (by decide) (fun M9 X10 e11 h12 => ?_)
    refine z_xP zt188 29 57 [some (.ref 19), some (.int p1), some (.int p2), some (.int b3)] [.ref 19, .ref 19] rfl rfl ?_
    have h13 := (e11.f f19 (by decide) hp0)
    refine z_xgv zt188 30 rfl zo188 zzf12_120 X10 f19 (by decide) h13 ?_
    refine z_xP zt188 31 61 [some (.ref 19), some (.int p1), some (.int p2), some (.int b3)] [.int 1, .int z0, .ref 19] rfl rfl ?_
    refine z_xI zt188 32 rfl rfl (fun (x14 : Int32) (h15 : x14.toInt = z0.toInt + 1) => ?_) (z_pAdd rfl rfl (by omega) (by omega))
    refine z_xpf zt188 33 rfl zo188 zzf12_120 X10 f19 (by decide) (by decide) ⟨by omega, by omega⟩ rfl (by decide) zw12_1 (fun M16 X17 e18 h19 => ?_)
    refine z_xN zt188 34 rfl rfl (fun (x20 : Int32) (h21 : x20.toInt = b3.toInt + 1) => ?_) (z_pAdd rfl rfl (by omega) (by omega))
    show z_ev (d + 1) 188 68 [some (.ref 19), some (.int p1), some (.int p2), some (.int x20)] [] M16 _
    refine z_xP zt188 35 31 [some (.ref 19), some (.int p1), some (.int p2), some (.int x20)] [] rfl rfl ?_
    exact ih M16 x20 x14 X17 ⟨by omega, by omega⟩ ⟨by omega, by omega⟩ h19 ⟨by omega, by omega⟩ (by omega) (by omega) (by omega)
theorem zC188 {T : List zK} {d : Nat} {K : Option Value → zH → Prop} {p1 : Int32} {p2 : Int32} {M0 : zH} (hW : z_W M0 T)  (kk : ∀ (x : Int32) (M1 : zH), z_X T zw188 M0 M1 → (-3) ≤ x.toInt → x.toInt ≤ 160 → K (some (.int x)) M1) : z_ev (d + 1) 188 0 [some (.ref 19), some (.int p1), some (.int p2), none] [] M0 K := by
  have X : z_X T zw188 M0 M0 := .refl hW
  refine z_xP zt188 0 1 [some (.ref 19), some (.int p1), some (.int p2), none] [.int p1] rfl rfl ?_
  have h1 := z_b32 p1
  refine z_xL zt188 1 rfl rfl (fun (y2 : Int64) (h3 : y2.toInt = p1.toInt) => ?_) (z_qI2L rfl)
  refine z_xP zt188 2 3 [some (.ref 19), some (.int p1), some (.int p2), none] [.long 1, .long y2] rfl rfl ?_
  refine z_xl2 zt188 3 rfl zo188 zkl12_114 ?_
  refine z_xcS (vs := [.long y2, .long 1, .long 4]) (r := []) (L2 := [some (.long y2), none, some (.long 1), none, some (.long 4), none]) zt188 4 rfl zo188 zzcS12_116 (Or.inl rfl) (Nat.le_of_ble_eq_true rfl) rfl rfl (Nat.le_of_ble_eq_true rfl) zzm189 (Nat.le_of_ble_eq_true rfl) rfl ?_
  refine z_xP zt189 0 2 [some (.long y2), none, some (.long 1), none, some (.long 4), none] [.long 1, .long y2] rfl rfl ?_
  refine z_xI zt189 1 rfl rfl (fun (x4 : Int32) (h5 : (x4.toInt < 0 ∧ y2.toInt < 1) ∨ (x4.toInt = 0 ∧ y2.toInt = 1) ∨ (0 < x4.toInt ∧ 1 < y2.toInt)) => ?_) (z_qCmp rfl rfl)
  refine z_xZ zt189 2 rfl rfl (fun (h6 : x4.toInt < 0) => ?_) (fun (h6 : 0 ≤ x4.toInt) => ?_)
  · skip
    refine z_xP zt189 7 18 [some (.long y2), none, some (.long 1), none, some (.long 4), none] [.int 0] rfl rfl ?_
    refine z_xrz zt189 8 rfl zzr189 (by decide) (by decide) ?_
    show z_ev (d + 1) 188 9 [some (.ref 19), some (.int p1), some (.int p2), none] [.int 0] M0 _
    refine z_xZ zt188 5 rfl rfl (fun (h7 : (0 : Int) ≠ 0) => absurd h7 (by omega)) (fun (h7 : (0 : Int) = 0) => ?_)
    refine z_xP zt188 6 13 [some (.ref 19), some (.int p1), some (.int p2), none] [.int (-1)] rfl rfl ?_
    have qm1 : (((-1) : Int32)).toInt = (-1) := rfl
    exact z_xri zt188 7 rfl zzr188 (kk (-1) M0 X (by omega) (by omega))
  refine z_xP zt189 3 9 [some (.long y2), none, some (.long 1), none, some (.long 4), none] [.long 4, .long y2] rfl rfl ?_
  refine z_xI zt189 4 rfl rfl (fun (x8 : Int32) (h9 : (x8.toInt < 0 ∧ y2.toInt < 4) ∨ (x8.toInt = 0 ∧ y2.toInt = 4) ∨ (0 < x8.toInt ∧ 4 < y2.toInt)) => ?_) (z_qCmp rfl rfl)
  refine z_xZ zt189 5 rfl rfl (fun (h10 : 0 < x8.toInt) => ?_) (fun (h10 : x8.toInt ≤ 0) => ?_)
  · skip
    refine z_xP zt189 7 18 [some (.long y2), none, some (.long 1), none, some (.long 4), none] [.int 0] rfl rfl ?_
    refine z_xrz zt189 8 rfl zzr189 (by decide) (by decide) ?_
    show z_ev (d + 1) 188 9 [some (.ref 19), some (.int p1), some (.int p2), none] [.int 0] M0 _
    refine z_xZ zt188 5 rfl rfl (fun (h11 : (0 : Int) ≠ 0) => absurd h11 (by omega)) (fun (h11 : (0 : Int) = 0) => ?_)
    refine z_xP zt188 6 13 [some (.ref 19), some (.int p1), some (.int p2), none] [.int (-1)] rfl rfl ?_
    have qm1 : (((-1) : Int32)).toInt = (-1) := rfl
    exact z_xri zt188 7 rfl zzr188 (kk (-1) M0 X (by omega) (by omega))
  refine z_xP zt189 6 18 [some (.long y2), none, some (.long 1), none, some (.long 4), none] [.int 1] rfl rfl ?_
  refine z_xrz zt189 8 rfl zzr189 (by decide) (by decide) ?_
  show z_ev (d + 1) 188 9 [some (.ref 19), some (.int p1), some (.int p2), none] [.int 1] M0 _
  refine z_xZ zt188 5 rfl rfl (fun (h12 : (1 : Int) ≠ 0) => ?_) (fun (h12 : (1 : Int) = 0) => absurd h12 (by omega))
  refine z_xP zt188 8 15 [some (.ref 19), some (.int p1), some (.int p2), none] [.ref 19] rfl rfl ?_
  have f19 : T[19]? = some (.inl (12, 0, 0, 0, 0)) := X.1.k rfl (by decide)
  refine z_xgI zt188 9 rfl zo188 zzf12_120 X f19 (by decide) (by decide) rfl (fun (x14 : Int32) h13 (h15 : 0 ≤ x14.toInt) (h16 : x14.toInt ≤ 160) => ?_)
  refine z_xP zt188 10 19 [some (.ref 19), some (.int p1), some (.int p2), none] [.int p1, .int x14] rfl rfl ?_
  refine z_xI zt188 11 rfl rfl (fun (x17 : Int32) (h18 : x17.toInt = x14.toInt + p1.toInt) => ?_) (z_pAdd rfl rfl (by omega) (by omega))
  refine z_xP zt188 12 23 [some (.ref 19), some (.int p1), some (.int p2), none] [.int 160, .int x17] rfl rfl ?_
  refine z_xJ zt188 13 rfl rfl (fun (h19 : x17.toInt ≤ 160) => ?_) (fun (h19 : 160 < x17.toInt) => ?_)
  · skip
    refine z_xP zt188 16 31 [some (.ref 19), some (.int p1), some (.int p2), some (.int 0)] [] rfl rfl ?_
    have q0 : ((0 : Int32)).toInt = 0 := rfl
    exact (zB188 kk 10) M0 (0) x14 X ⟨by omega, by omega⟩ (by decide) h13 ⟨by omega, by omega⟩ (by omega) (by omega) (by omega)
  refine z_xP zt188 14 28 [some (.ref 19), some (.int p1), some (.int p2), none] [.int (-3)] rfl rfl ?_
  have qm3 : (((-3) : Int32)).toInt = (-3) := rfl
  exact z_xri zt188 15 rfl zzr188 (kk (-3) M0 X (by omega) (by omega))
def zw195 : List Nat := []
theorem zB195 {T : List zK} {d : Nat} {K : Option Value → zH → Prop} {p1 : Int32} {zp0 : Int32} {M0 : zH} (hz0 : z_F M0 19 22 = some (.int zp0)) (bz0 : 0 ≤ zp0.toInt ∧ zp0.toInt ≤ 7) (hL : z_GL M0) (kk : ∀ (x : Int32) (M1 : zH), z_X T zw195 M0 M1 → (-1) ≤ x.toInt → x.toInt ≤ 9 → (x.toInt < 0 ∨ (p1.toInt ≠ 0 ∧ x.toInt < 10)) → (x.toInt < 0 → z_NQ M0 zp0 p1 (z_Ar M0 24 zp0.toNatClampNeg).toInt) → ∀ (w0 : Int32), z_F M1 19 22 = some (.int w0) → 0 ≤ w0.toInt ∧ w0.toInt ≤ 7 → w0.toInt = zp0.toInt → K (some (.int x)) M1) : ∀ n : Nat, (∀ (M : zH) (b2 : Int32) (z0 : Int32) (z1 : Int32), z_X T zw195 M0 M → 0 ≤ b2.toInt ∧ b2.toInt ≤ 10 → z_F M 19 22 = some (.int z0) → 0 ≤ z0.toInt ∧ z0.toInt ≤ 7 → z_Ar M 24 z0.toNatClampNeg = z1 → 0 ≤ z1.toInt ∧ z1.toInt ≤ 10 → z0.toInt = zp0.toInt → 0 ≤ b2.toInt → z_NQ M z0 p1 b2.toInt → ((0) * 2 + 0) * 11 + (10 - b2.toInt) < (n : Int) → z_ev d 195 2 [some (.ref 19), some (.int p1), some (.int b2)] [] M K) := by
  intro n
  induction n with
  | zero => exact by intros; exfalso; omega
  | succ n ih =>
    intro M b2 z0 z1 X hh0 hp0 hh2 hp1 hh4 hh5 hh6 hq hE
    refine z_xP zt195 1 4 [some (.ref 19), some (.int p1), some (.int b2)] [.ref 19, .int b2] rfl rfl ?_
    have f19 : T[19]? = some (.inl (12, 0, 0, 0, 0)) := X.1.k rfl (by decide)
    refine z_xgX (b := 24) zt195 2 rfl zo195 zzf12_22 X f19 (by decide) (by decide) rfl ?_
    refine z_xP zt195 3 8 [some (.ref 19), some (.int p1), some (.int b2)] [.ref 19, .ref 24, .int b2] rfl rfl ?_
    refine z_xgv zt195 4 rfl zo195 zzf12_133 X f19 (by decide) hp0 ?_
    have f24 : T[24]? = some (.inr (24, 0, 8, 0, 10)) := X.1.k rfl (by decide)
    refine z_xil zt195 5 rfl X f24 (by decide) (by omega) (by omega) (fun (x1 : Int32) h2 (h3 : 0 ≤ x1.toInt) (h4 : x1.toInt ≤ 10) => ?_)
    have h5 := congrArg Int32.toInt (h2.symm.trans hp1)
    refine z_xJ zt195 6 rfl rfl (fun (h6 : x1.toInt ≤ b2.toInt) => ?_) (fun (h6 : b2.toInt < x1.toInt) => ?_)
    · skip
      refine z_xP zt195 21 42 [some (.ref 19), some (.int p1), some (.int b2)] [.int (-1)] rfl rfl ?_
      have f23 : T[23]? = some (.inr (23, 0, 80, (-2147483648), 2147483647)) := X.1.k rfl (by decide)
      obtain rfl : z0 = zp0 := z_sub (c := zp0.toInt) (by omega) rfl
      have h7 : (z_Ar M0 24 z0.toNatClampNeg).toInt = z1.toInt := by rw [← X.2.a f24 (by decide)]; exact congrArg Int32.toInt hp1
      have qm1 : (((-1) : Int32)).toInt = (-1) := rfl
      exact z_xri zt195 22 rfl zzr195 (kk (-1) M X (by omega) (by omega) (by omega) (fun _ => z_NQm hq (X.2.a f23 (by decide)).symm (by omega)) z0 hp0 ⟨by omega, by omega⟩ (by omega))
    refine z_xP zt195 7 16 [some (.ref 19), some (.int p1), some (.int b2)] [.ref 19] rfl rfl ?_
    refine z_xgX (b := 23) zt195 8 rfl zo195 zzf12_19 X f19 (by decide) (by decide) rfl ?_
    refine z_xP zt195 9 22 [some (.ref 19), some (.int p1), some (.int b2)] [.ref 19, .int 10, .ref 23] rfl rfl ?_
    refine z_xgv zt195 10 rfl zo195 zzf12_133 X f19 (by decide) hp0 ?_
    refine z_xI zt195 11 rfl rfl (fun (x9 : Int32) (h10 : x9.toInt = 10 * z0.toInt) => ?_) (z_pMul rfl rfl (by omega) (by omega))
    refine z_xP zt195 12 27 [some (.ref 19), some (.int p1), some (.int b2)] [.int b2, .int x9, .ref 23] rfl rfl ?_
    refine z_xI zt195 13 rfl rfl (fun (x11 : Int32) (h12 : x11.toInt = x9.toInt + b2.toInt) => ?_) (z_pAdd rfl rfl (by omega) (by omega))
    have f23 : T[23]? = some (.inr (23, 0, 80, (-2147483648), 2147483647)) := X.1.k rfl (by decide)
    refine z_xil zt195 14 rfl X f23 (by decide) (by omega) (by omega) (fun (x13 : Int32) h14 (h15 : (-2147483648) ≤ x13.toInt) (h16 : x13.toInt ≤ 2147483647) => ?_)
    have h17 := z_GLu (z_GL.go hL X (by decide)) (r := z0) (q := b2) (i := x11) hp1 (by omega) (by omega) (by omega) (by omega) (by omega) h14
    refine z_xP zt195 15 30 [some (.ref 19), some (.int p1), some (.int b2)] [.int p1, .int x13] rfl rfl ?_
    have h18 := z_b32 x13
    have h19 := z_b32 p1
    refine z_xJ zt195 16 rfl rfl (fun (h20 : x13.toInt ≠ p1.toInt) => ?_) (fun (h20 : x13.toInt = p1.toInt) => ?_)
    · skip
      refine z_xN zt195 19 rfl rfl (fun (x21 : Int32) (h22 : x21.toInt = b2.toInt + 1) => ?_) (z_pAdd rfl rfl (by omega) (by omega))
      show z_ev d 195 38 [some (.ref 19), some (.int p1), some (.int x21)] [] M _
      refine z_xP zt195 20 2 [some (.ref 19), some (.int p1), some (.int x21)] [] rfl rfl ?_
      exact ih M x21 z0 z1 X ⟨by omega, by omega⟩ hp0 ⟨by omega, by omega⟩ hp1 ⟨by omega, by omega⟩ (by omega) (by omega) (z_NQs hq h14 (by omega) (by omega) (by omega) (by omega) (by omega)) (by omega)
    refine z_xP zt195 17 34 [some (.ref 19), some (.int p1), some (.int b2)] [.int b2] rfl rfl ?_
    exact z_xri zt195 18 rfl zzr195 (kk b2 M X (by omega) (by omega) (by omega) (fun hx => absurd hx (by omega)) z0 hp0 ⟨by omega, by omega⟩ (by omega))
theorem zC195 {T : List zK} {d : Nat} {K : Option Value → zH → Prop} {p1 : Int32} {zp0 : Int32} {M0 : zH} (hW : z_W M0 T) (hz0 : z_F M0 19 22 = some (.int zp0)) (bz0 : 0 ≤ zp0.toInt ∧ zp0.toInt ≤ 7) (hL : z_GL M0) (kk : ∀ (x : Int32) (M1 : zH), z_X T zw195 M0 M1 → (-1) ≤ x.toInt → x.toInt ≤ 9 → (x.toInt < 0 ∨ (p1.toInt ≠ 0 ∧ x.toInt < 10)) → (x.toInt < 0 → z_NQ M0 zp0 p1 (z_Ar M0 24 zp0.toNatClampNeg).toInt) → ∀ (w0 : Int32), z_F M1 19 22 = some (.int w0) → 0 ≤ w0.toInt ∧ w0.toInt ≤ 7 → w0.toInt = zp0.toInt → K (some (.int x)) M1) : z_ev d 195 0 [some (.ref 19), some (.int p1), none] [] M0 K := by
  have X : z_X T zw195 M0 M0 := .refl hW
  refine z_xP zt195 0 2 [some (.ref 19), some (.int p1), some (.int 0)] [] rfl rfl ?_
  have f19 : T[19]? = some (.inl (12, 0, 0, 0, 0)) := X.1.k rfl (by decide)
  have f24 : T[24]? = some (.inr (24, 0, 8, 0, 10)) := X.1.k rfl (by decide)
  obtain ⟨x1, h2, h3, h4⟩ := z_W.ae (x := zp0) X.1 f24 (by decide) (by omega) (by omega)
  have q0 : ((0 : Int32)).toInt = 0 := rfl
  exact (zB195 hz0 bz0 hL kk 22) M0 (0) zp0 x1 X (by decide) hz0 ⟨by omega, by omega⟩ h2 ⟨by omega, by omega⟩ (by omega) (by omega) (z_NQ0 (by omega)) (by omega)
def zw191 : List Nat := [23, 24, 2224, 2226]
theorem zB191 {T : List zK} {d : Nat} {K : Option Value → zH → Prop}  {M0 : zH} (hL : z_GL M0) (kk : ∀ (M1 : zH), z_X T zw191 M0 M1 → z_GL M1 → K none M1) : ∀ n : Nat, (∀ (M : zH) (b1 : Int32) (o2 : Option Value) (o3 : Option Value) (o4 : Option Value) (z0 : Int32) (z1 : Int32) (z2 : Int32), z_X T zw191 M0 M → 0 ≤ b1.toInt ∧ b1.toInt ≤ 1 → z_F M 19 22 = some (.int z0) → 0 ≤ z0.toInt ∧ z0.toInt ≤ 7 → z_F M 19 24 = some (.int z1) → 2 ≤ z1.toInt ∧ z1.toInt ≤ 160 → z_Ar M 24 z0.toNatClampNeg = z2 → 0 ≤ z2.toInt ∧ z2.toInt ≤ 10 → z_GL M → z_FP M z0 z2.toInt → ((0) * 2 + 0) * 323 + (2 * (160 - z1.toInt) + b1.toInt) < (n : Int) → z_ev (d + 2) 191 36 [some (.ref 19), some (.int b1), o2, o3, o4] [] M K) := by
  intro n
  induction n with
  | zero => exact by intros; exfalso; omega
  | succ n ih =>
    intro M b1 o2 o3 o4 z0 z1 z2 X hh0 hp0 hh2 hp1 hh4 hp2 hh6 hl hf hE
    refine z_xP zt191 17 37 [some (.ref 19), some (.int b1), o2, o3, o4] [.int b1] rfl rfl ?_
    refine z_xZ zt191 18 rfl rfl (fun (h1 : b1.toInt = 0) => ?_) (fun (h1 : b1.toInt ≠ 0) => ?_)
    · skip
      exact z_xrv zt191 71 rfl zzr191 (kk M X hl)
    refine z_xP zt191 19 41 [some (.ref 19), some (.int b1), o2, o3, o4] [.ref 19] rfl rfl ?_
    have f19 : T[19]? = some (.inl (12, 0, 0, 0, 0)) := X.1.k rfl (by decide)
    refine z_xcV (vs := [.ref 19]) (r := []) (L2 := [some (.ref 19)]) zt191 20 rfl zo191 zzcV12_139 (Or.inl rfl) rfl X f19 rfl rfl rfl (Nat.le_of_ble_eq_true rfl) zzm193 (Nat.le_of_ble_eq_true rfl) rfl ?_
    refine z_xP zt193 0 1 [some (.ref 19)] [.ref 19] rfl rfl ?_
    refine z_xgv zt193 1 rfl zo193 zzf12_123 X f19 (by decide) hp1 ?_
    refine z_xP zt193 2 5 [some (.ref 19)] [.ref 19, .int z1] rfl rfl ?_
    refine z_xgI zt193 3 rfl zo193 zzf12_126 X f19 (by decide) (by decide) rfl (fun (x3 : Int32) h2 (h4 : 0 ≤ x3.toInt) (h5 : x3.toInt ≤ 160) => ?_)
    refine z_xJ zt193 4 rfl rfl (fun (h6 : x3.toInt ≤ z1.toInt) => ?_) (fun (h6 : z1.toInt < x3.toInt) => ?_)
    · skip
      refine z_xP zt193 24 52 [some (.ref 19)] [.int 0] rfl rfl ?_
      refine z_xri zt193 25 rfl zzr193 ?_
      show z_ev (d + 2) 191 44 [some (.ref 19), some (.int b1), o2, o3, o4] [.int 0] M _
      refine z_xP zt191 21 46 [some (.ref 19), some (.int b1), some (.int 0), o3, o4] [.int 0] rfl rfl ?_
      refine z_xL zt191 22 rfl rfl (fun (y7 : Int64) (h8 : y7.toInt = 0) => ?_) (z_qI2L rfl)
      refine z_xl2 zt191 23 rfl zo191 zkl12_186 ?_
      refine z_xl2 zt191 24 rfl zo191 zkl12_188 ?_
      refine z_xcS (vs := [.long y7, .long 97, .long 106]) (r := []) (L2 := [some (.long y7), none, some (.long 97), none, some (.long 106), none]) zt191 25 rfl zo191 zzcS12_116 (Or.inl rfl) (Nat.le_of_ble_eq_true rfl) rfl rfl (Nat.le_of_ble_eq_true rfl) zzm189 (Nat.le_of_ble_eq_true rfl) rfl ?_
      refine z_xP zt189 0 2 [some (.long y7), none, some (.long 97), none, some (.long 106), none] [.long 97, .long y7] rfl rfl ?_
      refine z_xI zt189 1 rfl rfl (fun (x9 : Int32) (h10 : (x9.toInt < 0 ∧ y7.toInt < 97) ∨ (x9.toInt = 0 ∧ y7.toInt = 97) ∨ (0 < x9.toInt ∧ 97 < y7.toInt)) => ?_) (z_qCmp rfl rfl)
      refine z_xZ zt189 2 rfl rfl (fun (h11 : x9.toInt < 0) => ?_) (fun (h11 : 0 ≤ x9.toInt) => absurd h11 (by omega))
      refine z_xP zt189 7 18 [some (.long y7), none, some (.long 97), none, some (.long 106), none] [.int 0] rfl rfl ?_
      refine z_xrz zt189 8 rfl zzr189 (by decide) (by decide) ?_
      show z_ev (d + 2) 191 56 [some (.ref 19), some (.int b1), some (.int 0), o3, o4] [.int 0] M _
      refine z_xP zt191 26 58 [some (.ref 19), some (.int b1), some (.int 0), some (.int 0), o4] [.int 0] rfl rfl ?_
      refine z_xZ zt191 27 rfl rfl (fun (h12 : (0 : Int) = 0) => ?_) (fun (h12 : (0 : Int) ≠ 0) => absurd h12 (by omega))
      refine z_xP zt191 59 121 [some (.ref 19), some (.int 0), some (.int 0), some (.int 0), o4] [.int 0] rfl rfl ?_
      refine z_xZ zt191 60 rfl rfl (fun (h13 : (0 : Int) ≠ 0) => absurd h13 (by omega)) (fun (h13 : (0 : Int) = 0) => ?_)
      refine z_xP zt191 61 125 [some (.ref 19), some (.int 0), some (.int 0), some (.int 0), o4] [.ref 19] rfl rfl ?_
      refine z_xgX (b := 24) zt191 62 rfl zo191 zzf12_22 X f19 (by decide) (by decide) rfl ?_
      refine z_xP zt191 63 129 [some (.ref 19), some (.int 0), some (.int 0), some (.int 0), o4] [.ref 19, .ref 24] rfl rfl ?_
      refine z_xgv zt191 64 rfl zo191 zzf12_133 X f19 (by decide) hp0 ?_
      have f24 : T[24]? = some (.inr (24, 0, 8, 0, 10)) := X.1.k rfl (by decide)
      refine z_xil zt191 65 rfl X f24 (by decide) (by omega) (by omega) (fun (x14 : Int32) h15 (h16 : 0 ≤ x14.toInt) (h17 : x14.toInt ≤ 10) => ?_)
      have h18 := congrArg Int32.toInt (h15.symm.trans hp2)
      refine z_xZ zt191 66 rfl rfl (fun (h19 : x14.toInt ≠ 0) => ?_) (fun (h19 : x14.toInt = 0) => ?_)
      · skip
        refine z_xP zt191 70 36 [some (.ref 19), some (.int 0), some (.int 0), some (.int 0), o4] [] rfl rfl ?_
        have q0 : ((0 : Int32)).toInt = 0 := rfl
        exact ih M (0) (some (.int 0)) (some (.int 0)) (o4) z0 z1 z2 X (by decide) hp0 ⟨by omega, by omega⟩ hp1 ⟨by omega, by omega⟩ hp2 ⟨by omega, by omega⟩ hl (z_FPm hf rfl (by omega)) (by omega)
      refine z_xP zt191 67 137 [some (.ref 19), some (.int 0), some (.int 0), some (.int 0), o4] [.ref 19] rfl rfl ?_
      refine z_xcV (vs := [.ref 19]) (r := []) (L2 := [some (.ref 19)]) zt191 68 rfl zo191 zzcV12_163 (Or.inl rfl) rfl X f19 rfl rfl rfl (Nat.le_of_ble_eq_true rfl) zzm194 (Nat.le_of_ble_eq_true rfl) rfl ?_
      refine z_xP zt194 0 2 [some (.ref 19)] [.ref 19, .ref 19] rfl rfl ?_
      refine z_xgI zt194 1 rfl zo194 zzf12_136 X f19 (by decide) (by decide) rfl (fun (x21 : Int32) h20 (h22 : (-2147483648) ≤ x21.toInt) (h23 : x21.toInt ≤ 2147483647) => ?_)
      refine z_xZ zt194 2 rfl rfl (fun (h24 : 0 ≤ x21.toInt) => ?_) (fun (h24 : x21.toInt < 0) => ?_)
      · skip
        refine z_xP zt194 6 16 [some (.ref 19)] [.ref 19, .ref 19] rfl rfl ?_
        refine z_xgv zt194 7 rfl zo194 zzf12_136 X f19 (by decide) h20 ?_
        refine z_xpf zt194 8 rfl zo194 zzf12_136 X f19 (by decide) (by decide) ⟨Int32.le_toInt _, Int32.toInt_le _⟩ rfl (by decide) zw12_26 (fun M25 X26 e27 h28 => ?_)
        refine z_xP zt194 9 23 [some (.ref 19)] [.int 0] rfl rfl ?_
        refine z_xrz zt194 10 rfl zzr194 (by decide) (by decide) ?_
        show z_ev (d + 2) 191 140 [some (.ref 19), some (.int 0), some (.int 0), some (.int 0), o4] [.int 0] M25 _
        refine z_xP zt191 69 142 [some (.ref 19), some (.int 0), some (.int 0), some (.int 0), some (.int 0)] [] rfl rfl ?_
        refine z_xP zt191 70 36 [some (.ref 19), some (.int 0), some (.int 0), some (.int 0), some (.int 0)] [] rfl rfl ?_
        have h29 := (e27.f f19 (by decide) hp0)
        have h30 := (e27.f f19 (by decide) hp1)
        have h31 := ((congrFun (e27.a f24 (by decide)) _).trans hp2)
        have f23 : T[23]? = some (.inr (23, 0, 80, (-2147483648), 2147483647)) := X26.1.k rfl (by decide)
        have q0 : ((0 : Int32)).toInt = 0 := rfl
        exact ih M25 (0) (some (.int 0)) (some (.int 0)) (some (.int 0)) z0 z1 z2 X26 (by decide) h29 ⟨by omega, by omega⟩ h30 ⟨by omega, by omega⟩ h31 ⟨by omega, by omega⟩ (z_GL.ke hl e27 f23 f24 (by decide)) (z_FPm (z_FPm hf (e27.a f23 (by decide)) rfl) rfl (by omega)) (by omega)
      refine z_xP zt194 3 9 [some (.ref 19)] [.ref 19, .ref 19] rfl rfl ?_
      refine z_xgv zt194 4 rfl zo194 zzf12_123 X f19 (by decide) hp1 ?_
      refine z_xP zt194 5 19 [some (.ref 19)] [.int z1, .ref 19] rfl rfl ?_
      refine z_xpf zt194 8 rfl zo194 zzf12_136 X f19 (by decide) (by decide) ⟨Int32.le_toInt _, Int32.toInt_le _⟩ rfl (by decide) zw12_26 (fun M32 X33 e34 h35 => ?_)
      refine z_xP zt194 9 23 [some (.ref 19)] [.int 0] rfl rfl ?_
      refine z_xrz zt194 10 rfl zzr194 (by decide) (by decide) ?_
      show z_ev (d + 2) 191 140 [some (.ref 19), some (.int 0), some (.int 0), some (.int 0), o4] [.int 0] M32 _
      refine z_xP zt191 69 142 [some (.ref 19), some (.int 0), some (.int 0), some (.int 0), some (.int 0)] [] rfl rfl ?_
      refine z_xP zt191 70 36 [some (.ref 19), some (.int 0), some (.int 0), some (.int 0), some (.int 0)] [] rfl rfl ?_
      have h36 := (e34.f f19 (by decide) hp0)
      have h37 := (e34.f f19 (by decide) hp1)
      have h38 := ((congrFun (e34.a f24 (by decide)) _).trans hp2)
      have f23 : T[23]? = some (.inr (23, 0, 80, (-2147483648), 2147483647)) := X33.1.k rfl (by decide)
      have q0 : ((0 : Int32)).toInt = 0 := rfl
      exact ih M32 (0) (some (.int 0)) (some (.int 0)) (some (.int 0)) z0 z1 z2 X33 (by decide) h36 ⟨by omega, by omega⟩ h37 ⟨by omega, by omega⟩ h38 ⟨by omega, by omega⟩ (z_GL.ke hl e34 f23 f24 (by decide)) (z_FPm (z_FPm hf (e34.a f23 (by decide)) rfl) rfl (by omega)) (by omega)
    refine z_xP zt193 5 12 [some (.ref 19)] [.ref 19] rfl rfl ?_
    refine z_xgI zt193 6 rfl zo193 zzf12_129 X f19 (by decide) (by decide) rfl (fun (x40 : Int32) h39 (h41 : 0 ≤ x40.toInt) (h42 : x40.toInt ≤ 1) => ?_)
    refine z_xZ zt193 7 rfl rfl (fun (h43 : x40.toInt = 0) => ?_) (fun (h43 : x40.toInt ≠ 0) => ?_)
    · skip
      refine z_xP zt193 14 31 [some (.ref 19)] [.ref 19] rfl rfl ?_
      refine z_xgX (b := 21) zt193 15 rfl zo193 zzf12_13 X f19 (by decide) (by decide) rfl ?_
      refine z_xP zt193 16 38 [some (.ref 19)] [.ref 19, .int 160, .ref 21] rfl rfl ?_
      refine z_xgv zt193 17 rfl zo193 zzf12_133 X f19 (by decide) hp0 ?_
      refine z_xI zt193 18 rfl rfl (fun (x44 : Int32) (h45 : x44.toInt = 160 * z0.toInt) => ?_) (z_pMul rfl rfl (by omega) (by omega))
      refine z_xP zt193 19 43 [some (.ref 19)] [.ref 19, .int x44, .ref 21] rfl rfl ?_
      refine z_xgv zt193 20 rfl zo193 zzf12_123 X f19 (by decide) hp1 ?_
      refine z_xI zt193 21 rfl rfl (fun (x46 : Int32) (h47 : x46.toInt = x44.toInt + z1.toInt) => ?_) (z_pAdd rfl rfl (by omega) (by omega))
      have f21 : T[21]? = some (.inr (21, 0, 1280, (-2147483648), 2147483647)) := X.1.k rfl (by decide)
      refine z_xil zt193 22 rfl X f21 (by decide) (by omega) (by omega) (fun (x48 : Int32) h49 (h50 : (-2147483648) ≤ x48.toInt) (h51 : x48.toInt ≤ 2147483647) => ?_)
      refine z_xP zt193 23 52 [some (.ref 19)] [.int x48] rfl rfl ?_
      refine z_xri zt193 25 rfl zzr193 ?_
      show z_ev (d + 2) 191 44 [some (.ref 19), some (.int b1), o2, o3, o4] [.int x48] M _
      refine z_xP zt191 21 46 [some (.ref 19), some (.int b1), some (.int x48), o3, o4] [.int x48] rfl rfl ?_
      have h52 := z_b32 x48
      refine z_xL zt191 22 rfl rfl (fun (y53 : Int64) (h54 : y53.toInt = x48.toInt) => ?_) (z_qI2L rfl)
      refine z_xl2 zt191 23 rfl zo191 zkl12_186 ?_
      refine z_xl2 zt191 24 rfl zo191 zkl12_188 ?_
      refine z_xcS (vs := [.long y53, .long 97, .long 106]) (r := []) (L2 := [some (.long y53), none, some (.long 97), none, some (.long 106), none]) zt191 25 rfl zo191 zzcS12_116 (Or.inl rfl) (Nat.le_of_ble_eq_true rfl) rfl rfl (Nat.le_of_ble_eq_true rfl) zzm189 (Nat.le_of_ble_eq_true rfl) rfl ?_
      refine z_xP zt189 0 2 [some (.long y53), none, some (.long 97), none, some (.long 106), none] [.long 97, .long y53] rfl rfl ?_
      refine z_xI zt189 1 rfl rfl (fun (x55 : Int32) (h56 : (x55.toInt < 0 ∧ y53.toInt < 97) ∨ (x55.toInt = 0 ∧ y53.toInt = 97) ∨ (0 < x55.toInt ∧ 97 < y53.toInt)) => ?_) (z_qCmp rfl rfl)
      refine z_xZ zt189 2 rfl rfl (fun (h57 : x55.toInt < 0) => ?_) (fun (h57 : 0 ≤ x55.toInt) => ?_)
      · skip
        refine z_xP zt189 7 18 [some (.long y53), none, some (.long 97), none, some (.long 106), none] [.int 0] rfl rfl ?_
        refine z_xrz zt189 8 rfl zzr189 (by decide) (by decide) ?_
        show z_ev (d + 2) 191 56 [some (.ref 19), some (.int b1), some (.int x48), o3, o4] [.int 0] M _
        refine z_xP zt191 26 58 [some (.ref 19), some (.int b1), some (.int x48), some (.int 0), o4] [.int 0] rfl rfl ?_
        refine z_xZ zt191 27 rfl rfl (fun (h58 : (0 : Int) = 0) => ?_) (fun (h58 : (0 : Int) ≠ 0) => absurd h58 (by omega))
        refine z_xP zt191 59 121 [some (.ref 19), some (.int 0), some (.int x48), some (.int 0), o4] [.int 0] rfl rfl ?_
        refine z_xZ zt191 60 rfl rfl (fun (h59 : (0 : Int) ≠ 0) => absurd h59 (by omega)) (fun (h59 : (0 : Int) = 0) => ?_)
        refine z_xP zt191 61 125 [some (.ref 19), some (.int 0), some (.int x48), some (.int 0), o4] [.ref 19] rfl rfl ?_
        refine z_xgX (b := 24) zt191 62 rfl zo191 zzf12_22 X f19 (by decide) (by decide) rfl ?_
        refine z_xP zt191 63 129 [some (.ref 19), some (.int 0), some (.int x48), some (.int 0), o4] [.ref 19, .ref 24] rfl rfl ?_
        refine z_xgv zt191 64 rfl zo191 zzf12_133 X f19 (by decide) hp0 ?_
        have f24 : T[24]? = some (.inr (24, 0, 8, 0, 10)) := X.1.k rfl (by decide)
        refine z_xil zt191 65 rfl X f24 (by decide) (by omega) (by omega) (fun (x60 : Int32) h61 (h62 : 0 ≤ x60.toInt) (h63 : x60.toInt ≤ 10) => ?_)
        have h64 := congrArg Int32.toInt (h61.symm.trans hp2)
        refine z_xZ zt191 66 rfl rfl (fun (h65 : x60.toInt ≠ 0) => ?_) (fun (h65 : x60.toInt = 0) => ?_)
        · skip
          refine z_xP zt191 70 36 [some (.ref 19), some (.int 0), some (.int x48), some (.int 0), o4] [] rfl rfl ?_
          have q0 : ((0 : Int32)).toInt = 0 := rfl
          exact ih M (0) (some (.int x48)) (some (.int 0)) (o4) z0 z1 z2 X (by decide) hp0 ⟨by omega, by omega⟩ hp1 ⟨by omega, by omega⟩ hp2 ⟨by omega, by omega⟩ hl (z_FPm hf rfl (by omega)) (by omega)
        refine z_xP zt191 67 137 [some (.ref 19), some (.int 0), some (.int x48), some (.int 0), o4] [.ref 19] rfl rfl ?_
        refine z_xcV (vs := [.ref 19]) (r := []) (L2 := [some (.ref 19)]) zt191 68 rfl zo191 zzcV12_163 (Or.inl rfl) rfl X f19 rfl rfl rfl (Nat.le_of_ble_eq_true rfl) zzm194 (Nat.le_of_ble_eq_true rfl) rfl ?_
        refine z_xP zt194 0 2 [some (.ref 19)] [.ref 19, .ref 19] rfl rfl ?_
        refine z_xgI zt194 1 rfl zo194 zzf12_136 X f19 (by decide) (by decide) rfl (fun (x67 : Int32) h66 (h68 : (-2147483648) ≤ x67.toInt) (h69 : x67.toInt ≤ 2147483647) => ?_)
        refine z_xZ zt194 2 rfl rfl (fun (h70 : 0 ≤ x67.toInt) => ?_) (fun (h70 : x67.toInt < 0) => ?_)
        · skip
          refine z_xP zt194 6 16 [some (.ref 19)] [.ref 19, .ref 19] rfl rfl ?_
          refine z_xgv zt194 7 rfl zo194 zzf12_136 X f19 (by decide) h66 ?_
          refine z_xpf zt194 8 rfl zo194 zzf12_136 X f19 (by decide) (by decide) ⟨Int32.le_toInt _, Int32.toInt_le _⟩ rfl (by decide) zw12_26 (fun M71 X72 e73 h74 => ?_)
          refine z_xP zt194 9 23 [some (.ref 19)] [.int 0] rfl rfl ?_
          refine z_xrz zt194 10 rfl zzr194 (by decide) (by decide) ?_
          show z_ev (d + 2) 191 140 [some (.ref 19), some (.int 0), some (.int x48), some (.int 0), o4] [.int 0] M71 _
          refine z_xP zt191 69 142 [some (.ref 19), some (.int 0), some (.int x48), some (.int 0), some (.int 0)] [] rfl rfl ?_
          refine z_xP zt191 70 36 [some (.ref 19), some (.int 0), some (.int x48), some (.int 0), some (.int 0)] [] rfl rfl ?_
          have h75 := (e73.f f19 (by decide) hp0)
          have h76 := (e73.f f19 (by decide) hp1)
          have h77 := ((congrFun (e73.a f24 (by decide)) _).trans hp2)
          have f23 : T[23]? = some (.inr (23, 0, 80, (-2147483648), 2147483647)) := X72.1.k rfl (by decide)
          have q0 : ((0 : Int32)).toInt = 0 := rfl
          exact ih M71 (0) (some (.int x48)) (some (.int 0)) (some (.int 0)) z0 z1 z2 X72 (by decide) h75 ⟨by omega, by omega⟩ h76 ⟨by omega, by omega⟩ h77 ⟨by omega, by omega⟩ (z_GL.ke hl e73 f23 f24 (by decide)) (z_FPm (z_FPm hf (e73.a f23 (by decide)) rfl) rfl (by omega)) (by omega)
        refine z_xP zt194 3 9 [some (.ref 19)] [.ref 19, .ref 19] rfl rfl ?_
        refine z_xgv zt194 4 rfl zo194 zzf12_123 X f19 (by decide) hp1 ?_
        refine z_xP zt194 5 19 [some (.ref 19)] [.int z1, .ref 19] rfl rfl ?_
        refine z_xpf zt194 8 rfl zo194 zzf12_136 X f19 (by decide) (by decide) ⟨Int32.le_toInt _, Int32.toInt_le _⟩ rfl (by decide) zw12_26 (fun M78 X79 e80 h81 => ?_)
        refine z_xP zt194 9 23 [some (.ref 19)] [.int 0] rfl rfl ?_
        refine z_xrz zt194 10 rfl zzr194 (by decide) (by decide) ?_
        show z_ev (d + 2) 191 140 [some (.ref 19), some (.int 0), some (.int x48), some (.int 0), o4] [.int 0] M78 _
        refine z_xP zt191 69 142 [some (.ref 19), some (.int 0), some (.int x48), some (.int 0), some (.int 0)] [] rfl rfl ?_
        refine z_xP zt191 70 36 [some (.ref 19), some (.int 0), some (.int x48), some (.int 0), some (.int 0)] [] rfl rfl ?_
        have h82 := (e80.f f19 (by decide) hp0)
        have h83 := (e80.f f19 (by decide) hp1)
        have h84 := ((congrFun (e80.a f24 (by decide)) _).trans hp2)
        have f23 : T[23]? = some (.inr (23, 0, 80, (-2147483648), 2147483647)) := X79.1.k rfl (by decide)
        have q0 : ((0 : Int32)).toInt = 0 := rfl
        exact ih M78 (0) (some (.int x48)) (some (.int 0)) (some (.int 0)) z0 z1 z2 X79 (by decide) h82 ⟨by omega, by omega⟩ h83 ⟨by omega, by omega⟩ h84 ⟨by omega, by omega⟩ (z_GL.ke hl e80 f23 f24 (by decide)) (z_FPm (z_FPm hf (e80.a f23 (by decide)) rfl) rfl (by omega)) (by omega)
      refine z_xP zt189 3 9 [some (.long y53), none, some (.long 97), none, some (.long 106), none] [.long 106, .long y53] rfl rfl ?_
      refine z_xI zt189 4 rfl rfl (fun (x85 : Int32) (h86 : (x85.toInt < 0 ∧ y53.toInt < 106) ∨ (x85.toInt = 0 ∧ y53.toInt = 106) ∨ (0 < x85.toInt ∧ 106 < y53.toInt)) => ?_) (z_qCmp rfl rfl)
      refine z_xZ zt189 5 rfl rfl (fun (h87 : 0 < x85.toInt) => ?_) (fun (h87 : x85.toInt ≤ 0) => ?_)
      · skip
        refine z_xP zt189 7 18 [some (.long y53), none, some (.long 97), none, some (.long 106), none] [.int 0] rfl rfl ?_
        refine z_xrz zt189 8 rfl zzr189 (by decide) (by decide) ?_
        show z_ev (d + 2) 191 56 [some (.ref 19), some (.int b1), some (.int x48), o3, o4] [.int 0] M _
        refine z_xP zt191 26 58 [some (.ref 19), some (.int b1), some (.int x48), some (.int 0), o4] [.int 0] rfl rfl ?_
        refine z_xZ zt191 27 rfl rfl (fun (h88 : (0 : Int) = 0) => ?_) (fun (h88 : (0 : Int) ≠ 0) => absurd h88 (by omega))
        refine z_xP zt191 59 121 [some (.ref 19), some (.int 0), some (.int x48), some (.int 0), o4] [.int 0] rfl rfl ?_
        refine z_xZ zt191 60 rfl rfl (fun (h89 : (0 : Int) ≠ 0) => absurd h89 (by omega)) (fun (h89 : (0 : Int) = 0) => ?_)
        refine z_xP zt191 61 125 [some (.ref 19), some (.int 0), some (.int x48), some (.int 0), o4] [.ref 19] rfl rfl ?_
        refine z_xgX (b := 24) zt191 62 rfl zo191 zzf12_22 X f19 (by decide) (by decide) rfl ?_
        refine z_xP zt191 63 129 [some (.ref 19), some (.int 0), some (.int x48), some (.int 0), o4] [.ref 19, .ref 24] rfl rfl ?_
        refine z_xgv zt191 64 rfl zo191 zzf12_133 X f19 (by decide) hp0 ?_
        have f24 : T[24]? = some (.inr (24, 0, 8, 0, 10)) := X.1.k rfl (by decide)
        refine z_xil zt191 65 rfl X f24 (by decide) (by omega) (by omega) (fun (x90 : Int32) h91 (h92 : 0 ≤ x90.toInt) (h93 : x90.toInt ≤ 10) => ?_)
        have h94 := congrArg Int32.toInt (h91.symm.trans hp2)
        refine z_xZ zt191 66 rfl rfl (fun (h95 : x90.toInt ≠ 0) => ?_) (fun (h95 : x90.toInt = 0) => ?_)
        · skip
          refine z_xP zt191 70 36 [some (.ref 19), some (.int 0), some (.int x48), some (.int 0), o4] [] rfl rfl ?_
          have q0 : ((0 : Int32)).toInt = 0 := rfl
          exact ih M (0) (some (.int x48)) (some (.int 0)) (o4) z0 z1 z2 X (by decide) hp0 ⟨by omega, by omega⟩ hp1 ⟨by omega, by omega⟩ hp2 ⟨by omega, by omega⟩ hl (z_FPm hf rfl (by omega)) (by omega)
        refine z_xP zt191 67 137 [some (.ref 19), some (.int 0), some (.int x48), some (.int 0), o4] [.ref 19] rfl rfl ?_
        refine z_xcV (vs := [.ref 19]) (r := []) (L2 := [some (.ref 19)]) zt191 68 rfl zo191 zzcV12_163 (Or.inl rfl) rfl X f19 rfl rfl rfl (Nat.le_of_ble_eq_true rfl) zzm194 (Nat.le_of_ble_eq_true rfl) rfl ?_
        refine z_xP zt194 0 2 [some (.ref 19)] [.ref 19, .ref 19] rfl rfl ?_
        refine z_xgI zt194 1 rfl zo194 zzf12_136 X f19 (by decide) (by decide) rfl (fun (x97 : Int32) h96 (h98 : (-2147483648) ≤ x97.toInt) (h99 : x97.toInt ≤ 2147483647) => ?_)
        refine z_xZ zt194 2 rfl rfl (fun (h100 : 0 ≤ x97.toInt) => ?_) (fun (h100 : x97.toInt < 0) => ?_)
        · skip
          refine z_xP zt194 6 16 [some (.ref 19)] [.ref 19, .ref 19] rfl rfl ?_
          refine z_xgv zt194 7 rfl zo194 zzf12_136 X f19 (by decide) h96 ?_
          refine z_xpf zt194 8 rfl zo194 zzf12_136 X f19 (by decide) (by decide) ⟨Int32.le_toInt _, Int32.toInt_le _⟩ rfl (by decide) zw12_26 (fun M101 X102 e103 h104 => ?_)
          refine z_xP zt194 9 23 [some (.ref 19)] [.int 0] rfl rfl ?_
          refine z_xrz zt194 10 rfl zzr194 (by decide) (by decide) ?_
          show z_ev (d + 2) 191 140 [some (.ref 19), some (.int 0), some (.int x48), some (.int 0), o4] [.int 0] M101 _
          refine z_xP zt191 69 142 [some (.ref 19), some (.int 0), some (.int x48), some (.int 0), some (.int 0)] [] rfl rfl ?_
          refine z_xP zt191 70 36 [some (.ref 19), some (.int 0), some (.int x48), some (.int 0), some (.int 0)] [] rfl rfl ?_
          have h105 := (e103.f f19 (by decide) hp0)
          have h106 := (e103.f f19 (by decide) hp1)
          have h107 := ((congrFun (e103.a f24 (by decide)) _).trans hp2)
          have f23 : T[23]? = some (.inr (23, 0, 80, (-2147483648), 2147483647)) := X102.1.k rfl (by decide)
          have q0 : ((0 : Int32)).toInt = 0 := rfl
          exact ih M101 (0) (some (.int x48)) (some (.int 0)) (some (.int 0)) z0 z1 z2 X102 (by decide) h105 ⟨by omega, by omega⟩ h106 ⟨by omega, by omega⟩ h107 ⟨by omega, by omega⟩ (z_GL.ke hl e103 f23 f24 (by decide)) (z_FPm (z_FPm hf (e103.a f23 (by decide)) rfl) rfl (by omega)) (by omega)
        refine z_xP zt194 3 9 [some (.ref 19)] [.ref 19, .ref 19] rfl rfl ?_
        refine z_xgv zt194 4 rfl zo194 zzf12_123 X f19 (by decide) hp1 ?_
        refine z_xP zt194 5 19 [some (.ref 19)] [.int z1, .ref 19] rfl rfl ?_
        refine z_xpf zt194 8 rfl zo194 zzf12_136 X f19 (by decide) (by decide) ⟨Int32.le_toInt _, Int32.toInt_le _⟩ rfl (by decide) zw12_26 (fun M108 X109 e110 h111 => ?_)
        refine z_xP zt194 9 23 [some (.ref 19)] [.int 0] rfl rfl ?_
        refine z_xrz zt194 10 rfl zzr194 (by decide) (by decide) ?_
        show z_ev (d + 2) 191 140 [some (.ref 19), some (.int 0), some (.int x48), some (.int 0), o4] [.int 0] M108 _
        refine z_xP zt191 69 142 [some (.ref 19), some (.int 0), some (.int x48), some (.int 0), some (.int 0)] [] rfl rfl ?_
        refine z_xP zt191 70 36 [some (.ref 19), some (.int 0), some (.int x48), some (.int 0), some (.int 0)] [] rfl rfl ?_
        have h112 := (e110.f f19 (by decide) hp0)
        have h113 := (e110.f f19 (by decide) hp1)
        have h114 := ((congrFun (e110.a f24 (by decide)) _).trans hp2)
        have f23 : T[23]? = some (.inr (23, 0, 80, (-2147483648), 2147483647)) := X109.1.k rfl (by decide)
        have q0 : ((0 : Int32)).toInt = 0 := rfl
        exact ih M108 (0) (some (.int x48)) (some (.int 0)) (some (.int 0)) z0 z1 z2 X109 (by decide) h112 ⟨by omega, by omega⟩ h113 ⟨by omega, by omega⟩ h114 ⟨by omega, by omega⟩ (z_GL.ke hl e110 f23 f24 (by decide)) (z_FPm (z_FPm hf (e110.a f23 (by decide)) rfl) rfl (by omega)) (by omega)
      refine z_xP zt189 6 18 [some (.long y53), none, some (.long 97), none, some (.long 106), none] [.int 1] rfl rfl ?_
      refine z_xrz zt189 8 rfl zzr189 (by decide) (by decide) ?_
      show z_ev (d + 2) 191 56 [some (.ref 19), some (.int b1), some (.int x48), o3, o4] [.int 1] M _
      refine z_xP zt191 26 58 [some (.ref 19), some (.int b1), some (.int x48), some (.int 1), o4] [.int 1] rfl rfl ?_
      refine z_xZ zt191 27 rfl rfl (fun (h115 : (1 : Int) = 0) => absurd h115 (by omega)) (fun (h115 : (1 : Int) ≠ 0) => ?_)
      refine z_xP zt191 28 63 [some (.ref 19), some (.int b1), some (.int x48), some (.int 1), o4] [.int x48, .ref 19] rfl rfl ?_
      refine z_xcV (vs := [.ref 19, .int x48]) (r := []) (L2 := [some (.ref 19), some (.int x48), none]) zt191 29 rfl zo191 zzcV12_179 (Or.inl rfl) rfl X f19 rfl rfl rfl (Nat.le_of_ble_eq_true rfl) zzm195 (Nat.le_of_ble_eq_true rfl) rfl ?_
      refine zC195 X.1 hp0 ⟨by omega, by omega⟩ hl (fun x124 M116 X117 h125 h126 h118 h119 z120 h121 h122 h123 => ?_)
      have X127 := X.go X117 (z_sb (by decide))
      show z_ev (d + 2) 191 66 [some (.ref 19), some (.int b1), some (.int x48), some (.int 1), o4] [.int x124] M116 _
      refine z_xZ zt191 30 rfl rfl (fun (h129 : 0 ≤ x124.toInt) => ?_) (fun (h129 : x124.toInt < 0) => ?_)
      · skip
        refine z_xP zt191 59 121 [some (.ref 19), some (.int 0), some (.int x48), some (.int 1), o4] [.int 1] rfl rfl ?_
        refine z_xZ zt191 60 rfl rfl (fun (h130 : (1 : Int) ≠ 0) => ?_) (fun (h130 : (1 : Int) = 0) => absurd h130 (by omega))
        refine z_xP zt191 67 137 [some (.ref 19), some (.int 0), some (.int x48), some (.int 1), o4] [.ref 19] rfl rfl ?_
        refine z_xcV (vs := [.ref 19]) (r := []) (L2 := [some (.ref 19)]) zt191 68 rfl zo191 zzcV12_163 (Or.inl rfl) rfl X127 f19 rfl rfl rfl (Nat.le_of_ble_eq_true rfl) zzm194 (Nat.le_of_ble_eq_true rfl) rfl ?_
        refine z_xP zt194 0 2 [some (.ref 19)] [.ref 19, .ref 19] rfl rfl ?_
        refine z_xgI zt194 1 rfl zo194 zzf12_136 X127 f19 (by decide) (by decide) rfl (fun (x132 : Int32) h131 (h133 : (-2147483648) ≤ x132.toInt) (h134 : x132.toInt ≤ 2147483647) => ?_)
        refine z_xZ zt194 2 rfl rfl (fun (h135 : 0 ≤ x132.toInt) => ?_) (fun (h135 : x132.toInt < 0) => ?_)
        · skip
          refine z_xP zt194 6 16 [some (.ref 19)] [.ref 19, .ref 19] rfl rfl ?_
          refine z_xgv zt194 7 rfl zo194 zzf12_136 X127 f19 (by decide) h131 ?_
          refine z_xpf zt194 8 rfl zo194 zzf12_136 X127 f19 (by decide) (by decide) ⟨Int32.le_toInt _, Int32.toInt_le _⟩ rfl (by decide) zw12_26 (fun M136 X137 e138 h139 => ?_)
          refine z_xP zt194 9 23 [some (.ref 19)] [.int 0] rfl rfl ?_
          refine z_xrz zt194 10 rfl zzr194 (by decide) (by decide) ?_
          show z_ev (d + 2) 191 140 [some (.ref 19), some (.int 0), some (.int x48), some (.int 1), o4] [.int 0] M136 _
          refine z_xP zt191 69 142 [some (.ref 19), some (.int 0), some (.int x48), some (.int 1), some (.int 0)] [] rfl rfl ?_
          refine z_xP zt191 70 36 [some (.ref 19), some (.int 0), some (.int x48), some (.int 1), some (.int 0)] [] rfl rfl ?_
          have h140 := (e138.f f19 (by decide) (X117.2.f f19 (by decide) hp0))
          have h141 := (e138.f f19 (by decide) (X117.2.f f19 (by decide) hp1))
          have f24 : T[24]? = some (.inr (24, 0, 8, 0, 10)) := X137.1.k rfl (by decide)
          have h142 := ((congrFun (e138.a f24 (by decide)) _).trans ((congrFun (X117.2.a f24 (by decide)) _).trans hp2))
          have f23 : T[23]? = some (.inr (23, 0, 80, (-2147483648), 2147483647)) := X137.1.k rfl (by decide)
          have q0 : ((0 : Int32)).toInt = 0 := rfl
          have q1 : ((1 : Int32)).toInt = 1 := rfl
          exact ih M136 (0) (some (.int x48)) (some (.int 1)) (some (.int 0)) z0 z1 z2 X137 (by decide) h140 ⟨by omega, by omega⟩ h141 ⟨by omega, by omega⟩ h142 ⟨by omega, by omega⟩ (z_GL.ke (z_GL.ke hl X117.2 f23 f24 (by decide)) e138 f23 f24 (by decide)) (z_FPm (z_FPm (z_FPm hf (X117.2.a f23 (by decide)) rfl) (e138.a f23 (by decide)) rfl) rfl (by omega)) (by omega)
        refine z_xP zt194 3 9 [some (.ref 19)] [.ref 19, .ref 19] rfl rfl ?_
        have h143 := (X117.2.f f19 (by decide) hp1)
        refine z_xgv zt194 4 rfl zo194 zzf12_123 X127 f19 (by decide) h143 ?_
        refine z_xP zt194 5 19 [some (.ref 19)] [.int z1, .ref 19] rfl rfl ?_
        refine z_xpf zt194 8 rfl zo194 zzf12_136 X127 f19 (by decide) (by decide) ⟨Int32.le_toInt _, Int32.toInt_le _⟩ rfl (by decide) zw12_26 (fun M144 X145 e146 h147 => ?_)
        refine z_xP zt194 9 23 [some (.ref 19)] [.int 0] rfl rfl ?_
        refine z_xrz zt194 10 rfl zzr194 (by decide) (by decide) ?_
        show z_ev (d + 2) 191 140 [some (.ref 19), some (.int 0), some (.int x48), some (.int 1), o4] [.int 0] M144 _
        refine z_xP zt191 69 142 [some (.ref 19), some (.int 0), some (.int x48), some (.int 1), some (.int 0)] [] rfl rfl ?_
        refine z_xP zt191 70 36 [some (.ref 19), some (.int 0), some (.int x48), some (.int 1), some (.int 0)] [] rfl rfl ?_
        have h148 := (e146.f f19 (by decide) (X117.2.f f19 (by decide) hp0))
        have h149 := (e146.f f19 (by decide) h143)
        have f24 : T[24]? = some (.inr (24, 0, 8, 0, 10)) := X145.1.k rfl (by decide)
        have h150 := ((congrFun (e146.a f24 (by decide)) _).trans ((congrFun (X117.2.a f24 (by decide)) _).trans hp2))
        have f23 : T[23]? = some (.inr (23, 0, 80, (-2147483648), 2147483647)) := X145.1.k rfl (by decide)
        have q0 : ((0 : Int32)).toInt = 0 := rfl
        have q1 : ((1 : Int32)).toInt = 1 := rfl
        exact ih M144 (0) (some (.int x48)) (some (.int 1)) (some (.int 0)) z0 z1 z2 X145 (by decide) h148 ⟨by omega, by omega⟩ h149 ⟨by omega, by omega⟩ h150 ⟨by omega, by omega⟩ (z_GL.ke (z_GL.ke hl X117.2 f23 f24 (by decide)) e146 f23 f24 (by decide)) (z_FPm (z_FPm (z_FPm hf (X117.2.a f23 (by decide)) rfl) (e146.a f23 (by decide)) rfl) rfl (by omega)) (by omega)
      refine z_xP zt191 31 70 [some (.ref 19), some (.int b1), some (.int x48), some (.int 1), o4] [.ref 19] rfl rfl ?_
      refine z_xgX (b := 23) zt191 32 rfl zo191 zzf12_19 X127 f19 (by decide) (by decide) rfl ?_
      refine z_xP zt191 33 76 [some (.ref 19), some (.int b1), some (.int x48), some (.int 1), o4] [.ref 19, .int 10, .ref 23] rfl rfl ?_
      have h151 := (X117.2.f f19 (by decide) hp0)
      refine z_xgv zt191 34 rfl zo191 zzf12_133 X127 f19 (by decide) h151 ?_
      refine z_xI zt191 35 rfl rfl (fun (x152 : Int32) (h153 : x152.toInt = 10 * z0.toInt) => ?_) (z_pMul rfl rfl (by omega) (by omega))
      refine z_xP zt191 36 81 [some (.ref 19), some (.int b1), some (.int x48), some (.int 1), o4] [.ref 19, .int x152, .ref 23] rfl rfl ?_
      refine z_xgX (b := 24) zt191 37 rfl zo191 zzf12_22 X127 f19 (by decide) (by decide) rfl ?_
      refine z_xP zt191 38 85 [some (.ref 19), some (.int b1), some (.int x48), some (.int 1), o4] [.ref 19, .ref 24, .int x152, .ref 23] rfl rfl ?_
      refine z_xgv zt191 39 rfl zo191 zzf12_133 X127 f19 (by decide) h151 ?_
      have f24 : T[24]? = some (.inr (24, 0, 8, 0, 10)) := X127.1.k rfl (by decide)
      refine z_xil zt191 40 rfl X127 f24 (by decide) (by omega) (by omega) (fun (x154 : Int32) h155 (h156 : 0 ≤ x154.toInt) (h157 : x154.toInt ≤ 10) => ?_)
      have h158 := congrArg Int32.toInt (h155.symm.trans ((congrFun (X117.2.a f24 (by decide)) _).trans hp2))
      refine z_xI zt191 41 rfl rfl (fun (x159 : Int32) (h160 : x159.toInt = x152.toInt + x154.toInt) => ?_) (z_pAdd rfl rfl (by omega) (by omega))
      refine z_xP zt191 42 91 [some (.ref 19), some (.int b1), some (.int x48), some (.int 1), o4] [.int x48, .int x159, .ref 23] rfl rfl ?_
      have f23 : T[23]? = some (.inr (23, 0, 80, (-2147483648), 2147483647)) := X127.1.k rfl (by decide)
      have h162 := ((congrFun (X117.2.a f24 (by decide)) _).trans hp2)
      have h163 := z_NQm (h119 (by omega)) rfl (n2 := z2.toInt) (Int.le_of_eq (congrArg Int32.toInt hp2).symm)
      have h164 := z_NQm h163 (X117.2.a f23 (by decide)) (Int.le_refl _)
      have h165 := (z_FPm hf (X117.2.a f23 (by decide)) rfl)
      have h161 := z_FPn h165 h164 (by omega) (by omega)
      refine z_xis zt191 43 rfl X127 f23 (by decide) (by decide) (by omega) (by omega) (Int32.le_toInt _) (Int32.toInt_le _) (by decide) (fun M166 X167 e168 h169 => ?_)
      have h170 := (e168.f f19 (by decide) h151)
      have h171 := z_GLl (z_GL.ke hl X117.2 f23 f24 (by decide)) h162 (by omega) (by omega) (by omega) (by omega) h169 (e168.a f24 (by decide))
      have h174 := ((congrFun (e168.a f24 (by decide)) _).trans h162)
      have h172 := z_FPs (n2 := z2.toInt + 1) h165 h164 (by omega) (by omega) h169 (by omega) (by omega) (by omega) rfl
      refine z_xP zt191 44 93 [some (.ref 19), some (.int b1), some (.int x48), some (.int 1), o4] [.ref 19] rfl rfl ?_
      refine z_xgX (b := 24) zt191 45 rfl zo191 zzf12_22 X167 f19 (by decide) (by decide) rfl ?_
      refine z_xP zt191 46 97 [some (.ref 19), some (.int b1), some (.int x48), some (.int 1), o4] [.ref 19, .ref 24] rfl rfl ?_
      refine z_xgv zt191 47 rfl zo191 zzf12_133 X167 f19 (by decide) h170 ?_
      refine z_xP zt191 48 101 [some (.ref 19), some (.int b1), some (.int x48), some (.int 1), o4] [.int z0, .ref 24, .int z0, .ref 24] rfl rfl ?_
      refine z_xil zt191 49 rfl X167 f24 (by decide) (by omega) (by omega) (fun (x175 : Int32) h176 (h177 : 0 ≤ x175.toInt) (h178 : x175.toInt ≤ 10) => ?_)
      have h179 := congrArg Int32.toInt (h176.symm.trans h174)
      refine z_xP zt191 50 103 [some (.ref 19), some (.int b1), some (.int x48), some (.int 1), o4] [.int 1, .int x175, .int z0, .ref 24] rfl rfl ?_
      refine z_xI zt191 51 rfl rfl (fun (x180 : Int32) (h181 : x180.toInt = x175.toInt + 1) => ?_) (z_pAdd rfl rfl (by omega) (by omega))
      refine z_xis zt191 52 rfl X167 f24 (by decide) (by decide) (by omega) (by omega) (by omega) (by omega) (by decide) (fun M182 X183 e184 h185 => ?_)
      have h186 := (e184.f f19 (by decide) h170)
      have h187 := z_GLq h171 h174 (by omega) (by omega) (by omega) (z_upe h169) (by omega) (by omega) (e184.a f23 (by decide)) h185
      have h188 := z_FPm (n2 := x180.toInt) (z_FPm h172 (e184.a f23 (by decide)) rfl) rfl (by omega)
      refine z_xP zt191 53 107 [some (.ref 19), some (.int b1), some (.int x48), some (.int 1), o4] [.ref 19, .ref 19] rfl rfl ?_
      have h189 := (e184.f f19 (by decide) (e168.f f19 (by decide) (X117.2.f f19 (by decide) hp1)))
      refine z_xgv zt191 54 rfl zo191 zzf12_123 X183 f19 (by decide) h189 ?_
      refine z_xP zt191 55 111 [some (.ref 19), some (.int b1), some (.int x48), some (.int 1), o4] [.int 1, .int z1, .ref 19] rfl rfl ?_
      refine z_xI zt191 56 rfl rfl (fun (x190 : Int32) (h191 : x190.toInt = z1.toInt + 1) => ?_) (z_pAdd rfl rfl (by omega) (by omega))
      refine z_xpf zt191 57 rfl zo191 zzf12_123 X183 f19 (by decide) (by decide) ⟨by omega, by omega⟩ rfl (by decide) zw12_24 (fun M192 X193 e194 h195 => ?_)
      refine z_xP zt191 58 142 [some (.ref 19), some (.int b1), some (.int x48), some (.int 1), o4] [] rfl rfl ?_
      refine z_xP zt191 70 36 [some (.ref 19), some (.int b1), some (.int x48), some (.int 1), o4] [] rfl rfl ?_
      have h196 := (e194.f f19 (by decide) h186)
      have h197 := ((congrFun (e194.a f24 (by decide)) _).trans (z_upe h185))
      have q1 : ((1 : Int32)).toInt = 1 := rfl
      exact ih M192 b1 (some (.int x48)) (some (.int 1)) (o4) z0 x190 x180 X193 ⟨by omega, by omega⟩ h196 ⟨by omega, by omega⟩ h195 ⟨by omega, by omega⟩ h197 ⟨by omega, by omega⟩ (z_GL.ke h187 e194 f23 f24 (by decide)) (z_FPm (z_FPm h188 (e194.a f23 (by decide)) rfl) rfl (by omega)) (by omega)
    refine z_xP zt193 8 19 [some (.ref 19)] [.ref 19] rfl rfl ?_
    refine z_xgX (b := 20) zt193 9 rfl zo193 zzf12_9 X f19 (by decide) (by decide) rfl ?_
    refine z_xP zt193 10 23 [some (.ref 19)] [.ref 19, .ref 20] rfl rfl ?_
    refine z_xgv zt193 11 rfl zo193 zzf12_123 X f19 (by decide) hp1 ?_
    have f20 : T[20]? = some (.inr (20, 0, 160, (-2147483648), 2147483647)) := X.1.k rfl (by decide)
    refine z_xil zt193 12 rfl X f20 (by decide) (by omega) (by omega) (fun (x198 : Int32) h199 (h200 : (-2147483648) ≤ x198.toInt) (h201 : x198.toInt ≤ 2147483647) => ?_)
    refine z_xP zt193 13 52 [some (.ref 19)] [.int x198] rfl rfl ?_
    refine z_xri zt193 25 rfl zzr193 ?_
    show z_ev (d + 2) 191 44 [some (.ref 19), some (.int b1), o2, o3, o4] [.int x198] M _
    refine z_xP zt191 21 46 [some (.ref 19), some (.int b1), some (.int x198), o3, o4] [.int x198] rfl rfl ?_
    have h202 := z_b32 x198
    refine z_xL zt191 22 rfl rfl (fun (y203 : Int64) (h204 : y203.toInt = x198.toInt) => ?_) (z_qI2L rfl)
    refine z_xl2 zt191 23 rfl zo191 zkl12_186 ?_
    refine z_xl2 zt191 24 rfl zo191 zkl12_188 ?_
    refine z_xcS (vs := [.long y203, .long 97, .long 106]) (r := []) (L2 := [some (.long y203), none, some (.long 97), none, some (.long 106), none]) zt191 25 rfl zo191 zzcS12_116 (Or.inl rfl) (Nat.le_of_ble_eq_true rfl) rfl rfl (Nat.le_of_ble_eq_true rfl) zzm189 (Nat.le_of_ble_eq_true rfl) rfl ?_
    refine z_xP zt189 0 2 [some (.long y203), none, some (.long 97), none, some (.long 106), none] [.long 97, .long y203] rfl rfl ?_
    refine z_xI zt189 1 rfl rfl (fun (x205 : Int32) (h206 : (x205.toInt < 0 ∧ y203.toInt < 97) ∨ (x205.toInt = 0 ∧ y203.toInt = 97) ∨ (0 < x205.toInt ∧ 97 < y203.toInt)) => ?_) (z_qCmp rfl rfl)
    refine z_xZ zt189 2 rfl rfl (fun (h207 : x205.toInt < 0) => ?_) (fun (h207 : 0 ≤ x205.toInt) => ?_)
    · skip
      refine z_xP zt189 7 18 [some (.long y203), none, some (.long 97), none, some (.long 106), none] [.int 0] rfl rfl ?_
      refine z_xrz zt189 8 rfl zzr189 (by decide) (by decide) ?_
      show z_ev (d + 2) 191 56 [some (.ref 19), some (.int b1), some (.int x198), o3, o4] [.int 0] M _
      refine z_xP zt191 26 58 [some (.ref 19), some (.int b1), some (.int x198), some (.int 0), o4] [.int 0] rfl rfl ?_
      refine z_xZ zt191 27 rfl rfl (fun (h208 : (0 : Int) = 0) => ?_) (fun (h208 : (0 : Int) ≠ 0) => absurd h208 (by omega))
      refine z_xP zt191 59 121 [some (.ref 19), some (.int 0), some (.int x198), some (.int 0), o4] [.int 0] rfl rfl ?_
      refine z_xZ zt191 60 rfl rfl (fun (h209 : (0 : Int) ≠ 0) => absurd h209 (by omega)) (fun (h209 : (0 : Int) = 0) => ?_)
      refine z_xP zt191 61 125 [some (.ref 19), some (.int 0), some (.int x198), some (.int 0), o4] [.ref 19] rfl rfl ?_
      refine z_xgX (b := 24) zt191 62 rfl zo191 zzf12_22 X f19 (by decide) (by decide) rfl ?_
      refine z_xP zt191 63 129 [some (.ref 19), some (.int 0), some (.int x198), some (.int 0), o4] [.ref 19, .ref 24] rfl rfl ?_
      refine z_xgv zt191 64 rfl zo191 zzf12_133 X f19 (by decide) hp0 ?_
      have f24 : T[24]? = some (.inr (24, 0, 8, 0, 10)) := X.1.k rfl (by decide)
      refine z_xil zt191 65 rfl X f24 (by decide) (by omega) (by omega) (fun (x210 : Int32) h211 (h212 : 0 ≤ x210.toInt) (h213 : x210.toInt ≤ 10) => ?_)
      have h214 := congrArg Int32.toInt (h211.symm.trans hp2)
      refine z_xZ zt191 66 rfl rfl (fun (h215 : x210.toInt ≠ 0) => ?_) (fun (h215 : x210.toInt = 0) => ?_)
      · skip
        refine z_xP zt191 70 36 [some (.ref 19), some (.int 0), some (.int x198), some (.int 0), o4] [] rfl rfl ?_
        have q0 : ((0 : Int32)).toInt = 0 := rfl
        exact ih M (0) (some (.int x198)) (some (.int 0)) (o4) z0 z1 z2 X (by decide) hp0 ⟨by omega, by omega⟩ hp1 ⟨by omega, by omega⟩ hp2 ⟨by omega, by omega⟩ hl (z_FPm hf rfl (by omega)) (by omega)
      refine z_xP zt191 67 137 [some (.ref 19), some (.int 0), some (.int x198), some (.int 0), o4] [.ref 19] rfl rfl ?_
      refine z_xcV (vs := [.ref 19]) (r := []) (L2 := [some (.ref 19)]) zt191 68 rfl zo191 zzcV12_163 (Or.inl rfl) rfl X f19 rfl rfl rfl (Nat.le_of_ble_eq_true rfl) zzm194 (Nat.le_of_ble_eq_true rfl) rfl ?_
      refine z_xP zt194 0 2 [some (.ref 19)] [.ref 19, .ref 19] rfl rfl ?_
      refine z_xgI zt194 1 rfl zo194 zzf12_136 X f19 (by decide) (by decide) rfl (fun (x217 : Int32) h216 (h218 : (-2147483648) ≤ x217.toInt) (h219 : x217.toInt ≤ 2147483647) => ?_)
      refine z_xZ zt194 2 rfl rfl (fun (h220 : 0 ≤ x217.toInt) => ?_) (fun (h220 : x217.toInt < 0) => ?_)
      · skip
        refine z_xP zt194 6 16 [some (.ref 19)] [.ref 19, .ref 19] rfl rfl ?_
        refine z_xgv zt194 7 rfl zo194 zzf12_136 X f19 (by decide) h216 ?_
        refine z_xpf zt194 8 rfl zo194 zzf12_136 X f19 (by decide) (by decide) ⟨Int32.le_toInt _, Int32.toInt_le _⟩ rfl (by decide) zw12_26 (fun M221 X222 e223 h224 => ?_)
        refine z_xP zt194 9 23 [some (.ref 19)] [.int 0] rfl rfl ?_
        refine z_xrz zt194 10 rfl zzr194 (by decide) (by decide) ?_
        show z_ev (d + 2) 191 140 [some (.ref 19), some (.int 0), some (.int x198), some (.int 0), o4] [.int 0] M221 _
        refine z_xP zt191 69 142 [some (.ref 19), some (.int 0), some (.int x198), some (.int 0), some (.int 0)] [] rfl rfl ?_
        refine z_xP zt191 70 36 [some (.ref 19), some (.int 0), some (.int x198), some (.int 0), some (.int 0)] [] rfl rfl ?_
        have h225 := (e223.f f19 (by decide) hp0)
        have h226 := (e223.f f19 (by decide) hp1)
        have h227 := ((congrFun (e223.a f24 (by decide)) _).trans hp2)
        have f23 : T[23]? = some (.inr (23, 0, 80, (-2147483648), 2147483647)) := X222.1.k rfl (by decide)
        have q0 : ((0 : Int32)).toInt = 0 := rfl
        exact ih M221 (0) (some (.int x198)) (some (.int 0)) (some (.int 0)) z0 z1 z2 X222 (by decide) h225 ⟨by omega, by omega⟩ h226 ⟨by omega, by omega⟩ h227 ⟨by omega, by omega⟩ (z_GL.ke hl e223 f23 f24 (by decide)) (z_FPm (z_FPm hf (e223.a f23 (by decide)) rfl) rfl (by omega)) (by omega)
      refine z_xP zt194 3 9 [some (.ref 19)] [.ref 19, .ref 19] rfl rfl ?_
      refine z_xgv zt194 4 rfl zo194 zzf12_123 X f19 (by decide) hp1 ?_
      refine z_xP zt194 5 19 [some (.ref 19)] [.int z1, .ref 19] rfl rfl ?_
      refine z_xpf zt194 8 rfl zo194 zzf12_136 X f19 (by decide) (by decide) ⟨Int32.le_toInt _, Int32.toInt_le _⟩ rfl (by decide) zw12_26 (fun M228 X229 e230 h231 => ?_)
      refine z_xP zt194 9 23 [some (.ref 19)] [.int 0] rfl rfl ?_
      refine z_xrz zt194 10 rfl zzr194 (by decide) (by decide) ?_
      show z_ev (d + 2) 191 140 [some (.ref 19), some (.int 0), some (.int x198), some (.int 0), o4] [.int 0] M228 _
      refine z_xP zt191 69 142 [some (.ref 19), some (.int 0), some (.int x198), some (.int 0), some (.int 0)] [] rfl rfl ?_
      refine z_xP zt191 70 36 [some (.ref 19), some (.int 0), some (.int x198), some (.int 0), some (.int 0)] [] rfl rfl ?_
      have h232 := (e230.f f19 (by decide) hp0)
      have h233 := (e230.f f19 (by decide) hp1)
      have h234 := ((congrFun (e230.a f24 (by decide)) _).trans hp2)
      have f23 : T[23]? = some (.inr (23, 0, 80, (-2147483648), 2147483647)) := X229.1.k rfl (by decide)
      have q0 : ((0 : Int32)).toInt = 0 := rfl
      exact ih M228 (0) (some (.int x198)) (some (.int 0)) (some (.int 0)) z0 z1 z2 X229 (by decide) h232 ⟨by omega, by omega⟩ h233 ⟨by omega, by omega⟩ h234 ⟨by omega, by omega⟩ (z_GL.ke hl e230 f23 f24 (by decide)) (z_FPm (z_FPm hf (e230.a f23 (by decide)) rfl) rfl (by omega)) (by omega)
    refine z_xP zt189 3 9 [some (.long y203), none, some (.long 97), none, some (.long 106), none] [.long 106, .long y203] rfl rfl ?_
    refine z_xI zt189 4 rfl rfl (fun (x235 : Int32) (h236 : (x235.toInt < 0 ∧ y203.toInt < 106) ∨ (x235.toInt = 0 ∧ y203.toInt = 106) ∨ (0 < x235.toInt ∧ 106 < y203.toInt)) => ?_) (z_qCmp rfl rfl)
    refine z_xZ zt189 5 rfl rfl (fun (h237 : 0 < x235.toInt) => ?_) (fun (h237 : x235.toInt ≤ 0) => ?_)
    · skip
      refine z_xP zt189 7 18 [some (.long y203), none, some (.long 97), none, some (.long 106), none] [.int 0] rfl rfl ?_
      refine z_xrz zt189 8 rfl zzr189 (by decide) (by decide) ?_
      show z_ev (d + 2) 191 56 [some (.ref 19), some (.int b1), some (.int x198), o3, o4] [.int 0] M _
      refine z_xP zt191 26 58 [some (.ref 19), some (.int b1), some (.int x198), some (.int 0), o4] [.int 0] rfl rfl ?_
      refine z_xZ zt191 27 rfl rfl (fun (h238 : (0 : Int) = 0) => ?_) (fun (h238 : (0 : Int) ≠ 0) => absurd h238 (by omega))
      refine z_xP zt191 59 121 [some (.ref 19), some (.int 0), some (.int x198), some (.int 0), o4] [.int 0] rfl rfl ?_
      refine z_xZ zt191 60 rfl rfl (fun (h239 : (0 : Int) ≠ 0) => absurd h239 (by omega)) (fun (h239 : (0 : Int) = 0) => ?_)
      refine z_xP zt191 61 125 [some (.ref 19), some (.int 0), some (.int x198), some (.int 0), o4] [.ref 19] rfl rfl ?_
      refine z_xgX (b := 24) zt191 62 rfl zo191 zzf12_22 X f19 (by decide) (by decide) rfl ?_
      refine z_xP zt191 63 129 [some (.ref 19), some (.int 0), some (.int x198), some (.int 0), o4] [.ref 19, .ref 24] rfl rfl ?_
      refine z_xgv zt191 64 rfl zo191 zzf12_133 X f19 (by decide) hp0 ?_
      have f24 : T[24]? = some (.inr (24, 0, 8, 0, 10)) := X.1.k rfl (by decide)
      refine z_xil zt191 65 rfl X f24 (by decide) (by omega) (by omega) (fun (x240 : Int32) h241 (h242 : 0 ≤ x240.toInt) (h243 : x240.toInt ≤ 10) => ?_)
      have h244 := congrArg Int32.toInt (h241.symm.trans hp2)
      refine z_xZ zt191 66 rfl rfl (fun (h245 : x240.toInt ≠ 0) => ?_) (fun (h245 : x240.toInt = 0) => ?_)
      · skip
        refine z_xP zt191 70 36 [some (.ref 19), some (.int 0), some (.int x198), some (.int 0), o4] [] rfl rfl ?_
        have q0 : ((0 : Int32)).toInt = 0 := rfl
        exact ih M (0) (some (.int x198)) (some (.int 0)) (o4) z0 z1 z2 X (by decide) hp0 ⟨by omega, by omega⟩ hp1 ⟨by omega, by omega⟩ hp2 ⟨by omega, by omega⟩ hl (z_FPm hf rfl (by omega)) (by omega)
      refine z_xP zt191 67 137 [some (.ref 19), some (.int 0), some (.int x198), some (.int 0), o4] [.ref 19] rfl rfl ?_
      refine z_xcV (vs := [.ref 19]) (r := []) (L2 := [some (.ref 19)]) zt191 68 rfl zo191 zzcV12_163 (Or.inl rfl) rfl X f19 rfl rfl rfl (Nat.le_of_ble_eq_true rfl) zzm194 (Nat.le_of_ble_eq_true rfl) rfl ?_
      refine z_xP zt194 0 2 [some (.ref 19)] [.ref 19, .ref 19] rfl rfl ?_
      refine z_xgI zt194 1 rfl zo194 zzf12_136 X f19 (by decide) (by decide) rfl (fun (x247 : Int32) h246 (h248 : (-2147483648) ≤ x247.toInt) (h249 : x247.toInt ≤ 2147483647) => ?_)
      refine z_xZ zt194 2 rfl rfl (fun (h250 : 0 ≤ x247.toInt) => ?_) (fun (h250 : x247.toInt < 0) => ?_)
      · skip
        refine z_xP zt194 6 16 [some (.ref 19)] [.ref 19, .ref 19] rfl rfl ?_
        refine z_xgv zt194 7 rfl zo194 zzf12_136 X f19 (by decide) h246 ?_
        refine z_xpf zt194 8 rfl zo194 zzf12_136 X f19 (by decide) (by decide) ⟨Int32.le_toInt _, Int32.toInt_le _⟩ rfl (by decide) zw12_26 (fun M251 X252 e253 h254 => ?_)
        refine z_xP zt194 9 23 [some (.ref 19)] [.int 0] rfl rfl ?_
        refine z_xrz zt194 10 rfl zzr194 (by decide) (by decide) ?_
        show z_ev (d + 2) 191 140 [some (.ref 19), some (.int 0), some (.int x198), some (.int 0), o4] [.int 0] M251 _
        refine z_xP zt191 69 142 [some (.ref 19), some (.int 0), some (.int x198), some (.int 0), some (.int 0)] [] rfl rfl ?_
        refine z_xP zt191 70 36 [some (.ref 19), some (.int 0), some (.int x198), some (.int 0), some (.int 0)] [] rfl rfl ?_
        have h255 := (e253.f f19 (by decide) hp0)
        have h256 := (e253.f f19 (by decide) hp1)
        have h257 := ((congrFun (e253.a f24 (by decide)) _).trans hp2)
        have f23 : T[23]? = some (.inr (23, 0, 80, (-2147483648), 2147483647)) := X252.1.k rfl (by decide)
        have q0 : ((0 : Int32)).toInt = 0 := rfl
        exact ih M251 (0) (some (.int x198)) (some (.int 0)) (some (.int 0)) z0 z1 z2 X252 (by decide) h255 ⟨by omega, by omega⟩ h256 ⟨by omega, by omega⟩ h257 ⟨by omega, by omega⟩ (z_GL.ke hl e253 f23 f24 (by decide)) (z_FPm (z_FPm hf (e253.a f23 (by decide)) rfl) rfl (by omega)) (by omega)
      refine z_xP zt194 3 9 [some (.ref 19)] [.ref 19, .ref 19] rfl rfl ?_
      refine z_xgv zt194 4 rfl zo194 zzf12_123 X f19 (by decide) hp1 ?_
      refine z_xP zt194 5 19 [some (.ref 19)] [.int z1, .ref 19] rfl rfl ?_
      refine z_xpf zt194 8 rfl zo194 zzf12_136 X f19 (by decide) (by decide) ⟨Int32.le_toInt _, Int32.toInt_le _⟩ rfl (by decide) zw12_26 (fun M258 X259 e260 h261 => ?_)
      refine z_xP zt194 9 23 [some (.ref 19)] [.int 0] rfl rfl ?_
      refine z_xrz zt194 10 rfl zzr194 (by decide) (by decide) ?_
      show z_ev (d + 2) 191 140 [some (.ref 19), some (.int 0), some (.int x198), some (.int 0), o4] [.int 0] M258 _
      refine z_xP zt191 69 142 [some (.ref 19), some (.int 0), some (.int x198), some (.int 0), some (.int 0)] [] rfl rfl ?_
      refine z_xP zt191 70 36 [some (.ref 19), some (.int 0), some (.int x198), some (.int 0), some (.int 0)] [] rfl rfl ?_
      have h262 := (e260.f f19 (by decide) hp0)
      have h263 := (e260.f f19 (by decide) hp1)
      have h264 := ((congrFun (e260.a f24 (by decide)) _).trans hp2)
      have f23 : T[23]? = some (.inr (23, 0, 80, (-2147483648), 2147483647)) := X259.1.k rfl (by decide)
      have q0 : ((0 : Int32)).toInt = 0 := rfl
      exact ih M258 (0) (some (.int x198)) (some (.int 0)) (some (.int 0)) z0 z1 z2 X259 (by decide) h262 ⟨by omega, by omega⟩ h263 ⟨by omega, by omega⟩ h264 ⟨by omega, by omega⟩ (z_GL.ke hl e260 f23 f24 (by decide)) (z_FPm (z_FPm hf (e260.a f23 (by decide)) rfl) rfl (by omega)) (by omega)
    refine z_xP zt189 6 18 [some (.long y203), none, some (.long 97), none, some (.long 106), none] [.int 1] rfl rfl ?_
    refine z_xrz zt189 8 rfl zzr189 (by decide) (by decide) ?_
    show z_ev (d + 2) 191 56 [some (.ref 19), some (.int b1), some (.int x198), o3, o4] [.int 1] M _
    refine z_xP zt191 26 58 [some (.ref 19), some (.int b1), some (.int x198), some (.int 1), o4] [.int 1] rfl rfl ?_
    refine z_xZ zt191 27 rfl rfl (fun (h265 : (1 : Int) = 0) => absurd h265 (by omega)) (fun (h265 : (1 : Int) ≠ 0) => ?_)
    refine z_xP zt191 28 63 [some (.ref 19), some (.int b1), some (.int x198), some (.int 1), o4] [.int x198, .ref 19] rfl rfl ?_
    refine z_xcV (vs := [.ref 19, .int x198]) (r := []) (L2 := [some (.ref 19), some (.int x198), none]) zt191 29 rfl zo191 zzcV12_179 (Or.inl rfl) rfl X f19 rfl rfl rfl (Nat.le_of_ble_eq_true rfl) zzm195 (Nat.le_of_ble_eq_true rfl) rfl ?_
    refine zC195 X.1 hp0 ⟨by omega, by omega⟩ hl (fun x274 M266 X267 h275 h276 h268 h269 z270 h271 h272 h273 => ?_)
    have X277 := X.go X267 (z_sb (by decide))
    show z_ev (d + 2) 191 66 [some (.ref 19), some (.int b1), some (.int x198), some (.int 1), o4] [.int x274] M266 _
    refine z_xZ zt191 30 rfl rfl (fun (h279 : 0 ≤ x274.toInt) => ?_) (fun (h279 : x274.toInt < 0) => ?_)
    · skip
      refine z_xP zt191 59 121 [some (.ref 19), some (.int 0), some (.int x198), some (.int 1), o4] [.int 1] rfl rfl ?_
      refine z_xZ zt191 60 rfl rfl (fun (h280 : (1 : Int) ≠ 0) => ?_) (fun (h280 : (1 : Int) = 0) => absurd h280 (by omega))
      refine z_xP zt191 67 137 [some (.ref 19), some (.int 0), some (.int x198), some (.int 1), o4] [.ref 19] rfl rfl ?_
      refine z_xcV (vs := [.ref 19]) (r := []) (L2 := [some (.ref 19)]) zt191 68 rfl zo191 zzcV12_163 (Or.inl rfl) rfl X277 f19 rfl rfl rfl (Nat.le_of_ble_eq_true rfl) zzm194 (Nat.le_of_ble_eq_true rfl) rfl ?_
      refine z_xP zt194 0 2 [some (.ref 19)] [.ref 19, .ref 19] rfl rfl ?_
      refine z_xgI zt194 1 rfl zo194 zzf12_136 X277 f19 (by decide) (by decide) rfl (fun (x282 : Int32) h281 (h283 : (-2147483648) ≤ x282.toInt) (h284 : x282.toInt ≤ 2147483647) => ?_)
      refine z_xZ zt194 2 rfl rfl (fun (h285 : 0 ≤ x282.toInt) => ?_) (fun (h285 : x282.toInt < 0) => ?_)
      · skip
        refine z_xP zt194 6 16 [some (.ref 19)] [.ref 19, .ref 19] rfl rfl ?_
        refine z_xgv zt194 7 rfl zo194 zzf12_136 X277 f19 (by decide) h281 ?_
        refine z_xpf zt194 8 rfl zo194 zzf12_136 X277 f19 (by decide) (by decide) ⟨Int32.le_toInt _, Int32.toInt_le _⟩ rfl (by decide) zw12_26 (fun M286 X287 e288 h289 => ?_)
        refine z_xP zt194 9 23 [some (.ref 19)] [.int 0] rfl rfl ?_
        refine z_xrz zt194 10 rfl zzr194 (by decide) (by decide) ?_
        show z_ev (d + 2) 191 140 [some (.ref 19), some (.int 0), some (.int x198), some (.int 1), o4] [.int 0] M286 _
        refine z_xP zt191 69 142 [some (.ref 19), some (.int 0), some (.int x198), some (.int 1), some (.int 0)] [] rfl rfl ?_
        refine z_xP zt191 70 36 [some (.ref 19), some (.int 0), some (.int x198), some (.int 1), some (.int 0)] [] rfl rfl ?_
        have h290 := (e288.f f19 (by decide) (X267.2.f f19 (by decide) hp0))
        have h291 := (e288.f f19 (by decide) (X267.2.f f19 (by decide) hp1))
        have f24 : T[24]? = some (.inr (24, 0, 8, 0, 10)) := X287.1.k rfl (by decide)
        have h292 := ((congrFun (e288.a f24 (by decide)) _).trans ((congrFun (X267.2.a f24 (by decide)) _).trans hp2))
        have f23 : T[23]? = some (.inr (23, 0, 80, (-2147483648), 2147483647)) := X287.1.k rfl (by decide)
        have q0 : ((0 : Int32)).toInt = 0 := rfl
        have q1 : ((1 : Int32)).toInt = 1 := rfl
        exact ih M286 (0) (some (.int x198)) (some (.int 1)) (some (.int 0)) z0 z1 z2 X287 (by decide) h290 ⟨by omega, by omega⟩ h291 ⟨by omega, by omega⟩ h292 ⟨by omega, by omega⟩ (z_GL.ke (z_GL.ke hl X267.2 f23 f24 (by decide)) e288 f23 f24 (by decide)) (z_FPm (z_FPm (z_FPm hf (X267.2.a f23 (by decide)) rfl) (e288.a f23 (by decide)) rfl) rfl (by omega)) (by omega)
      refine z_xP zt194 3 9 [some (.ref 19)] [.ref 19, .ref 19] rfl rfl ?_
      have h293 := (X267.2.f f19 (by decide) hp1)
      refine z_xgv zt194 4 rfl zo194 zzf12_123 X277 f19 (by decide) h293 ?_
      refine z_xP zt194 5 19 [some (.ref 19)] [.int z1, .ref 19] rfl rfl ?_
      refine z_xpf zt194 8 rfl zo194 zzf12_136 X277 f19 (by decide) (by decide) ⟨Int32.le_toInt _, Int32.toInt_le _⟩ rfl (by decide) zw12_26 (fun M294 X295 e296 h297 => ?_)
      refine z_xP zt194 9 23 [some (.ref 19)] [.int 0] rfl rfl ?_
      refine z_xrz zt194 10 rfl zzr194 (by decide) (by decide) ?_
      show z_ev (d + 2) 191 140 [some (.ref 19), some (.int 0), some (.int x198), some (.int 1), o4] [.int 0] M294 _
      refine z_xP zt191 69 142 [some (.ref 19), some (.int 0), some (.int x198), some (.int 1), some (.int 0)] [] rfl rfl ?_
      refine z_xP zt191 70 36 [some (.ref 19), some (.int 0), some (.int x198), some (.int 1), some (.int 0)] [] rfl rfl ?_
      have h298 := (e296.f f19 (by decide) (X267.2.f f19 (by decide) hp0))
      have h299 := (e296.f f19 (by decide) h293)
      have f24 : T[24]? = some (.inr (24, 0, 8, 0, 10)) := X295.1.k rfl (by decide)
      have h300 := ((congrFun (e296.a f24 (by decide)) _).trans ((congrFun (X267.2.a f24 (by decide)) _).trans hp2))
      have f23 : T[23]? = some (.inr (23, 0, 80, (-2147483648), 2147483647)) := X295.1.k rfl (by decide)
      have q0 : ((0 : Int32)).toInt = 0 := rfl
      have q1 : ((1 : Int32)).toInt = 1 := rfl
      exact ih M294 (0) (some (.int x198)) (some (.int 1)) (some (.int 0)) z0 z1 z2 X295 (by decide) h298 ⟨by omega, by omega⟩ h299 ⟨by omega, by omega⟩ h300 ⟨by omega, by omega⟩ (z_GL.ke (z_GL.ke hl X267.2 f23 f24 (by decide)) e296 f23 f24 (by decide)) (z_FPm (z_FPm (z_FPm hf (X267.2.a f23 (by decide)) rfl) (e296.a f23 (by decide)) rfl) rfl (by omega)) (by omega)
    refine z_xP zt191 31 70 [some (.ref 19), some (.int b1), some (.int x198), some (.int 1), o4] [.ref 19] rfl rfl ?_
    refine z_xgX (b := 23) zt191 32 rfl zo191 zzf12_19 X277 f19 (by decide) (by decide) rfl ?_
    refine z_xP zt191 33 76 [some (.ref 19), some (.int b1), some (.int x198), some (.int 1), o4] [.ref 19, .int 10, .ref 23] rfl rfl ?_
    have h301 := (X267.2.f f19 (by decide) hp0)
    refine z_xgv zt191 34 rfl zo191 zzf12_133 X277 f19 (by decide) h301 ?_
    refine z_xI zt191 35 rfl rfl (fun (x302 : Int32) (h303 : x302.toInt = 10 * z0.toInt) => ?_) (z_pMul rfl rfl (by omega) (by omega))
    refine z_xP zt191 36 81 [some (.ref 19), some (.int b1), some (.int x198), some (.int 1), o4] [.ref 19, .int x302, .ref 23] rfl rfl ?_
    refine z_xgX (b := 24) zt191 37 rfl zo191 zzf12_22 X277 f19 (by decide) (by decide) rfl ?_
    refine z_xP zt191 38 85 [some (.ref 19), some (.int b1), some (.int x198), some (.int 1), o4] [.ref 19, .ref 24, .int x302, .ref 23] rfl rfl ?_
    refine z_xgv zt191 39 rfl zo191 zzf12_133 X277 f19 (by decide) h301 ?_
    have f24 : T[24]? = some (.inr (24, 0, 8, 0, 10)) := X277.1.k rfl (by decide)
    refine z_xil zt191 40 rfl X277 f24 (by decide) (by omega) (by omega) (fun (x304 : Int32) h305 (h306 : 0 ≤ x304.toInt) (h307 : x304.toInt ≤ 10) => ?_)
    have h308 := congrArg Int32.toInt (h305.symm.trans ((congrFun (X267.2.a f24 (by decide)) _).trans hp2))
    refine z_xI zt191 41 rfl rfl (fun (x309 : Int32) (h310 : x309.toInt = x302.toInt + x304.toInt) => ?_) (z_pAdd rfl rfl (by omega) (by omega))
    refine z_xP zt191 42 91 [some (.ref 19), some (.int b1), some (.int x198), some (.int 1), o4] [.int x198, .int x309, .ref 23] rfl rfl ?_
    have f23 : T[23]? = some (.inr (23, 0, 80, (-2147483648), 2147483647)) := X277.1.k rfl (by decide)
    have h312 := ((congrFun (X267.2.a f24 (by decide)) _).trans hp2)
    have h313 := z_NQm (h269 (by omega)) rfl (n2 := z2.toInt) (Int.le_of_eq (congrArg Int32.toInt hp2).symm)
    have h314 := z_NQm h313 (X267.2.a f23 (by decide)) (Int.le_refl _)
    have h315 := (z_FPm hf (X267.2.a f23 (by decide)) rfl)
    have h311 := z_FPn h315 h314 (by omega) (by omega)
    refine z_xis zt191 43 rfl X277 f23 (by decide) (by decide) (by omega) (by omega) (Int32.le_toInt _) (Int32.toInt_le _) (by decide) (fun M316 X317 e318 h319 => ?_)
    have h320 := (e318.f f19 (by decide) h301)
    have h321 := z_GLl (z_GL.ke hl X267.2 f23 f24 (by decide)) h312 (by omega) (by omega) (by omega) (by omega) h319 (e318.a f24 (by decide))
    have h324 := ((congrFun (e318.a f24 (by decide)) _).trans h312)
    have h322 := z_FPs (n2 := z2.toInt + 1) h315 h314 (by omega) (by omega) h319 (by omega) (by omega) (by omega) rfl
    refine z_xP zt191 44 93 [some (.ref 19), some (.int b1), some (.int x198), some (.int 1), o4] [.ref 19] rfl rfl ?_
    refine z_xgX (b := 24) zt191 45 rfl zo191 zzf12_22 X317 f19 (by decide) (by decide) rfl ?_
    refine z_xP zt191 46 97 [some (.ref 19), some (.int b1), some (.int x198), some (.int 1), o4] [.ref 19, .ref 24] rfl rfl ?_
    refine z_xgv zt191 47 rfl zo191 zzf12_133 X317 f19 (by decide) h320 ?_
    refine z_xP zt191 48 101 [some (.ref 19), some (.int b1), some (.int x198), some (.int 1), o4] [.int z0, .ref 24, .int z0, .ref 24] rfl rfl ?_
    refine z_xil zt191 49 rfl X317 f24 (by decide) (by omega) (by omega) (fun (x325 : Int32) h326 (h327 : 0 ≤ x325.toInt) (h328 : x325.toInt ≤ 10) => ?_)
    have h329 := congrArg Int32.toInt (h326.symm.trans h324)
    refine z_xP zt191 50 103 [some (.ref 19), some (.int b1), some (.int x198), some (.int 1), o4] [.int 1, .int x325, .int z0, .ref 24] rfl rfl ?_
    refine z_xI zt191 51 rfl rfl (fun (x330 : Int32) (h331 : x330.toInt = x325.toInt + 1) => ?_) (z_pAdd rfl rfl (by omega) (by omega))
    refine z_xis zt191 52 rfl X317 f24 (by decide) (by decide) (by omega) (by omega) (by omega) (by omega) (by decide) (fun M332 X333 e334 h335 => ?_)
    have h336 := (e334.f f19 (by decide) h320)
    have h337 := z_GLq h321 h324 (by omega) (by omega) (by omega) (z_upe h319) (by omega) (by omega) (e334.a f23 (by decide)) h335
    have h338 := z_FPm (n2 := x330.toInt) (z_FPm h322 (e334.a f23 (by decide)) rfl) rfl (by omega)
    refine z_xP zt191 53 107 [some (.ref 19), some (.int b1), some (.int x198), some (.int 1), o4] [.ref 19, .ref 19] rfl rfl ?_
    have h339 := (e334.f f19 (by decide) (e318.f f19 (by decide) (X267.2.f f19 (by decide) hp1)))
    refine z_xgv zt191 54 rfl zo191 zzf12_123 X333 f19 (by decide) h339 ?_
    refine z_xP zt191 55 111 [some (.ref 19), some (.int b1), some (.int x198), some (.int 1), o4] [.int 1, .int z1, .ref 19] rfl rfl ?_
    refine z_xI zt191 56 rfl rfl (fun (x340 : Int32) (h341 : x340.toInt = z1.toInt + 1) => ?_) (z_pAdd rfl rfl (by omega) (by omega))
    refine z_xpf zt191 57 rfl zo191 zzf12_123 X333 f19 (by decide) (by decide) ⟨by omega, by omega⟩ rfl (by decide) zw12_24 (fun M342 X343 e344 h345 => ?_)
    refine z_xP zt191 58 142 [some (.ref 19), some (.int b1), some (.int x198), some (.int 1), o4] [] rfl rfl ?_
    refine z_xP zt191 70 36 [some (.ref 19), some (.int b1), some (.int x198), some (.int 1), o4] [] rfl rfl ?_
    have h346 := (e344.f f19 (by decide) h336)
    have h347 := ((congrFun (e344.a f24 (by decide)) _).trans (z_upe h335))
    have q1 : ((1 : Int32)).toInt = 1 := rfl
    exact ih M342 b1 (some (.int x198)) (some (.int 1)) (o4) z0 x340 x330 X343 ⟨by omega, by omega⟩ h346 ⟨by omega, by omega⟩ h345 ⟨by omega, by omega⟩ h347 ⟨by omega, by omega⟩ (z_GL.ke h337 e344 f23 f24 (by decide)) (z_FPm (z_FPm h338 (e344.a f23 (by decide)) rfl) rfl (by omega)) (by omega)
theorem zC191 {T : List zK} {d : Nat} {K : Option Value → zH → Prop}  {M0 : zH} (hW : z_W M0 T) (hL : z_GL M0) (kk : ∀ (M1 : zH), z_X T zw191 M0 M1 → z_GL M1 → K none M1) : z_ev (d + 2) 191 0 [some (.ref 19), none, none, none, none] [] M0 K := by
  have X : z_X T zw191 M0 M0 := .refl hW
  refine z_xP zt191 0 1 [some (.ref 19), none, none, none, none] [.ref 19] rfl rfl ?_
  have f19 : T[19]? = some (.inl (12, 0, 0, 0, 0)) := X.1.k rfl (by decide)
  refine z_xgX (b := 24) zt191 1 rfl zo191 zzf12_22 X f19 (by decide) (by decide) rfl ?_
  refine z_xP zt191 2 5 [some (.ref 19), none, none, none, none] [.ref 19, .ref 24] rfl rfl ?_
  refine z_xgI zt191 3 rfl zo191 zzf12_133 X f19 (by decide) (by decide) rfl (fun (x2 : Int32) h1 (h3 : 0 ≤ x2.toInt) (h4 : x2.toInt ≤ 7) => ?_)
  refine z_xP zt191 4 9 [some (.ref 19), none, none, none, none] [.int 0, .int x2, .ref 24] rfl rfl ?_
  have f24 : T[24]? = some (.inr (24, 0, 8, 0, 10)) := X.1.k rfl (by decide)
  have q0 : ((0 : Int32)).toInt = 0 := rfl
  refine z_xis zt191 5 rfl X f24 (by decide) (by decide) (by omega) (by omega) (by omega) (by omega) (by decide) (fun M5 X6 e7 h8 => ?_)
  have h9 := (e7.f f19 (by decide) h1)
  have f23 : T[23]? = some (.inr (23, 0, 80, (-2147483648), 2147483647)) := X6.1.k rfl (by decide)
  have h10 := z_GLz hL (e7.a f23 (by decide)) h8 (by omega)
  refine z_xP zt191 6 13 [some (.ref 19), none, none, none, none] [.int 113, .ref 19] rfl rfl ?_
  refine z_xcV (vs := [.ref 19, .int 113]) (r := []) (L2 := [some (.ref 19), some (.int 113)]) zt191 7 rfl zo191 zzcV12_147 (Or.inl rfl) rfl X6 f19 rfl rfl rfl (Nat.le_of_ble_eq_true rfl) zzm192 (Nat.le_of_ble_eq_true rfl) rfl ?_
  refine z_xP zt192 0 1 [some (.ref 19), some (.int 113)] [.ref 19] rfl rfl ?_
  refine z_xgI zt192 1 rfl zo192 zzf12_136 X6 f19 (by decide) (by decide) rfl (fun (x12 : Int32) h11 (h13 : (-2147483648) ≤ x12.toInt) (h14 : x12.toInt ≤ 2147483647) => ?_)
  refine z_xZ zt192 2 rfl rfl (fun (h15 : 0 ≤ x12.toInt) => ?_) (fun (h15 : x12.toInt < 0) => ?_)
  · skip
    refine z_xP zt192 7 16 [some (.ref 19), some (.int 113)] [.int 0] rfl rfl ?_
    refine z_xrz zt192 8 rfl zzr192 (by decide) (by decide) ?_
    show z_ev (d + 2) 191 16 [some (.ref 19), none, none, none, none] [.int 0] M5 _
    refine z_xZ zt191 8 rfl rfl (fun (h16 : (0 : Int) = 0) => ?_) (fun (h16 : (0 : Int) ≠ 0) => absurd h16 (by omega))
    refine z_xP zt191 12 29 [some (.ref 19), none, none, none, none] [.ref 19] rfl rfl ?_
    refine z_xcV (vs := [.ref 19]) (r := []) (L2 := [some (.ref 19)]) zt191 13 rfl zo191 zzcV12_163 (Or.inl rfl) rfl X6 f19 rfl rfl rfl (Nat.le_of_ble_eq_true rfl) zzm194 (Nat.le_of_ble_eq_true rfl) rfl ?_
    refine z_xP zt194 0 2 [some (.ref 19)] [.ref 19, .ref 19] rfl rfl ?_
    refine z_xgv zt194 1 rfl zo194 zzf12_136 X6 f19 (by decide) h11 ?_
    refine z_xZ zt194 2 rfl rfl (fun (h17 : 0 ≤ x12.toInt) => ?_) (fun (h17 : x12.toInt < 0) => absurd h17 (by omega))
    refine z_xP zt194 6 16 [some (.ref 19)] [.ref 19, .ref 19] rfl rfl ?_
    refine z_xgv zt194 7 rfl zo194 zzf12_136 X6 f19 (by decide) h11 ?_
    refine z_xpf zt194 8 rfl zo194 zzf12_136 X6 f19 (by decide) (by decide) ⟨Int32.le_toInt _, Int32.toInt_le _⟩ rfl (by decide) zw12_26 (fun M18 X19 e20 h21 => ?_)
    refine z_xP zt194 9 23 [some (.ref 19)] [.int 0] rfl rfl ?_
    refine z_xrz zt194 10 rfl zzr194 (by decide) (by decide) ?_
    show z_ev (d + 2) 191 32 [some (.ref 19), none, none, none, none] [.int 0] M18 _
    refine z_xP zt191 14 33 [some (.ref 19), some (.int 0), none, none, none] [] rfl rfl ?_
    exact z_xrv zt191 15 rfl zzr191 (kk M18 X19 (z_GL.ke h10 e20 f23 f24 (by decide)))
  refine z_xP zt192 3 8 [some (.ref 19), some (.int 113)] [.ref 19] rfl rfl ?_
  refine z_xcV (vs := [.ref 19]) (r := []) (L2 := [some (.ref 19)]) zt192 4 rfl zo192 zzcV12_139 (Or.inl rfl) rfl X6 f19 rfl rfl rfl (Nat.le_of_ble_eq_true rfl) zzm193 (Nat.le_of_ble_eq_true rfl) rfl ?_
  refine z_xP zt193 0 1 [some (.ref 19)] [.ref 19] rfl rfl ?_
  refine z_xgI zt193 1 rfl zo193 zzf12_123 X6 f19 (by decide) (by decide) rfl (fun (x23 : Int32) h22 (h24 : 0 ≤ x23.toInt) (h25 : x23.toInt ≤ 160) => ?_)
  refine z_xP zt193 2 5 [some (.ref 19)] [.ref 19, .int x23] rfl rfl ?_
  refine z_xgI zt193 3 rfl zo193 zzf12_126 X6 f19 (by decide) (by decide) rfl (fun (x27 : Int32) h26 (h28 : 0 ≤ x27.toInt) (h29 : x27.toInt ≤ 160) => ?_)
  refine z_xJ zt193 4 rfl rfl (fun (h30 : x27.toInt ≤ x23.toInt) => ?_) (fun (h30 : x23.toInt < x27.toInt) => ?_)
  · skip
    refine z_xP zt193 24 52 [some (.ref 19)] [.int 0] rfl rfl ?_
    refine z_xri zt193 25 rfl zzr193 ?_
    show z_ev (d + 1) 192 11 [some (.ref 19), some (.int 113)] [.int 0] M5 _
    refine z_xP zt192 5 12 [some (.ref 19), some (.int 113)] [.int 113, .int 0] rfl rfl ?_
    refine z_xJ zt192 6 rfl rfl (fun (h31 : (0 : Int) = 113) => absurd h31 (by omega)) (fun (h31 : (0 : Int) ≠ 113) => ?_)
    refine z_xP zt192 7 16 [some (.ref 19), some (.int 113)] [.int 0] rfl rfl ?_
    refine z_xrz zt192 8 rfl zzr192 (by decide) (by decide) ?_
    show z_ev (d + 2) 191 16 [some (.ref 19), none, none, none, none] [.int 0] M5 _
    refine z_xZ zt191 8 rfl rfl (fun (h32 : (0 : Int) = 0) => ?_) (fun (h32 : (0 : Int) ≠ 0) => absurd h32 (by omega))
    refine z_xP zt191 12 29 [some (.ref 19), none, none, none, none] [.ref 19] rfl rfl ?_
    refine z_xcV (vs := [.ref 19]) (r := []) (L2 := [some (.ref 19)]) zt191 13 rfl zo191 zzcV12_163 (Or.inl rfl) rfl X6 f19 rfl rfl rfl (Nat.le_of_ble_eq_true rfl) zzm194 (Nat.le_of_ble_eq_true rfl) rfl ?_
    refine z_xP zt194 0 2 [some (.ref 19)] [.ref 19, .ref 19] rfl rfl ?_
    refine z_xgv zt194 1 rfl zo194 zzf12_136 X6 f19 (by decide) h11 ?_
    refine z_xZ zt194 2 rfl rfl (fun (h33 : 0 ≤ x12.toInt) => absurd h33 (by omega)) (fun (h33 : x12.toInt < 0) => ?_)
    refine z_xP zt194 3 9 [some (.ref 19)] [.ref 19, .ref 19] rfl rfl ?_
    refine z_xgv zt194 4 rfl zo194 zzf12_123 X6 f19 (by decide) h22 ?_
    refine z_xP zt194 5 19 [some (.ref 19)] [.int x23, .ref 19] rfl rfl ?_
    refine z_xpf zt194 8 rfl zo194 zzf12_136 X6 f19 (by decide) (by decide) ⟨Int32.le_toInt _, Int32.toInt_le _⟩ rfl (by decide) zw12_26 (fun M34 X35 e36 h37 => ?_)
    refine z_xP zt194 9 23 [some (.ref 19)] [.int 0] rfl rfl ?_
    refine z_xrz zt194 10 rfl zzr194 (by decide) (by decide) ?_
    show z_ev (d + 2) 191 32 [some (.ref 19), none, none, none, none] [.int 0] M34 _
    refine z_xP zt191 14 33 [some (.ref 19), some (.int 0), none, none, none] [] rfl rfl ?_
    exact z_xrv zt191 15 rfl zzr191 (kk M34 X35 (z_GL.ke h10 e36 f23 f24 (by decide)))
  refine z_xP zt193 5 12 [some (.ref 19)] [.ref 19] rfl rfl ?_
  refine z_xgI zt193 6 rfl zo193 zzf12_129 X6 f19 (by decide) (by decide) rfl (fun (x39 : Int32) h38 (h40 : 0 ≤ x39.toInt) (h41 : x39.toInt ≤ 1) => ?_)
  refine z_xZ zt193 7 rfl rfl (fun (h42 : x39.toInt = 0) => ?_) (fun (h42 : x39.toInt ≠ 0) => ?_)
  · skip
    refine z_xP zt193 14 31 [some (.ref 19)] [.ref 19] rfl rfl ?_
    refine z_xgX (b := 21) zt193 15 rfl zo193 zzf12_13 X6 f19 (by decide) (by decide) rfl ?_
    refine z_xP zt193 16 38 [some (.ref 19)] [.ref 19, .int 160, .ref 21] rfl rfl ?_
    refine z_xgv zt193 17 rfl zo193 zzf12_133 X6 f19 (by decide) h9 ?_
    refine z_xI zt193 18 rfl rfl (fun (x43 : Int32) (h44 : x43.toInt = 160 * x2.toInt) => ?_) (z_pMul rfl rfl (by omega) (by omega))
    refine z_xP zt193 19 43 [some (.ref 19)] [.ref 19, .int x43, .ref 21] rfl rfl ?_
    refine z_xgv zt193 20 rfl zo193 zzf12_123 X6 f19 (by decide) h22 ?_
    refine z_xI zt193 21 rfl rfl (fun (x45 : Int32) (h46 : x45.toInt = x43.toInt + x23.toInt) => ?_) (z_pAdd rfl rfl (by omega) (by omega))
    have f21 : T[21]? = some (.inr (21, 0, 1280, (-2147483648), 2147483647)) := X6.1.k rfl (by decide)
    refine z_xil zt193 22 rfl X6 f21 (by decide) (by omega) (by omega) (fun (x47 : Int32) h48 (h49 : (-2147483648) ≤ x47.toInt) (h50 : x47.toInt ≤ 2147483647) => ?_)
    refine z_xP zt193 23 52 [some (.ref 19)] [.int x47] rfl rfl ?_
    refine z_xri zt193 25 rfl zzr193 ?_
    show z_ev (d + 1) 192 11 [some (.ref 19), some (.int 113)] [.int x47] M5 _
    refine z_xP zt192 5 12 [some (.ref 19), some (.int 113)] [.int 113, .int x47] rfl rfl ?_
    refine z_xJ zt192 6 rfl rfl (fun (h51 : x47.toInt = 113) => ?_) (fun (h51 : x47.toInt ≠ 113) => ?_)
    · skip
      refine z_xP zt192 9 19 [some (.ref 19), some (.int 113)] [.ref 19, .ref 19] rfl rfl ?_
      refine z_xgv zt192 10 rfl zo192 zzf12_123 X6 f19 (by decide) h22 ?_
      refine z_xP zt192 11 23 [some (.ref 19), some (.int 113)] [.int 1, .int x23, .ref 19] rfl rfl ?_
      refine z_xI zt192 12 rfl rfl (fun (x52 : Int32) (h53 : x52.toInt = x23.toInt + 1) => ?_) (z_pAdd rfl rfl (by omega) (by omega))
      refine z_xpf zt192 13 rfl zo192 zzf12_123 X6 f19 (by decide) (by decide) ⟨by omega, by omega⟩ rfl (by decide) zw12_24 (fun M54 X55 e56 h57 => ?_)
      refine z_xP zt192 14 28 [some (.ref 19), some (.int 113)] [.int 1] rfl rfl ?_
      refine z_xrz zt192 15 rfl zzr192 (by decide) (by decide) ?_
      show z_ev (d + 2) 191 16 [some (.ref 19), none, none, none, none] [.int 1] M54 _
      refine z_xZ zt191 8 rfl rfl (fun (h58 : (1 : Int) = 0) => absurd h58 (by omega)) (fun (h58 : (1 : Int) ≠ 0) => ?_)
      refine z_xP zt191 9 22 [some (.ref 19), none, none, none, none] [.int 32, .ref 19] rfl rfl ?_
      refine z_xcV (vs := [.ref 19, .int 32]) (r := []) (L2 := [some (.ref 19), some (.int 32)]) zt191 10 rfl zo191 zzcV12_147 (Or.inl rfl) rfl X55 f19 rfl rfl rfl (Nat.le_of_ble_eq_true rfl) zzm192 (Nat.le_of_ble_eq_true rfl) rfl ?_
      refine z_xP zt192 0 1 [some (.ref 19), some (.int 32)] [.ref 19] rfl rfl ?_
      have h59 := (e56.f f19 (by decide) h11)
      refine z_xgv zt192 1 rfl zo192 zzf12_136 X55 f19 (by decide) h59 ?_
      refine z_xZ zt192 2 rfl rfl (fun (h60 : 0 ≤ x12.toInt) => absurd h60 (by omega)) (fun (h60 : x12.toInt < 0) => ?_)
      refine z_xP zt192 3 8 [some (.ref 19), some (.int 32)] [.ref 19] rfl rfl ?_
      refine z_xcV (vs := [.ref 19]) (r := []) (L2 := [some (.ref 19)]) zt192 4 rfl zo192 zzcV12_139 (Or.inl rfl) rfl X55 f19 rfl rfl rfl (Nat.le_of_ble_eq_true rfl) zzm193 (Nat.le_of_ble_eq_true rfl) rfl ?_
      refine z_xP zt193 0 1 [some (.ref 19)] [.ref 19] rfl rfl ?_
      refine z_xgv zt193 1 rfl zo193 zzf12_123 X55 f19 (by decide) h57 ?_
      refine z_xP zt193 2 5 [some (.ref 19)] [.ref 19, .int x52] rfl rfl ?_
      have h61 := (e56.f f19 (by decide) h26)
      refine z_xgv zt193 3 rfl zo193 zzf12_126 X55 f19 (by decide) h61 ?_
      refine z_xJ zt193 4 rfl rfl (fun (h62 : x27.toInt ≤ x52.toInt) => ?_) (fun (h62 : x52.toInt < x27.toInt) => ?_)
      · skip
        refine z_xP zt193 24 52 [some (.ref 19)] [.int 0] rfl rfl ?_
        refine z_xri zt193 25 rfl zzr193 ?_
        show z_ev (d + 1) 192 11 [some (.ref 19), some (.int 32)] [.int 0] M54 _
        refine z_xP zt192 5 12 [some (.ref 19), some (.int 32)] [.int 32, .int 0] rfl rfl ?_
        refine z_xJ zt192 6 rfl rfl (fun (h63 : (0 : Int) = 32) => absurd h63 (by omega)) (fun (h63 : (0 : Int) ≠ 32) => ?_)
        refine z_xP zt192 7 16 [some (.ref 19), some (.int 32)] [.int 0] rfl rfl ?_
        refine z_xrz zt192 8 rfl zzr192 (by decide) (by decide) ?_
        show z_ev (d + 2) 191 25 [some (.ref 19), none, none, none, none] [.int 0] M54 _
        refine z_xZ zt191 11 rfl rfl (fun (h64 : (0 : Int) ≠ 0) => absurd h64 (by omega)) (fun (h64 : (0 : Int) = 0) => ?_)
        refine z_xP zt191 12 29 [some (.ref 19), none, none, none, none] [.ref 19] rfl rfl ?_
        refine z_xcV (vs := [.ref 19]) (r := []) (L2 := [some (.ref 19)]) zt191 13 rfl zo191 zzcV12_163 (Or.inl rfl) rfl X55 f19 rfl rfl rfl (Nat.le_of_ble_eq_true rfl) zzm194 (Nat.le_of_ble_eq_true rfl) rfl ?_
        refine z_xP zt194 0 2 [some (.ref 19)] [.ref 19, .ref 19] rfl rfl ?_
        refine z_xgv zt194 1 rfl zo194 zzf12_136 X55 f19 (by decide) h59 ?_
        refine z_xZ zt194 2 rfl rfl (fun (h65 : 0 ≤ x12.toInt) => absurd h65 (by omega)) (fun (h65 : x12.toInt < 0) => ?_)
        refine z_xP zt194 3 9 [some (.ref 19)] [.ref 19, .ref 19] rfl rfl ?_
        refine z_xgv zt194 4 rfl zo194 zzf12_123 X55 f19 (by decide) h57 ?_
        refine z_xP zt194 5 19 [some (.ref 19)] [.int x52, .ref 19] rfl rfl ?_
        refine z_xpf zt194 8 rfl zo194 zzf12_136 X55 f19 (by decide) (by decide) ⟨Int32.le_toInt _, Int32.toInt_le _⟩ rfl (by decide) zw12_26 (fun M66 X67 e68 h69 => ?_)
        refine z_xP zt194 9 23 [some (.ref 19)] [.int 0] rfl rfl ?_
        refine z_xrz zt194 10 rfl zzr194 (by decide) (by decide) ?_
        show z_ev (d + 2) 191 32 [some (.ref 19), none, none, none, none] [.int 0] M66 _
        refine z_xP zt191 14 33 [some (.ref 19), some (.int 0), none, none, none] [] rfl rfl ?_
        exact z_xrv zt191 15 rfl zzr191 (kk M66 X67 (z_GL.ke (z_GL.ke h10 e56 f23 f24 (by decide)) e68 f23 f24 (by decide)))
      refine z_xP zt193 5 12 [some (.ref 19)] [.ref 19] rfl rfl ?_
      have h70 := (e56.f f19 (by decide) h38)
      refine z_xgv zt193 6 rfl zo193 zzf12_129 X55 f19 (by decide) h70 ?_
      refine z_xZ zt193 7 rfl rfl (fun (h71 : x39.toInt = 0) => ?_) (fun (h71 : x39.toInt ≠ 0) => absurd h71 (by omega))
      refine z_xP zt193 14 31 [some (.ref 19)] [.ref 19] rfl rfl ?_
      refine z_xgX (b := 21) zt193 15 rfl zo193 zzf12_13 X55 f19 (by decide) (by decide) rfl ?_
      refine z_xP zt193 16 38 [some (.ref 19)] [.ref 19, .int 160, .ref 21] rfl rfl ?_
      have h72 := (e56.f f19 (by decide) h9)
      refine z_xgv zt193 17 rfl zo193 zzf12_133 X55 f19 (by decide) h72 ?_
      refine z_xI zt193 18 rfl rfl (fun (x73 : Int32) (h74 : x73.toInt = 160 * x2.toInt) => ?_) (z_pMul rfl rfl (by omega) (by omega))
      refine z_xP zt193 19 43 [some (.ref 19)] [.ref 19, .int x73, .ref 21] rfl rfl ?_
      refine z_xgv zt193 20 rfl zo193 zzf12_123 X55 f19 (by decide) h57 ?_
      refine z_xI zt193 21 rfl rfl (fun (x75 : Int32) (h76 : x75.toInt = x73.toInt + x52.toInt) => ?_) (z_pAdd rfl rfl (by omega) (by omega))
      refine z_xil zt193 22 rfl X55 f21 (by decide) (by omega) (by omega) (fun (x77 : Int32) h78 (h79 : (-2147483648) ≤ x77.toInt) (h80 : x77.toInt ≤ 2147483647) => ?_)
      refine z_xP zt193 23 52 [some (.ref 19)] [.int x77] rfl rfl ?_
      refine z_xri zt193 25 rfl zzr193 ?_
      show z_ev (d + 1) 192 11 [some (.ref 19), some (.int 32)] [.int x77] M54 _
      refine z_xP zt192 5 12 [some (.ref 19), some (.int 32)] [.int 32, .int x77] rfl rfl ?_
      refine z_xJ zt192 6 rfl rfl (fun (h81 : x77.toInt = 32) => ?_) (fun (h81 : x77.toInt ≠ 32) => ?_)
      · skip
        refine z_xP zt192 9 19 [some (.ref 19), some (.int 32)] [.ref 19, .ref 19] rfl rfl ?_
        refine z_xgv zt192 10 rfl zo192 zzf12_123 X55 f19 (by decide) h57 ?_
        refine z_xP zt192 11 23 [some (.ref 19), some (.int 32)] [.int 1, .int x52, .ref 19] rfl rfl ?_
        refine z_xI zt192 12 rfl rfl (fun (x82 : Int32) (h83 : x82.toInt = x52.toInt + 1) => ?_) (z_pAdd rfl rfl (by omega) (by omega))
        refine z_xpf zt192 13 rfl zo192 zzf12_123 X55 f19 (by decide) (by decide) ⟨by omega, by omega⟩ rfl (by decide) zw12_24 (fun M84 X85 e86 h87 => ?_)
        refine z_xP zt192 14 28 [some (.ref 19), some (.int 32)] [.int 1] rfl rfl ?_
        refine z_xrz zt192 15 rfl zzr192 (by decide) (by decide) ?_
        show z_ev (d + 2) 191 25 [some (.ref 19), none, none, none, none] [.int 1] M84 _
        refine z_xZ zt191 11 rfl rfl (fun (h88 : (1 : Int) ≠ 0) => ?_) (fun (h88 : (1 : Int) = 0) => absurd h88 (by omega))
        refine z_xP zt191 16 36 [some (.ref 19), some (.int 1), none, none, none] [] rfl rfl ?_
        have h89 := (e86.f f19 (by decide) h72)
        have h90 := ((congrFun (e86.a f24 (by decide)) _).trans ((congrFun (e56.a f24 (by decide)) _).trans (z_upe h8)))
        have q0 : ((0 : Int32)).toInt = 0 := rfl
        have q1 : ((1 : Int32)).toInt = 1 := rfl
        exact (zB191 hL kk 646) M84 (1) none none none x2 x82 (0) X85 (by decide) h89 ⟨by omega, by omega⟩ h87 ⟨by omega, by omega⟩ h90 (by decide) (z_GL.ke (z_GL.ke h10 e56 f23 f24 (by decide)) e86 f23 f24 (by decide)) (z_FP0 (by omega)) (by omega)
      refine z_xP zt192 7 16 [some (.ref 19), some (.int 32)] [.int 0] rfl rfl ?_
      refine z_xrz zt192 8 rfl zzr192 (by decide) (by decide) ?_
      show z_ev (d + 2) 191 25 [some (.ref 19), none, none, none, none] [.int 0] M54 _
      refine z_xZ zt191 11 rfl rfl (fun (h91 : (0 : Int) ≠ 0) => absurd h91 (by omega)) (fun (h91 : (0 : Int) = 0) => ?_)
      refine z_xP zt191 12 29 [some (.ref 19), none, none, none, none] [.ref 19] rfl rfl ?_
      refine z_xcV (vs := [.ref 19]) (r := []) (L2 := [some (.ref 19)]) zt191 13 rfl zo191 zzcV12_163 (Or.inl rfl) rfl X55 f19 rfl rfl rfl (Nat.le_of_ble_eq_true rfl) zzm194 (Nat.le_of_ble_eq_true rfl) rfl ?_
      refine z_xP zt194 0 2 [some (.ref 19)] [.ref 19, .ref 19] rfl rfl ?_
      refine z_xgv zt194 1 rfl zo194 zzf12_136 X55 f19 (by decide) h59 ?_
      refine z_xZ zt194 2 rfl rfl (fun (h92 : 0 ≤ x12.toInt) => absurd h92 (by omega)) (fun (h92 : x12.toInt < 0) => ?_)
      refine z_xP zt194 3 9 [some (.ref 19)] [.ref 19, .ref 19] rfl rfl ?_
      refine z_xgv zt194 4 rfl zo194 zzf12_123 X55 f19 (by decide) h57 ?_
      refine z_xP zt194 5 19 [some (.ref 19)] [.int x52, .ref 19] rfl rfl ?_
      refine z_xpf zt194 8 rfl zo194 zzf12_136 X55 f19 (by decide) (by decide) ⟨Int32.le_toInt _, Int32.toInt_le _⟩ rfl (by decide) zw12_26 (fun M93 X94 e95 h96 => ?_)
      refine z_xP zt194 9 23 [some (.ref 19)] [.int 0] rfl rfl ?_
      refine z_xrz zt194 10 rfl zzr194 (by decide) (by decide) ?_
      show z_ev (d + 2) 191 32 [some (.ref 19), none, none, none, none] [.int 0] M93 _
      refine z_xP zt191 14 33 [some (.ref 19), some (.int 0), none, none, none] [] rfl rfl ?_
      exact z_xrv zt191 15 rfl zzr191 (kk M93 X94 (z_GL.ke (z_GL.ke h10 e56 f23 f24 (by decide)) e95 f23 f24 (by decide)))
    refine z_xP zt192 7 16 [some (.ref 19), some (.int 113)] [.int 0] rfl rfl ?_
    refine z_xrz zt192 8 rfl zzr192 (by decide) (by decide) ?_
    show z_ev (d + 2) 191 16 [some (.ref 19), none, none, none, none] [.int 0] M5 _
    refine z_xZ zt191 8 rfl rfl (fun (h97 : (0 : Int) = 0) => ?_) (fun (h97 : (0 : Int) ≠ 0) => absurd h97 (by omega))
    refine z_xP zt191 12 29 [some (.ref 19), none, none, none, none] [.ref 19] rfl rfl ?_
    refine z_xcV (vs := [.ref 19]) (r := []) (L2 := [some (.ref 19)]) zt191 13 rfl zo191 zzcV12_163 (Or.inl rfl) rfl X6 f19 rfl rfl rfl (Nat.le_of_ble_eq_true rfl) zzm194 (Nat.le_of_ble_eq_true rfl) rfl ?_
    refine z_xP zt194 0 2 [some (.ref 19)] [.ref 19, .ref 19] rfl rfl ?_
    refine z_xgv zt194 1 rfl zo194 zzf12_136 X6 f19 (by decide) h11 ?_
    refine z_xZ zt194 2 rfl rfl (fun (h98 : 0 ≤ x12.toInt) => absurd h98 (by omega)) (fun (h98 : x12.toInt < 0) => ?_)
    refine z_xP zt194 3 9 [some (.ref 19)] [.ref 19, .ref 19] rfl rfl ?_
    refine z_xgv zt194 4 rfl zo194 zzf12_123 X6 f19 (by decide) h22 ?_
    refine z_xP zt194 5 19 [some (.ref 19)] [.int x23, .ref 19] rfl rfl ?_
    refine z_xpf zt194 8 rfl zo194 zzf12_136 X6 f19 (by decide) (by decide) ⟨Int32.le_toInt _, Int32.toInt_le _⟩ rfl (by decide) zw12_26 (fun M99 X100 e101 h102 => ?_)
    refine z_xP zt194 9 23 [some (.ref 19)] [.int 0] rfl rfl ?_
    refine z_xrz zt194 10 rfl zzr194 (by decide) (by decide) ?_
    show z_ev (d + 2) 191 32 [some (.ref 19), none, none, none, none] [.int 0] M99 _
    refine z_xP zt191 14 33 [some (.ref 19), some (.int 0), none, none, none] [] rfl rfl ?_
    exact z_xrv zt191 15 rfl zzr191 (kk M99 X100 (z_GL.ke h10 e101 f23 f24 (by decide)))
  refine z_xP zt193 8 19 [some (.ref 19)] [.ref 19] rfl rfl ?_
  refine z_xgX (b := 20) zt193 9 rfl zo193 zzf12_9 X6 f19 (by decide) (by decide) rfl ?_
  refine z_xP zt193 10 23 [some (.ref 19)] [.ref 19, .ref 20] rfl rfl ?_
  refine z_xgv zt193 11 rfl zo193 zzf12_123 X6 f19 (by decide) h22 ?_
  have f20 : T[20]? = some (.inr (20, 0, 160, (-2147483648), 2147483647)) := X6.1.k rfl (by decide)
  refine z_xil zt193 12 rfl X6 f20 (by decide) (by omega) (by omega) (fun (x103 : Int32) h104 (h105 : (-2147483648) ≤ x103.toInt) (h106 : x103.toInt ≤ 2147483647) => ?_)
  refine z_xP zt193 13 52 [some (.ref 19)] [.int x103] rfl rfl ?_
  refine z_xri zt193 25 rfl zzr193 ?_
  show z_ev (d + 1) 192 11 [some (.ref 19), some (.int 113)] [.int x103] M5 _
  refine z_xP zt192 5 12 [some (.ref 19), some (.int 113)] [.int 113, .int x103] rfl rfl ?_
  refine z_xJ zt192 6 rfl rfl (fun (h107 : x103.toInt = 113) => ?_) (fun (h107 : x103.toInt ≠ 113) => ?_)
  · skip
    refine z_xP zt192 9 19 [some (.ref 19), some (.int 113)] [.ref 19, .ref 19] rfl rfl ?_
    refine z_xgv zt192 10 rfl zo192 zzf12_123 X6 f19 (by decide) h22 ?_
    refine z_xP zt192 11 23 [some (.ref 19), some (.int 113)] [.int 1, .int x23, .ref 19] rfl rfl ?_
    refine z_xI zt192 12 rfl rfl (fun (x108 : Int32) (h109 : x108.toInt = x23.toInt + 1) => ?_) (z_pAdd rfl rfl (by omega) (by omega))
    refine z_xpf zt192 13 rfl zo192 zzf12_123 X6 f19 (by decide) (by decide) ⟨by omega, by omega⟩ rfl (by decide) zw12_24 (fun M110 X111 e112 h113 => ?_)
    refine z_xP zt192 14 28 [some (.ref 19), some (.int 113)] [.int 1] rfl rfl ?_
    refine z_xrz zt192 15 rfl zzr192 (by decide) (by decide) ?_
    show z_ev (d + 2) 191 16 [some (.ref 19), none, none, none, none] [.int 1] M110 _
    refine z_xZ zt191 8 rfl rfl (fun (h114 : (1 : Int) = 0) => absurd h114 (by omega)) (fun (h114 : (1 : Int) ≠ 0) => ?_)
    refine z_xP zt191 9 22 [some (.ref 19), none, none, none, none] [.int 32, .ref 19] rfl rfl ?_
    refine z_xcV (vs := [.ref 19, .int 32]) (r := []) (L2 := [some (.ref 19), some (.int 32)]) zt191 10 rfl zo191 zzcV12_147 (Or.inl rfl) rfl X111 f19 rfl rfl rfl (Nat.le_of_ble_eq_true rfl) zzm192 (Nat.le_of_ble_eq_true rfl) rfl ?_
    refine z_xP zt192 0 1 [some (.ref 19), some (.int 32)] [.ref 19] rfl rfl ?_
    have h115 := (e112.f f19 (by decide) h11)
    refine z_xgv zt192 1 rfl zo192 zzf12_136 X111 f19 (by decide) h115 ?_
    refine z_xZ zt192 2 rfl rfl (fun (h116 : 0 ≤ x12.toInt) => absurd h116 (by omega)) (fun (h116 : x12.toInt < 0) => ?_)
    refine z_xP zt192 3 8 [some (.ref 19), some (.int 32)] [.ref 19] rfl rfl ?_
    refine z_xcV (vs := [.ref 19]) (r := []) (L2 := [some (.ref 19)]) zt192 4 rfl zo192 zzcV12_139 (Or.inl rfl) rfl X111 f19 rfl rfl rfl (Nat.le_of_ble_eq_true rfl) zzm193 (Nat.le_of_ble_eq_true rfl) rfl ?_
    refine z_xP zt193 0 1 [some (.ref 19)] [.ref 19] rfl rfl ?_
    refine z_xgv zt193 1 rfl zo193 zzf12_123 X111 f19 (by decide) h113 ?_
    refine z_xP zt193 2 5 [some (.ref 19)] [.ref 19, .int x108] rfl rfl ?_
    have h117 := (e112.f f19 (by decide) h26)
    refine z_xgv zt193 3 rfl zo193 zzf12_126 X111 f19 (by decide) h117 ?_
    refine z_xJ zt193 4 rfl rfl (fun (h118 : x27.toInt ≤ x108.toInt) => ?_) (fun (h118 : x108.toInt < x27.toInt) => ?_)
    · skip
      refine z_xP zt193 24 52 [some (.ref 19)] [.int 0] rfl rfl ?_
      refine z_xri zt193 25 rfl zzr193 ?_
      show z_ev (d + 1) 192 11 [some (.ref 19), some (.int 32)] [.int 0] M110 _
      refine z_xP zt192 5 12 [some (.ref 19), some (.int 32)] [.int 32, .int 0] rfl rfl ?_
      refine z_xJ zt192 6 rfl rfl (fun (h119 : (0 : Int) = 32) => absurd h119 (by omega)) (fun (h119 : (0 : Int) ≠ 32) => ?_)
      refine z_xP zt192 7 16 [some (.ref 19), some (.int 32)] [.int 0] rfl rfl ?_
      refine z_xrz zt192 8 rfl zzr192 (by decide) (by decide) ?_
      show z_ev (d + 2) 191 25 [some (.ref 19), none, none, none, none] [.int 0] M110 _
      refine z_xZ zt191 11 rfl rfl (fun (h120 : (0 : Int) ≠ 0) => absurd h120 (by omega)) (fun (h120 : (0 : Int) = 0) => ?_)
      refine z_xP zt191 12 29 [some (.ref 19), none, none, none, none] [.ref 19] rfl rfl ?_
      refine z_xcV (vs := [.ref 19]) (r := []) (L2 := [some (.ref 19)]) zt191 13 rfl zo191 zzcV12_163 (Or.inl rfl) rfl X111 f19 rfl rfl rfl (Nat.le_of_ble_eq_true rfl) zzm194 (Nat.le_of_ble_eq_true rfl) rfl ?_
      refine z_xP zt194 0 2 [some (.ref 19)] [.ref 19, .ref 19] rfl rfl ?_
      refine z_xgv zt194 1 rfl zo194 zzf12_136 X111 f19 (by decide) h115 ?_
      refine z_xZ zt194 2 rfl rfl (fun (h121 : 0 ≤ x12.toInt) => absurd h121 (by omega)) (fun (h121 : x12.toInt < 0) => ?_)
      refine z_xP zt194 3 9 [some (.ref 19)] [.ref 19, .ref 19] rfl rfl ?_
      refine z_xgv zt194 4 rfl zo194 zzf12_123 X111 f19 (by decide) h113 ?_
      refine z_xP zt194 5 19 [some (.ref 19)] [.int x108, .ref 19] rfl rfl ?_
      refine z_xpf zt194 8 rfl zo194 zzf12_136 X111 f19 (by decide) (by decide) ⟨Int32.le_toInt _, Int32.toInt_le _⟩ rfl (by decide) zw12_26 (fun M122 X123 e124 h125 => ?_)
      refine z_xP zt194 9 23 [some (.ref 19)] [.int 0] rfl rfl ?_
      refine z_xrz zt194 10 rfl zzr194 (by decide) (by decide) ?_
      show z_ev (d + 2) 191 32 [some (.ref 19), none, none, none, none] [.int 0] M122 _
      refine z_xP zt191 14 33 [some (.ref 19), some (.int 0), none, none, none] [] rfl rfl ?_
      exact z_xrv zt191 15 rfl zzr191 (kk M122 X123 (z_GL.ke (z_GL.ke h10 e112 f23 f24 (by decide)) e124 f23 f24 (by decide)))
    refine z_xP zt193 5 12 [some (.ref 19)] [.ref 19] rfl rfl ?_
    have h126 := (e112.f f19 (by decide) h38)
    refine z_xgv zt193 6 rfl zo193 zzf12_129 X111 f19 (by decide) h126 ?_
    refine z_xZ zt193 7 rfl rfl (fun (h127 : x39.toInt = 0) => absurd h127 (by omega)) (fun (h127 : x39.toInt ≠ 0) => ?_)
    refine z_xP zt193 8 19 [some (.ref 19)] [.ref 19] rfl rfl ?_
    refine z_xgX (b := 20) zt193 9 rfl zo193 zzf12_9 X111 f19 (by decide) (by decide) rfl ?_
    refine z_xP zt193 10 23 [some (.ref 19)] [.ref 19, .ref 20] rfl rfl ?_
    refine z_xgv zt193 11 rfl zo193 zzf12_123 X111 f19 (by decide) h113 ?_
    refine z_xil zt193 12 rfl X111 f20 (by decide) (by omega) (by omega) (fun (x128 : Int32) h129 (h130 : (-2147483648) ≤ x128.toInt) (h131 : x128.toInt ≤ 2147483647) => ?_)
    refine z_xP zt193 13 52 [some (.ref 19)] [.int x128] rfl rfl ?_
    refine z_xri zt193 25 rfl zzr193 ?_
    show z_ev (d + 1) 192 11 [some (.ref 19), some (.int 32)] [.int x128] M110 _
    refine z_xP zt192 5 12 [some (.ref 19), some (.int 32)] [.int 32, .int x128] rfl rfl ?_
    refine z_xJ zt192 6 rfl rfl (fun (h132 : x128.toInt = 32) => ?_) (fun (h132 : x128.toInt ≠ 32) => ?_)
    · skip
      refine z_xP zt192 9 19 [some (.ref 19), some (.int 32)] [.ref 19, .ref 19] rfl rfl ?_
      refine z_xgv zt192 10 rfl zo192 zzf12_123 X111 f19 (by decide) h113 ?_
      refine z_xP zt192 11 23 [some (.ref 19), some (.int 32)] [.int 1, .int x108, .ref 19] rfl rfl ?_
      refine z_xI zt192 12 rfl rfl (fun (x133 : Int32) (h134 : x133.toInt = x108.toInt + 1) => ?_) (z_pAdd rfl rfl (by omega) (by omega))
      refine z_xpf zt192 13 rfl zo192 zzf12_123 X111 f19 (by decide) (by decide) ⟨by omega, by omega⟩ rfl (by decide) zw12_24 (fun M135 X136 e137 h138 => ?_)
      refine z_xP zt192 14 28 [some (.ref 19), some (.int 32)] [.int 1] rfl rfl ?_
      refine z_xrz zt192 15 rfl zzr192 (by decide) (by decide) ?_
      show z_ev (d + 2) 191 25 [some (.ref 19), none, none, none, none] [.int 1] M135 _
      refine z_xZ zt191 11 rfl rfl (fun (h139 : (1 : Int) ≠ 0) => ?_) (fun (h139 : (1 : Int) = 0) => absurd h139 (by omega))
      refine z_xP zt191 16 36 [some (.ref 19), some (.int 1), none, none, none] [] rfl rfl ?_
      have h140 := (e137.f f19 (by decide) (e112.f f19 (by decide) h9))
      have h141 := ((congrFun (e137.a f24 (by decide)) _).trans ((congrFun (e112.a f24 (by decide)) _).trans (z_upe h8)))
      have q0 : ((0 : Int32)).toInt = 0 := rfl
      have q1 : ((1 : Int32)).toInt = 1 := rfl
      exact (zB191 hL kk 646) M135 (1) none none none x2 x133 (0) X136 (by decide) h140 ⟨by omega, by omega⟩ h138 ⟨by omega, by omega⟩ h141 (by decide) (z_GL.ke (z_GL.ke h10 e112 f23 f24 (by decide)) e137 f23 f24 (by decide)) (z_FP0 (by omega)) (by omega)
    refine z_xP zt192 7 16 [some (.ref 19), some (.int 32)] [.int 0] rfl rfl ?_
    refine z_xrz zt192 8 rfl zzr192 (by decide) (by decide) ?_
    show z_ev (d + 2) 191 25 [some (.ref 19), none, none, none, none] [.int 0] M110 _
    refine z_xZ zt191 11 rfl rfl (fun (h142 : (0 : Int) ≠ 0) => absurd h142 (by omega)) (fun (h142 : (0 : Int) = 0) => ?_)
    refine z_xP zt191 12 29 [some (.ref 19), none, none, none, none] [.ref 19] rfl rfl ?_
    refine z_xcV (vs := [.ref 19]) (r := []) (L2 := [some (.ref 19)]) zt191 13 rfl zo191 zzcV12_163 (Or.inl rfl) rfl X111 f19 rfl rfl rfl (Nat.le_of_ble_eq_true rfl) zzm194 (Nat.le_of_ble_eq_true rfl) rfl ?_
    refine z_xP zt194 0 2 [some (.ref 19)] [.ref 19, .ref 19] rfl rfl ?_
    refine z_xgv zt194 1 rfl zo194 zzf12_136 X111 f19 (by decide) h115 ?_
    refine z_xZ zt194 2 rfl rfl (fun (h143 : 0 ≤ x12.toInt) => absurd h143 (by omega)) (fun (h143 : x12.toInt < 0) => ?_)
    refine z_xP zt194 3 9 [some (.ref 19)] [.ref 19, .ref 19] rfl rfl ?_
    refine z_xgv zt194 4 rfl zo194 zzf12_123 X111 f19 (by decide) h113 ?_
    refine z_xP zt194 5 19 [some (.ref 19)] [.int x108, .ref 19] rfl rfl ?_
    refine z_xpf zt194 8 rfl zo194 zzf12_136 X111 f19 (by decide) (by decide) ⟨Int32.le_toInt _, Int32.toInt_le _⟩ rfl (by decide) zw12_26 (fun M144 X145 e146 h147 => ?_)
    refine z_xP zt194 9 23 [some (.ref 19)] [.int 0] rfl rfl ?_
    refine z_xrz zt194 10 rfl zzr194 (by decide) (by decide) ?_
    show z_ev (d + 2) 191 32 [some (.ref 19), none, none, none, none] [.int 0] M144 _
    refine z_xP zt191 14 33 [some (.ref 19), some (.int 0), none, none, none] [] rfl rfl ?_
    exact z_xrv zt191 15 rfl zzr191 (kk M144 X145 (z_GL.ke (z_GL.ke h10 e112 f23 f24 (by decide)) e146 f23 f24 (by decide)))
  refine z_xP zt192 7 16 [some (.ref 19), some (.int 113)] [.int 0] rfl rfl ?_
  refine z_xrz zt192 8 rfl zzr192 (by decide) (by decide) ?_
  show z_ev (d + 2) 191 16 [some (.ref 19), none, none, none, none] [.int 0] M5 _
  refine z_xZ zt191 8 rfl rfl (fun (h148 : (0 : Int) = 0) => ?_) (fun (h148 : (0 : Int) ≠ 0) => absurd h148 (by omega))
  refine z_xP zt191 12 29 [some (.ref 19), none, none, none, none] [.ref 19] rfl rfl ?_
  refine z_xcV (vs := [.ref 19]) (r := []) (L2 := [some (.ref 19)]) zt191 13 rfl zo191 zzcV12_163 (Or.inl rfl) rfl X6 f19 rfl rfl rfl (Nat.le_of_ble_eq_true rfl) zzm194 (Nat.le_of_ble_eq_true rfl) rfl ?_
  refine z_xP zt194 0 2 [some (.ref 19)] [.ref 19, .ref 19] rfl rfl ?_
  refine z_xgv zt194 1 rfl zo194 zzf12_136 X6 f19 (by decide) h11 ?_
  refine z_xZ zt194 2 rfl rfl (fun (h149 : 0 ≤ x12.toInt) => absurd h149 (by omega)) (fun (h149 : x12.toInt < 0) => ?_)
  refine z_xP zt194 3 9 [some (.ref 19)] [.ref 19, .ref 19] rfl rfl ?_
  refine z_xgv zt194 4 rfl zo194 zzf12_123 X6 f19 (by decide) h22 ?_
  refine z_xP zt194 5 19 [some (.ref 19)] [.int x23, .ref 19] rfl rfl ?_
  refine z_xpf zt194 8 rfl zo194 zzf12_136 X6 f19 (by decide) (by decide) ⟨Int32.le_toInt _, Int32.toInt_le _⟩ rfl (by decide) zw12_26 (fun M150 X151 e152 h153 => ?_)
  refine z_xP zt194 9 23 [some (.ref 19)] [.int 0] rfl rfl ?_
  refine z_xrz zt194 10 rfl zzr194 (by decide) (by decide) ?_
  show z_ev (d + 2) 191 32 [some (.ref 19), none, none, none, none] [.int 0] M150 _
  refine z_xP zt191 14 33 [some (.ref 19), some (.int 0), none, none, none] [] rfl rfl ?_
  exact z_xrv zt191 15 rfl zzr191 (kk M150 X151 (z_GL.ke h10 e152 f23 f24 (by decide)))
def zw197 : List Nat := [2224, 2226]
theorem zB197 {T : List zK} {d : Nat} {K : Option Value → zH → Prop} {zp0 : Int32} {M0 : zH} (hz0 : z_F M0 19 24 = some (.int zp0)) (bz0 : 0 ≤ zp0.toInt ∧ zp0.toInt ≤ 160) (hL : z_GL M0) (kk : ∀ (x : Int32) (M1 : zH), z_X T zw197 M0 M1 → 0 ≤ x.toInt → x.toInt ≤ 1023 → ∀ (w0 : Int32), z_F M1 19 24 = some (.int w0) → 0 ≤ w0.toInt ∧ w0.toInt ≤ 160 → zp0.toInt ≤ w0.toInt → K (some (.int x)) M1) : ∀ n : Nat, (∀ (M : zH) (b1 : Int32) (b2 : Int32) (o3 : Option Value) (o4 : Option Value) (z0 : Int32), z_X T zw197 M0 M → 0 ≤ b1.toInt ∧ b1.toInt ≤ 1023 → 0 ≤ b2.toInt ∧ b2.toInt ≤ 1 → z_F M 19 24 = some (.int z0) → 0 ≤ z0.toInt ∧ z0.toInt ≤ 160 → zp0.toInt ≤ z0.toInt → ((0) * 2 + 0) * 323 + (2 * (160 - z0.toInt) + b2.toInt) < (n : Int) → z_ev (d + 1) 197 4 [some (.ref 19), some (.int b1), some (.int b2), o3, o4] [] M K) := by
  intro n
  induction n with
  | zero => exact by intros; exfalso; omega
  | succ n ih =>
    intro M b1 b2 o3 o4 z0 X hh0 hh1 hp0 hh3 hh4 hE
    refine z_xP zt197 1 5 [some (.ref 19), some (.int b1), some (.int b2), o3, o4] [.int b2] rfl rfl ?_
    refine z_xZ zt197 2 rfl rfl (fun (h1 : b2.toInt = 0) => ?_) (fun (h1 : b2.toInt ≠ 0) => ?_)
    · skip
      refine z_xP zt197 35 80 [some (.ref 19), some (.int b1), some (.int b2), o3, o4] [.int b1] rfl rfl ?_
      have f19 : T[19]? = some (.inl (12, 0, 0, 0, 0)) := X.1.k rfl (by decide)
      exact z_xri zt197 36 rfl zzr197 (kk b1 M X (by omega) (by omega) z0 hp0 ⟨by omega, by omega⟩ (by omega))
    refine z_xP zt197 3 9 [some (.ref 19), some (.int b1), some (.int b2), o3, o4] [.ref 19] rfl rfl ?_
    have f19 : T[19]? = some (.inl (12, 0, 0, 0, 0)) := X.1.k rfl (by decide)
    refine z_xgI zt197 4 rfl zo197 zzf12_136 X f19 (by decide) (by decide) rfl (fun (x3 : Int32) h2 (h4 : (-2147483648) ≤ x3.toInt) (h5 : x3.toInt ≤ 2147483647) => ?_)
    refine z_xZ zt197 5 rfl rfl (fun (h6 : 0 ≤ x3.toInt) => ?_) (fun (h6 : x3.toInt < 0) => ?_)
    · skip
      refine z_xP zt197 10 27 [some (.ref 19), some (.int b1), some (.int b2), o3, o4] [.int (-1)] rfl rfl ?_
      refine z_xP zt197 11 29 [some (.ref 19), some (.int b1), some (.int b2), some (.int (-1)), o4] [.int (-1)] rfl rfl ?_
      refine z_xZ zt197 12 rfl rfl (fun (h7 : ((-1) : Int) < 0) => ?_) (fun (h7 : 0 ≤ ((-1) : Int)) => absurd h7 (by omega))
      refine z_xP zt197 19 44 [some (.ref 19), some (.int b1), some (.int 0), some (.int (-1)), o4] [.int b1] rfl rfl ?_
      refine z_xZ zt197 20 rfl rfl (fun (h8 : b1.toInt = 0) => ?_) (fun (h8 : b1.toInt ≠ 0) => ?_)
      · skip
        refine z_xP zt197 23 52 [some (.ref 19), some (.int b1), some (.int 0), some (.int (-1)), o4] [.ref 19] rfl rfl ?_
        refine z_xcV (vs := [.ref 19]) (r := []) (L2 := [some (.ref 19)]) zt197 24 rfl zo197 zzcV12_163 (Or.inl rfl) rfl X f19 rfl rfl rfl (Nat.le_of_ble_eq_true rfl) zzm194 (Nat.le_of_ble_eq_true rfl) rfl ?_
        refine z_xP zt194 0 2 [some (.ref 19)] [.ref 19, .ref 19] rfl rfl ?_
        refine z_xgv zt194 1 rfl zo194 zzf12_136 X f19 (by decide) h2 ?_
        refine z_xZ zt194 2 rfl rfl (fun (h9 : 0 ≤ x3.toInt) => ?_) (fun (h9 : x3.toInt < 0) => absurd h9 (by omega))
        refine z_xP zt194 6 16 [some (.ref 19)] [.ref 19, .ref 19] rfl rfl ?_
        refine z_xgv zt194 7 rfl zo194 zzf12_136 X f19 (by decide) h2 ?_
        refine z_xpf zt194 8 rfl zo194 zzf12_136 X f19 (by decide) (by decide) ⟨Int32.le_toInt _, Int32.toInt_le _⟩ rfl (by decide) zw12_26 (fun M10 X11 e12 h13 => ?_)
        refine z_xP zt194 9 23 [some (.ref 19)] [.int 0] rfl rfl ?_
        refine z_xrz zt194 10 rfl zzr194 (by decide) (by decide) ?_
        show z_ev (d + 1) 197 55 [some (.ref 19), some (.int b1), some (.int 0), some (.int (-1)), o4] [.int 0] M10 _
        refine z_xP zt197 25 76 [some (.ref 19), some (.int b1), some (.int 0), some (.int (-1)), some (.int 0)] [] rfl rfl ?_
        refine z_xP zt197 34 4 [some (.ref 19), some (.int b1), some (.int 0), some (.int (-1)), some (.int 0)] [] rfl rfl ?_
        have h14 := (e12.f f19 (by decide) hp0)
        have qm1 : (((-1) : Int32)).toInt = (-1) := rfl
        have q0 : ((0 : Int32)).toInt = 0 := rfl
        exact ih M10 b1 (0) (some (.int (-1))) (some (.int 0)) z0 X11 ⟨by omega, by omega⟩ (by decide) h14 ⟨by omega, by omega⟩ (by omega) (by omega)
      refine z_xP zt197 21 48 [some (.ref 19), some (.int b1), some (.int 0), some (.int (-1)), o4] [.int (-1)] rfl rfl ?_
      refine z_xZ zt197 22 rfl rfl (fun (h15 : ((-1) : Int) < 0) => ?_) (fun (h15 : 0 ≤ ((-1) : Int)) => absurd h15 (by omega))
      refine z_xP zt197 34 4 [some (.ref 19), some (.int b1), some (.int 0), some (.int (-1)), o4] [] rfl rfl ?_
      have qm1 : (((-1) : Int32)).toInt = (-1) := rfl
      have q0 : ((0 : Int32)).toInt = 0 := rfl
      exact ih M b1 (0) (some (.int (-1))) (o4) z0 X ⟨by omega, by omega⟩ (by decide) hp0 ⟨by omega, by omega⟩ (by omega) (by omega)
    refine z_xP zt197 6 17 [some (.ref 19), some (.int b1), some (.int b2), o3, o4] [.ref 19, .ref 19] rfl rfl ?_
    refine z_xcV (vs := [.ref 19]) (r := [.ref 19]) (L2 := [some (.ref 19)]) zt197 7 rfl zo197 zzcV12_139 (Or.inl rfl) rfl X f19 rfl rfl rfl (Nat.le_of_ble_eq_true rfl) zzm193 (Nat.le_of_ble_eq_true rfl) rfl ?_
    refine z_xP zt193 0 1 [some (.ref 19)] [.ref 19] rfl rfl ?_
    refine z_xgv zt193 1 rfl zo193 zzf12_123 X f19 (by decide) hp0 ?_
    refine z_xP zt193 2 5 [some (.ref 19)] [.ref 19, .int z0] rfl rfl ?_
    refine z_xgI zt193 3 rfl zo193 zzf12_126 X f19 (by decide) (by decide) rfl (fun (x17 : Int32) h16 (h18 : 0 ≤ x17.toInt) (h19 : x17.toInt ≤ 160) => ?_)
    refine z_xJ zt193 4 rfl rfl (fun (h20 : x17.toInt ≤ z0.toInt) => ?_) (fun (h20 : z0.toInt < x17.toInt) => ?_)
    · skip
      refine z_xP zt193 24 52 [some (.ref 19)] [.int 0] rfl rfl ?_
      refine z_xri zt193 25 rfl zzr193 ?_
      show z_ev (d + 1) 197 20 [some (.ref 19), some (.int b1), some (.int b2), o3, o4] [.int 0, .ref 19] M _
      refine z_xcV (vs := [.ref 19, .int 0]) (r := []) (L2 := [some (.ref 19), some (.int 0), none]) zt197 8 rfl zo197 zzcV12_179 (Or.inl rfl) rfl X f19 rfl rfl rfl (Nat.le_of_ble_eq_true rfl) zzm195 (Nat.le_of_ble_eq_true rfl) rfl ?_
      have q0 : ((0 : Int32)).toInt = 0 := rfl
      obtain ⟨x21, h22, h23, h24⟩ := z_W.fi X.1 f19 (k := 22) (lo := 0) (hi := 7) (by decide) rfl
      have q0 : ((0 : Int32)).toInt = 0 := rfl
      refine zC195 X.1 h22 ⟨by omega, by omega⟩ (z_GL.go hL X (by decide)) (fun x33 M25 X26 h34 h35 h27 h28 z29 h30 h31 h32 => ?_)
      have X36 := X.go X26 (z_sb (by decide))
      show z_ev (d + 1) 197 23 [some (.ref 19), some (.int b1), some (.int b2), o3, o4] [.int x33] M25 _
      refine z_xP zt197 9 27 [some (.ref 19), some (.int b1), some (.int b2), o3, o4] [.int x33] rfl rfl ?_
      refine z_xP zt197 11 29 [some (.ref 19), some (.int b1), some (.int b2), some (.int x33), o4] [.int x33] rfl rfl ?_
      refine z_xZ zt197 12 rfl rfl (fun (h38 : x33.toInt < 0) => ?_) (fun (h38 : 0 ≤ x33.toInt) => ?_)
      · skip
        refine z_xP zt197 19 44 [some (.ref 19), some (.int b1), some (.int 0), some (.int x33), o4] [.int b1] rfl rfl ?_
        refine z_xZ zt197 20 rfl rfl (fun (h39 : b1.toInt = 0) => ?_) (fun (h39 : b1.toInt ≠ 0) => ?_)
        · skip
          refine z_xP zt197 23 52 [some (.ref 19), some (.int b1), some (.int 0), some (.int x33), o4] [.ref 19] rfl rfl ?_
          refine z_xcV (vs := [.ref 19]) (r := []) (L2 := [some (.ref 19)]) zt197 24 rfl zo197 zzcV12_163 (Or.inl rfl) rfl X36 f19 rfl rfl rfl (Nat.le_of_ble_eq_true rfl) zzm194 (Nat.le_of_ble_eq_true rfl) rfl ?_
          refine z_xP zt194 0 2 [some (.ref 19)] [.ref 19, .ref 19] rfl rfl ?_
          have h40 := (X26.2.f f19 (by decide) h2)
          refine z_xgv zt194 1 rfl zo194 zzf12_136 X36 f19 (by decide) h40 ?_
          refine z_xZ zt194 2 rfl rfl (fun (h41 : 0 ≤ x3.toInt) => absurd h41 (by omega)) (fun (h41 : x3.toInt < 0) => ?_)
          refine z_xP zt194 3 9 [some (.ref 19)] [.ref 19, .ref 19] rfl rfl ?_
          have h42 := (X26.2.f f19 (by decide) hp0)
          refine z_xgv zt194 4 rfl zo194 zzf12_123 X36 f19 (by decide) h42 ?_
          refine z_xP zt194 5 19 [some (.ref 19)] [.int z0, .ref 19] rfl rfl ?_
          refine z_xpf zt194 8 rfl zo194 zzf12_136 X36 f19 (by decide) (by decide) ⟨Int32.le_toInt _, Int32.toInt_le _⟩ rfl (by decide) zw12_26 (fun M43 X44 e45 h46 => ?_)
          refine z_xP zt194 9 23 [some (.ref 19)] [.int 0] rfl rfl ?_
          refine z_xrz zt194 10 rfl zzr194 (by decide) (by decide) ?_
          show z_ev (d + 1) 197 55 [some (.ref 19), some (.int b1), some (.int 0), some (.int x33), o4] [.int 0] M43 _
          refine z_xP zt197 25 76 [some (.ref 19), some (.int b1), some (.int 0), some (.int x33), some (.int 0)] [] rfl rfl ?_
          refine z_xP zt197 34 4 [some (.ref 19), some (.int b1), some (.int 0), some (.int x33), some (.int 0)] [] rfl rfl ?_
          have h47 := (e45.f f19 (by decide) h42)
          have q0 : ((0 : Int32)).toInt = 0 := rfl
          exact ih M43 b1 (0) (some (.int x33)) (some (.int 0)) z0 X44 ⟨by omega, by omega⟩ (by decide) h47 ⟨by omega, by omega⟩ (by omega) (by omega)
        refine z_xP zt197 21 48 [some (.ref 19), some (.int b1), some (.int 0), some (.int x33), o4] [.int x33] rfl rfl ?_
        refine z_xZ zt197 22 rfl rfl (fun (h48 : x33.toInt < 0) => ?_) (fun (h48 : 0 ≤ x33.toInt) => absurd h48 (by omega))
        refine z_xP zt197 34 4 [some (.ref 19), some (.int b1), some (.int 0), some (.int x33), o4] [] rfl rfl ?_
        have h49 := (X26.2.f f19 (by decide) hp0)
        have q0 : ((0 : Int32)).toInt = 0 := rfl
        exact ih M25 b1 (0) (some (.int x33)) (o4) z0 X36 ⟨by omega, by omega⟩ (by decide) h49 ⟨by omega, by omega⟩ (by omega) (by omega)
      refine z_xP zt197 13 34 [some (.ref 19), some (.int b1), some (.int b2), some (.int x33), o4] [.int x33, .int b1] rfl rfl ?_
      refine z_xI zt197 14 rfl rfl (fun (x50 : Int32) (h51 : 0 ≤ x50.toInt ∧ x50.toInt ≤ b1.toInt) => ?_) (z_pShrN rfl (by omega))
      refine z_xP zt197 15 36 [some (.ref 19), some (.int b1), some (.int b2), some (.int x33), o4] [.int 1, .int x50] rfl rfl ?_
      refine z_xI zt197 16 rfl rfl (fun (x52 : Int32) (h53 : 0 ≤ x52.toInt ∧ x52.toInt ≤ x50.toInt ∧ x52.toInt ≤ 1) => ?_) (z_pAnd2 rfl rfl (by omega) (by omega))
      refine z_xP zt197 17 38 [some (.ref 19), some (.int b1), some (.int b2), some (.int x33), o4] [.int 1, .int x52] rfl rfl ?_
      refine z_xJ zt197 18 rfl rfl (fun (h54 : x52.toInt ≠ 1) => ?_) (fun (h54 : x52.toInt = 1) => ?_)
      · skip
        refine z_xP zt197 26 63 [some (.ref 19), some (.int b1), some (.int b2), some (.int x33), o4] [.int x33, .int 1, .int b1] rfl rfl ?_
        refine z_xI zt197 27 rfl rfl (fun (x55 : Int32) (h56 : 1 ≤ x55.toInt ∧ x55.toInt ≤ 512) => ?_) (z_pShlB (a := 1) (b := 9) (c := 512) (r := 512) rfl rfl (by omega) (by omega) (by omega) (by omega) (by decide) (by decide) (by decide) (by decide))
        refine z_xI zt197 28 rfl rfl (fun (x57 : Int32) (h58 : 0 ≤ x57.toInt ∧ x57.toInt < 1024 ∧ b1.toInt ≤ x57.toInt ∧ x55.toInt ≤ x57.toInt) => ?_) (z_pOr 10 rfl rfl (by omega) (by omega) (by decide) (by omega) (by omega) (by decide))
        refine z_xP zt197 29 68 [some (.ref 19), some (.int x57), some (.int b2), some (.int x33), o4] [.ref 19, .ref 19] rfl rfl ?_
        have h59 := (X26.2.f f19 (by decide) hp0)
        refine z_xgv zt197 30 rfl zo197 zzf12_123 X36 f19 (by decide) h59 ?_
        refine z_xP zt197 31 72 [some (.ref 19), some (.int x57), some (.int b2), some (.int x33), o4] [.int 1, .int z0, .ref 19] rfl rfl ?_
        refine z_xI zt197 32 rfl rfl (fun (x60 : Int32) (h61 : x60.toInt = z0.toInt + 1) => ?_) (z_pAdd rfl rfl (by omega) (by omega))
        refine z_xpf zt197 33 rfl zo197 zzf12_123 X36 f19 (by decide) (by decide) ⟨by omega, by omega⟩ rfl (by decide) zw12_24 (fun M62 X63 e64 h65 => ?_)
        refine z_xP zt197 34 4 [some (.ref 19), some (.int x57), some (.int b2), some (.int x33), o4] [] rfl rfl ?_
        exact ih M62 x57 b2 (some (.int x33)) (o4) x60 X63 ⟨by omega, by omega⟩ ⟨by omega, by omega⟩ h65 ⟨by omega, by omega⟩ (by omega) (by omega)
      refine z_xP zt197 19 44 [some (.ref 19), some (.int b1), some (.int 0), some (.int x33), o4] [.int b1] rfl rfl ?_
      refine z_xZ zt197 20 rfl rfl (fun (h66 : b1.toInt = 0) => ?_) (fun (h66 : b1.toInt ≠ 0) => ?_)
      · skip
        refine z_xP zt197 23 52 [some (.ref 19), some (.int b1), some (.int 0), some (.int x33), o4] [.ref 19] rfl rfl ?_
        refine z_xcV (vs := [.ref 19]) (r := []) (L2 := [some (.ref 19)]) zt197 24 rfl zo197 zzcV12_163 (Or.inl rfl) rfl X36 f19 rfl rfl rfl (Nat.le_of_ble_eq_true rfl) zzm194 (Nat.le_of_ble_eq_true rfl) rfl ?_
        refine z_xP zt194 0 2 [some (.ref 19)] [.ref 19, .ref 19] rfl rfl ?_
        have h67 := (X26.2.f f19 (by decide) h2)
        refine z_xgv zt194 1 rfl zo194 zzf12_136 X36 f19 (by decide) h67 ?_
        refine z_xZ zt194 2 rfl rfl (fun (h68 : 0 ≤ x3.toInt) => absurd h68 (by omega)) (fun (h68 : x3.toInt < 0) => ?_)
        refine z_xP zt194 3 9 [some (.ref 19)] [.ref 19, .ref 19] rfl rfl ?_
        have h69 := (X26.2.f f19 (by decide) hp0)
        refine z_xgv zt194 4 rfl zo194 zzf12_123 X36 f19 (by decide) h69 ?_
        refine z_xP zt194 5 19 [some (.ref 19)] [.int z0, .ref 19] rfl rfl ?_
        refine z_xpf zt194 8 rfl zo194 zzf12_136 X36 f19 (by decide) (by decide) ⟨Int32.le_toInt _, Int32.toInt_le _⟩ rfl (by decide) zw12_26 (fun M70 X71 e72 h73 => ?_)
        refine z_xP zt194 9 23 [some (.ref 19)] [.int 0] rfl rfl ?_
        refine z_xrz zt194 10 rfl zzr194 (by decide) (by decide) ?_
        show z_ev (d + 1) 197 55 [some (.ref 19), some (.int b1), some (.int 0), some (.int x33), o4] [.int 0] M70 _
        refine z_xP zt197 25 76 [some (.ref 19), some (.int b1), some (.int 0), some (.int x33), some (.int 0)] [] rfl rfl ?_
        refine z_xP zt197 34 4 [some (.ref 19), some (.int b1), some (.int 0), some (.int x33), some (.int 0)] [] rfl rfl ?_
        have h74 := (e72.f f19 (by decide) h69)
        have q0 : ((0 : Int32)).toInt = 0 := rfl
        exact ih M70 b1 (0) (some (.int x33)) (some (.int 0)) z0 X71 ⟨by omega, by omega⟩ (by decide) h74 ⟨by omega, by omega⟩ (by omega) (by omega)
      refine z_xP zt197 21 48 [some (.ref 19), some (.int b1), some (.int 0), some (.int x33), o4] [.int x33] rfl rfl ?_
      refine z_xZ zt197 22 rfl rfl (fun (h75 : x33.toInt < 0) => absurd h75 (by omega)) (fun (h75 : 0 ≤ x33.toInt) => ?_)
      refine z_xP zt197 23 52 [some (.ref 19), some (.int b1), some (.int 0), some (.int x33), o4] [.ref 19] rfl rfl ?_
      refine z_xcV (vs := [.ref 19]) (r := []) (L2 := [some (.ref 19)]) zt197 24 rfl zo197 zzcV12_163 (Or.inl rfl) rfl X36 f19 rfl rfl rfl (Nat.le_of_ble_eq_true rfl) zzm194 (Nat.le_of_ble_eq_true rfl) rfl ?_
      refine z_xP zt194 0 2 [some (.ref 19)] [.ref 19, .ref 19] rfl rfl ?_
      have h76 := (X26.2.f f19 (by decide) h2)
      refine z_xgv zt194 1 rfl zo194 zzf12_136 X36 f19 (by decide) h76 ?_
      refine z_xZ zt194 2 rfl rfl (fun (h77 : 0 ≤ x3.toInt) => absurd h77 (by omega)) (fun (h77 : x3.toInt < 0) => ?_)
      refine z_xP zt194 3 9 [some (.ref 19)] [.ref 19, .ref 19] rfl rfl ?_
      have h78 := (X26.2.f f19 (by decide) hp0)
      refine z_xgv zt194 4 rfl zo194 zzf12_123 X36 f19 (by decide) h78 ?_
      refine z_xP zt194 5 19 [some (.ref 19)] [.int z0, .ref 19] rfl rfl ?_
      refine z_xpf zt194 8 rfl zo194 zzf12_136 X36 f19 (by decide) (by decide) ⟨Int32.le_toInt _, Int32.toInt_le _⟩ rfl (by decide) zw12_26 (fun M79 X80 e81 h82 => ?_)
      refine z_xP zt194 9 23 [some (.ref 19)] [.int 0] rfl rfl ?_
      refine z_xrz zt194 10 rfl zzr194 (by decide) (by decide) ?_
      show z_ev (d + 1) 197 55 [some (.ref 19), some (.int b1), some (.int 0), some (.int x33), o4] [.int 0] M79 _
      refine z_xP zt197 25 76 [some (.ref 19), some (.int b1), some (.int 0), some (.int x33), some (.int 0)] [] rfl rfl ?_
      refine z_xP zt197 34 4 [some (.ref 19), some (.int b1), some (.int 0), some (.int x33), some (.int 0)] [] rfl rfl ?_
      have h83 := (e81.f f19 (by decide) h78)
      have q0 : ((0 : Int32)).toInt = 0 := rfl
      exact ih M79 b1 (0) (some (.int x33)) (some (.int 0)) z0 X80 ⟨by omega, by omega⟩ (by decide) h83 ⟨by omega, by omega⟩ (by omega) (by omega)
    refine z_xP zt193 5 12 [some (.ref 19)] [.ref 19] rfl rfl ?_
    refine z_xgI zt193 6 rfl zo193 zzf12_129 X f19 (by decide) (by decide) rfl (fun (x85 : Int32) h84 (h86 : 0 ≤ x85.toInt) (h87 : x85.toInt ≤ 1) => ?_)
    refine z_xZ zt193 7 rfl rfl (fun (h88 : x85.toInt = 0) => ?_) (fun (h88 : x85.toInt ≠ 0) => ?_)
    · skip
      refine z_xP zt193 14 31 [some (.ref 19)] [.ref 19] rfl rfl ?_
      refine z_xgX (b := 21) zt193 15 rfl zo193 zzf12_13 X f19 (by decide) (by decide) rfl ?_
      refine z_xP zt193 16 38 [some (.ref 19)] [.ref 19, .int 160, .ref 21] rfl rfl ?_
      refine z_xgI zt193 17 rfl zo193 zzf12_133 X f19 (by decide) (by decide) rfl (fun (x90 : Int32) h89 (h91 : 0 ≤ x90.toInt) (h92 : x90.toInt ≤ 7) => ?_)
      refine z_xI zt193 18 rfl rfl (fun (x93 : Int32) (h94 : x93.toInt = 160 * x90.toInt) => ?_) (z_pMul rfl rfl (by omega) (by omega))
      refine z_xP zt193 19 43 [some (.ref 19)] [.ref 19, .int x93, .ref 21] rfl rfl ?_
      refine z_xgv zt193 20 rfl zo193 zzf12_123 X f19 (by decide) hp0 ?_
      refine z_xI zt193 21 rfl rfl (fun (x95 : Int32) (h96 : x95.toInt = x93.toInt + z0.toInt) => ?_) (z_pAdd rfl rfl (by omega) (by omega))
      have f21 : T[21]? = some (.inr (21, 0, 1280, (-2147483648), 2147483647)) := X.1.k rfl (by decide)
      refine z_xil zt193 22 rfl X f21 (by decide) (by omega) (by omega) (fun (x97 : Int32) h98 (h99 : (-2147483648) ≤ x97.toInt) (h100 : x97.toInt ≤ 2147483647) => ?_)
      refine z_xP zt193 23 52 [some (.ref 19)] [.int x97] rfl rfl ?_
      refine z_xri zt193 25 rfl zzr193 ?_
      show z_ev (d + 1) 197 20 [some (.ref 19), some (.int b1), some (.int b2), o3, o4] [.int x97, .ref 19] M _
      refine z_xcV (vs := [.ref 19, .int x97]) (r := []) (L2 := [some (.ref 19), some (.int x97), none]) zt197 8 rfl zo197 zzcV12_179 (Or.inl rfl) rfl X f19 rfl rfl rfl (Nat.le_of_ble_eq_true rfl) zzm195 (Nat.le_of_ble_eq_true rfl) rfl ?_
      refine zC195 X.1 h89 ⟨by omega, by omega⟩ (z_GL.go hL X (by decide)) (fun x109 M101 X102 h110 h111 h103 h104 z105 h106 h107 h108 => ?_)
      have X112 := X.go X102 (z_sb (by decide))
      show z_ev (d + 1) 197 23 [some (.ref 19), some (.int b1), some (.int b2), o3, o4] [.int x109] M101 _
      refine z_xP zt197 9 27 [some (.ref 19), some (.int b1), some (.int b2), o3, o4] [.int x109] rfl rfl ?_
      refine z_xP zt197 11 29 [some (.ref 19), some (.int b1), some (.int b2), some (.int x109), o4] [.int x109] rfl rfl ?_
      refine z_xZ zt197 12 rfl rfl (fun (h114 : x109.toInt < 0) => ?_) (fun (h114 : 0 ≤ x109.toInt) => ?_)
      · skip
        refine z_xP zt197 19 44 [some (.ref 19), some (.int b1), some (.int 0), some (.int x109), o4] [.int b1] rfl rfl ?_
        refine z_xZ zt197 20 rfl rfl (fun (h115 : b1.toInt = 0) => ?_) (fun (h115 : b1.toInt ≠ 0) => ?_)
        · skip
          refine z_xP zt197 23 52 [some (.ref 19), some (.int b1), some (.int 0), some (.int x109), o4] [.ref 19] rfl rfl ?_
          refine z_xcV (vs := [.ref 19]) (r := []) (L2 := [some (.ref 19)]) zt197 24 rfl zo197 zzcV12_163 (Or.inl rfl) rfl X112 f19 rfl rfl rfl (Nat.le_of_ble_eq_true rfl) zzm194 (Nat.le_of_ble_eq_true rfl) rfl ?_
          refine z_xP zt194 0 2 [some (.ref 19)] [.ref 19, .ref 19] rfl rfl ?_
          have h116 := (X102.2.f f19 (by decide) h2)
          refine z_xgv zt194 1 rfl zo194 zzf12_136 X112 f19 (by decide) h116 ?_
          refine z_xZ zt194 2 rfl rfl (fun (h117 : 0 ≤ x3.toInt) => absurd h117 (by omega)) (fun (h117 : x3.toInt < 0) => ?_)
          refine z_xP zt194 3 9 [some (.ref 19)] [.ref 19, .ref 19] rfl rfl ?_
          have h118 := (X102.2.f f19 (by decide) hp0)
          refine z_xgv zt194 4 rfl zo194 zzf12_123 X112 f19 (by decide) h118 ?_
          refine z_xP zt194 5 19 [some (.ref 19)] [.int z0, .ref 19] rfl rfl ?_
          refine z_xpf zt194 8 rfl zo194 zzf12_136 X112 f19 (by decide) (by decide) ⟨Int32.le_toInt _, Int32.toInt_le _⟩ rfl (by decide) zw12_26 (fun M119 X120 e121 h122 => ?_)
          refine z_xP zt194 9 23 [some (.ref 19)] [.int 0] rfl rfl ?_
          refine z_xrz zt194 10 rfl zzr194 (by decide) (by decide) ?_
          show z_ev (d + 1) 197 55 [some (.ref 19), some (.int b1), some (.int 0), some (.int x109), o4] [.int 0] M119 _
          refine z_xP zt197 25 76 [some (.ref 19), some (.int b1), some (.int 0), some (.int x109), some (.int 0)] [] rfl rfl ?_
          refine z_xP zt197 34 4 [some (.ref 19), some (.int b1), some (.int 0), some (.int x109), some (.int 0)] [] rfl rfl ?_
          have h123 := (e121.f f19 (by decide) h118)
          have q0 : ((0 : Int32)).toInt = 0 := rfl
          exact ih M119 b1 (0) (some (.int x109)) (some (.int 0)) z0 X120 ⟨by omega, by omega⟩ (by decide) h123 ⟨by omega, by omega⟩ (by omega) (by omega)
        refine z_xP zt197 21 48 [some (.ref 19), some (.int b1), some (.int 0), some (.int x109), o4] [.int x109] rfl rfl ?_
        refine z_xZ zt197 22 rfl rfl (fun (h124 : x109.toInt < 0) => ?_) (fun (h124 : 0 ≤ x109.toInt) => absurd h124 (by omega))
        refine z_xP zt197 34 4 [some (.ref 19), some (.int b1), some (.int 0), some (.int x109), o4] [] rfl rfl ?_
        have h125 := (X102.2.f f19 (by decide) hp0)
        have q0 : ((0 : Int32)).toInt = 0 := rfl
        exact ih M101 b1 (0) (some (.int x109)) (o4) z0 X112 ⟨by omega, by omega⟩ (by decide) h125 ⟨by omega, by omega⟩ (by omega) (by omega)
      refine z_xP zt197 13 34 [some (.ref 19), some (.int b1), some (.int b2), some (.int x109), o4] [.int x109, .int b1] rfl rfl ?_
      refine z_xI zt197 14 rfl rfl (fun (x126 : Int32) (h127 : 0 ≤ x126.toInt ∧ x126.toInt ≤ b1.toInt) => ?_) (z_pShrN rfl (by omega))
      refine z_xP zt197 15 36 [some (.ref 19), some (.int b1), some (.int b2), some (.int x109), o4] [.int 1, .int x126] rfl rfl ?_
      refine z_xI zt197 16 rfl rfl (fun (x128 : Int32) (h129 : 0 ≤ x128.toInt ∧ x128.toInt ≤ x126.toInt ∧ x128.toInt ≤ 1) => ?_) (z_pAnd2 rfl rfl (by omega) (by omega))
      refine z_xP zt197 17 38 [some (.ref 19), some (.int b1), some (.int b2), some (.int x109), o4] [.int 1, .int x128] rfl rfl ?_
      refine z_xJ zt197 18 rfl rfl (fun (h130 : x128.toInt ≠ 1) => ?_) (fun (h130 : x128.toInt = 1) => ?_)
      · skip
        refine z_xP zt197 26 63 [some (.ref 19), some (.int b1), some (.int b2), some (.int x109), o4] [.int x109, .int 1, .int b1] rfl rfl ?_
        refine z_xI zt197 27 rfl rfl (fun (x131 : Int32) (h132 : 1 ≤ x131.toInt ∧ x131.toInt ≤ 512) => ?_) (z_pShlB (a := 1) (b := 9) (c := 512) (r := 512) rfl rfl (by omega) (by omega) (by omega) (by omega) (by decide) (by decide) (by decide) (by decide))
        refine z_xI zt197 28 rfl rfl (fun (x133 : Int32) (h134 : 0 ≤ x133.toInt ∧ x133.toInt < 1024 ∧ b1.toInt ≤ x133.toInt ∧ x131.toInt ≤ x133.toInt) => ?_) (z_pOr 10 rfl rfl (by omega) (by omega) (by decide) (by omega) (by omega) (by decide))
        refine z_xP zt197 29 68 [some (.ref 19), some (.int x133), some (.int b2), some (.int x109), o4] [.ref 19, .ref 19] rfl rfl ?_
        have h135 := (X102.2.f f19 (by decide) hp0)
        refine z_xgv zt197 30 rfl zo197 zzf12_123 X112 f19 (by decide) h135 ?_
        refine z_xP zt197 31 72 [some (.ref 19), some (.int x133), some (.int b2), some (.int x109), o4] [.int 1, .int z0, .ref 19] rfl rfl ?_
        refine z_xI zt197 32 rfl rfl (fun (x136 : Int32) (h137 : x136.toInt = z0.toInt + 1) => ?_) (z_pAdd rfl rfl (by omega) (by omega))
        refine z_xpf zt197 33 rfl zo197 zzf12_123 X112 f19 (by decide) (by decide) ⟨by omega, by omega⟩ rfl (by decide) zw12_24 (fun M138 X139 e140 h141 => ?_)
        refine z_xP zt197 34 4 [some (.ref 19), some (.int x133), some (.int b2), some (.int x109), o4] [] rfl rfl ?_
        exact ih M138 x133 b2 (some (.int x109)) (o4) x136 X139 ⟨by omega, by omega⟩ ⟨by omega, by omega⟩ h141 ⟨by omega, by omega⟩ (by omega) (by omega)
      refine z_xP zt197 19 44 [some (.ref 19), some (.int b1), some (.int 0), some (.int x109), o4] [.int b1] rfl rfl ?_
      refine z_xZ zt197 20 rfl rfl (fun (h142 : b1.toInt = 0) => ?_) (fun (h142 : b1.toInt ≠ 0) => ?_)
      · skip
        refine z_xP zt197 23 52 [some (.ref 19), some (.int b1), some (.int 0), some (.int x109), o4] [.ref 19] rfl rfl ?_
        refine z_xcV (vs := [.ref 19]) (r := []) (L2 := [some (.ref 19)]) zt197 24 rfl zo197 zzcV12_163 (Or.inl rfl) rfl X112 f19 rfl rfl rfl (Nat.le_of_ble_eq_true rfl) zzm194 (Nat.le_of_ble_eq_true rfl) rfl ?_
        refine z_xP zt194 0 2 [some (.ref 19)] [.ref 19, .ref 19] rfl rfl ?_
        have h143 := (X102.2.f f19 (by decide) h2)
        refine z_xgv zt194 1 rfl zo194 zzf12_136 X112 f19 (by decide) h143 ?_
        refine z_xZ zt194 2 rfl rfl (fun (h144 : 0 ≤ x3.toInt) => absurd h144 (by omega)) (fun (h144 : x3.toInt < 0) => ?_)
        refine z_xP zt194 3 9 [some (.ref 19)] [.ref 19, .ref 19] rfl rfl ?_
        have h145 := (X102.2.f f19 (by decide) hp0)
        refine z_xgv zt194 4 rfl zo194 zzf12_123 X112 f19 (by decide) h145 ?_
        refine z_xP zt194 5 19 [some (.ref 19)] [.int z0, .ref 19] rfl rfl ?_
        refine z_xpf zt194 8 rfl zo194 zzf12_136 X112 f19 (by decide) (by decide) ⟨Int32.le_toInt _, Int32.toInt_le _⟩ rfl (by decide) zw12_26 (fun M146 X147 e148 h149 => ?_)
        refine z_xP zt194 9 23 [some (.ref 19)] [.int 0] rfl rfl ?_
        refine z_xrz zt194 10 rfl zzr194 (by decide) (by decide) ?_
        show z_ev (d + 1) 197 55 [some (.ref 19), some (.int b1), some (.int 0), some (.int x109), o4] [.int 0] M146 _
        refine z_xP zt197 25 76 [some (.ref 19), some (.int b1), some (.int 0), some (.int x109), some (.int 0)] [] rfl rfl ?_
        refine z_xP zt197 34 4 [some (.ref 19), some (.int b1), some (.int 0), some (.int x109), some (.int 0)] [] rfl rfl ?_
        have h150 := (e148.f f19 (by decide) h145)
        have q0 : ((0 : Int32)).toInt = 0 := rfl
        exact ih M146 b1 (0) (some (.int x109)) (some (.int 0)) z0 X147 ⟨by omega, by omega⟩ (by decide) h150 ⟨by omega, by omega⟩ (by omega) (by omega)
      refine z_xP zt197 21 48 [some (.ref 19), some (.int b1), some (.int 0), some (.int x109), o4] [.int x109] rfl rfl ?_
      refine z_xZ zt197 22 rfl rfl (fun (h151 : x109.toInt < 0) => absurd h151 (by omega)) (fun (h151 : 0 ≤ x109.toInt) => ?_)
      refine z_xP zt197 23 52 [some (.ref 19), some (.int b1), some (.int 0), some (.int x109), o4] [.ref 19] rfl rfl ?_
      refine z_xcV (vs := [.ref 19]) (r := []) (L2 := [some (.ref 19)]) zt197 24 rfl zo197 zzcV12_163 (Or.inl rfl) rfl X112 f19 rfl rfl rfl (Nat.le_of_ble_eq_true rfl) zzm194 (Nat.le_of_ble_eq_true rfl) rfl ?_
      refine z_xP zt194 0 2 [some (.ref 19)] [.ref 19, .ref 19] rfl rfl ?_
      have h152 := (X102.2.f f19 (by decide) h2)
      refine z_xgv zt194 1 rfl zo194 zzf12_136 X112 f19 (by decide) h152 ?_
      refine z_xZ zt194 2 rfl rfl (fun (h153 : 0 ≤ x3.toInt) => absurd h153 (by omega)) (fun (h153 : x3.toInt < 0) => ?_)
      refine z_xP zt194 3 9 [some (.ref 19)] [.ref 19, .ref 19] rfl rfl ?_
      have h154 := (X102.2.f f19 (by decide) hp0)
      refine z_xgv zt194 4 rfl zo194 zzf12_123 X112 f19 (by decide) h154 ?_
      refine z_xP zt194 5 19 [some (.ref 19)] [.int z0, .ref 19] rfl rfl ?_
      refine z_xpf zt194 8 rfl zo194 zzf12_136 X112 f19 (by decide) (by decide) ⟨Int32.le_toInt _, Int32.toInt_le _⟩ rfl (by decide) zw12_26 (fun M155 X156 e157 h158 => ?_)
      refine z_xP zt194 9 23 [some (.ref 19)] [.int 0] rfl rfl ?_
      refine z_xrz zt194 10 rfl zzr194 (by decide) (by decide) ?_
      show z_ev (d + 1) 197 55 [some (.ref 19), some (.int b1), some (.int 0), some (.int x109), o4] [.int 0] M155 _
      refine z_xP zt197 25 76 [some (.ref 19), some (.int b1), some (.int 0), some (.int x109), some (.int 0)] [] rfl rfl ?_
      refine z_xP zt197 34 4 [some (.ref 19), some (.int b1), some (.int 0), some (.int x109), some (.int 0)] [] rfl rfl ?_
      have h159 := (e157.f f19 (by decide) h154)
      have q0 : ((0 : Int32)).toInt = 0 := rfl
      exact ih M155 b1 (0) (some (.int x109)) (some (.int 0)) z0 X156 ⟨by omega, by omega⟩ (by decide) h159 ⟨by omega, by omega⟩ (by omega) (by omega)
    refine z_xP zt193 8 19 [some (.ref 19)] [.ref 19] rfl rfl ?_
    refine z_xgX (b := 20) zt193 9 rfl zo193 zzf12_9 X f19 (by decide) (by decide) rfl ?_
    refine z_xP zt193 10 23 [some (.ref 19)] [.ref 19, .ref 20] rfl rfl ?_
    refine z_xgv zt193 11 rfl zo193 zzf12_123 X f19 (by decide) hp0 ?_
    have f20 : T[20]? = some (.inr (20, 0, 160, (-2147483648), 2147483647)) := X.1.k rfl (by decide)
    refine z_xil zt193 12 rfl X f20 (by decide) (by omega) (by omega) (fun (x160 : Int32) h161 (h162 : (-2147483648) ≤ x160.toInt) (h163 : x160.toInt ≤ 2147483647) => ?_)
    refine z_xP zt193 13 52 [some (.ref 19)] [.int x160] rfl rfl ?_
    refine z_xri zt193 25 rfl zzr193 ?_
    show z_ev (d + 1) 197 20 [some (.ref 19), some (.int b1), some (.int b2), o3, o4] [.int x160, .ref 19] M _
    refine z_xcV (vs := [.ref 19, .int x160]) (r := []) (L2 := [some (.ref 19), some (.int x160), none]) zt197 8 rfl zo197 zzcV12_179 (Or.inl rfl) rfl X f19 rfl rfl rfl (Nat.le_of_ble_eq_true rfl) zzm195 (Nat.le_of_ble_eq_true rfl) rfl ?_
    obtain ⟨x164, h165, h166, h167⟩ := z_W.fi X.1 f19 (k := 22) (lo := 0) (hi := 7) (by decide) rfl
    refine zC195 X.1 h165 ⟨by omega, by omega⟩ (z_GL.go hL X (by decide)) (fun x176 M168 X169 h177 h178 h170 h171 z172 h173 h174 h175 => ?_)
    have X179 := X.go X169 (z_sb (by decide))
    show z_ev (d + 1) 197 23 [some (.ref 19), some (.int b1), some (.int b2), o3, o4] [.int x176] M168 _
    refine z_xP zt197 9 27 [some (.ref 19), some (.int b1), some (.int b2), o3, o4] [.int x176] rfl rfl ?_
    refine z_xP zt197 11 29 [some (.ref 19), some (.int b1), some (.int b2), some (.int x176), o4] [.int x176] rfl rfl ?_
    refine z_xZ zt197 12 rfl rfl (fun (h181 : x176.toInt < 0) => ?_) (fun (h181 : 0 ≤ x176.toInt) => ?_)
    · skip
      refine z_xP zt197 19 44 [some (.ref 19), some (.int b1), some (.int 0), some (.int x176), o4] [.int b1] rfl rfl ?_
      refine z_xZ zt197 20 rfl rfl (fun (h182 : b1.toInt = 0) => ?_) (fun (h182 : b1.toInt ≠ 0) => ?_)
      · skip
        refine z_xP zt197 23 52 [some (.ref 19), some (.int b1), some (.int 0), some (.int x176), o4] [.ref 19] rfl rfl ?_
        refine z_xcV (vs := [.ref 19]) (r := []) (L2 := [some (.ref 19)]) zt197 24 rfl zo197 zzcV12_163 (Or.inl rfl) rfl X179 f19 rfl rfl rfl (Nat.le_of_ble_eq_true rfl) zzm194 (Nat.le_of_ble_eq_true rfl) rfl ?_
        refine z_xP zt194 0 2 [some (.ref 19)] [.ref 19, .ref 19] rfl rfl ?_
        have h183 := (X169.2.f f19 (by decide) h2)
        refine z_xgv zt194 1 rfl zo194 zzf12_136 X179 f19 (by decide) h183 ?_
        refine z_xZ zt194 2 rfl rfl (fun (h184 : 0 ≤ x3.toInt) => absurd h184 (by omega)) (fun (h184 : x3.toInt < 0) => ?_)
        refine z_xP zt194 3 9 [some (.ref 19)] [.ref 19, .ref 19] rfl rfl ?_
        have h185 := (X169.2.f f19 (by decide) hp0)
        refine z_xgv zt194 4 rfl zo194 zzf12_123 X179 f19 (by decide) h185 ?_
        refine z_xP zt194 5 19 [some (.ref 19)] [.int z0, .ref 19] rfl rfl ?_
        refine z_xpf zt194 8 rfl zo194 zzf12_136 X179 f19 (by decide) (by decide) ⟨Int32.le_toInt _, Int32.toInt_le _⟩ rfl (by decide) zw12_26 (fun M186 X187 e188 h189 => ?_)
        refine z_xP zt194 9 23 [some (.ref 19)] [.int 0] rfl rfl ?_
        refine z_xrz zt194 10 rfl zzr194 (by decide) (by decide) ?_
        show z_ev (d + 1) 197 55 [some (.ref 19), some (.int b1), some (.int 0), some (.int x176), o4] [.int 0] M186 _
        refine z_xP zt197 25 76 [some (.ref 19), some (.int b1), some (.int 0), some (.int x176), some (.int 0)] [] rfl rfl ?_
        refine z_xP zt197 34 4 [some (.ref 19), some (.int b1), some (.int 0), some (.int x176), some (.int 0)] [] rfl rfl ?_
        have h190 := (e188.f f19 (by decide) h185)
        have q0 : ((0 : Int32)).toInt = 0 := rfl
        exact ih M186 b1 (0) (some (.int x176)) (some (.int 0)) z0 X187 ⟨by omega, by omega⟩ (by decide) h190 ⟨by omega, by omega⟩ (by omega) (by omega)
      refine z_xP zt197 21 48 [some (.ref 19), some (.int b1), some (.int 0), some (.int x176), o4] [.int x176] rfl rfl ?_
      refine z_xZ zt197 22 rfl rfl (fun (h191 : x176.toInt < 0) => ?_) (fun (h191 : 0 ≤ x176.toInt) => absurd h191 (by omega))
      refine z_xP zt197 34 4 [some (.ref 19), some (.int b1), some (.int 0), some (.int x176), o4] [] rfl rfl ?_
      have h192 := (X169.2.f f19 (by decide) hp0)
      have q0 : ((0 : Int32)).toInt = 0 := rfl
      exact ih M168 b1 (0) (some (.int x176)) (o4) z0 X179 ⟨by omega, by omega⟩ (by decide) h192 ⟨by omega, by omega⟩ (by omega) (by omega)
    refine z_xP zt197 13 34 [some (.ref 19), some (.int b1), some (.int b2), some (.int x176), o4] [.int x176, .int b1] rfl rfl ?_
    refine z_xI zt197 14 rfl rfl (fun (x193 : Int32) (h194 : 0 ≤ x193.toInt ∧ x193.toInt ≤ b1.toInt) => ?_) (z_pShrN rfl (by omega))
    refine z_xP zt197 15 36 [some (.ref 19), some (.int b1), some (.int b2), some (.int x176), o4] [.int 1, .int x193] rfl rfl ?_
    refine z_xI zt197 16 rfl rfl (fun (x195 : Int32) (h196 : 0 ≤ x195.toInt ∧ x195.toInt ≤ x193.toInt ∧ x195.toInt ≤ 1) => ?_) (z_pAnd2 rfl rfl (by omega) (by omega))
    refine z_xP zt197 17 38 [some (.ref 19), some (.int b1), some (.int b2), some (.int x176), o4] [.int 1, .int x195] rfl rfl ?_
    refine z_xJ zt197 18 rfl rfl (fun (h197 : x195.toInt ≠ 1) => ?_) (fun (h197 : x195.toInt = 1) => ?_)
    · skip
      refine z_xP zt197 26 63 [some (.ref 19), some (.int b1), some (.int b2), some (.int x176), o4] [.int x176, .int 1, .int b1] rfl rfl ?_
      refine z_xI zt197 27 rfl rfl (fun (x198 : Int32) (h199 : 1 ≤ x198.toInt ∧ x198.toInt ≤ 512) => ?_) (z_pShlB (a := 1) (b := 9) (c := 512) (r := 512) rfl rfl (by omega) (by omega) (by omega) (by omega) (by decide) (by decide) (by decide) (by decide))
      refine z_xI zt197 28 rfl rfl (fun (x200 : Int32) (h201 : 0 ≤ x200.toInt ∧ x200.toInt < 1024 ∧ b1.toInt ≤ x200.toInt ∧ x198.toInt ≤ x200.toInt) => ?_) (z_pOr 10 rfl rfl (by omega) (by omega) (by decide) (by omega) (by omega) (by decide))
      refine z_xP zt197 29 68 [some (.ref 19), some (.int x200), some (.int b2), some (.int x176), o4] [.ref 19, .ref 19] rfl rfl ?_
      have h202 := (X169.2.f f19 (by decide) hp0)
      refine z_xgv zt197 30 rfl zo197 zzf12_123 X179 f19 (by decide) h202 ?_
      refine z_xP zt197 31 72 [some (.ref 19), some (.int x200), some (.int b2), some (.int x176), o4] [.int 1, .int z0, .ref 19] rfl rfl ?_
      refine z_xI zt197 32 rfl rfl (fun (x203 : Int32) (h204 : x203.toInt = z0.toInt + 1) => ?_) (z_pAdd rfl rfl (by omega) (by omega))
      refine z_xpf zt197 33 rfl zo197 zzf12_123 X179 f19 (by decide) (by decide) ⟨by omega, by omega⟩ rfl (by decide) zw12_24 (fun M205 X206 e207 h208 => ?_)
      refine z_xP zt197 34 4 [some (.ref 19), some (.int x200), some (.int b2), some (.int x176), o4] [] rfl rfl ?_
      exact ih M205 x200 b2 (some (.int x176)) (o4) x203 X206 ⟨by omega, by omega⟩ ⟨by omega, by omega⟩ h208 ⟨by omega, by omega⟩ (by omega) (by omega)
    refine z_xP zt197 19 44 [some (.ref 19), some (.int b1), some (.int 0), some (.int x176), o4] [.int b1] rfl rfl ?_
    refine z_xZ zt197 20 rfl rfl (fun (h209 : b1.toInt = 0) => ?_) (fun (h209 : b1.toInt ≠ 0) => ?_)
    · skip
      refine z_xP zt197 23 52 [some (.ref 19), some (.int b1), some (.int 0), some (.int x176), o4] [.ref 19] rfl rfl ?_
      refine z_xcV (vs := [.ref 19]) (r := []) (L2 := [some (.ref 19)]) zt197 24 rfl zo197 zzcV12_163 (Or.inl rfl) rfl X179 f19 rfl rfl rfl (Nat.le_of_ble_eq_true rfl) zzm194 (Nat.le_of_ble_eq_true rfl) rfl ?_
      refine z_xP zt194 0 2 [some (.ref 19)] [.ref 19, .ref 19] rfl rfl ?_
      have h210 := (X169.2.f f19 (by decide) h2)
      refine z_xgv zt194 1 rfl zo194 zzf12_136 X179 f19 (by decide) h210 ?_
      refine z_xZ zt194 2 rfl rfl (fun (h211 : 0 ≤ x3.toInt) => absurd h211 (by omega)) (fun (h211 : x3.toInt < 0) => ?_)
      refine z_xP zt194 3 9 [some (.ref 19)] [.ref 19, .ref 19] rfl rfl ?_
      have h212 := (X169.2.f f19 (by decide) hp0)
      refine z_xgv zt194 4 rfl zo194 zzf12_123 X179 f19 (by decide) h212 ?_
      refine z_xP zt194 5 19 [some (.ref 19)] [.int z0, .ref 19] rfl rfl ?_
      refine z_xpf zt194 8 rfl zo194 zzf12_136 X179 f19 (by decide) (by decide) ⟨Int32.le_toInt _, Int32.toInt_le _⟩ rfl (by decide) zw12_26 (fun M213 X214 e215 h216 => ?_)
      refine z_xP zt194 9 23 [some (.ref 19)] [.int 0] rfl rfl ?_
      refine z_xrz zt194 10 rfl zzr194 (by decide) (by decide) ?_
      show z_ev (d + 1) 197 55 [some (.ref 19), some (.int b1), some (.int 0), some (.int x176), o4] [.int 0] M213 _
      refine z_xP zt197 25 76 [some (.ref 19), some (.int b1), some (.int 0), some (.int x176), some (.int 0)] [] rfl rfl ?_
      refine z_xP zt197 34 4 [some (.ref 19), some (.int b1), some (.int 0), some (.int x176), some (.int 0)] [] rfl rfl ?_
      have h217 := (e215.f f19 (by decide) h212)
      have q0 : ((0 : Int32)).toInt = 0 := rfl
      exact ih M213 b1 (0) (some (.int x176)) (some (.int 0)) z0 X214 ⟨by omega, by omega⟩ (by decide) h217 ⟨by omega, by omega⟩ (by omega) (by omega)
    refine z_xP zt197 21 48 [some (.ref 19), some (.int b1), some (.int 0), some (.int x176), o4] [.int x176] rfl rfl ?_
    refine z_xZ zt197 22 rfl rfl (fun (h218 : x176.toInt < 0) => absurd h218 (by omega)) (fun (h218 : 0 ≤ x176.toInt) => ?_)
    refine z_xP zt197 23 52 [some (.ref 19), some (.int b1), some (.int 0), some (.int x176), o4] [.ref 19] rfl rfl ?_
    refine z_xcV (vs := [.ref 19]) (r := []) (L2 := [some (.ref 19)]) zt197 24 rfl zo197 zzcV12_163 (Or.inl rfl) rfl X179 f19 rfl rfl rfl (Nat.le_of_ble_eq_true rfl) zzm194 (Nat.le_of_ble_eq_true rfl) rfl ?_
    refine z_xP zt194 0 2 [some (.ref 19)] [.ref 19, .ref 19] rfl rfl ?_
    have h219 := (X169.2.f f19 (by decide) h2)
    refine z_xgv zt194 1 rfl zo194 zzf12_136 X179 f19 (by decide) h219 ?_
    refine z_xZ zt194 2 rfl rfl (fun (h220 : 0 ≤ x3.toInt) => absurd h220 (by omega)) (fun (h220 : x3.toInt < 0) => ?_)
    refine z_xP zt194 3 9 [some (.ref 19)] [.ref 19, .ref 19] rfl rfl ?_
    have h221 := (X169.2.f f19 (by decide) hp0)
    refine z_xgv zt194 4 rfl zo194 zzf12_123 X179 f19 (by decide) h221 ?_
    refine z_xP zt194 5 19 [some (.ref 19)] [.int z0, .ref 19] rfl rfl ?_
    refine z_xpf zt194 8 rfl zo194 zzf12_136 X179 f19 (by decide) (by decide) ⟨Int32.le_toInt _, Int32.toInt_le _⟩ rfl (by decide) zw12_26 (fun M222 X223 e224 h225 => ?_)
    refine z_xP zt194 9 23 [some (.ref 19)] [.int 0] rfl rfl ?_
    refine z_xrz zt194 10 rfl zzr194 (by decide) (by decide) ?_
    show z_ev (d + 1) 197 55 [some (.ref 19), some (.int b1), some (.int 0), some (.int x176), o4] [.int 0] M222 _
    refine z_xP zt197 25 76 [some (.ref 19), some (.int b1), some (.int 0), some (.int x176), some (.int 0)] [] rfl rfl ?_
    refine z_xP zt197 34 4 [some (.ref 19), some (.int b1), some (.int 0), some (.int x176), some (.int 0)] [] rfl rfl ?_
    have h226 := (e224.f f19 (by decide) h221)
    have q0 : ((0 : Int32)).toInt = 0 := rfl
    exact ih M222 b1 (0) (some (.int x176)) (some (.int 0)) z0 X223 ⟨by omega, by omega⟩ (by decide) h226 ⟨by omega, by omega⟩ (by omega) (by omega)
theorem zC197 {T : List zK} {d : Nat} {K : Option Value → zH → Prop} {zp0 : Int32} {M0 : zH} (hW : z_W M0 T) (hz0 : z_F M0 19 24 = some (.int zp0)) (bz0 : 0 ≤ zp0.toInt ∧ zp0.toInt ≤ 160) (hL : z_GL M0) (kk : ∀ (x : Int32) (M1 : zH), z_X T zw197 M0 M1 → 0 ≤ x.toInt → x.toInt ≤ 1023 → ∀ (w0 : Int32), z_F M1 19 24 = some (.int w0) → 0 ≤ w0.toInt ∧ w0.toInt ≤ 160 → zp0.toInt ≤ w0.toInt → K (some (.int x)) M1) : z_ev (d + 1) 197 0 [some (.ref 19), none, none, none, none] [] M0 K := by
  have X : z_X T zw197 M0 M0 := .refl hW
  refine z_xP zt197 0 4 [some (.ref 19), some (.int 0), some (.int 1), none, none] [] rfl rfl ?_
  have f19 : T[19]? = some (.inl (12, 0, 0, 0, 0)) := X.1.k rfl (by decide)
  have q0 : ((0 : Int32)).toInt = 0 := rfl
  have q1 : ((1 : Int32)).toInt = 1 := rfl
  exact (zB197 hz0 bz0 hL kk 646) M0 (0) (1) none none zp0 X (by decide) (by decide) hz0 ⟨by omega, by omega⟩ (by omega) (by omega)
