/-! keptWithout while the agenda is made -/
theorem zUB24 {T : List zK} {d : Nat} {K : Option Value → zH → Prop} {a0 : Nat} {q : Nat} {t : Nat} {m : Nat} {p1 : Int32} {p2 : Int32} {M0 : zH} (k0 : T[a0]? = some (.inl (2, q, t, m, 1))) (u2 : 0 ≤ p2.toInt ∧ p2.toInt ≤ 15) (hb0 : p2.toInt < ((z_bl q : Nat) : Int)) (kk : ∀ (x : Int64) (M1 : zH), z_X T zw24 M0 M1 → K (some (.long x)) M1) : ∀ n : Nat, (∀ (M : zH) (b3 : Int64) (b5 : Int32), z_X T zw24 M0 M → 0 ≤ b5.toInt ∧ b5.toInt ≤ 8 → ((0) * 2 + 0) * 9 + (8 - b5.toInt) < (n : Int) → z_ev d 24 8 [some (.ref a0), some (.int p1), some (.int p2), some (.long b3), none, some (.int b5)] [] M K) := by
  intro n
  induction n with
  | zero => exact by intros; exfalso; omega
  | succ n ih =>
    intro M b3 b5 X hh0 hE
    have g0 := X.1.p2 k0
    refine z_xP zt24 3 11 [some (.ref a0), some (.int p1), some (.int p2), some (.long b3), none, some (.int b5)] [.ref a0, .int b5] rfl rfl ?_
    refine z_xgI zt24 4 rfl zo24 zzf2_25 X k0 (by decide) (by decide) rfl (fun (x2 : Int32) h1 (h3 : (t : Int) ≤ x2.toInt) (h4 : x2.toInt ≤ (t : Int)) => ?_)
    refine z_xJ zt24 5 rfl rfl (fun (h5 : x2.toInt ≤ b5.toInt) => ?_) (fun (h5 : b5.toInt < x2.toInt) => ?_)
    · skip
      refine z_xP zt24 26 56 [some (.ref a0), some (.int p1), some (.int p2), some (.long b3), none, some (.int b5)] [.long b3] rfl rfl ?_
      exact z_xrl zt24 27 rfl zzr24 (kk b3 M X)
    refine z_xP zt24 6 19 [some (.ref a0), some (.int p1), some (.int p2), some (.long b3), none, some (.int b5)] [.long 0, .long b3] rfl rfl ?_
    refine z_xI zt24 7 rfl rfl (fun (x6 : Int32) (h7 : (x6.toInt < 0 ∧ b3.toInt < 0) ∨ (x6.toInt = 0 ∧ b3.toInt = 0) ∨ (0 < x6.toInt ∧ 0 < b3.toInt)) => ?_) (z_qCmp rfl rfl)
    refine z_xZ zt24 8 rfl rfl (fun (h8 : x6.toInt = 0) => ?_) (fun (h8 : x6.toInt ≠ 0) => ?_)
    · skip
      refine z_xP zt24 26 56 [some (.ref a0), some (.int p1), some (.int p2), some (.long b3), none, some (.int b5)] [.long b3] rfl rfl ?_
      exact z_xrl zt24 27 rfl zzr24 (kk b3 M X)
    refine z_xP zt24 9 26 [some (.ref a0), some (.int p1), some (.int p2), some (.long b3), none, some (.int b5)] [.int b5, .int p1] rfl rfl ?_
    have h9 := z_b32 p1
    refine z_xI zt24 10 rfl rfl (P := fun _ => True) (fun (x10 : Int32) _ => ?_) trivial
    refine z_xP zt24 11 28 [some (.ref a0), some (.int p1), some (.int p2), some (.long b3), none, some (.int b5)] [.int 1, .int x10] rfl rfl ?_
    refine z_xI zt24 12 rfl rfl (fun (x12 : Int32) (h13 : 0 ≤ x12.toInt ∧ x12.toInt ≤ 1) => ?_) (z_pAnd rfl (by omega))
    refine z_xZ zt24 13 rfl rfl (fun (h14 : x12.toInt ≠ 0) => ?_) (fun (h14 : x12.toInt = 0) => ?_)
    · skip
      refine z_xN zt24 24 rfl rfl (fun (x15 : Int32) (h16 : x15.toInt = b5.toInt + 1) => ?_) (z_pAdd rfl rfl (by omega) (by omega))
      show z_ev d 24 52 [some (.ref a0), some (.int p1), some (.int p2), some (.long b3), none, some (.int x15)] [] M _
      refine z_xP zt24 25 8 [some (.ref a0), some (.int p1), some (.int p2), some (.long b3), none, some (.int x15)] [] rfl rfl ?_
      exact ih M b3 x15 X ⟨by omega, by omega⟩ (by omega)
    refine z_xP zt24 14 34 [some (.ref a0), some (.int p1), some (.int p2), some (.long b3), none, some (.int b5)] [.ref a0, .long b3] rfl rfl ?_
    refine z_xgR (κ := .inr (108, 1, t * z_bl q, 0, 0)) zt24 15 rfl zo24 zzf2_28 X k0 (by decide) (by decide) rfl (fun (a18 : Nat) h17 k19 => ?_)
    refine z_xP zt24 16 40 [some (.ref a0), some (.int p1), some (.int p2), some (.long b3), none, some (.int b5)] [.ref a0, .int b5, .ref a18, .long b3] rfl rfl ?_
    refine z_xgI zt24 17 rfl zo24 zzf2_35 X k0 (by decide) (by decide) rfl (fun (x21 : Int32) h20 (h22 : ((z_bl q : Nat) : Int) ≤ x21.toInt) (h23 : x21.toInt ≤ ((z_bl q : Nat) : Int)) => ?_)
    refine z_xI zt24 18 rfl rfl (fun (x24 : Int32) (h25 : x24.toInt = b5.toInt * x21.toInt ∧ 0 ≤ x24.toInt ∧ x24.toInt ≤ 112) => ?_) (z_pMulB (a := 7) (b := 16) rfl rfl (by omega) (by omega) (by omega) (by omega) (by decide) (by decide))
    refine z_xP zt24 19 45 [some (.ref a0), some (.int p1), some (.int p2), some (.long b3), none, some (.int b5)] [.int p2, .int x24, .ref a18, .long b3] rfl rfl ?_
    refine z_xI zt24 20 rfl rfl (fun (x26 : Int32) (h27 : x26.toInt = x24.toInt + p2.toInt) => ?_) (z_pAdd rfl rfl (by omega) (by omega))
    have h28 := z_nlx (p := x24.toInt) (x := b5.toInt) (y := x21.toInt) (s := p2.toInt) (z := x26.toInt) (A := t) (B := z_bl q) (by omega) (by omega) (by omega) (by omega) (by omega) (by omega) (by omega)
    refine z_xll zt24 21 rfl X k19 (by decide) h28.1 h28.2 (fun (y29 : Int64) => ?_)
    refine z_xL zt24 22 rfl rfl (P := fun _ => True) (fun (y30 : Int64) _ => ?_) trivial
    refine z_xP zt24 23 49 [some (.ref a0), some (.int p1), some (.int p2), some (.long y30), none, some (.int b5)] [] rfl rfl ?_
    refine z_xN zt24 24 rfl rfl (fun (x32 : Int32) (h33 : x32.toInt = b5.toInt + 1) => ?_) (z_pAdd rfl rfl (by omega) (by omega))
    show z_ev d 24 52 [some (.ref a0), some (.int p1), some (.int p2), some (.long y30), none, some (.int x32)] [] M _
    refine z_xP zt24 25 8 [some (.ref a0), some (.int p1), some (.int p2), some (.long y30), none, some (.int x32)] [] rfl rfl ?_
    exact ih M y30 x32 X ⟨by omega, by omega⟩ (by omega)
theorem zUC24 {T : List zK} {d : Nat} {K : Option Value → zH → Prop} {a0 : Nat} {q : Nat} {t : Nat} {m : Nat} {p1 : Int32} {p2 : Int32} {M0 : zH} (hW : z_W M0 T) (k0 : T[a0]? = some (.inl (2, q, t, m, 1))) (u2 : 0 ≤ p2.toInt ∧ p2.toInt ≤ 15) (hb0 : p2.toInt < ((z_bl q : Nat) : Int)) (kk : ∀ (x : Int64) (M1 : zH), z_X T zw24 M0 M1 → K (some (.long x)) M1) : z_ev d 24 0 [some (.ref a0), some (.int p1), some (.int p2), none, none, none] [] M0 K := by
  have X : z_X T zw24 M0 M0 := .refl hW
  have g0 := X.1.p2 k0
  refine z_xP zt24 0 1 [some (.ref a0), some (.int p1), some (.int p2), none, none, none] [.ref a0] rfl rfl ?_
  refine z_xgL zt24 1 rfl zo24 zzf2_40 X k0 (by decide) (by decide) rfl (fun (y2 : Int64) h1 => ?_)
  refine z_xP zt24 2 8 [some (.ref a0), some (.int p1), some (.int p2), some (.long y2), none, some (.int 0)] [] rfl rfl ?_
  have q0 : ((0 : Int32)).toInt = 0 := rfl
  exact (zUB24 k0 u2 hb0 kk 18) M0 y2 (0) X (by decide) (by omega)
