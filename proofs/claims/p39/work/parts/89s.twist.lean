/-! twist: the told bench is as it was -/
theorem z_alt.ne {M M1 : zH} {b i : Nat} {j Y N : Int32} (h : z_alt M M1 b j Y N) (hi : i ≠ j.toNatClampNeg) : z_Ar M1 (b + 2) i = z_Ar M (b + 2) i ∧ z_Ar M1 (b + 3) i = z_Ar M (b + 3) i := by
  rw [h.1, h.2]
  show (if i = j.toNatClampNeg then Y else z_Ar M (b + 2) i) = _ ∧ (if i = j.toNatClampNeg then N else z_Ar M (b + 3) i) = _
  rw [if_neg hi, if_neg hi]
  exact ⟨rfl, rfl⟩
theorem z_alt.eq {M M1 : zH} {b : Nat} {j Y N : Int32} (h : z_alt M M1 b j Y N) : z_Ar M1 (b + 2) j.toNatClampNeg = Y ∧ z_Ar M1 (b + 3) j.toNatClampNeg = N := by
  rw [h.1, h.2]
  show (if j.toNatClampNeg = j.toNatClampNeg then Y else z_Ar M (b + 2) j.toNatClampNeg) = _ ∧ (if j.toNatClampNeg = j.toNatClampNeg then N else z_Ar M (b + 3) j.toNatClampNeg) = _
  rw [if_pos rfl, if_pos rfl]
  exact ⟨rfl, rfl⟩
theorem z_tw1 {a b c d e f : Int32} (h : a = b ∧ c = d) (h2 : b = e ∧ d = f) : a = e ∧ c = f := ⟨h.1.trans h2.1, h.2.trans h2.2⟩
def z_tw (M0 M1 : zH) (b : Nat) (j : Int32) (q : Nat) : Prop := (∀ i : Nat, i ≠ j.toNatClampNeg → z_Ar M1 (b + 2) i = z_Ar M0 (b + 2) i ∧ z_Ar M1 (b + 3) i = z_Ar M0 (b + 3) i) ∧ z_Ar M1 (b + 2) j.toNatClampNeg = z_Ar M0 (b + 2) j.toNatClampNeg ∧ ∃ A : Int32, A.toInt = ((z_po q : Nat) : Int) - 1 ∧ z_Ar M1 (b + 3) j.toNatClampNeg = A &&& (z_Ar M0 (b + 2) j.toNatClampNeg ^^^ (-1 : Int32))
def z_twP (T : List zK) (M0 M1 : zH) (p j : Int32) : Prop := z_ke T [] M0 M1 ∨ ∃ (A : Int32) (b q t m : Nat), z_F M0 4 3 = some (.int A) ∧ 0 ≤ p.toInt ∧ p.toInt < A.toInt ∧ z_O M0 10 p.toNatClampNeg = some b ∧ T[b]? = some (.inl (3, q, t, m, 9)) ∧ z_oth T (fun w => w = b) M0 M1 ∧ z_tw M0 M1 b j q ∧ ∃ jv : Int32, z_F M0 b 4 = some (.int jv) ∧ 0 ≤ j.toInt ∧ j.toInt < jv.toInt ∧ ∃ A2 : Int32, A2.toInt = ((z_po q : Nat) : Int) - 1 ∧ (z_Ar M0 (b + 2) j.toNatClampNeg ||| z_Ar M0 (b + 3) j.toNatClampNeg).toInt = A2.toInt
/-- a judge who isn't silent: no ones are what isn't yes -/
theorem z_silent {y n A : Int32} (h : (y ||| n).toInt = A.toInt) (h2 : (y &&& n).toInt = 0) : A &&& (y ^^^ (-1 : Int32)) = n := by
  have e : A = y ||| n := (Int32.toInt_inj.mp h).symm
  have h3 := z_z32.mp h2
  apply Int32.toBitVec_inj.mp
  apply BitVec.eq_of_getLsbD_eq
  intro i hi
  have h4 := h3 i hi
  rw [Int32.toBitVec_and, BitVec.getLsbD_and] at h4
  rw [e, Int32.toBitVec_and, BitVec.getLsbD_and, Int32.toBitVec_or, BitVec.getLsbD_or, Int32.toBitVec_xor, BitVec.getLsbD_xor, z_m1b i hi]
  cases a : y.toBitVec.getLsbD i with
  | false =>
    cases b : n.toBitVec.getLsbD i with
    | false => rfl
    | true => rfl
  | true =>
    cases b : n.toBitVec.getLsbD i with
    | false => rfl
    | true =>
      rw [a, b] at h4
      cases h4
theorem zOB118 {T : List zK} {d : Nat} {K : Option Value → zH → Prop} {a0 : Nat} {ci : Nat} {a1 : Nat} {q1 : Nat} {t1 : Nat} {m1 : Nat} {J1 : Nat} {p2 : Int32} {M0 : zH} (w0 : 4 ≤ ci ∧ ci ≤ 11) (k0 : T[a0]? = some (.inl (ci, 0, 0, 0, 0))) (k1 : T[a1]? = some (.inl (3, q1, t1, m1, J1))) (u2 : 0 ≤ p2.toInt ∧ p2.toInt ≤ 8) (hW0 : z_W M0 T) (hbk : z_blk T M0) (kk : ∀ (x : Int32) (M1 : zH), z_X T zw118 M0 M1 → (-2) ≤ x.toInt → x.toInt ≤ 1023 → z_tw M0 M1 a1 p2 q1 → K (some (.int x)) M1) : ∀ n : Nat, (∀ (M : zH) (r3 : Nat) (b4 : Int32) (b5 : Int32) (b6 : Int32) (b7 : Int32) (b8 : Int32) (o9 : Option Value) (o10 : Option Value), z_X T zw118 M0 M → T[r3]? = some (.inl (2, q1, t1, m1, 0)) → 0 ≤ b6.toInt ∧ b6.toInt ≤ 63 → (-2) ≤ b7.toInt ∧ b7.toInt ≤ 1023 → 0 ≤ b8.toInt ∧ b8.toInt ≤ 1024 → (∀ i : Nat, i ≠ p2.toNatClampNeg → z_Ar M (a1 + 2) i = z_Ar M0 (a1 + 2) i ∧ z_Ar M (a1 + 3) i = z_Ar M0 (a1 + 3) i) → z_Ar M0 (a1 + 2) p2.toNatClampNeg = b4 → ((0) * 2 + 0) * 1025 + (1024 - b8.toInt) < (n : Int) → z_ev (d + 4) 118 41 [some (.ref a0), some (.ref a1), some (.int p2), some (.ref r3), some (.int b4), some (.int b5), some (.int b6), some (.int b7), some (.int b8), o9, o10] [] M K) := by
  intro n
  induction n with
  | zero => exact by intros; exfalso; omega
  | succ n ih =>
    intro M r3 b4 b5 b6 b7 b8 o9 o10 X hk3 hh1 hh2 hh3 hEo hO hE
    have g1 := X.1.p3 k1
    have hg3 := X.1.p2 hk3
    refine z_xP zt118 14 44 [some (.ref a0), some (.ref a1), some (.int p2), some (.ref r3), some (.int b4), some (.int b5), some (.int b6), some (.int b7), some (.int b8), o9, o10] [.ref r3, .int b8] rfl rfl ?_
    refine z_xgR (κ := .inr (102, 0, m1, 0, 1023)) zt118 15 rfl zo118 zzf4_82 X hk3 (by decide) (by decide) rfl (fun (a2 : Nat) h1 k3 => ?_)
    refine z_xln zt118 16 rfl X k3 (by decide) (by omega) (fun (x4 : Int32) (h5 : x4.toInt = ((m1 : Nat) : Int)) => ?_)
    refine z_xJ zt118 17 rfl rfl (fun (h6 : x4.toInt ≤ b8.toInt) => ?_) (fun (h6 : b8.toInt < x4.toInt) => ?_)
    · skip
      refine z_xP zt118 41 124 [some (.ref a0), some (.ref a1), some (.int p2), some (.ref r3), some (.int b4), some (.int b5), some (.int b6), some (.int b7), some (.int b8), o9, o10] [.ref r3, .int b4, .int p2, .ref a1] rfl rfl ?_
      refine z_xgI zt118 42 rfl zo118 zzf4_88 X hk3 (by decide) (by decide) rfl (fun (x8 : Int32) h7 (h9 : ((z_po q1 : Nat) : Int) - 1 ≤ x8.toInt) (h10 : x8.toInt ≤ ((z_po q1 : Nat) : Int) - 1) => ?_)
      refine z_xP zt118 43 130 [some (.ref a0), some (.ref a1), some (.int p2), some (.ref r3), some (.int b4), some (.int b5), some (.int b6), some (.int b7), some (.int b8), o9, o10] [.int (-1), .int b4, .int x8, .int b4, .int p2, .ref a1] rfl rfl ?_
      refine z_xI zt118 44 rfl rfl (fun (x11 : Int32) (h12 : x11 = b4 ^^^ ((-1) : Int32)) => ?_) (rfl)
      refine z_xI zt118 45 rfl rfl (fun (x13 : Int32) (h14 : x13 = x8 &&& x11) => ?_) (rfl)
      refine z_xcV (vs := [.ref a1, .int p2, .int b4, .int x13]) (r := []) (L2 := [some (.ref a1), some (.int p2), some (.int b4), some (.int x13), none, none, none, none]) zt118 46 rfl zo118 zzcV4_91 (Or.inl rfl) rfl X k1 rfl rfl rfl (Nat.le_of_ble_eq_true rfl) zzm54 (Nat.le_of_ble_eq_true rfl) rfl ?_
      refine zUC54 X.1 k1 (by omega) X.1 (hbk.ke X.2 (by decide)) (fun M15 X16 h17 => ?_)
      have X18 := X.go X16 (z_sb (by decide))
      show z_ev (d + 4) 118 135 [some (.ref a0), some (.ref a1), some (.int p2), some (.ref r3), some (.int b4), some (.int b5), some (.int b6), some (.int b7), some (.int b8), o9, o10] [] M15 _
      refine z_xP zt118 47 137 [some (.ref a0), some (.ref a1), some (.int p2), some (.ref r3), some (.int b4), some (.int b5), some (.int b6), some (.int b7), some (.int b8), o9, o10] [.int b7] rfl rfl ?_
      exact z_xri zt118 48 rfl zzr118 (kk b7 M15 X18 (by omega) (by omega) ⟨(fun i hi => (z_tw1 (z_alt.ne h17 hi) (hEo i hi))), (z_alt.eq h17).1.trans hO.symm, x8, by unfold z_po at *; omega, by rw [(z_alt.eq h17).2, h14, h12, hO]⟩)
    refine z_xP zt118 18 54 [some (.ref a0), some (.ref a1), some (.int p2), some (.ref r3), some (.int b4), some (.int b5), some (.int b6), some (.int b7), some (.int b8), o9, o10] [.ref r3, .int b6] rfl rfl ?_
    refine z_xgI zt118 19 rfl zo118 zzf4_85 X hk3 (by decide) (by decide) rfl (fun (x21 : Int32) h20 (h22 : (q1 : Int) ≤ x21.toInt) (h23 : x21.toInt ≤ (q1 : Int)) => ?_)
    refine z_xJ zt118 20 rfl rfl (fun (h24 : x21.toInt ≤ b6.toInt) => ?_) (fun (h24 : b6.toInt < x21.toInt) => ?_)
    · skip
      refine z_xP zt118 41 124 [some (.ref a0), some (.ref a1), some (.int p2), some (.ref r3), some (.int b4), some (.int b5), some (.int b6), some (.int b7), some (.int b8), o9, o10] [.ref r3, .int b4, .int p2, .ref a1] rfl rfl ?_
      refine z_xgI zt118 42 rfl zo118 zzf4_88 X hk3 (by decide) (by decide) rfl (fun (x26 : Int32) h25 (h27 : ((z_po q1 : Nat) : Int) - 1 ≤ x26.toInt) (h28 : x26.toInt ≤ ((z_po q1 : Nat) : Int) - 1) => ?_)
      refine z_xP zt118 43 130 [some (.ref a0), some (.ref a1), some (.int p2), some (.ref r3), some (.int b4), some (.int b5), some (.int b6), some (.int b7), some (.int b8), o9, o10] [.int (-1), .int b4, .int x26, .int b4, .int p2, .ref a1] rfl rfl ?_
      refine z_xI zt118 44 rfl rfl (fun (x29 : Int32) (h30 : x29 = b4 ^^^ ((-1) : Int32)) => ?_) (rfl)
      refine z_xI zt118 45 rfl rfl (fun (x31 : Int32) (h32 : x31 = x26 &&& x29) => ?_) (rfl)
      refine z_xcV (vs := [.ref a1, .int p2, .int b4, .int x31]) (r := []) (L2 := [some (.ref a1), some (.int p2), some (.int b4), some (.int x31), none, none, none, none]) zt118 46 rfl zo118 zzcV4_91 (Or.inl rfl) rfl X k1 rfl rfl rfl (Nat.le_of_ble_eq_true rfl) zzm54 (Nat.le_of_ble_eq_true rfl) rfl ?_
      refine zUC54 X.1 k1 (by omega) X.1 (hbk.ke X.2 (by decide)) (fun M33 X34 h35 => ?_)
      have X36 := X.go X34 (z_sb (by decide))
      show z_ev (d + 4) 118 135 [some (.ref a0), some (.ref a1), some (.int p2), some (.ref r3), some (.int b4), some (.int b5), some (.int b6), some (.int b7), some (.int b8), o9, o10] [] M33 _
      refine z_xP zt118 47 137 [some (.ref a0), some (.ref a1), some (.int p2), some (.ref r3), some (.int b4), some (.int b5), some (.int b6), some (.int b7), some (.int b8), o9, o10] [.int b7] rfl rfl ?_
      exact z_xri zt118 48 rfl zzr118 (kk b7 M33 X36 (by omega) (by omega) ⟨(fun i hi => (z_tw1 (z_alt.ne h35 hi) (hEo i hi))), (z_alt.eq h35).1.trans hO.symm, x26, by unfold z_po at *; omega, by rw [(z_alt.eq h35).2, h32, h30, hO]⟩)
    refine z_xP zt118 21 61 [some (.ref a0), some (.ref a1), some (.int p2), some (.ref r3), some (.int b4), some (.int b5), some (.int b6), some (.int b7), some (.int b8), o9, o10] [.ref r3] rfl rfl ?_
    refine z_xgv zt118 22 rfl zo118 zzf4_82 X hk3 (by decide) h1 ?_
    refine z_xP zt118 23 66 [some (.ref a0), some (.ref a1), some (.int p2), some (.ref r3), some (.int b4), some (.int b5), some (.int b6), some (.int b7), some (.int b8), o9, o10] [.int b8, .ref a2] rfl rfl ?_
    refine z_xil zt118 24 rfl X k3 (by decide) (by omega) (by omega) (fun (x38 : Int32) h39 (h40 : 0 ≤ x38.toInt) (h41 : x38.toInt ≤ 1023) => ?_)
    refine z_xP zt118 25 74 [some (.ref a0), some (.ref a1), some (.int p2), some (.ref r3), some (.int b4), some (.int b5), some (.int b6), some (.int b7), some (.int b8), some (.int x38), o10] [.ref r3, .int x38, .int p2, .ref a1] rfl rfl ?_
    refine z_xgI zt118 26 rfl zo118 zzf4_88 X hk3 (by decide) (by decide) rfl (fun (x43 : Int32) h42 (h44 : ((z_po q1 : Nat) : Int) - 1 ≤ x43.toInt) (h45 : x43.toInt ≤ ((z_po q1 : Nat) : Int) - 1) => ?_)
    refine z_xP zt118 27 80 [some (.ref a0), some (.ref a1), some (.int p2), some (.ref r3), some (.int b4), some (.int b5), some (.int b6), some (.int b7), some (.int b8), some (.int x38), o10] [.int (-1), .int x38, .int x43, .int x38, .int p2, .ref a1] rfl rfl ?_
    refine z_xI zt118 28 rfl rfl (fun (x46 : Int32) (h47 : x46 = x38 ^^^ ((-1) : Int32)) => ?_) (rfl)
    refine z_xI zt118 29 rfl rfl (fun (x48 : Int32) (h49 : x48 = x43 &&& x46) => ?_) (rfl)
    refine z_xcV (vs := [.ref a1, .int p2, .int x38, .int x48]) (r := []) (L2 := [some (.ref a1), some (.int p2), some (.int x38), some (.int x48), none, none, none, none]) zt118 30 rfl zo118 zzcV4_91 (Or.inl rfl) rfl X k1 rfl rfl rfl (Nat.le_of_ble_eq_true rfl) zzm54 (Nat.le_of_ble_eq_true rfl) rfl ?_
    refine zUC54 X.1 k1 (by omega) X.1 (hbk.ke X.2 (by decide)) (fun M50 X51 h52 => ?_)
    have X53 := X.go X51 (z_sb (by decide))
    show z_ev (d + 4) 118 85 [some (.ref a0), some (.ref a1), some (.int p2), some (.ref r3), some (.int b4), some (.int b5), some (.int b6), some (.int b7), some (.int b8), some (.int x38), o10] [] M50 _
    refine z_xP zt118 31 87 [some (.ref a0), some (.ref a1), some (.int p2), some (.ref r3), some (.int b4), some (.int b5), some (.int b6), some (.int b7), some (.int b8), some (.int x38), o10] [.ref a1, .ref a0] rfl rfl ?_
    refine zVdecide zt118 32 rfl zo118 zzcV4_54 X53 k0 w0 (Nat.le_of_ble_eq_true rfl) k1 (fun x57 M55 X56  => ?_)
    have X58 := X53.go X56 (z_sb (by decide))
    show z_ev (d + 4) 118 90 [some (.ref a0), some (.ref a1), some (.int p2), some (.ref r3), some (.int b4), some (.int b5), some (.int b6), some (.int b7), some (.int b8), some (.int x38), o10] [.int x57] M55 _
    refine z_xP zt118 33 92 [some (.ref a0), some (.ref a1), some (.int p2), some (.ref r3), some (.int b4), some (.int b5), some (.int b6), some (.int b7), some (.int b8), some (.int x38), o10] [.int b5, .int x57] rfl rfl ?_
    refine z_xI zt118 34 rfl rfl (P := fun _ => True) (fun (x60 : Int32) _ => ?_) trivial
    refine z_xcS (vs := [.int x60]) (r := []) (L2 := [some (.int x60)]) zt118 35 rfl zo118 zzcS4_77 (Or.inl rfl) (Nat.le_of_ble_eq_true rfl) rfl rfl (Nat.le_of_ble_eq_true rfl) zzm31 (Nat.le_of_ble_eq_true rfl) rfl ?_
    refine zC31 X58.1 (fun x64 M62 X63 h65 h66 => ?_)
    have X67 := X58.go X63 (z_sb (by decide))
    show z_ev (d + 4) 118 96 [some (.ref a0), some (.ref a1), some (.int p2), some (.ref r3), some (.int b4), some (.int b5), some (.int b6), some (.int b7), some (.int b8), some (.int x38), o10] [.int x64] M62 _
    refine z_xP zt118 36 102 [some (.ref a0), some (.ref a1), some (.int p2), some (.ref r3), some (.int b4), some (.int b5), some (.int b6), some (.int b7), some (.int b8), some (.int x38), some (.int x64)] [.int b6, .int x64] rfl rfl ?_
    refine z_xJ zt118 37 rfl rfl (fun (h69 : x64.toInt ≤ b6.toInt) => ?_) (fun (h69 : b6.toInt < x64.toInt) => ?_)
    · skip
      refine z_xN zt118 39 rfl rfl (fun (x70 : Int32) (h71 : x70.toInt = b8.toInt + 1) => ?_) (z_pAdd rfl rfl (by omega) (by omega))
      show z_ev (d + 4) 118 116 [some (.ref a0), some (.ref a1), some (.int p2), some (.ref r3), some (.int b4), some (.int b5), some (.int b6), some (.int b7), some (.int x70), some (.int x38), some (.int x64)] [] M62 _
      refine z_xP zt118 40 41 [some (.ref a0), some (.ref a1), some (.int p2), some (.ref r3), some (.int b4), some (.int b5), some (.int b6), some (.int b7), some (.int x70), some (.int x38), some (.int x64)] [] rfl rfl ?_
      exact ih M62 r3 b4 b5 b6 b7 x70 (some (.int x38)) (some (.int x64)) X67 hk3 ⟨by omega, by omega⟩ ⟨by omega, by omega⟩ ⟨by omega, by omega⟩ (fun i hi => (z_tw1 ⟨congrFun (X63.2.a (hbk.k2 hW0 k1) (by decide)) i, congrFun (X63.2.a (hbk.k3 hW0 k1) (by decide)) i⟩ (z_tw1 ⟨congrFun (X56.2.a (hbk.k2 hW0 k1) (by decide)) i, congrFun (X56.2.a (hbk.k3 hW0 k1) (by decide)) i⟩ (z_tw1 (z_alt.ne h52 hi) (hEo i hi))))) hO (by omega)
    refine z_xP zt118 38 113 [some (.ref a0), some (.ref a1), some (.int p2), some (.ref r3), some (.int b4), some (.int b5), some (.int x64), some (.int x38), some (.int b8), some (.int x38), some (.int x64)] [] rfl rfl ?_
    refine z_xN zt118 39 rfl rfl (fun (x72 : Int32) (h73 : x72.toInt = b8.toInt + 1) => ?_) (z_pAdd rfl rfl (by omega) (by omega))
    show z_ev (d + 4) 118 116 [some (.ref a0), some (.ref a1), some (.int p2), some (.ref r3), some (.int b4), some (.int b5), some (.int x64), some (.int x38), some (.int x72), some (.int x38), some (.int x64)] [] M62 _
    refine z_xP zt118 40 41 [some (.ref a0), some (.ref a1), some (.int p2), some (.ref r3), some (.int b4), some (.int b5), some (.int x64), some (.int x38), some (.int x72), some (.int x38), some (.int x64)] [] rfl rfl ?_
    exact ih M62 r3 b4 b5 x64 x38 x72 (some (.int x38)) (some (.int x64)) X67 hk3 ⟨by omega, by omega⟩ ⟨by omega, by omega⟩ ⟨by omega, by omega⟩ (fun i hi => (z_tw1 ⟨congrFun (X63.2.a (hbk.k2 hW0 k1) (by decide)) i, congrFun (X63.2.a (hbk.k3 hW0 k1) (by decide)) i⟩ (z_tw1 ⟨congrFun (X56.2.a (hbk.k2 hW0 k1) (by decide)) i, congrFun (X56.2.a (hbk.k3 hW0 k1) (by decide)) i⟩ (z_tw1 (z_alt.ne h52 hi) (hEo i hi))))) hO (by omega)
theorem zOC118 {T : List zK} {d : Nat} {K : Option Value → zH → Prop} {a0 : Nat} {ci : Nat} {a1 : Nat} {q1 : Nat} {t1 : Nat} {m1 : Nat} {J1 : Nat} {p2 : Int32} {M0 : zH} (hW : z_W M0 T) (w0 : 4 ≤ ci ∧ ci ≤ 11) (k0 : T[a0]? = some (.inl (ci, 0, 0, 0, 0))) (k1 : T[a1]? = some (.inl (3, q1, t1, m1, J1))) (u2 : 0 ≤ p2.toInt ∧ p2.toInt ≤ 8) (hW0 : z_W M0 T) (hbk : z_blk T M0) (kk : ∀ (x : Int32) (M1 : zH), z_X T zw118 M0 M1 → (-2) ≤ x.toInt → x.toInt ≤ 1023 → z_tw M0 M1 a1 p2 q1 → K (some (.int x)) M1) : z_ev (d + 4) 118 0 [some (.ref a0), some (.ref a1), some (.int p2), none, none, none, none, none, none, none, none] [] M0 K := by
  have X : z_X T zw118 M0 M0 := .refl hW
  have g1 := X.1.p3 k1
  refine z_xP zt118 0 1 [some (.ref a0), some (.ref a1), some (.int p2), none, none, none, none, none, none, none, none] [.ref a1] rfl rfl ?_
  refine z_xgR (κ := .inl (2, q1, t1, m1, 0)) zt118 1 rfl zo118 zzf4_50 X k1 (by decide) (by decide) rfl (fun (a2 : Nat) h1 k3 => ?_)
  have g4 := X.1.p2 k3
  refine z_xP zt118 2 6 [some (.ref a0), some (.ref a1), some (.int p2), some (.ref a2), none, none, none, none, none, none, none] [.ref a1] rfl rfl ?_
  refine z_xgR (κ := .inr (202, 0, 9, (-2147483648), 2147483647)) zt118 3 rfl zo118 zzf4_71 X k1 (by decide) (by decide) rfl (fun (a6 : Nat) h5 k7 => ?_)
  refine z_xP zt118 4 10 [some (.ref a0), some (.ref a1), some (.int p2), some (.ref a2), none, none, none, none, none, none, none] [.int p2, .ref a6] rfl rfl ?_
  refine z_xil zt118 5 rfl X k7 (by decide) (by omega) (by omega) (fun (x8 : Int32) h9 (h10 : (-2147483648) ≤ x8.toInt) (h11 : x8.toInt ≤ 2147483647) => ?_)
  refine z_xP zt118 6 16 [some (.ref a0), some (.ref a1), some (.int p2), some (.ref a2), some (.int x8), none, none, none, none, none, none] [.int x8, .ref a2] rfl rfl ?_
  refine z_xcV (vs := [.ref a2, .int x8]) (r := []) (L2 := [some (.ref a2), some (.int x8)]) zt118 7 rfl zo118 zzcV4_74 (Or.inl rfl) rfl X k3 rfl rfl rfl (Nat.le_of_ble_eq_true rfl) zzm39 (Nat.le_of_ble_eq_true rfl) rfl ?_
  refine z_xP zt39 0 2 [some (.ref a2), some (.int x8)] [.ref a2, .int x8] rfl rfl ?_
  refine z_xgI zt39 1 rfl zo39 zzf2_32 X k3 (by decide) (by decide) rfl (fun (x13 : Int32) h12 (h14 : ((z_po q1 : Nat) : Int) - 1 ≤ x13.toInt) (h15 : x13.toInt ≤ ((z_po q1 : Nat) : Int) - 1) => ?_)
  refine z_xP zt39 2 7 [some (.ref a2), some (.int x8)] [.int (-1), .int x8, .int x13, .int x8] rfl rfl ?_
  refine z_xI zt39 3 rfl rfl (P := fun _ => True) (fun (x16 : Int32) _ => ?_) trivial
  refine z_xI zt39 4 rfl rfl (fun (x18 : Int32) (h19 : 0 ≤ x18.toInt ∧ x18.toInt ≤ x13.toInt) => ?_) (z_pAndL rfl (by omega))
  refine z_xP zt39 5 11 [some (.ref a2), some (.int x8)] [.int 10, .int x18, .int x8] rfl rfl ?_
  refine z_xI zt39 6 rfl rfl (fun (x20 : Int32) (h21 : x20.toInt = x18.toInt * 1024) => ?_) (z_pShl 10 rfl rfl (by decide) (by decide) (by omega) rfl (by omega))
  refine z_xI zt39 7 rfl rfl (P := fun _ => True) (fun (x22 : Int32) _ => ?_) trivial
  refine z_xri zt39 8 rfl zzr39 ?_
  show z_ev (d + 4) 118 19 [some (.ref a0), some (.ref a1), some (.int p2), some (.ref a2), some (.int x8), none, none, none, none, none, none] [.int x22] M0 _
  refine z_xP zt118 8 23 [some (.ref a0), some (.ref a1), some (.int p2), some (.ref a2), some (.int x8), some (.int x22), none, none, none, none, none] [.ref a1, .ref a0] rfl rfl ?_
  refine zVdecide zt118 9 rfl zo118 zzcV4_54 X k0 w0 (Nat.le_of_ble_eq_true rfl) k1 (fun x26 M24 X25  => ?_)
  have X27 := X.go X25 (z_sb (by decide))
  show z_ev (d + 4) 118 26 [some (.ref a0), some (.ref a1), some (.int p2), some (.ref a2), some (.int x8), some (.int x22), none, none, none, none, none] [.int x26] M24 _
  refine z_xP zt118 10 28 [some (.ref a0), some (.ref a1), some (.int p2), some (.ref a2), some (.int x8), some (.int x22), none, none, none, none, none] [.int x22, .int x26] rfl rfl ?_
  refine z_xI zt118 11 rfl rfl (P := fun _ => True) (fun (x29 : Int32) _ => ?_) trivial
  refine z_xcS (vs := [.int x29]) (r := []) (L2 := [some (.int x29)]) zt118 12 rfl zo118 zzcS4_77 (Or.inl rfl) (Nat.le_of_ble_eq_true rfl) rfl rfl (Nat.le_of_ble_eq_true rfl) zzm31 (Nat.le_of_ble_eq_true rfl) rfl ?_
  refine zC31 X27.1 (fun x33 M31 X32 h34 h35 => ?_)
  have X36 := X27.go X32 (z_sb (by decide))
  show z_ev (d + 4) 118 32 [some (.ref a0), some (.ref a1), some (.int p2), some (.ref a2), some (.int x8), some (.int x22), none, none, none, none, none] [.int x33] M31 _
  refine z_xP zt118 13 41 [some (.ref a0), some (.ref a1), some (.int p2), some (.ref a2), some (.int x8), some (.int x22), some (.int x33), some (.int (-2)), some (.int 0), none, none] [] rfl rfl ?_
  have h38 := (X32.2.f k1 (by decide) (X25.2.f k1 (by decide) h5))
  have i39 := z_rfe h38 (X36.2.f k1 (by decide) (hbk _ _ _ _ _ k1).2.1)
  have h40 := h9
  rw [i39] at h40
  have qm2 : (((-2) : Int32)).toInt = (-2) := rfl
  have q0 : ((0 : Int32)).toInt = 0 := rfl
  exact (zOB118 w0 k0 k1 u2 hW0 hbk kk 2050) M31 a2 x8 x22 x33 ((-2)) (0) none none X36 k3 ⟨by omega, by omega⟩ (by decide) (by decide) (fun i hi => (z_tw1 ⟨congrFun (X32.2.a (hbk.k2 hW0 k1) (by decide)) i, congrFun (X32.2.a (hbk.k3 hW0 k1) (by decide)) i⟩ (z_tw1 ⟨congrFun (X25.2.a (hbk.k2 hW0 k1) (by decide)) i, congrFun (X25.2.a (hbk.k3 hW0 k1) (by decide)) i⟩ ⟨rfl, rfl⟩))) h40 (by omega)
theorem zOC116 {T : List zK} {d : Nat} {K : Option Value → zH → Prop} {p1 : Int32} {p2 : Int32} {p3 : Int32} {M0 : zH} (hW : z_W M0 T) (hW0 : z_W M0 T) (hbk : z_blk T M0) (hG : z_GG T M0) (kk : ∀ (x : Int32) (M1 : zH), z_X T zw116 M0 M1 → (-2) ≤ x.toInt → x.toInt ≤ 1023 → z_twP T M0 M1 p2 p3 → K (some (.int x)) M1) : z_ev (d + 5) 116 0 [some (.ref 4), some (.int p1), some (.int p2), some (.int p3), none, none] [] M0 K := by
  have X : z_X T zw116 M0 M0 := .refl hW
  refine z_xP zt116 0 2 [some (.ref 4), some (.int p1), some (.int p2), some (.int p3), none, none] [.int p1, .ref 4] rfl rfl ?_
  have f4 : T[4]? = some (.inl (0, 0, 0, 0, 0)) := X.1.k rfl (by decide)
  refine z_xcV (vs := [.ref 4, .int p1]) (r := []) (L2 := [some (.ref 4), some (.int p1)]) zt116 1 rfl zo116 zzcV0_221 (Or.inl rfl) rfl X f4 rfl rfl rfl (Nat.le_of_ble_eq_true rfl) zzm84 (Nat.le_of_ble_eq_true rfl) rfl ?_
  refine z_xP zt84 0 1 [some (.ref 4), some (.int p1)] [.int p1] rfl rfl ?_
  refine z_xZ zt84 1 rfl rfl (fun (h1 : p1.toInt < 0) => ?_) (fun (h1 : 0 ≤ p1.toInt) => ?_)
  · skip
    refine z_xP zt84 5 22 [some (.ref 4), some (.int p1)] [.null] rfl rfl ?_
    refine z_xrn zt84 10 rfl zzr84 ?_
    show z_ev (d + 5) 116 5 [some (.ref 4), some (.int p1), some (.int p2), some (.int p3), none, none] [.null] M0 _
    refine z_xP zt116 2 9 [some (.ref 4), some (.int p1), some (.int p2), some (.int p3), some (.null), none] [.int p2, .ref 4] rfl rfl ?_
    refine z_xcV (vs := [.ref 4, .int p2]) (r := []) (L2 := [some (.ref 4), some (.int p2)]) zt116 3 rfl zo116 zzcV0_85 (Or.inl rfl) rfl X f4 rfl rfl rfl (Nat.le_of_ble_eq_true rfl) zzm35 (Nat.le_of_ble_eq_true rfl) rfl ?_
    refine z_xP zt35 0 1 [some (.ref 4), some (.int p2)] [.int p2] rfl rfl ?_
    refine z_xZ zt35 1 rfl rfl (fun (h2 : p2.toInt < 0) => ?_) (fun (h2 : 0 ≤ p2.toInt) => ?_)
    · skip
      refine z_xP zt35 5 22 [some (.ref 4), some (.int p2)] [.null] rfl rfl ?_
      refine z_xrn zt35 10 rfl zzr35 ?_
      show z_ev (d + 5) 116 12 [some (.ref 4), some (.int p1), some (.int p2), some (.int p3), some (.null), none] [.null] M0 _
      refine z_xP zt116 4 42 [some (.ref 4), some (.int p1), some (.int p2), some (.int p3), some (.null), some (.null)] [] rfl rfl ?_
      refine z_xP zt116 12 43 [some (.ref 4), some (.int p1), some (.int p2), some (.int p3), some (.null), some (.null)] [.int (-1)] rfl rfl ?_
      have qm1 : (((-1) : Int32)).toInt = (-1) := rfl
      exact z_xri zt116 13 rfl zzr116 (kk (-1) M0 X (by omega) (by omega) (Or.inl z_ke.refl))
    refine z_xP zt35 2 6 [some (.ref 4), some (.int p2)] [.ref 4, .int p2] rfl rfl ?_
    refine z_xgI zt35 3 rfl zo35 zzf0_59 X f4 (by decide) (by decide) rfl (fun (x4 : Int32) h3 (h5 : 0 ≤ x4.toInt) (h6 : x4.toInt ≤ 8) => ?_)
    have h7 := z_b32 p2
    refine z_xJ zt35 4 rfl rfl (fun (h8 : p2.toInt < x4.toInt) => ?_) (fun (h8 : x4.toInt ≤ p2.toInt) => ?_)
    · skip
      refine z_xP zt35 6 17 [some (.ref 4), some (.int p2)] [.ref 4] rfl rfl ?_
      refine z_xgX (b := 10) zt35 7 rfl zo35 zzf0_18 X f4 (by decide) (by decide) rfl ?_
      refine z_xP zt35 8 21 [some (.ref 4), some (.int p2)] [.int p2, .ref 10] rfl rfl ?_
      have f10 : T[10]? = some (.inr (10, 2, 8, 9, 0)) := X.1.k rfl (by decide)
      refine z_xal zt35 9 rfl X f10 (by decide) (by decide) (by decide) (by omega) (by omega) (fun (a9 : Nat) h10 h11 => ?_) (fun h12 => absurd h12 (z_Gs (hG.go X (by decide)).2.1 h3 (by omega) (by omega)))
      obtain ⟨q13, t14, m15, k16⟩ : ∃ q t m, T[a9]? = some (.inl (3, q, t, m, 9)) := h11
      have g17 := X.1.p3 k16
      refine z_xra zt35 10 rfl zzr35 ?_
      show z_ev (d + 5) 116 12 [some (.ref 4), some (.int p1), some (.int p2), some (.int p3), some (.null), none] [.ref a9] M0 _
      refine z_xP zt116 4 42 [some (.ref 4), some (.int p1), some (.int p2), some (.int p3), some (.null), some (.ref a9)] [] rfl rfl ?_
      refine z_xP zt116 12 43 [some (.ref 4), some (.int p1), some (.int p2), some (.int p3), some (.null), some (.ref a9)] [.int (-1)] rfl rfl ?_
      have qm1 : (((-1) : Int32)).toInt = (-1) := rfl
      exact z_xri zt116 13 rfl zzr116 (kk (-1) M0 X (by omega) (by omega) (Or.inl z_ke.refl))
    refine z_xP zt35 5 22 [some (.ref 4), some (.int p2)] [.null] rfl rfl ?_
    refine z_xrn zt35 10 rfl zzr35 ?_
    show z_ev (d + 5) 116 12 [some (.ref 4), some (.int p1), some (.int p2), some (.int p3), some (.null), none] [.null] M0 _
    refine z_xP zt116 4 42 [some (.ref 4), some (.int p1), some (.int p2), some (.int p3), some (.null), some (.null)] [] rfl rfl ?_
    refine z_xP zt116 12 43 [some (.ref 4), some (.int p1), some (.int p2), some (.int p3), some (.null), some (.null)] [.int (-1)] rfl rfl ?_
    have qm1 : (((-1) : Int32)).toInt = (-1) := rfl
    exact z_xri zt116 13 rfl zzr116 (kk (-1) M0 X (by omega) (by omega) (Or.inl z_ke.refl))
  refine z_xP zt84 2 6 [some (.ref 4), some (.int p1)] [.ref 4, .int p1] rfl rfl ?_
  refine z_xgI zt84 3 rfl zo84 zzf0_188 X f4 (by decide) (by decide) rfl (fun (x19 : Int32) h18 (h20 : 0 ≤ x19.toInt) (h21 : x19.toInt ≤ 20) => ?_)
  have h22 := z_b32 p1
  refine z_xJ zt84 4 rfl rfl (fun (h23 : p1.toInt < x19.toInt) => ?_) (fun (h23 : x19.toInt ≤ p1.toInt) => ?_)
  · skip
    refine z_xP zt84 6 17 [some (.ref 4), some (.int p1)] [.ref 4] rfl rfl ?_
    refine z_xgX (b := 12) zt84 7 rfl zo84 zzf0_27 X f4 (by decide) (by decide) rfl ?_
    refine z_xP zt84 8 21 [some (.ref 4), some (.int p1)] [.int p1, .ref 12] rfl rfl ?_
    have f12 : T[12]? = some (.inr (12, 3, 20, 0, 0)) := X.1.k rfl (by decide)
    refine z_xal zt84 9 rfl X f12 (by decide) (by decide) (by decide) (by omega) (by omega) (fun (a24 : Nat) h25 h26 => ?_) (fun h27 => absurd h27 (z_Gb (hG.go X (by decide)).2.1 h18 (by omega) (by omega)))
    obtain ⟨c28, w29l, w29u, k30⟩ : ∃ ci, 4 ≤ ci ∧ ci ≤ 11 ∧ T[a24]? = some (.inl (ci, 0, 0, 0, 0)) := h26
    have w29 := And.intro w29l w29u
    refine z_xra zt84 10 rfl zzr84 ?_
    show z_ev (d + 5) 116 5 [some (.ref 4), some (.int p1), some (.int p2), some (.int p3), none, none] [.ref a24] M0 _
    refine z_xP zt116 2 9 [some (.ref 4), some (.int p1), some (.int p2), some (.int p3), some (.ref a24), none] [.int p2, .ref 4] rfl rfl ?_
    refine z_xcV (vs := [.ref 4, .int p2]) (r := []) (L2 := [some (.ref 4), some (.int p2)]) zt116 3 rfl zo116 zzcV0_85 (Or.inl rfl) rfl X f4 rfl rfl rfl (Nat.le_of_ble_eq_true rfl) zzm35 (Nat.le_of_ble_eq_true rfl) rfl ?_
    refine z_xP zt35 0 1 [some (.ref 4), some (.int p2)] [.int p2] rfl rfl ?_
    refine z_xZ zt35 1 rfl rfl (fun (h31 : p2.toInt < 0) => ?_) (fun (h31 : 0 ≤ p2.toInt) => ?_)
    · skip
      refine z_xP zt35 5 22 [some (.ref 4), some (.int p2)] [.null] rfl rfl ?_
      refine z_xrn zt35 10 rfl zzr35 ?_
      show z_ev (d + 5) 116 12 [some (.ref 4), some (.int p1), some (.int p2), some (.int p3), some (.ref a24), none] [.null] M0 _
      refine z_xP zt116 4 19 [some (.ref 4), some (.int p1), some (.int p2), some (.int p3), some (.ref a24), some (.null)] [] rfl rfl ?_
      refine z_xP zt116 5 42 [some (.ref 4), some (.int p1), some (.int p2), some (.int p3), some (.ref a24), some (.null)] [] rfl rfl ?_
      refine z_xP zt116 12 43 [some (.ref 4), some (.int p1), some (.int p2), some (.int p3), some (.ref a24), some (.null)] [.int (-1)] rfl rfl ?_
      have qm1 : (((-1) : Int32)).toInt = (-1) := rfl
      exact z_xri zt116 13 rfl zzr116 (kk (-1) M0 X (by omega) (by omega) (Or.inl z_ke.refl))
    refine z_xP zt35 2 6 [some (.ref 4), some (.int p2)] [.ref 4, .int p2] rfl rfl ?_
    refine z_xgI zt35 3 rfl zo35 zzf0_59 X f4 (by decide) (by decide) rfl (fun (x33 : Int32) h32 (h34 : 0 ≤ x33.toInt) (h35 : x33.toInt ≤ 8) => ?_)
    have h36 := z_b32 p2
    refine z_xJ zt35 4 rfl rfl (fun (h37 : p2.toInt < x33.toInt) => ?_) (fun (h37 : x33.toInt ≤ p2.toInt) => ?_)
    · skip
      refine z_xP zt35 6 17 [some (.ref 4), some (.int p2)] [.ref 4] rfl rfl ?_
      refine z_xgX (b := 10) zt35 7 rfl zo35 zzf0_18 X f4 (by decide) (by decide) rfl ?_
      refine z_xP zt35 8 21 [some (.ref 4), some (.int p2)] [.int p2, .ref 10] rfl rfl ?_
      have f10 : T[10]? = some (.inr (10, 2, 8, 9, 0)) := X.1.k rfl (by decide)
      refine z_xal zt35 9 rfl X f10 (by decide) (by decide) (by decide) (by omega) (by omega) (fun (a38 : Nat) h39 h40 => ?_) (fun h41 => absurd h41 (z_Gs (hG.go X (by decide)).2.1 h32 (by omega) (by omega)))
      obtain ⟨q42, t43, m44, k45⟩ : ∃ q t m, T[a38]? = some (.inl (3, q, t, m, 9)) := h40
      have g46 := X.1.p3 k45
      refine z_xra zt35 10 rfl zzr35 ?_
      show z_ev (d + 5) 116 12 [some (.ref 4), some (.int p1), some (.int p2), some (.int p3), some (.ref a24), none] [.ref a38] M0 _
      refine z_xP zt116 4 19 [some (.ref 4), some (.int p1), some (.int p2), some (.int p3), some (.ref a24), some (.ref a38)] [] rfl rfl ?_
      refine z_xP zt116 5 24 [some (.ref 4), some (.int p1), some (.int p2), some (.int p3), some (.ref a24), some (.ref a38)] [] rfl rfl ?_
      refine z_xP zt116 6 27 [some (.ref 4), some (.int p1), some (.int p2), some (.int p3), some (.ref a24), some (.ref a38)] [.int p3, .ref a38] rfl rfl ?_
      refine z_xcV (vs := [.ref a38, .int p3]) (r := []) (L2 := [some (.ref a38), some (.int p3)]) zt116 7 rfl zo116 zzcV0_142 (Or.inl rfl) rfl X k45 rfl rfl rfl (Nat.le_of_ble_eq_true rfl) zzm56 (Nat.le_of_ble_eq_true rfl) rfl ?_
      refine z_xP zt56 0 1 [some (.ref a38), some (.int p3)] [.int p3] rfl rfl ?_
      refine z_xZ zt56 1 rfl rfl (fun (h47 : p3.toInt < 0) => ?_) (fun (h47 : 0 ≤ p3.toInt) => ?_)
      · skip
        refine z_xP zt56 6 17 [some (.ref a38), some (.int p3)] [.int 0] rfl rfl ?_
        refine z_xrz zt56 7 rfl zzr56 (by decide) (by decide) ?_
        show z_ev (d + 5) 116 30 [some (.ref 4), some (.int p1), some (.int p2), some (.int p3), some (.ref a24), some (.ref a38)] [.int 0] M0 _
        refine z_xZ zt116 8 rfl rfl (fun (h48 : (0 : Int) = 0) => ?_) (fun (h48 : (0 : Int) ≠ 0) => absurd h48 (by omega))
        refine z_xP zt116 12 43 [some (.ref 4), some (.int p1), some (.int p2), some (.int p3), some (.ref a24), some (.ref a38)] [.int (-1)] rfl rfl ?_
        have qm1 : (((-1) : Int32)).toInt = (-1) := rfl
        exact z_xri zt116 13 rfl zzr116 (kk (-1) M0 X (by omega) (by omega) (Or.inl z_ke.refl))
      refine z_xP zt56 2 6 [some (.ref a38), some (.int p3)] [.ref a38, .int p3] rfl rfl ?_
      refine z_xgI zt56 3 rfl zo56 zzf3_53 X k45 (by decide) (by decide) rfl (fun (x50 : Int32) h49 (h51 : 0 ≤ x50.toInt) (h52 : x50.toInt ≤ (9 : Int)) => ?_)
      have h53 := z_b32 p3
      refine z_xJ zt56 4 rfl rfl (fun (h54 : x50.toInt ≤ p3.toInt) => ?_) (fun (h54 : p3.toInt < x50.toInt) => ?_)
      · skip
        refine z_xP zt56 6 17 [some (.ref a38), some (.int p3)] [.int 0] rfl rfl ?_
        refine z_xrz zt56 7 rfl zzr56 (by decide) (by decide) ?_
        show z_ev (d + 5) 116 30 [some (.ref 4), some (.int p1), some (.int p2), some (.int p3), some (.ref a24), some (.ref a38)] [.int 0] M0 _
        refine z_xZ zt116 8 rfl rfl (fun (h55 : (0 : Int) = 0) => ?_) (fun (h55 : (0 : Int) ≠ 0) => absurd h55 (by omega))
        refine z_xP zt116 12 43 [some (.ref 4), some (.int p1), some (.int p2), some (.int p3), some (.ref a24), some (.ref a38)] [.int (-1)] rfl rfl ?_
        have qm1 : (((-1) : Int32)).toInt = (-1) := rfl
        exact z_xri zt116 13 rfl zzr116 (kk (-1) M0 X (by omega) (by omega) (Or.inl z_ke.refl))
      refine z_xP zt56 5 17 [some (.ref a38), some (.int p3)] [.int 1] rfl rfl ?_
      refine z_xrz zt56 7 rfl zzr56 (by decide) (by decide) ?_
      show z_ev (d + 5) 116 30 [some (.ref 4), some (.int p1), some (.int p2), some (.int p3), some (.ref a24), some (.ref a38)] [.int 1] M0 _
      refine z_xZ zt116 8 rfl rfl (fun (h56 : (1 : Int) = 0) => absurd h56 (by omega)) (fun (h56 : (1 : Int) ≠ 0) => ?_)
      refine z_xP zt116 9 36 [some (.ref 4), some (.int p1), some (.int p2), some (.int p3), some (.ref a24), some (.ref a38)] [.int p3, .ref a38] rfl rfl ?_
      refine z_xcV (vs := [.ref a38, .int p3]) (r := []) (L2 := [some (.ref a38), some (.int p3)]) zt116 10 rfl zo116 zzcV0_260 (Or.inl rfl) rfl X k45 rfl rfl rfl (Nat.le_of_ble_eq_true rfl) zzm117 (Nat.le_of_ble_eq_true rfl) rfl ?_
      refine z_xP zt117 0 1 [some (.ref a38), some (.int p3)] [.ref a38] rfl rfl ?_
      refine z_xgR (κ := .inr (202, 0, 9, (-2147483648), 2147483647)) zt117 1 rfl zo117 zzf3_15 X k45 (by decide) (by decide) rfl (fun (a58 : Nat) h57 k59 => ?_)
      refine z_xP zt117 2 5 [some (.ref a38), some (.int p3)] [.int p3, .ref a58] rfl rfl ?_
      refine z_xil zt117 3 rfl X k59 (by decide) (by omega) (by omega) (fun (x60 : Int32) h61 (h62 : (-2147483648) ≤ x60.toInt) (h63 : x60.toInt ≤ 2147483647) => ?_)
      refine z_xP zt117 4 7 [some (.ref a38), some (.int p3)] [.ref a38, .int x60] rfl rfl ?_
      refine z_xgR (κ := .inr (203, 0, 9, (-2147483648), 2147483647)) zt117 5 rfl zo117 zzf3_18 X k45 (by decide) (by decide) rfl (fun (a65 : Nat) h64 k66 => ?_)
      refine z_xP zt117 6 11 [some (.ref a38), some (.int p3)] [.int p3, .ref a65, .int x60] rfl rfl ?_
      refine z_xil zt117 7 rfl X k66 (by decide) (by omega) (by omega) (fun (x67 : Int32) h68 (h69 : (-2147483648) ≤ x67.toInt) (h70 : x67.toInt ≤ 2147483647) => ?_)
      refine z_xI zt117 8 rfl rfl (fun (x71 : Int32) (h72 : x71 = x60 ||| x67) => ?_) (rfl)
      refine z_xP zt117 9 14 [some (.ref a38), some (.int p3)] [.ref a38, .int x71] rfl rfl ?_
      refine z_xgR (κ := .inl (2, q42, t43, m44, 0)) zt117 10 rfl zo117 zzf3_39 X k45 (by decide) (by decide) rfl (fun (a74 : Nat) h73 k75 => ?_)
      have g76 := X.1.p2 k75
      refine z_xgI zt117 11 rfl zo117 zzf3_56 X k75 (by decide) (by decide) rfl (fun (x78 : Int32) h77 (h79 : ((z_po q42 : Nat) : Int) - 1 ≤ x78.toInt) (h80 : x78.toInt ≤ ((z_po q42 : Nat) : Int) - 1) => ?_)
      have h81 := z_b32 x71
      refine z_xJ zt117 12 rfl rfl (fun (h82 : x71.toInt = x78.toInt) => ?_) (fun (h82 : x71.toInt ≠ x78.toInt) => ?_)
      · skip
        refine z_xP zt117 14 28 [some (.ref a38), some (.int p3)] [.int 0] rfl rfl ?_
        refine z_xrz zt117 15 rfl zzr117 (by decide) (by decide) ?_
        show z_ev (d + 5) 116 39 [some (.ref 4), some (.int p1), some (.int p2), some (.int p3), some (.ref a24), some (.ref a38)] [.int 0] M0 _
        refine z_xZ zt116 11 rfl rfl (fun (h83 : (0 : Int) = 0) => ?_) (fun (h83 : (0 : Int) ≠ 0) => absurd h83 (by omega))
        refine z_xP zt116 14 49 [some (.ref 4), some (.int p1), some (.int p2), some (.int p3), some (.ref a24), some (.ref a38)] [.int p3, .ref a38, .ref a24] rfl rfl ?_
        refine z_xcV (vs := [.ref a24, .ref a38, .int p3]) (r := []) (L2 := [some (.ref a24), some (.ref a38), some (.int p3), none, none, none, none, none, none, none, none]) zt116 15 rfl zo116 zzcV0_263 (Or.inr rfl) rfl X k30 (z_w8 (fun c => (([(4, 118), (10, 118), (7, 118), (5, 118), (11, 118), (8, 118), (6, 118), (9, 118)] : List (Nat × Nat)).find? fun t => t.1 == c) = some (c, 118)) rfl rfl rfl rfl rfl rfl rfl rfl w29) rfl rfl (Nat.le_of_ble_eq_true rfl) zzm118 (Nat.le_of_ble_eq_true rfl) rfl ?_
        have i90 := z_rfe h57 (X.2.f k45 (by decide) (hbk _ _ _ _ _ k45).2.1)
        have h91 := h61
        rw [i90] at h91
        have i92 := z_rfe h64 (X.2.f k45 (by decide) (hbk _ _ _ _ _ k45).2.2.1)
        have h93 := h68
        rw [i92] at h93
        refine z_ev.told (fun w => w = a38) (hbk.ke X.2 (by decide)) X.1 (z_qLc (z_rvr (z_pb.way w29 k30)) (z_qLc (z_rvr (z_pb.ben k45 rfl)) (z_qLc z_rvi (z_qLn (z_qLn (z_qLn (z_qLn (z_qLn (z_qLn (z_qLn (z_qLn z_qL0))))))))))) z_qS0 ?_
        refine zOC118 X.1 w29 k30 k45 (by omega) X.1 (hbk.ke X.2 (by decide)) (fun x87 M84 X85 h88 h89 h86 => ?_)
        intro ho94
        have X95 := X.go X85 (z_sb (by decide))
        show z_ev (d + 5) 116 52 [some (.ref 4), some (.int p1), some (.int p2), some (.int p3), some (.ref a24), some (.ref a38)] [.int x87] M84 _
        have h97 := (X85.2.f f4 (by decide) h32)
        exact z_xri zt116 16 rfl zzr116 (kk x87 M84 X95 (by omega) (by omega) (Or.inr ⟨_, a38, _, _, _, h32, by omega, by omega, h39, k45, ho94, h86, _, h49, by omega, by omega, x78, by unfold z_po at *; omega, by rw [h91, h93, ← h72]; omega⟩))
      refine z_xP zt117 13 28 [some (.ref a38), some (.int p3)] [.int 1] rfl rfl ?_
      refine z_xrz zt117 15 rfl zzr117 (by decide) (by decide) ?_
      show z_ev (d + 5) 116 39 [some (.ref 4), some (.int p1), some (.int p2), some (.int p3), some (.ref a24), some (.ref a38)] [.int 1] M0 _
      refine z_xZ zt116 11 rfl rfl (fun (h102 : (1 : Int) = 0) => absurd h102 (by omega)) (fun (h102 : (1 : Int) ≠ 0) => ?_)
      refine z_xP zt116 12 43 [some (.ref 4), some (.int p1), some (.int p2), some (.int p3), some (.ref a24), some (.ref a38)] [.int (-1)] rfl rfl ?_
      have qm1 : (((-1) : Int32)).toInt = (-1) := rfl
      exact z_xri zt116 13 rfl zzr116 (kk (-1) M0 X (by omega) (by omega) (Or.inl z_ke.refl))
    refine z_xP zt35 5 22 [some (.ref 4), some (.int p2)] [.null] rfl rfl ?_
    refine z_xrn zt35 10 rfl zzr35 ?_
    show z_ev (d + 5) 116 12 [some (.ref 4), some (.int p1), some (.int p2), some (.int p3), some (.ref a24), none] [.null] M0 _
    refine z_xP zt116 4 19 [some (.ref 4), some (.int p1), some (.int p2), some (.int p3), some (.ref a24), some (.null)] [] rfl rfl ?_
    refine z_xP zt116 5 42 [some (.ref 4), some (.int p1), some (.int p2), some (.int p3), some (.ref a24), some (.null)] [] rfl rfl ?_
    refine z_xP zt116 12 43 [some (.ref 4), some (.int p1), some (.int p2), some (.int p3), some (.ref a24), some (.null)] [.int (-1)] rfl rfl ?_
    have qm1 : (((-1) : Int32)).toInt = (-1) := rfl
    exact z_xri zt116 13 rfl zzr116 (kk (-1) M0 X (by omega) (by omega) (Or.inl z_ke.refl))
  refine z_xP zt84 5 22 [some (.ref 4), some (.int p1)] [.null] rfl rfl ?_
  refine z_xrn zt84 10 rfl zzr84 ?_
  show z_ev (d + 5) 116 5 [some (.ref 4), some (.int p1), some (.int p2), some (.int p3), none, none] [.null] M0 _
  refine z_xP zt116 2 9 [some (.ref 4), some (.int p1), some (.int p2), some (.int p3), some (.null), none] [.int p2, .ref 4] rfl rfl ?_
  refine z_xcV (vs := [.ref 4, .int p2]) (r := []) (L2 := [some (.ref 4), some (.int p2)]) zt116 3 rfl zo116 zzcV0_85 (Or.inl rfl) rfl X f4 rfl rfl rfl (Nat.le_of_ble_eq_true rfl) zzm35 (Nat.le_of_ble_eq_true rfl) rfl ?_
  refine z_xP zt35 0 1 [some (.ref 4), some (.int p2)] [.int p2] rfl rfl ?_
  refine z_xZ zt35 1 rfl rfl (fun (h103 : p2.toInt < 0) => ?_) (fun (h103 : 0 ≤ p2.toInt) => ?_)
  · skip
    refine z_xP zt35 5 22 [some (.ref 4), some (.int p2)] [.null] rfl rfl ?_
    refine z_xrn zt35 10 rfl zzr35 ?_
    show z_ev (d + 5) 116 12 [some (.ref 4), some (.int p1), some (.int p2), some (.int p3), some (.null), none] [.null] M0 _
    refine z_xP zt116 4 42 [some (.ref 4), some (.int p1), some (.int p2), some (.int p3), some (.null), some (.null)] [] rfl rfl ?_
    refine z_xP zt116 12 43 [some (.ref 4), some (.int p1), some (.int p2), some (.int p3), some (.null), some (.null)] [.int (-1)] rfl rfl ?_
    have qm1 : (((-1) : Int32)).toInt = (-1) := rfl
    exact z_xri zt116 13 rfl zzr116 (kk (-1) M0 X (by omega) (by omega) (Or.inl z_ke.refl))
  refine z_xP zt35 2 6 [some (.ref 4), some (.int p2)] [.ref 4, .int p2] rfl rfl ?_
  refine z_xgI zt35 3 rfl zo35 zzf0_59 X f4 (by decide) (by decide) rfl (fun (x105 : Int32) h104 (h106 : 0 ≤ x105.toInt) (h107 : x105.toInt ≤ 8) => ?_)
  have h108 := z_b32 p2
  refine z_xJ zt35 4 rfl rfl (fun (h109 : p2.toInt < x105.toInt) => ?_) (fun (h109 : x105.toInt ≤ p2.toInt) => ?_)
  · skip
    refine z_xP zt35 6 17 [some (.ref 4), some (.int p2)] [.ref 4] rfl rfl ?_
    refine z_xgX (b := 10) zt35 7 rfl zo35 zzf0_18 X f4 (by decide) (by decide) rfl ?_
    refine z_xP zt35 8 21 [some (.ref 4), some (.int p2)] [.int p2, .ref 10] rfl rfl ?_
    have f10 : T[10]? = some (.inr (10, 2, 8, 9, 0)) := X.1.k rfl (by decide)
    refine z_xal zt35 9 rfl X f10 (by decide) (by decide) (by decide) (by omega) (by omega) (fun (a110 : Nat) h111 h112 => ?_) (fun h113 => absurd h113 (z_Gs (hG.go X (by decide)).2.1 h104 (by omega) (by omega)))
    obtain ⟨q114, t115, m116, k117⟩ : ∃ q t m, T[a110]? = some (.inl (3, q, t, m, 9)) := h112
    have g118 := X.1.p3 k117
    refine z_xra zt35 10 rfl zzr35 ?_
    show z_ev (d + 5) 116 12 [some (.ref 4), some (.int p1), some (.int p2), some (.int p3), some (.null), none] [.ref a110] M0 _
    refine z_xP zt116 4 42 [some (.ref 4), some (.int p1), some (.int p2), some (.int p3), some (.null), some (.ref a110)] [] rfl rfl ?_
    refine z_xP zt116 12 43 [some (.ref 4), some (.int p1), some (.int p2), some (.int p3), some (.null), some (.ref a110)] [.int (-1)] rfl rfl ?_
    have qm1 : (((-1) : Int32)).toInt = (-1) := rfl
    exact z_xri zt116 13 rfl zzr116 (kk (-1) M0 X (by omega) (by omega) (Or.inl z_ke.refl))
  refine z_xP zt35 5 22 [some (.ref 4), some (.int p2)] [.null] rfl rfl ?_
  refine z_xrn zt35 10 rfl zzr35 ?_
  show z_ev (d + 5) 116 12 [some (.ref 4), some (.int p1), some (.int p2), some (.int p3), some (.null), none] [.null] M0 _
  refine z_xP zt116 4 42 [some (.ref 4), some (.int p1), some (.int p2), some (.int p3), some (.null), some (.null)] [] rfl rfl ?_
  refine z_xP zt116 12 43 [some (.ref 4), some (.int p1), some (.int p2), some (.int p3), some (.null), some (.null)] [.int (-1)] rfl rfl ?_
  have qm1 : (((-1) : Int32)).toInt = (-1) := rfl
  exact z_xri zt116 13 rfl zzr116 (kk (-1) M0 X (by omega) (by omega) (Or.inl z_ke.refl))
theorem zJ23 : z_P23 z_J := by
  intro x1 x2 x3 M ⟨T, hA, hR⟩
  have hW := hA.1.1
  have k4 : T[4]? = some (.inl (0, 0, 0, 0, 0)) := hW.k rfl (by decide)
  refine z_twoG (C := fun _ _ => True) ?_
  rw [zzm116]
  show z_ev 2046 116 0 [some (.ref 4), some (.int x1), some (.int x2), some (.int x3), none, none] [] M _
  refine zOC116 hW hW hR.2.2.1 hA.1 fun y M1 X1 _ _ h1 => ?_
  have hB := z_kee hA X1 (by decide)
  refine ⟨⟨y, rfl⟩, Or.inl ⟨X1.1.1.trans hW.1.symm, z_kep X1 (by decide)⟩, ?_⟩
  rw [zzm260]
  show z_ev 2046 260 0 [some (.ref 19), some (.int x1), some (.int x2), some (.int x3)] [] M1 _
  refine zC260 hB.1.1  fun z M2 X2 _ _ => ?_
  have key : z_R7 T M2 := by
    rcases h1 with k1 | ⟨A, b, q, t, m, hAe, p0, p1, ob, kb, ho, ⟨w1, w2, A1, w3, w4⟩, jv, ej, j0, j1, A2, w5, w6⟩
    · exact (hR.2.2.ke hW (fun _ _ h => h) (hR.2.2.1.ke k1 rfl) k1 rfl).ke X1.1 (fun _ _ h => h) ((hR.2.2.1.ke k1 rfl).ke X2.2 rfl) X2.2 rfl
    · have A8 : A.toInt ≤ 8 := by
        obtain ⟨A', hA', _, a8⟩ := hW.fi k4 (k := 3) (lo := 0) (hi := 8) (by decide) rfl
        rw [z_ive hAe hA']
        exact a8
      have hp : 0 ≤ x2.toInt ∧ x2.toInt < A.toInt := ⟨p0, p1⟩
      obtain ⟨b2, q2, t2, m2, g1, g2, J, w, yy, n, g3, g4, g5, g6⟩ := (hR.2.2.2 A hAe).1 x2.toNatClampNeg (z_pc hp)
      obtain rfl : b = b2 := Option.some.inj (ob.symm.trans g1)
      rw [kb] at g2
      cases g2
      have gJ : jv.toInt = (J : Int) := by
        obtain ⟨⟨xj, f1, f2⟩, _⟩ := g4
        rw [← z_ive f1 ej]
        exact f2
      have hjJ : x3.toNatClampNeg < J := by
        show x3.toInt.toNat < J
        omega
      obtain ⟨c1, c2, c3⟩ := g4.2 x3.toNatClampNeg hjJ
      have hj := (g6 x3.toNatClampNeg hjJ).1.2.2
      have e2 : z_Ar M1 (b + 2) = z_Ar M (b + 2) := by
        funext i
        by_cases c : i = x3.toNatClampNeg
        · rw [c]
          exact w2
        · exact (w1 i c).1
      have e3 : z_Ar M1 (b + 3) = z_Ar M (b + 3) := by
        funext i
        by_cases c : i = x3.toNatClampNeg
        · rw [c, w4]
          exact z_silent (by rw [w6, w5, w3]) (by rw [c2, c3]; exact hj)
        · exact (w1 i c).2
      have e1 : z_Ar M1 (b + 1) = z_Ar M (b + 1) := X1.2.a (hR.2.2.1.k1 hW kb) (by decide)
      have e4 : z_F M1 b 4 = z_F M b 4 := X1.2.1 b 3 q t m 9 4 kb (by decide)
      refine hR.2.2.one hW hAe (z_pc hp) A8 ob kb X1.2 rfl rfl ho X1.1 X2.2 rfl rfl (fun a2 _ _ => ?_) ⟨J, w, yy, n, g3, ⟨by rw [e4]; exact g4.1, by rw [e1, e2, e3]; exact g4.2⟩, (g5.ke hW X1.2 rfl).ke hW X2.2 rfl, g6⟩
      have h32 : z_Ar M2 32 = z_Ar M1 32 := X2.2.a (hW.k (k := 32) (κ := z_af 32 72) rfl (by decide)) (by decide)
      have h33 : z_Ar M2 33 = z_Ar M1 33 := X2.2.a (hW.k (k := 33) (κ := z_af 33 72) rfl (by decide)) (by decide)
      have h34 : z_Ar M2 34 = z_Ar M1 34 := X2.2.a (hW.k (k := 34) (κ := z_af 34 72) rfl (by decide)) (by decide)
      have h35 : z_Ar M2 35 = z_Ar M1 35 := X2.2.a (hW.k (k := 35) (κ := z_ai 35 8 0 9) rfl (by decide)) (by decide)
      exact ⟨by rw [h35], fun j _ => ⟨by rw [h32], by rw [h33], by rw [h34]⟩⟩
  exact ⟨⟨z, rfl⟩, trivial, ⟨T, z_kee hB X2 (by decide), hR.two7 hW X1 X2 rfl rfl key⟩, X2.1.1.trans X1.1.1.symm, z_kep X2 (by decide)⟩
