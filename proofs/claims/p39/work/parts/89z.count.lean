/-! count -/
def z_jsu (f : Nat → Int32) : Nat → Int32
  | 0 => 0
  | n + 1 => z_jsu f n + f n
def z_bj (M : zH) (i : Nat) : Int32 := match z_O M 10 i with
  | some b => z_Fv M b 4
  | none => 0
theorem z_bjE {M : zH} {i b : Nat} {x : Int32} (h : z_O M 10 i = some b) (h2 : z_F M b 4 = some (.int x)) : z_bj M i = x := by
  unfold z_bj
  rw [h]
  exact z_Fv.of h2
theorem z_su0 {f : Nat → Int32} {i : Int32} (h : i.toInt = 0) : (0 : Int32) = z_jsu f i.toInt.toNat := by
  rw [h]
  rfl
theorem z_suS {f : Nat → Int32} {b i i2 x ad : Int32} (h : b = z_jsu f i.toInt.toNat) (h0 : 0 ≤ i.toInt) (hi : i2.toInt = i.toInt + 1) (ex : f i.toNatClampNeg = x) (h4 : ad = b + x) : ad = z_jsu f i2.toInt.toNat := by
  have e : i2.toInt.toNat = i.toInt.toNat + 1 := by omega
  rw [e, h4, h, ← ex]
  rfl
theorem z_suC {f g : Nat → Int32} {m : Nat} (h : ∀ j, j < m → f j = g j) : z_jsu f m = z_jsu g m := by
  induction m with
  | zero => rfl
  | succ m ih =>
    show z_jsu f m + _ = z_jsu g m + _
    rw [ih fun j hj => h j (by omega), h m (by omega)]
theorem z_r00 {M : zH} {a : Nat} {x y : Int32} (h : z_Ar M a x.toNatClampNeg = y) (h0 : x.toInt = 0) : y = z_Ar M a 0 := by
  rw [← h]
  show z_Ar M a x.toInt.toNat = _
  rw [h0]
  rfl
def z_qct (ag wy tp : Option Value) (js rn p x : Int32) : Prop := (p.toInt = 0 ∧ ag = some (.int x)) ∨ (p.toInt = 1 ∧ wy = some (.int x)) ∨ (p.toInt = 2 ∧ tp = some (.int x)) ∨ (p.toInt = 3 ∧ x = js) ∨ (p.toInt = 4 ∧ x = rn) ∨ (x.toInt = -1 ∧ (p.toInt < 0 ∨ 4 < p.toInt))
theorem z_cnts {a1 a2 w1 w2 t1 t2 : Option Value} {j1 j2 r1 r2 p x y : Int32} (h1 : z_qct a1 w1 t1 j1 r1 p x) (h2 : z_qct a2 w2 t2 j2 r2 p y) (ha : a1 = a2) (hw : w1 = w2) (ht : t1 = t2) (hj : j1 = j2) (hr : r1 = r2) : x = y := by
  subst ha hw ht hj hr
  rcases h1 with ⟨c, e⟩ | ⟨c, e⟩ | ⟨c, e⟩ | ⟨c, e⟩ | ⟨c, e⟩ | ⟨e, c⟩ <;> rcases h2 with ⟨d, g⟩ | ⟨d, g⟩ | ⟨d, g⟩ | ⟨d, g⟩ | ⟨d, g⟩ | ⟨g, d⟩ <;> first | exact z_ive e g | exact e.trans g.symm | exact Int32.toInt_inj.mp (e.trans g.symm) | (exfalso; omega)
theorem zUB186 {T : List zK} {d : Nat} {K : Option Value → zH → Prop} {A : Int32} {M0 : zH} (hA : z_F M0 4 3 = some (.int A)) (hA0 : 0 ≤ A.toInt ∧ A.toInt ≤ 8) (hG : z_GG T M0) (kk : ∀ (x : Int32) (M1 : zH), z_X T zw186 M0 M1 → x = z_jsu (z_bj M0) A.toInt.toNat → K (some (.int x)) M1) : ∀ n : Nat, (∀ (M : zH) (b1 : Int32) (b2 : Int32), z_X T zw186 M0 M → 0 ≤ b2.toInt ∧ b2.toInt ≤ 8 → b1 = z_jsu (z_bj M0) b2.toInt.toNat → b2.toInt ≤ A.toInt → ((0) * 2 + 0) * 9 + (8 - b2.toInt) < (n : Int) → z_ev d 186 4 [some (.ref 4), some (.int b1), some (.int b2)] [] M K) := by
  intro n
  induction n with
  | zero => exact by intros; exfalso; omega
  | succ n ih =>
    intro M b1 b2 X hh0 hI hJ hE
    refine z_xP zt186 1 6 [some (.ref 4), some (.int b1), some (.int b2)] [.ref 4, .int b2] rfl rfl ?_
    have f4 : T[4]? = some (.inl (0, 0, 0, 0, 0)) := X.1.k rfl (by decide)
    refine z_xgI zt186 2 rfl zo186 zzf0_59 X f4 (by decide) (by decide) rfl (fun (x2 : Int32) h1 (h3 : 0 ≤ x2.toInt) (h4 : x2.toInt ≤ 8) => ?_)
    refine z_xJ zt186 3 rfl rfl (fun (h5 : x2.toInt ≤ b2.toInt) => ?_) (fun (h5 : b2.toInt < x2.toInt) => ?_)
    · skip
      refine z_xP zt186 13 31 [some (.ref 4), some (.int b1), some (.int b2)] [.int b1] rfl rfl ?_
      have ea6 := congrArg Int32.toInt (z_ive h1 (X.2.f f4 (by decide) hA))
      have i7 : b2.toInt.toNat = A.toInt.toNat := by omega
      exact z_xri zt186 14 rfl zzr186 (kk b1 M X (by rw [← i7]; exact hI))
    refine z_xP zt186 4 14 [some (.ref 4), some (.int b1), some (.int b2)] [.ref 4, .int b1] rfl rfl ?_
    refine z_xgX (b := 10) zt186 5 rfl zo186 zzf0_18 X f4 (by decide) (by decide) rfl ?_
    refine z_xP zt186 6 18 [some (.ref 4), some (.int b1), some (.int b2)] [.int b2, .ref 10, .int b1] rfl rfl ?_
    have f10 : T[10]? = some (.inr (10, 2, 8, 9, 0)) := X.1.k rfl (by decide)
    refine z_xal zt186 7 rfl X f10 (by decide) (by decide) (by decide) (by omega) (by omega) (fun (a8 : Nat) h9 h10 => ?_) (fun h11 => absurd h11 (z_Gs (hG.go X (by decide)).2.1 h1 (by omega) (by omega)))
    obtain ⟨q12, t13, m14, k15⟩ : ∃ q t m, T[a8]? = some (.inl (3, q, t, m, 9)) := h10
    have g16 := X.1.p3 k15
    refine z_xgI zt186 8 rfl zo186 zzf0_105 X k15 (by decide) (by decide) rfl (fun (x18 : Int32) h17 (h19 : 0 ≤ x18.toInt) (h20 : x18.toInt ≤ (9 : Int)) => ?_)
    have h21 := z_b32 b1
    refine z_xI zt186 9 rfl rfl (fun (x22 : Int32) (h23 : x22 = b1 + x18) => ?_) (rfl)
    refine z_xP zt186 10 24 [some (.ref 4), some (.int x22), some (.int b2)] [] rfl rfl ?_
    refine z_xN zt186 11 rfl rfl (fun (x24 : Int32) (h25 : x24.toInt = b2.toInt + 1) => ?_) (z_pAdd rfl rfl (by omega) (by omega))
    show z_ev d 186 27 [some (.ref 4), some (.int x22), some (.int x24)] [] M _
    refine z_xP zt186 12 4 [some (.ref 4), some (.int x22), some (.int x24)] [] rfl rfl ?_
    have ea26 := congrArg Int32.toInt (z_ive h1 (X.2.f f4 (by decide) hA))
    exact ih M x22 x24 X ⟨by omega, by omega⟩ (z_suS hI (by omega) (by omega) (z_bjE ((congrFun (X.2.o f10 (by decide)) _).symm.trans h9) ((X.2.1 a8 3 _ _ _ 9 4 k15 (by decide)).symm.trans h17)) h23) (by omega) (by omega)
theorem zUC186 {T : List zK} {d : Nat} {K : Option Value → zH → Prop} {A : Int32} {M0 : zH} (hW : z_W M0 T) (hA : z_F M0 4 3 = some (.int A)) (hA0 : 0 ≤ A.toInt ∧ A.toInt ≤ 8) (hG : z_GG T M0) (kk : ∀ (x : Int32) (M1 : zH), z_X T zw186 M0 M1 → x = z_jsu (z_bj M0) A.toInt.toNat → K (some (.int x)) M1) : z_ev d 186 0 [some (.ref 4), none, none] [] M0 K := by
  have X : z_X T zw186 M0 M0 := .refl hW
  refine z_xP zt186 0 4 [some (.ref 4), some (.int 0), some (.int 0)] [] rfl rfl ?_
  have q0 : ((0 : Int32)).toInt = 0 := rfl
  exact (zUB186 hA hA0 hG kk 18) M0 (0) (0) X (by decide) (z_su0 rfl) (by omega) (by omega)
theorem zUC185 {T : List zK} {d : Nat} {K : Option Value → zH → Prop} {p1 : Int32} {M0 : zH} (hW : z_W M0 T)  (hG : z_GG T M0) (kk : ∀ (x : Int32) (M1 : zH), z_X T zw185 M0 M1 → z_qct (z_F M0 4 3) (z_F M0 4 5) (z_F M0 5 1) (z_jsu (z_bj M0) (z_Fv M0 4 3).toInt.toNat) (z_Ar M0 13 0) p1 x → K (some (.int x)) M1) : z_ev (d + 1) 185 0 [some (.ref 4), some (.int p1)] [] M0 K := by
  have X : z_X T zw185 M0 M0 := .refl hW
  refine z_xP zt185 0 1 [some (.ref 4), some (.int p1)] [.int p1] rfl rfl ?_
  by_cases h1 : p1.toInt = 0
  · refine z_xSC zt185 1 (z_sub (k := 0) h1 rfl) 36 rfl rfl ?_
    refine z_xP zt185 2 37 [some (.ref 4), some (.int p1)] [.ref 4] rfl rfl ?_
    have f4 : T[4]? = some (.inl (0, 0, 0, 0, 0)) := X.1.k rfl (by decide)
    refine z_xgI zt185 3 rfl zo185 zzf0_59 X f4 (by decide) (by decide) rfl (fun (x3 : Int32) h2 (h4 : 0 ≤ x3.toInt) (h5 : x3.toInt ≤ 8) => ?_)
    exact z_xri zt185 4 rfl zzr185 (kk x3 M0 X (Or.inl ⟨by omega, h2⟩))
  by_cases h6 : p1.toInt = 1
  · refine z_xSC zt185 1 (z_sub (k := 1) h6 rfl) 41 rfl rfl ?_
    refine z_xP zt185 5 42 [some (.ref 4), some (.int p1)] [.ref 4] rfl rfl ?_
    have f4 : T[4]? = some (.inl (0, 0, 0, 0, 0)) := X.1.k rfl (by decide)
    refine z_xgI zt185 6 rfl zo185 zzf0_188 X f4 (by decide) (by decide) rfl (fun (x8 : Int32) h7 (h9 : 0 ≤ x8.toInt) (h10 : x8.toInt ≤ 20) => ?_)
    exact z_xri zt185 7 rfl zzr185 (kk x8 M0 X (Or.inr (Or.inl ⟨by omega, h7⟩)))
  by_cases h11 : p1.toInt = 2
  · refine z_xSC zt185 1 (z_sub (k := 2) h11 rfl) 46 rfl rfl ?_
    refine z_xP zt185 8 47 [some (.ref 4), some (.int p1)] [.ref 4] rfl rfl ?_
    have f4 : T[4]? = some (.inl (0, 0, 0, 0, 0)) := X.1.k rfl (by decide)
    refine z_xgX (b := 5) zt185 9 rfl zo185 zzf0_10 X f4 (by decide) (by decide) rfl ?_
    have f5 : T[5]? = some (.inl (1, 0, 0, 0, 0)) := X.1.k rfl (by decide)
    refine z_xgI zt185 10 rfl zo185 zzf0_55 X f5 (by decide) (by decide) rfl (fun (x13 : Int32) h12 (h14 : 0 ≤ x13.toInt) (h15 : x13.toInt ≤ 160) => ?_)
    exact z_xri zt185 11 rfl zzr185 (kk x13 M0 X (Or.inr (Or.inr (Or.inl ⟨by omega, h12⟩))))
  by_cases h16 : p1.toInt = 3
  · refine z_xSC zt185 1 (z_sub (k := 3) h16 rfl) 54 rfl rfl ?_
    refine z_xP zt185 12 55 [some (.ref 4), some (.int p1)] [.ref 4] rfl rfl ?_
    have f4 : T[4]? = some (.inl (0, 0, 0, 0, 0)) := X.1.k rfl (by decide)
    refine z_xcV (vs := [.ref 4]) (r := []) (L2 := [some (.ref 4), none, none]) zt185 13 rfl zo185 zzcV0_337 (Or.inl rfl) rfl X f4 rfl rfl rfl (Nat.le_of_ble_eq_true rfl) zzm186 (Nat.le_of_ble_eq_true rfl) rfl ?_
    obtain ⟨x17, h18, h19, h20⟩ := z_W.fi X.1 f4 (k := 3) (lo := 0) (hi := 8) (by decide) rfl
    refine zUC186 X.1 h18 ⟨by omega, by omega⟩ (hG.go X (by decide)) (fun x24 M21 X22 h23 => ?_)
    have X25 := X.go X22 (z_sb (by decide))
    show z_ev (d + 1) 185 58 [some (.ref 4), some (.int p1)] [.int x24] M21 _
    exact z_xri zt185 14 rfl zzr185 (kk x24 M21 X25 (Or.inr (Or.inr (Or.inr (Or.inl ⟨by omega, by rw [z_Fv.of h18]; exact h23⟩)))))
  by_cases h27 : p1.toInt = 4
  · refine z_xSC zt185 1 (z_sub (k := 4) h27 rfl) 59 rfl rfl ?_
    refine z_xP zt185 15 60 [some (.ref 4), some (.int p1)] [.ref 4] rfl rfl ?_
    have f4 : T[4]? = some (.inl (0, 0, 0, 0, 0)) := X.1.k rfl (by decide)
    refine z_xgX (b := 13) zt185 16 rfl zo185 zzf0_31 X f4 (by decide) (by decide) rfl ?_
    refine z_xP zt185 17 64 [some (.ref 4), some (.int p1)] [.int 0, .ref 13] rfl rfl ?_
    have f13 : T[13]? = some (.inr (13, 0, 25, (-2147483648), 2147483647)) := X.1.k rfl (by decide)
    refine z_xil zt185 18 rfl X f13 (by decide) (by decide) (by decide) (fun (x28 : Int32) h29 (h30 : (-2147483648) ≤ x28.toInt) (h31 : x28.toInt ≤ 2147483647) => ?_)
    have q0 : ((0 : Int32)).toInt = 0 := rfl
    have h32 := z_r0 h29 (by omega)
    exact z_xri zt185 19 rfl zzr185 (kk x28 M0 X (Or.inr (Or.inr (Or.inr (Or.inr (Or.inl ⟨by omega, z_r00 h29 (by omega)⟩))))))
  refine z_xSD zt185 1 rfl rfl (by omega) ?_
  refine z_xP zt185 20 67 [some (.ref 4), some (.int p1)] [.int (-1)] rfl rfl ?_
  have qm1 : (((-1) : Int32)).toInt = (-1) := rfl
  have qm1 : (((-1) : Int32)).toInt = (-1) := rfl
  exact z_xri zt185 21 rfl zzr185 (kk (-1) M0 X (Or.inr (Or.inr (Or.inr (Or.inr (Or.inr ⟨by omega, by omega⟩))))))
theorem zUB292 {T : List zK} {d : Nat} {K : Option Value → zH → Prop} {p1 : Int32} {A : Int32} {M0 : zH} (hA : z_F M0 19 13 = some (.int A)) (hA0 : 0 ≤ A.toInt ∧ A.toInt ≤ 8) (kk : ∀ (x : Int32) (M1 : zH), z_X T zw292 M0 M1 → z_qct (z_F M0 19 13) (z_F M0 19 21) (z_F M0 19 1) (z_jsu (z_Ar M0 35) A.toInt.toNat) (z_Fv M0 19 47) p1 x → K (some (.int x)) M1) : ∀ n : Nat, (∀ (M : zH) (b2 : Int32) (b3 : Int32), z_X T zw292 M0 M → 0 ≤ b3.toInt ∧ b3.toInt ≤ 8 → b2 = z_jsu (z_Ar M0 35) b3.toInt.toNat → b3.toInt ≤ A.toInt → ((0) * 2 + 0) * 9 + (8 - b3.toInt) < (n : Int) → z_ev d 292 4 [some (.ref 19), some (.int p1), some (.int b2), some (.int b3)] [] M K) := by
  intro n
  induction n with
  | zero => exact by intros; exfalso; omega
  | succ n ih =>
    intro M b2 b3 X hh0 hI hJ hE
    refine z_xP zt292 1 6 [some (.ref 19), some (.int p1), some (.int b2), some (.int b3)] [.ref 19, .int b3] rfl rfl ?_
    have f19 : T[19]? = some (.inl (12, 0, 0, 0, 0)) := X.1.k rfl (by decide)
    refine z_xgI zt292 2 rfl zo292 zzf12_110 X f19 (by decide) (by decide) rfl (fun (x2 : Int32) h1 (h3 : 0 ≤ x2.toInt) (h4 : x2.toInt ≤ 8) => ?_)
    refine z_xJ zt292 3 rfl rfl (fun (h5 : x2.toInt ≤ b3.toInt) => ?_) (fun (h5 : b3.toInt < x2.toInt) => ?_)
    · skip
      refine z_xP zt292 12 28 [some (.ref 19), some (.int p1), some (.int b2), some (.int b3)] [.int p1] rfl rfl ?_
      by_cases h6 : p1.toInt = 0
      · refine z_xSC zt292 13 (z_sub (k := 0) h6 rfl) 64 rfl rfl ?_
        refine z_xP zt292 14 65 [some (.ref 19), some (.int p1), some (.int b2), some (.int b3)] [.ref 19] rfl rfl ?_
        refine z_xgv zt292 15 rfl zo292 zzf12_110 X f19 (by decide) h1 ?_
        exact z_xri zt292 16 rfl zzr292 (kk x2 M X (Or.inl ⟨by omega, ((X.2.1 19 12 _ _ _ _ 13 f19 (by decide)).symm.trans h1)⟩))
      by_cases h7 : p1.toInt = 1
      · refine z_xSC zt292 13 (z_sub (k := 1) h7 rfl) 69 rfl rfl ?_
        refine z_xP zt292 17 70 [some (.ref 19), some (.int p1), some (.int b2), some (.int b3)] [.ref 19] rfl rfl ?_
        refine z_xgI zt292 18 rfl zo292 zzf12_269 X f19 (by decide) (by decide) rfl (fun (x9 : Int32) h8 (h10 : 0 ≤ x9.toInt) (h11 : x9.toInt ≤ 20) => ?_)
        exact z_xri zt292 19 rfl zzr292 (kk x9 M X (Or.inr (Or.inl ⟨by omega, ((X.2.1 19 12 _ _ _ _ 21 f19 (by decide)).symm.trans h8)⟩)))
      by_cases h12 : p1.toInt = 2
      · refine z_xSC zt292 13 (z_sub (k := 2) h12 rfl) 74 rfl rfl ?_
        refine z_xP zt292 20 75 [some (.ref 19), some (.int p1), some (.int b2), some (.int b3)] [.ref 19] rfl rfl ?_
        refine z_xgI zt292 21 rfl zo292 zzf12_120 X f19 (by decide) (by decide) rfl (fun (x14 : Int32) h13 (h15 : 0 ≤ x14.toInt) (h16 : x14.toInt ≤ 160) => ?_)
        exact z_xri zt292 22 rfl zzr292 (kk x14 M X (Or.inr (Or.inr (Or.inl ⟨by omega, ((X.2.1 19 12 _ _ _ _ 1 f19 (by decide)).symm.trans h13)⟩))))
      by_cases h17 : p1.toInt = 3
      · refine z_xSC zt292 13 (z_sub (k := 3) h17 rfl) 79 rfl rfl ?_
        refine z_xP zt292 23 80 [some (.ref 19), some (.int p1), some (.int b2), some (.int b3)] [.int b2] rfl rfl ?_
        have ea18 := congrArg Int32.toInt (z_ive h1 (X.2.f f19 (by decide) hA))
        have i19 : b3.toInt.toNat = A.toInt.toNat := by omega
        exact z_xri zt292 24 rfl zzr292 (kk b2 M X (Or.inr (Or.inr (Or.inr (Or.inl ⟨by omega, by rw [← i19]; exact hI⟩)))))
      by_cases h20 : p1.toInt = 4
      · refine z_xSC zt292 13 (z_sub (k := 4) h20 rfl) 81 rfl rfl ?_
        refine z_xP zt292 25 82 [some (.ref 19), some (.int p1), some (.int b2), some (.int b3)] [.ref 19] rfl rfl ?_
        refine z_xgI zt292 26 rfl zo292 zzf12_381 X f19 (by decide) (by decide) rfl (fun (x22 : Int32) h21 (h23 : (-2147483648) ≤ x22.toInt) (h24 : x22.toInt ≤ 2147483647) => ?_)
        exact z_xri zt292 27 rfl zzr292 (kk x22 M X (Or.inr (Or.inr (Or.inr (Or.inr (Or.inl ⟨by omega, (z_Fv.of ((X.2.1 19 12 _ _ _ _ 47 f19 (by decide)).symm.trans h21)).symm⟩))))))
      refine z_xSD zt292 13 rfl rfl (by omega) ?_
      refine z_xP zt292 28 87 [some (.ref 19), some (.int p1), some (.int b2), some (.int b3)] [.int (-1)] rfl rfl ?_
      have qm1 : (((-1) : Int32)).toInt = (-1) := rfl
      have qm1 : (((-1) : Int32)).toInt = (-1) := rfl
      exact z_xri zt292 29 rfl zzr292 (kk (-1) M X (Or.inr (Or.inr (Or.inr (Or.inr (Or.inr ⟨by omega, by omega⟩))))))
    refine z_xP zt292 4 14 [some (.ref 19), some (.int p1), some (.int b2), some (.int b3)] [.ref 19, .int b2] rfl rfl ?_
    refine z_xgX (b := 35) zt292 5 rfl zo292 zzf12_55 X f19 (by decide) (by decide) rfl ?_
    refine z_xP zt292 6 18 [some (.ref 19), some (.int p1), some (.int b2), some (.int b3)] [.int b3, .ref 35, .int b2] rfl rfl ?_
    have f35 : T[35]? = some (.inr (35, 0, 8, 0, 9)) := X.1.k rfl (by decide)
    refine z_xil zt292 7 rfl X f35 (by decide) (by omega) (by omega) (fun (x25 : Int32) h26 (h27 : 0 ≤ x25.toInt) (h28 : x25.toInt ≤ 9) => ?_)
    have h29 := z_b32 b2
    refine z_xI zt292 8 rfl rfl (fun (x30 : Int32) (h31 : x30 = b2 + x25) => ?_) (rfl)
    refine z_xP zt292 9 21 [some (.ref 19), some (.int p1), some (.int x30), some (.int b3)] [] rfl rfl ?_
    refine z_xN zt292 10 rfl rfl (fun (x32 : Int32) (h33 : x32.toInt = b3.toInt + 1) => ?_) (z_pAdd rfl rfl (by omega) (by omega))
    show z_ev d 292 24 [some (.ref 19), some (.int p1), some (.int x30), some (.int x32)] [] M _
    refine z_xP zt292 11 4 [some (.ref 19), some (.int p1), some (.int x30), some (.int x32)] [] rfl rfl ?_
    have ea34 := congrArg Int32.toInt (z_ive h1 (X.2.f f19 (by decide) hA))
    exact ih M x30 x32 X ⟨by omega, by omega⟩ (z_suS hI (by omega) (by omega) ((congrFun (X.2.a f35 (by decide)) _).symm.trans h26) h31) (by omega) (by omega)
theorem zUC292 {T : List zK} {d : Nat} {K : Option Value → zH → Prop} {p1 : Int32} {A : Int32} {M0 : zH} (hW : z_W M0 T) (hA : z_F M0 19 13 = some (.int A)) (hA0 : 0 ≤ A.toInt ∧ A.toInt ≤ 8) (kk : ∀ (x : Int32) (M1 : zH), z_X T zw292 M0 M1 → z_qct (z_F M0 19 13) (z_F M0 19 21) (z_F M0 19 1) (z_jsu (z_Ar M0 35) A.toInt.toNat) (z_Fv M0 19 47) p1 x → K (some (.int x)) M1) : z_ev d 292 0 [some (.ref 19), some (.int p1), none, none] [] M0 K := by
  have X : z_X T zw292 M0 M0 := .refl hW
  refine z_xP zt292 0 4 [some (.ref 19), some (.int p1), some (.int 0), some (.int 0)] [] rfl rfl ?_
  have q0 : ((0 : Int32)).toInt = 0 := rfl
  exact (zUB292 hA hA0 kk 18) M0 (0) (0) X (by decide) (z_su0 rfl) (by omega) (by omega)
theorem zT37 {x1 : Int32} {M : zH} (hJA : z_JA M) (hJ : z_J M) : z_ev 2046 185 0 (z_ent [.ref 4, .int x1] (z_ml 185)) [] M fun v M1 => (∃ y, v = some (.int y)) ∧ z_ev 2046 292 0 (z_ent [.ref 19, .int x1] (z_ml 292)) [] M1 fun v2 M2 => (∃ y, v2 = some (.int y)) ∧ v = v2 ∧ z_J M2 ∧ M2.length ≤ M.length + 1171 ∧ z_szr M2 ≤ z_szr M + 14000 := by
  obtain ⟨T, hA, hR⟩ := hJ
  have h3 : z_R3 M := by
    obtain ⟨_, _, hr⟩ := hJA
    exact hr.1.2
  have hW := hA.1.1
  have k4 : T[4]? = some (.inl (0, 0, 0, 0, 0)) := hW.k rfl (by decide)
  have k5 : T[5]? = some (.inl (1, 0, 0, 0, 0)) := hW.k rfl (by decide)
  have k19 : T[19]? = some (.inl (12, 0, 0, 0, 0)) := hW.k rfl (by decide)
  obtain ⟨A, hAe, A0, A8⟩ := hW.fi k4 (k := 3) (lo := 0) (hi := 8) (by decide) rfl
  obtain ⟨A2, hAe2, A20, A28⟩ := hW.fi k19 (k := 13) (lo := 0) (hi := 8) (by decide) rfl
  obtain ⟨tl, htl, _, _⟩ := hW.fi k5 (k := 1) (lo := 0) (hi := 160) (by decide) rfl
  obtain ⟨tm, htm, _, _⟩ := hW.fi k19 (k := 1) (lo := 0) (hi := 160) (by decide) rfl
  obtain ⟨v1, v2, _, _⟩ := z_R5.v hR.1
  rw [z_Fv.of hAe, z_Fv.of hAe2] at v2
  rw [z_Fv.of htl, z_Fv.of htm] at v1
  have eA : A2 = A := Int32.toInt_inj.mp v2
  have eT : tm = tl := Int32.toInt_inj.mp v1
  subst eA eT
  refine z_J.two (r1 := zw185) (r2 := zw292) (C := fun v v2 => v = v2) hA hR rfl rfl ?_
  rw [zzm185]
  show z_ev 2046 185 0 [some (.ref 4), some (.int x1)] [] M _
  refine zUC185 (d := 2045) hW hA.1 fun y M1 X1 h1 => ?_
  have hB := z_kee hA X1 (by decide)
  refine ⟨⟨y, rfl⟩, X1, ?_⟩
  rw [zzm292]
  show z_ev 2046 292 0 [some (.ref 19), some (.int x1), none, none] [] M1 _
  refine zUC292 (d := 2046) hB.1.1 (X1.2.f k19 (by decide) hAe2) ⟨A20, A28⟩ fun z M2 X2 h2 => ?_
  have key : y = z := by
    refine z_cnts h1 h2 ?_ ?_ ?_ ?_ ?_
    · rw [hAe, X1.2.f k19 (by decide) hAe2]
    · rw [hA.2.2.2]
      exact (X1.2.1 19 12 0 0 0 0 21 k19 (by decide)).symm
    · rw [htl, X1.2.f k19 (by decide) htm]
    · rw [z_Fv.of hAe]
      refine z_suC fun j hj => ?_
      obtain ⟨b, q, t, m, g1, g2, J, w, yy, n, g3, g4, g5, g6⟩ := (hR.2.2.2 A2 hAe).1 j (by omega)
      obtain ⟨⟨x, e1, e2⟩, _⟩ := g4
      rw [z_bjE g1 e1, X1.2.a (hW.k (k := 35) (κ := z_ai 35 8 0 9) rfl (by decide)) (by decide)]
      exact Int32.toInt_inj.mp (e2.trans g5.1.symm)
    · obtain ⟨n, f1, f2, f3, _⟩ := h3
      rw [z_Fv.of (X1.2.f k19 (by decide) f1)]
      exact Int32.toInt_inj.mp f2
  exact ⟨⟨z, rfl⟩, by rw [key], X2⟩
