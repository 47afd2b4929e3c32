/-! of on both sides -/
def z_ofc (M : zH) (b q t m : Nat) (p2 x : Int32) : Prop := (p2.toInt = 0 ∧ x.toInt = (q : Int)) ∨ (p2.toInt = 1 ∧ x.toInt = (t : Int)) ∨ (p2.toInt = 2 ∧ ∃ N, z_F M b 0 = some (.ref N) ∧ z_F M N 2 = some (.int x)) ∨ (p2.toInt = 3 ∧ ∃ N, z_F M b 0 = some (.ref N) ∧ z_F M N 3 = some (.int x)) ∨ (p2.toInt = 4 ∧ x.toInt = (m : Int)) ∨ (p2.toInt = 5 ∧ z_F M b 4 = some (.int x)) ∨ (x.toInt = -1 ∧ (p2.toInt < 0 ∨ 5 < p2.toInt))
def z_q34 (T : List zK) (M : zH) (p1 p2 x : Int32) : Prop := (x.toInt = -1 ∧ (p1.toInt < 0 ∨ (z_Fv M 4 3).toInt ≤ p1.toInt)) ∨ (0 ≤ p1.toInt ∧ p1.toInt < (z_Fv M 4 3).toInt ∧ ∃ b q t m, z_O M 10 p1.toNatClampNeg = some b ∧ T[b]? = some (.inl (3, q, t, m, 9)) ∧ z_ofc M b q t m p2 x)
def y_ofc (M : zH) (a : Nat) (p2 x : Int32) : Prop := (p2.toInt = 0 ∧ x.toInt = (z_Ar M 24 a).toInt) ∨ (p2.toInt = 1 ∧ x.toInt = (z_Ar M 25 a).toInt) ∨ (p2.toInt = 2 ∧ x.toInt = (z_Ar M 27 a).toInt) ∨ (p2.toInt = 3 ∧ x.toInt = (z_Ar M 28 a).toInt) ∨ (p2.toInt = 4 ∧ x.toInt = (z_Ar M 31 a).toInt) ∨ (p2.toInt = 5 ∧ x.toInt = (z_Ar M 35 a).toInt) ∨ (x.toInt = -1 ∧ (p2.toInt < 0 ∨ 5 < p2.toInt))
def y_q208 (M : zH) (p1 p2 x : Int32) : Prop := (x.toInt = -1 ∧ (p1.toInt < 0 ∨ (z_Fv M 19 13).toInt ≤ p1.toInt)) ∨ (0 ≤ p1.toInt ∧ p1.toInt < (z_Fv M 19 13).toInt ∧ y_ofc M p1.toNatClampNeg p2 x)
theorem zLC34 {T : List zK} {d : Nat} {K : Option Value → zH → Prop} {p1 : Int32} {p2 : Int32} {M0 : zH} (hW : z_W M0 T)  (hG : z_GG T M0) (kk : ∀ (x : Int32) (M1 : zH), z_X T zw34 M0 M1 → z_q34 T M0 p1 p2 x → K (some (.int x)) M1) : z_ev (d + 1) 34 0 [some (.ref 4), some (.int p1), some (.int p2), none] [] M0 K := by
  have X : z_X T zw34 M0 M0 := .refl hW
  refine z_xP zt34 0 2 [some (.ref 4), some (.int p1), some (.int p2), none] [.int p1, .ref 4] rfl rfl ?_
  have f4 : T[4]? = some (.inl (0, 0, 0, 0, 0)) := X.1.k rfl (by decide)
  refine z_xcV (vs := [.ref 4, .int p1]) (r := []) (L2 := [some (.ref 4), some (.int p1)]) zt34 1 rfl zo34 zzcV0_85 (Or.inl rfl) rfl X f4 rfl rfl rfl (Nat.le_of_ble_eq_true rfl) zzm35 (Nat.le_of_ble_eq_true rfl) rfl ?_
  refine z_xP zt35 0 1 [some (.ref 4), some (.int p1)] [.int p1] rfl rfl ?_
  refine z_xZ zt35 1 rfl rfl (fun (h1 : p1.toInt < 0) => ?_) (fun (h1 : 0 ≤ p1.toInt) => ?_)
  · skip
    refine z_xP zt35 5 22 [some (.ref 4), some (.int p1)] [.null] rfl rfl ?_
    refine z_xrn zt35 10 rfl zzr35 ?_
    show z_ev (d + 1) 34 5 [some (.ref 4), some (.int p1), some (.int p2), none] [.null] M0 _
    refine z_xP zt34 2 10 [some (.ref 4), some (.int p1), some (.int p2), some (.null)] [] rfl rfl ?_
    refine z_xP zt34 3 11 [some (.ref 4), some (.int p1), some (.int p2), some (.null)] [.int (-1)] rfl rfl ?_
    have qm1 : (((-1) : Int32)).toInt = (-1) := rfl
    exact z_xri zt34 4 rfl zzr34 (kk (-1) M0 X (Or.inl ⟨qm1, Or.inl h1⟩))
  refine z_xP zt35 2 6 [some (.ref 4), some (.int p1)] [.ref 4, .int p1] rfl rfl ?_
  refine z_xgI zt35 3 rfl zo35 zzf0_59 X f4 (by decide) (by decide) rfl (fun (x3 : Int32) h2 (h4 : 0 ≤ x3.toInt) (h5 : x3.toInt ≤ 8) => ?_)
  have h6 := z_b32 p1
  refine z_xJ zt35 4 rfl rfl (fun (h7 : p1.toInt < x3.toInt) => ?_) (fun (h7 : x3.toInt ≤ p1.toInt) => ?_)
  · skip
    refine z_xP zt35 6 17 [some (.ref 4), some (.int p1)] [.ref 4] rfl rfl ?_
    refine z_xgX (b := 10) zt35 7 rfl zo35 zzf0_18 X f4 (by decide) (by decide) rfl ?_
    refine z_xP zt35 8 21 [some (.ref 4), some (.int p1)] [.int p1, .ref 10] rfl rfl ?_
    have f10 : T[10]? = some (.inr (10, 2, 8, 9, 0)) := X.1.k rfl (by decide)
    refine z_xal zt35 9 rfl X f10 (by decide) (by decide) (by decide) (by omega) (by omega) (fun (a8 : Nat) h9 h10 => ?_) (fun h11 => absurd h11 (z_Gs (hG.go X (by decide)).2.1 h2 (by omega) (by omega)))
    obtain ⟨q12, t13, m14, k15⟩ : ∃ q t m, T[a8]? = some (.inl (3, q, t, m, 9)) := h10
    have g16 := X.1.p3 k15
    refine z_xra zt35 10 rfl zzr35 ?_
    show z_ev (d + 1) 34 5 [some (.ref 4), some (.int p1), some (.int p2), none] [.ref a8] M0 _
    refine z_xP zt34 2 12 [some (.ref 4), some (.int p1), some (.int p2), some (.ref a8)] [] rfl rfl ?_
    refine z_xP zt34 5 13 [some (.ref 4), some (.int p1), some (.int p2), some (.ref a8)] [.int p2] rfl rfl ?_
    by_cases h17 : p2.toInt = 0
    · refine z_xSC zt34 6 (z_sub (k := 0) h17 rfl) 52 rfl rfl ?_
      refine z_xP zt34 7 53 [some (.ref 4), some (.int p1), some (.int p2), some (.ref a8)] [.ref a8] rfl rfl ?_
      refine z_xgR (κ := .inl (2, q12, t13, m14, 0)) zt34 8 rfl zo34 zzf0_89 X k15 (by decide) (by decide) rfl (fun (a19 : Nat) h18 k20 => ?_)
      have g21 := X.1.p2 k20
      refine z_xgI zt34 9 rfl zo34 zzf0_93 X k20 (by decide) (by decide) rfl (fun (x23 : Int32) h22 (h24 : (q12 : Int) ≤ x23.toInt) (h25 : x23.toInt ≤ (q12 : Int)) => ?_)
      exact z_xri zt34 10 rfl zzr34 (kk x23 M0 X (Or.inr ⟨h1, by rw [z_Fv.of h2]; exact h7, a8, q12, t13, m14, h9, k15, Or.inl ⟨h17, by omega⟩⟩))
    by_cases h26 : p2.toInt = 1
    · refine z_xSC zt34 6 (z_sub (k := 1) h26 rfl) 60 rfl rfl ?_
      refine z_xP zt34 11 61 [some (.ref 4), some (.int p1), some (.int p2), some (.ref a8)] [.ref a8] rfl rfl ?_
      refine z_xgR (κ := .inl (2, q12, t13, m14, 0)) zt34 12 rfl zo34 zzf0_89 X k15 (by decide) (by decide) rfl (fun (a28 : Nat) h27 k29 => ?_)
      have g30 := X.1.p2 k29
      refine z_xgI zt34 13 rfl zo34 zzf0_96 X k29 (by decide) (by decide) rfl (fun (x32 : Int32) h31 (h33 : (t13 : Int) ≤ x32.toInt) (h34 : x32.toInt ≤ (t13 : Int)) => ?_)
      exact z_xri zt34 14 rfl zzr34 (kk x32 M0 X (Or.inr ⟨h1, by rw [z_Fv.of h2]; exact h7, a8, q12, t13, m14, h9, k15, Or.inr (Or.inl ⟨h26, by omega⟩)⟩))
    by_cases h35 : p2.toInt = 2
    · refine z_xSC zt34 6 (z_sub (k := 2) h35 rfl) 68 rfl rfl ?_
      refine z_xP zt34 15 69 [some (.ref 4), some (.int p1), some (.int p2), some (.ref a8)] [.ref a8] rfl rfl ?_
      refine z_xgR (κ := .inl (2, q12, t13, m14, 0)) zt34 16 rfl zo34 zzf0_89 X k15 (by decide) (by decide) rfl (fun (a37 : Nat) h36 k38 => ?_)
      have g39 := X.1.p2 k38
      refine z_xgI zt34 17 rfl zo34 zzf0_99 X k38 (by decide) (by decide) rfl (fun (x41 : Int32) h40 (h42 : (-2147483648) ≤ x41.toInt) (h43 : x41.toInt ≤ 2147483647) => ?_)
      exact z_xri zt34 18 rfl zzr34 (kk x41 M0 X (Or.inr ⟨h1, by rw [z_Fv.of h2]; exact h7, a8, q12, t13, m14, h9, k15, Or.inr (Or.inr (Or.inl ⟨h35, a37, h36, h40⟩))⟩))
    by_cases h44 : p2.toInt = 3
    · refine z_xSC zt34 6 (z_sub (k := 3) h44 rfl) 76 rfl rfl ?_
      refine z_xP zt34 19 77 [some (.ref 4), some (.int p1), some (.int p2), some (.ref a8)] [.ref a8] rfl rfl ?_
      refine z_xgR (κ := .inl (2, q12, t13, m14, 0)) zt34 20 rfl zo34 zzf0_89 X k15 (by decide) (by decide) rfl (fun (a46 : Nat) h45 k47 => ?_)
      have g48 := X.1.p2 k47
      refine z_xgI zt34 21 rfl zo34 zzf0_102 X k47 (by decide) (by decide) rfl (fun (x50 : Int32) h49 (h51 : (-2147483648) ≤ x50.toInt) (h52 : x50.toInt ≤ 2147483647) => ?_)
      exact z_xri zt34 22 rfl zzr34 (kk x50 M0 X (Or.inr ⟨h1, by rw [z_Fv.of h2]; exact h7, a8, q12, t13, m14, h9, k15, Or.inr (Or.inr (Or.inr (Or.inl ⟨h44, a46, h45, h49⟩)))⟩))
    by_cases h53 : p2.toInt = 4
    · refine z_xSC zt34 6 (z_sub (k := 4) h53 rfl) 84 rfl rfl ?_
      refine z_xP zt34 23 85 [some (.ref 4), some (.int p1), some (.int p2), some (.ref a8)] [.ref a8] rfl rfl ?_
      refine z_xgR (κ := .inl (2, q12, t13, m14, 0)) zt34 24 rfl zo34 zzf0_89 X k15 (by decide) (by decide) rfl (fun (a55 : Nat) h54 k56 => ?_)
      have g57 := X.1.p2 k56
      refine z_xgR (κ := .inr (102, 0, m14, 0, 1023)) zt34 25 rfl zo34 zzf0_74 X k56 (by decide) (by decide) rfl (fun (a59 : Nat) h58 k60 => ?_)
      refine z_xln zt34 26 rfl X k60 (by decide) (by omega) (fun (x61 : Int32) (h62 : x61.toInt = ((m14 : Nat) : Int)) => ?_)
      exact z_xri zt34 27 rfl zzr34 (kk x61 M0 X (Or.inr ⟨h1, by rw [z_Fv.of h2]; exact h7, a8, q12, t13, m14, h9, k15, Or.inr (Or.inr (Or.inr (Or.inr (Or.inl ⟨h53, h62⟩))))⟩))
    by_cases h63 : p2.toInt = 5
    · refine z_xSC zt34 6 (z_sub (k := 5) h63 rfl) 93 rfl rfl ?_
      refine z_xP zt34 28 94 [some (.ref 4), some (.int p1), some (.int p2), some (.ref a8)] [.ref a8] rfl rfl ?_
      refine z_xgI zt34 29 rfl zo34 zzf0_105 X k15 (by decide) (by decide) rfl (fun (x65 : Int32) h64 (h66 : 0 ≤ x65.toInt) (h67 : x65.toInt ≤ (9 : Int)) => ?_)
      exact z_xri zt34 30 rfl zzr34 (kk x65 M0 X (Or.inr ⟨h1, by rw [z_Fv.of h2]; exact h7, a8, q12, t13, m14, h9, k15, Or.inr (Or.inr (Or.inr (Or.inr (Or.inr (Or.inl ⟨h63, h64⟩)))))⟩))
    refine z_xSD zt34 6 rfl rfl (by omega) ?_
    refine z_xP zt34 31 99 [some (.ref 4), some (.int p1), some (.int p2), some (.ref a8)] [.int (-1)] rfl rfl ?_
    have qm1 : (((-1) : Int32)).toInt = (-1) := rfl
    exact z_xri zt34 32 rfl zzr34 (kk (-1) M0 X (Or.inr ⟨h1, by rw [z_Fv.of h2]; exact h7, a8, q12, t13, m14, h9, k15, Or.inr (Or.inr (Or.inr (Or.inr (Or.inr (Or.inr (⟨qm1, by omega⟩))))))⟩))
  refine z_xP zt35 5 22 [some (.ref 4), some (.int p1)] [.null] rfl rfl ?_
  refine z_xrn zt35 10 rfl zzr35 ?_
  show z_ev (d + 1) 34 5 [some (.ref 4), some (.int p1), some (.int p2), none] [.null] M0 _
  refine z_xP zt34 2 10 [some (.ref 4), some (.int p1), some (.int p2), some (.null)] [] rfl rfl ?_
  refine z_xP zt34 3 11 [some (.ref 4), some (.int p1), some (.int p2), some (.null)] [.int (-1)] rfl rfl ?_
  have qm1 : (((-1) : Int32)).toInt = (-1) := rfl
  exact z_xri zt34 4 rfl zzr34 (kk (-1) M0 X (Or.inl ⟨qm1, Or.inr (by rw [z_Fv.of h2]; exact h7)⟩))
theorem zLC208 {T : List zK} {d : Nat} {K : Option Value → zH → Prop} {p1 : Int32} {p2 : Int32} {M0 : zH} (hW : z_W M0 T)  (kk : ∀ (x : Int32) (M1 : zH), z_X T zw208 M0 M1 → y_q208 M0 p1 p2 x → K (some (.int x)) M1) : z_ev (d + 1) 208 0 [some (.ref 19), some (.int p1), some (.int p2)] [] M0 K := by
  have X : z_X T zw208 M0 M0 := .refl hW
  refine z_xP zt208 0 2 [some (.ref 19), some (.int p1), some (.int p2)] [.int p1, .ref 19] rfl rfl ?_
  have f19 : T[19]? = some (.inl (12, 0, 0, 0, 0)) := X.1.k rfl (by decide)
  refine z_xcV (vs := [.ref 19, .int p1]) (r := []) (L2 := [some (.ref 19), some (.int p1)]) zt208 1 rfl zo208 zzcV12_209 (Or.inl rfl) rfl X f19 rfl rfl rfl (Nat.le_of_ble_eq_true rfl) zzm209 (Nat.le_of_ble_eq_true rfl) rfl ?_
  refine z_xP zt209 0 1 [some (.ref 19), some (.int p1)] [.int p1] rfl rfl ?_
  refine z_xZ zt209 1 rfl rfl (fun (h1 : p1.toInt < 0) => ?_) (fun (h1 : 0 ≤ p1.toInt) => ?_)
  · skip
    refine z_xP zt209 6 17 [some (.ref 19), some (.int p1)] [.int 0] rfl rfl ?_
    refine z_xrz zt209 7 rfl zzr209 (by decide) (by decide) ?_
    show z_ev (d + 1) 208 5 [some (.ref 19), some (.int p1), some (.int p2)] [.int 0] M0 _
    refine z_xZ zt208 2 rfl rfl (fun (h2 : (0 : Int) ≠ 0) => absurd h2 (by omega)) (fun (h2 : (0 : Int) = 0) => ?_)
    refine z_xP zt208 3 9 [some (.ref 19), some (.int p1), some (.int p2)] [.int (-1)] rfl rfl ?_
    have qm1 : (((-1) : Int32)).toInt = (-1) := rfl
    exact z_xri zt208 4 rfl zzr208 (kk (-1) M0 X (Or.inl ⟨qm1, Or.inl h1⟩))
  refine z_xP zt209 2 6 [some (.ref 19), some (.int p1)] [.ref 19, .int p1] rfl rfl ?_
  refine z_xgI zt209 3 rfl zo209 zzf12_110 X f19 (by decide) (by decide) rfl (fun (x4 : Int32) h3 (h5 : 0 ≤ x4.toInt) (h6 : x4.toInt ≤ 8) => ?_)
  have h7 := z_b32 p1
  refine z_xJ zt209 4 rfl rfl (fun (h8 : x4.toInt ≤ p1.toInt) => ?_) (fun (h8 : p1.toInt < x4.toInt) => ?_)
  · skip
    refine z_xP zt209 6 17 [some (.ref 19), some (.int p1)] [.int 0] rfl rfl ?_
    refine z_xrz zt209 7 rfl zzr209 (by decide) (by decide) ?_
    show z_ev (d + 1) 208 5 [some (.ref 19), some (.int p1), some (.int p2)] [.int 0] M0 _
    refine z_xZ zt208 2 rfl rfl (fun (h9 : (0 : Int) ≠ 0) => absurd h9 (by omega)) (fun (h9 : (0 : Int) = 0) => ?_)
    refine z_xP zt208 3 9 [some (.ref 19), some (.int p1), some (.int p2)] [.int (-1)] rfl rfl ?_
    have qm1 : (((-1) : Int32)).toInt = (-1) := rfl
    exact z_xri zt208 4 rfl zzr208 (kk (-1) M0 X (Or.inl ⟨qm1, Or.inr (by rw [z_Fv.of h3]; exact h8)⟩))
  refine z_xP zt209 5 17 [some (.ref 19), some (.int p1)] [.int 1] rfl rfl ?_
  refine z_xrz zt209 7 rfl zzr209 (by decide) (by decide) ?_
  show z_ev (d + 1) 208 5 [some (.ref 19), some (.int p1), some (.int p2)] [.int 1] M0 _
  refine z_xZ zt208 2 rfl rfl (fun (h10 : (1 : Int) ≠ 0) => ?_) (fun (h10 : (1 : Int) = 0) => absurd h10 (by omega))
  refine z_xP zt208 5 11 [some (.ref 19), some (.int p1), some (.int p2)] [.int p2] rfl rfl ?_
  by_cases h11 : p2.toInt = 0
  · refine z_xSC zt208 6 (z_sub (k := 0) h11 rfl) 48 rfl rfl ?_
    refine z_xP zt208 7 49 [some (.ref 19), some (.int p1), some (.int p2)] [.ref 19] rfl rfl ?_
    refine z_xgX (b := 24) zt208 8 rfl zo208 zzf12_22 X f19 (by decide) (by decide) rfl ?_
    refine z_xP zt208 9 53 [some (.ref 19), some (.int p1), some (.int p2)] [.int p1, .ref 24] rfl rfl ?_
    have f24 : T[24]? = some (.inr (24, 0, 8, 0, 10)) := X.1.k rfl (by decide)
    refine z_xil zt208 10 rfl X f24 (by decide) (by omega) (by omega) (fun (x12 : Int32) h13 (h14 : 0 ≤ x12.toInt) (h15 : x12.toInt ≤ 10) => ?_)
    exact z_xri zt208 11 rfl zzr208 (kk x12 M0 X (Or.inr ⟨h1, by rw [z_Fv.of h3]; exact h8, Or.inl ⟨h11, congrArg Int32.toInt h13.symm⟩⟩))
  by_cases h16 : p2.toInt = 1
  · refine z_xSC zt208 6 (z_sub (k := 1) h16 rfl) 55 rfl rfl ?_
    refine z_xP zt208 12 56 [some (.ref 19), some (.int p1), some (.int p2)] [.ref 19] rfl rfl ?_
    refine z_xgX (b := 25) zt208 13 rfl zo208 zzf12_25 X f19 (by decide) (by decide) rfl ?_
    refine z_xP zt208 14 60 [some (.ref 19), some (.int p1), some (.int p2)] [.int p1, .ref 25] rfl rfl ?_
    have f25 : T[25]? = some (.inr (25, 0, 8, 0, 8)) := X.1.k rfl (by decide)
    refine z_xil zt208 15 rfl X f25 (by decide) (by omega) (by omega) (fun (x17 : Int32) h18 (h19 : 0 ≤ x17.toInt) (h20 : x17.toInt ≤ 8) => ?_)
    exact z_xri zt208 16 rfl zzr208 (kk x17 M0 X (Or.inr ⟨h1, by rw [z_Fv.of h3]; exact h8, Or.inr (Or.inl ⟨h16, congrArg Int32.toInt h18.symm⟩)⟩))
  by_cases h21 : p2.toInt = 2
  · refine z_xSC zt208 6 (z_sub (k := 2) h21 rfl) 62 rfl rfl ?_
    refine z_xP zt208 17 63 [some (.ref 19), some (.int p1), some (.int p2)] [.ref 19] rfl rfl ?_
    refine z_xgX (b := 27) zt208 18 rfl zo208 zzf12_31 X f19 (by decide) (by decide) rfl ?_
    refine z_xP zt208 19 67 [some (.ref 19), some (.int p1), some (.int p2)] [.int p1, .ref 27] rfl rfl ?_
    have f27 : T[27]? = some (.inr (27, 0, 8, (-2147483648), 2147483647)) := X.1.k rfl (by decide)
    refine z_xil zt208 20 rfl X f27 (by decide) (by omega) (by omega) (fun (x22 : Int32) h23 (h24 : (-2147483648) ≤ x22.toInt) (h25 : x22.toInt ≤ 2147483647) => ?_)
    exact z_xri zt208 21 rfl zzr208 (kk x22 M0 X (Or.inr ⟨h1, by rw [z_Fv.of h3]; exact h8, Or.inr (Or.inr (Or.inl ⟨h21, congrArg Int32.toInt h23.symm⟩))⟩))
  by_cases h26 : p2.toInt = 3
  · refine z_xSC zt208 6 (z_sub (k := 3) h26 rfl) 69 rfl rfl ?_
    refine z_xP zt208 22 70 [some (.ref 19), some (.int p1), some (.int p2)] [.ref 19] rfl rfl ?_
    refine z_xgX (b := 28) zt208 23 rfl zo208 zzf12_34 X f19 (by decide) (by decide) rfl ?_
    refine z_xP zt208 24 74 [some (.ref 19), some (.int p1), some (.int p2)] [.int p1, .ref 28] rfl rfl ?_
    have f28 : T[28]? = some (.inr (28, 0, 8, (-2147483648), 2147483647)) := X.1.k rfl (by decide)
    refine z_xil zt208 25 rfl X f28 (by decide) (by omega) (by omega) (fun (x27 : Int32) h28 (h29 : (-2147483648) ≤ x27.toInt) (h30 : x27.toInt ≤ 2147483647) => ?_)
    exact z_xri zt208 26 rfl zzr208 (kk x27 M0 X (Or.inr ⟨h1, by rw [z_Fv.of h3]; exact h8, Or.inr (Or.inr (Or.inr (Or.inl ⟨h26, congrArg Int32.toInt h28.symm⟩)))⟩))
  by_cases h31 : p2.toInt = 4
  · refine z_xSC zt208 6 (z_sub (k := 4) h31 rfl) 76 rfl rfl ?_
    refine z_xP zt208 27 77 [some (.ref 19), some (.int p1), some (.int p2)] [.ref 19] rfl rfl ?_
    refine z_xgX (b := 31) zt208 28 rfl zo208 zzf12_43 X f19 (by decide) (by decide) rfl ?_
    refine z_xP zt208 29 81 [some (.ref 19), some (.int p1), some (.int p2)] [.int p1, .ref 31] rfl rfl ?_
    have f31 : T[31]? = some (.inr (31, 0, 8, 0, 1024)) := X.1.k rfl (by decide)
    refine z_xil zt208 30 rfl X f31 (by decide) (by omega) (by omega) (fun (x32 : Int32) h33 (h34 : 0 ≤ x32.toInt) (h35 : x32.toInt ≤ 1024) => ?_)
    exact z_xri zt208 31 rfl zzr208 (kk x32 M0 X (Or.inr ⟨h1, by rw [z_Fv.of h3]; exact h8, Or.inr (Or.inr (Or.inr (Or.inr (Or.inl ⟨h31, congrArg Int32.toInt h33.symm⟩))))⟩))
  by_cases h36 : p2.toInt = 5
  · refine z_xSC zt208 6 (z_sub (k := 5) h36 rfl) 83 rfl rfl ?_
    refine z_xP zt208 32 84 [some (.ref 19), some (.int p1), some (.int p2)] [.ref 19] rfl rfl ?_
    refine z_xgX (b := 35) zt208 33 rfl zo208 zzf12_55 X f19 (by decide) (by decide) rfl ?_
    refine z_xP zt208 34 88 [some (.ref 19), some (.int p1), some (.int p2)] [.int p1, .ref 35] rfl rfl ?_
    have f35 : T[35]? = some (.inr (35, 0, 8, 0, 9)) := X.1.k rfl (by decide)
    refine z_xil zt208 35 rfl X f35 (by decide) (by omega) (by omega) (fun (x37 : Int32) h38 (h39 : 0 ≤ x37.toInt) (h40 : x37.toInt ≤ 9) => ?_)
    exact z_xri zt208 36 rfl zzr208 (kk x37 M0 X (Or.inr ⟨h1, by rw [z_Fv.of h3]; exact h8, Or.inr (Or.inr (Or.inr (Or.inr (Or.inr (Or.inl ⟨h36, congrArg Int32.toInt h38.symm⟩)))))⟩))
  refine z_xSD zt208 6 rfl rfl (by omega) ?_
  refine z_xP zt208 37 91 [some (.ref 19), some (.int p1), some (.int p2)] [.int (-1)] rfl rfl ?_
  have qm1 : (((-1) : Int32)).toInt = (-1) := rfl
  exact z_xri zt208 38 rfl zzr208 (kk (-1) M0 X (Or.inr ⟨h1, by rw [z_Fv.of h3]; exact h8, Or.inr (Or.inr (Or.inr (Or.inr (Or.inr (Or.inr (⟨qm1, by omega⟩))))))⟩))
theorem z_same2 {T : List zK} {M M1 : zH} {x1 x2 y z : Int32} {rs : List Nat} (h6 : z_R6 T M) (h7 : z_R7 T M) (hW : z_W M T) (ke : z_ke T rs M M1) (hs : (z_agr.all fun x => !rs.elem x) = true) (hc : (([32, 33, 34, 35] : List Nat).all fun x => !rs.elem x) = true) (hA2 : (z_Fv M1 19 13).toInt = (z_Fv M 4 3).toInt) (h1 : z_q34 T M x1 x2 y) (h2 : y_q208 M1 x1 x2 z) : y = z := by
  have k4 : T[4]? = some (.inl (0, 0, 0, 0, 0)) := hW.k rfl (by decide)
  obtain ⟨A, hA, _, _⟩ := hW.fi k4 (k := 3) (lo := 0) (hi := 8) (by decide) rfl
  have eA := z_Fv.of hA
  unfold y_q208 at h2
  rw [hA2] at h2
  unfold z_q34 at h1
  rw [eA] at h1 h2
  apply Int32.toInt_inj.mp
  rcases h1 with ⟨h1, h3⟩ | ⟨a1, a2, b, q, t, m, ob, kb, h1⟩
  · rcases h2 with ⟨h2, _⟩ | ⟨b1, b2, _⟩
    · rw [h1, h2]
    · exfalso; omega
  · rcases h2 with ⟨_, h2⟩ | ⟨_, _, h2⟩
    · exfalso; omega
    · have ex : (x1.toNatClampNeg : Int) = x1.toInt := by unfold Int32.toNatClampNeg; omega
      obtain ⟨b', N, q', t', m', pr, en, B, ob', kb', fb', hG, hY⟩ := h6 A hA x1.toNatClampNeg (by omega)
      obtain rfl : b = b' := Option.some.inj (ob.symm.trans ob')
      rw [kb] at kb'
      cases kb'
      have hY1 := hY.ke hW ke hs
      obtain ⟨k0, hB, hm, ⟨xp, fp, ep⟩, ⟨xe, fe, ee⟩, _⟩ := hG
      obtain ⟨b2, q2, t2, m2, g1, g2, J, w, yy, n, g3, g4, g5, g6⟩ := (h7.2 A hA).1 x1.toNatClampNeg (by omega)
      obtain rfl : b = b2 := Option.some.inj (ob.symm.trans g1)
      rw [kb] at g2
      cases g2
      have hJ := (g5.ke hW ke hc).1
      obtain ⟨⟨xj, fj, ej⟩, _⟩ := g4
      obtain ⟨y1, y2, y3, y4, y5, _⟩ := hY1
      have h3 : (x2.toInt = 0 ∧ y.toInt = (q : Int)) ∨ (x2.toInt = 1 ∧ y.toInt = (t : Int)) ∨ (x2.toInt = 2 ∧ y.toInt = (pr : Int)) ∨ (x2.toInt = 3 ∧ y.toInt = (en : Int)) ∨ (x2.toInt = 4 ∧ y.toInt = (m : Int)) ∨ (x2.toInt = 5 ∧ y.toInt = (J : Int)) ∨ (y.toInt = -1 ∧ (x2.toInt < 0 ∨ 5 < x2.toInt)) := by
        rcases h1 with h | h | ⟨c, N2, d, e⟩ | ⟨c, N2, d, e⟩ | h | ⟨c, d⟩ | h
        · exact Or.inl h
        · exact Or.inr (Or.inl h)
        · rw [← z_rfe fb' d] at e
          rw [z_ive e fp]
          exact Or.inr (Or.inr (Or.inl ⟨c, ep⟩))
        · rw [← z_rfe fb' d] at e
          rw [z_ive e fe]
          exact Or.inr (Or.inr (Or.inr (Or.inl ⟨c, ee⟩)))
        · exact Or.inr (Or.inr (Or.inr (Or.inr (Or.inl h))))
        · rw [z_ive d fj]
          exact Or.inr (Or.inr (Or.inr (Or.inr (Or.inr (Or.inl ⟨c, ej⟩)))))
        · exact Or.inr (Or.inr (Or.inr (Or.inr (Or.inr (Or.inr h)))))
      unfold y_ofc at h2
      rw [y1, y2, y3, y4, y5, hJ] at h2
      clear h1 ex hm ob kb fb' fp fe fj g3 g6 ke hs hc
      rcases h3 with h | h | h | h | h | h | h <;> omega
def z_Q2 (I : zH → Prop) : Prop := ∀ (x1 : Int32) (x2 : Int32) (M : zH), I M → z_ev 2046 34 0 (z_ent [.ref 4, .int x1, .int x2] (z_ml 34)) [] M fun v M1 => (∃ y, v = some (.int y)) ∧ z_ev 2046 208 0 (z_ent [.ref 19, .int x1, .int x2] (z_ml 208)) [] M1 fun v2 M2 => (∃ y, v2 = some (.int y)) ∧ v = v2 ∧ I M2 ∧ M2.length ≤ M.length + 1171 ∧ z_szr M2 ≤ z_szr M + 14000
theorem zS2 : z_Q2 z_J := by
  intro x1 x2 M ⟨T, hA, hR⟩
  refine z_J.two (r1 := zw34) (r2 := zw208) (C := fun v v2 => v = v2) hA hR rfl rfl ?_
  rw [zzm34]
  show z_ev 2046 34 0 [some (.ref 4), some (.int x1), some (.int x2), none] [] M _
  refine zLC34 (d := 2045) hA.1.1 hA.1 fun y M1 X1 h1 => ?_
  have hB := z_kee hA X1 (by decide)
  refine ⟨⟨y, rfl⟩, X1, ?_⟩
  rw [zzm208]
  show z_ev 2046 208 0 [some (.ref 19), some (.int x1), some (.int x2)] [] M1 _
  refine zLC208 (d := 2045) hB.1.1 fun z M2 X2 h2 => ?_
  have k19 : T[19]? = some (.inl (12, 0, 0, 0, 0)) := hA.1.1.k rfl (by decide)
  exact ⟨⟨z, rfl⟩, by rw [z_same2 hR.2.1 hR.2.2 hA.1.1 X1.2 rfl rfl ((congrArg Int32.toInt (z_FvK (X1.2.1 19 12 0 0 0 0 13 k19 (by decide)))).trans (z_R5.v hR.1).2.1) h1 h2], X2⟩
