/-! ofJudge on both sides -/
def z_ojc (M : zH) (b : Nat) (p2 p3 x : Int32) : Prop := (x.toInt = -1 ∧ p2.toInt < 0) ∨ ∃ jv : Int32, z_F M b 4 = some (.int jv) ∧ ((x.toInt = -1 ∧ jv.toInt ≤ p2.toInt) ∨ (0 ≤ p2.toInt ∧ p2.toInt < jv.toInt ∧ ((p3.toInt = 0 ∧ ∃ a, z_F M b 1 = some (.ref a) ∧ z_Ar M a p2.toNatClampNeg = x) ∨ (p3.toInt = 1 ∧ ∃ a, z_F M b 2 = some (.ref a) ∧ z_Ar M a p2.toNatClampNeg = x) ∨ (p3.toInt = 2 ∧ ∃ a, z_F M b 3 = some (.ref a) ∧ z_Ar M a p2.toNatClampNeg = x) ∨ (x.toInt = -1 ∧ (p3.toInt < 0 ∨ 2 < p3.toInt)))))
def z_q62 (T : List zK) (M : zH) (p1 p2 p3 x : Int32) : Prop := (x.toInt = -1 ∧ (p1.toInt < 0 ∨ (z_Fv M 4 3).toInt ≤ p1.toInt)) ∨ (0 ≤ p1.toInt ∧ p1.toInt < (z_Fv M 4 3).toInt ∧ ∃ b q t m, z_O M 10 p1.toNatClampNeg = some b ∧ T[b]? = some (.inl (3, q, t, m, 9)) ∧ z_ojc M b p2 p3 x)
def y_ojc (M : zH) (a : Nat) (p2 p3 x : Int32) : Prop := (x.toInt = -1 ∧ (p2.toInt < 0 ∨ (z_Ar M 35 a).toInt ≤ p2.toInt)) ∨ (0 ≤ p2.toInt ∧ p2.toInt < (z_Ar M 35 a).toInt ∧ ((p3.toInt = 0 ∧ z_Ar M 32 (9 * a + p2.toNatClampNeg) = x) ∨ (p3.toInt = 1 ∧ z_Ar M 33 (9 * a + p2.toNatClampNeg) = x) ∨ (p3.toInt = 2 ∧ z_Ar M 34 (9 * a + p2.toNatClampNeg) = x) ∨ (x.toInt = -1 ∧ (p3.toInt < 0 ∨ 2 < p3.toInt))))
def y_q227 (M : zH) (p1 p2 p3 x : Int32) : Prop := (x.toInt = -1 ∧ (p1.toInt < 0 ∨ (z_Fv M 19 13).toInt ≤ p1.toInt)) ∨ (0 ≤ p1.toInt ∧ p1.toInt < (z_Fv M 19 13).toInt ∧ y_ojc M p1.toNatClampNeg p2 p3 x)
theorem zLC62 {T : List zK} {d : Nat} {K : Option Value → zH → Prop} {p1 : Int32} {p2 : Int32} {p3 : Int32} {M0 : zH} (hW : z_W M0 T)  (hG : z_GG T M0) (kk : ∀ (x : Int32) (M1 : zH), z_X T zw62 M0 M1 → z_q62 T M0 p1 p2 p3 x → K (some (.int x)) M1) : z_ev (d + 1) 62 0 [some (.ref 4), some (.int p1), some (.int p2), some (.int p3), none] [] M0 K := by
  have X : z_X T zw62 M0 M0 := .refl hW
  refine z_xP zt62 0 2 [some (.ref 4), some (.int p1), some (.int p2), some (.int p3), none] [.int p1, .ref 4] rfl rfl ?_
  have f4 : T[4]? = some (.inl (0, 0, 0, 0, 0)) := X.1.k rfl (by decide)
  refine z_xcV (vs := [.ref 4, .int p1]) (r := []) (L2 := [some (.ref 4), some (.int p1)]) zt62 1 rfl zo62 zzcV0_85 (Or.inl rfl) rfl X f4 rfl rfl rfl (Nat.le_of_ble_eq_true rfl) zzm35 (Nat.le_of_ble_eq_true rfl) rfl ?_
  refine z_xP zt35 0 1 [some (.ref 4), some (.int p1)] [.int p1] rfl rfl ?_
  refine z_xZ zt35 1 rfl rfl (fun (h1 : p1.toInt < 0) => ?_) (fun (h1 : 0 ≤ p1.toInt) => ?_)
  · skip
    refine z_xP zt35 5 22 [some (.ref 4), some (.int p1)] [.null] rfl rfl ?_
    refine z_xrn zt35 10 rfl zzr35 ?_
    show z_ev (d + 1) 62 5 [some (.ref 4), some (.int p1), some (.int p2), some (.int p3), none] [.null] M0 _
    refine z_xP zt62 2 21 [some (.ref 4), some (.int p1), some (.int p2), some (.int p3), some (.null)] [] rfl rfl ?_
    refine z_xP zt62 6 22 [some (.ref 4), some (.int p1), some (.int p2), some (.int p3), some (.null)] [.int (-1)] rfl rfl ?_
    have qm1 : (((-1) : Int32)).toInt = (-1) := rfl
    exact z_xri zt62 7 rfl zzr62 (kk (-1) M0 X (Or.inl ⟨qm1, Or.inl h1⟩))
  refine z_xP zt35 2 6 [some (.ref 4), some (.int p1)] [.ref 4, .int p1] rfl rfl ?_
  refine z_xgI zt35 3 rfl zo35 zzf0_59 X f4 (by decide) (by decide) rfl (fun (x3 : Int32) h2 (h4 : 0 ≤ x3.toInt) (h5 : x3.toInt ≤ 8) => ?_)
  have h6 := z_b32 p1
  refine z_xJ zt35 4 rfl rfl (fun (h7 : p1.toInt < x3.toInt) => ?_) (fun (h7 : x3.toInt ≤ p1.toInt) => ?_)
  · skip
    refine z_xP zt35 6 17 [some (.ref 4), some (.int p1)] [.ref 4] rfl rfl ?_
    refine z_xgX (b := 10) zt35 7 rfl zo35 zzf0_18 X f4 (by decide) (by decide) rfl ?_
    refine z_xP zt35 8 21 [some (.ref 4), some (.int p1)] [.int p1, .ref 10] rfl rfl ?_
    have f10 : T[10]? = some (.inr (10, 2, 8, 9, 0)) := X.1.k rfl (by decide)
    refine z_xal zt35 9 rfl X f10 (by decide) (by decide) (by decide) (by omega) (by omega) (fun (a8 : Nat) h9 h10 => ?_) (fun h11 => absurd h11 (z_Gs (hG.go X (by decide)).2.1 h2 (by omega) (by omega)))
    obtain ⟨q12, t13, m14, k15⟩ : ∃ q t m, T[a8]? = some (.inl (3, q, t, m, 9)) := h10
    have g16 := X.1.p3 k15
    refine z_xra zt35 10 rfl zzr35 ?_
    show z_ev (d + 1) 62 5 [some (.ref 4), some (.int p1), some (.int p2), some (.int p3), none] [.ref a8] M0 _
    refine z_xP zt62 2 12 [some (.ref 4), some (.int p1), some (.int p2), some (.int p3), some (.ref a8)] [] rfl rfl ?_
    refine z_xP zt62 3 15 [some (.ref 4), some (.int p1), some (.int p2), some (.int p3), some (.ref a8)] [.int p2, .ref a8] rfl rfl ?_
    refine z_xcV (vs := [.ref a8, .int p2]) (r := []) (L2 := [some (.ref a8), some (.int p2)]) zt62 4 rfl zo62 zzcV0_142 (Or.inl rfl) rfl X k15 rfl rfl rfl (Nat.le_of_ble_eq_true rfl) zzm56 (Nat.le_of_ble_eq_true rfl) rfl ?_
    refine z_xP zt56 0 1 [some (.ref a8), some (.int p2)] [.int p2] rfl rfl ?_
    refine z_xZ zt56 1 rfl rfl (fun (h17 : p2.toInt < 0) => ?_) (fun (h17 : 0 ≤ p2.toInt) => ?_)
    · skip
      refine z_xP zt56 6 17 [some (.ref a8), some (.int p2)] [.int 0] rfl rfl ?_
      refine z_xrz zt56 7 rfl zzr56 (by decide) (by decide) ?_
      show z_ev (d + 1) 62 18 [some (.ref 4), some (.int p1), some (.int p2), some (.int p3), some (.ref a8)] [.int 0] M0 _
      refine z_xZ zt62 5 rfl rfl (fun (h18 : (0 : Int) ≠ 0) => absurd h18 (by omega)) (fun (h18 : (0 : Int) = 0) => ?_)
      refine z_xP zt62 6 22 [some (.ref 4), some (.int p1), some (.int p2), some (.int p3), some (.ref a8)] [.int (-1)] rfl rfl ?_
      have qm1 : (((-1) : Int32)).toInt = (-1) := rfl
      exact z_xri zt62 7 rfl zzr62 (kk (-1) M0 X (Or.inr ⟨h1, by rw [z_Fv.of h2]; exact h7, a8, q12, t13, m14, h9, k15, Or.inl ⟨qm1, h17⟩⟩))
    refine z_xP zt56 2 6 [some (.ref a8), some (.int p2)] [.ref a8, .int p2] rfl rfl ?_
    refine z_xgI zt56 3 rfl zo56 zzf3_53 X k15 (by decide) (by decide) rfl (fun (x20 : Int32) h19 (h21 : 0 ≤ x20.toInt) (h22 : x20.toInt ≤ (9 : Int)) => ?_)
    have h23 := z_b32 p2
    refine z_xJ zt56 4 rfl rfl (fun (h24 : x20.toInt ≤ p2.toInt) => ?_) (fun (h24 : p2.toInt < x20.toInt) => ?_)
    · skip
      refine z_xP zt56 6 17 [some (.ref a8), some (.int p2)] [.int 0] rfl rfl ?_
      refine z_xrz zt56 7 rfl zzr56 (by decide) (by decide) ?_
      show z_ev (d + 1) 62 18 [some (.ref 4), some (.int p1), some (.int p2), some (.int p3), some (.ref a8)] [.int 0] M0 _
      refine z_xZ zt62 5 rfl rfl (fun (h25 : (0 : Int) ≠ 0) => absurd h25 (by omega)) (fun (h25 : (0 : Int) = 0) => ?_)
      refine z_xP zt62 6 22 [some (.ref 4), some (.int p1), some (.int p2), some (.int p3), some (.ref a8)] [.int (-1)] rfl rfl ?_
      have qm1 : (((-1) : Int32)).toInt = (-1) := rfl
      exact z_xri zt62 7 rfl zzr62 (kk (-1) M0 X (Or.inr ⟨h1, by rw [z_Fv.of h2]; exact h7, a8, q12, t13, m14, h9, k15, Or.inr ⟨x20, h19, Or.inl ⟨qm1, h24⟩⟩⟩))
    refine z_xP zt56 5 17 [some (.ref a8), some (.int p2)] [.int 1] rfl rfl ?_
    refine z_xrz zt56 7 rfl zzr56 (by decide) (by decide) ?_
    show z_ev (d + 1) 62 18 [some (.ref 4), some (.int p1), some (.int p2), some (.int p3), some (.ref a8)] [.int 1] M0 _
    refine z_xZ zt62 5 rfl rfl (fun (h26 : (1 : Int) ≠ 0) => ?_) (fun (h26 : (1 : Int) = 0) => absurd h26 (by omega))
    refine z_xP zt62 8 24 [some (.ref 4), some (.int p1), some (.int p2), some (.int p3), some (.ref a8)] [.int p3] rfl rfl ?_
    by_cases h27 : p3.toInt = 0
    · refine z_xSC zt62 9 (z_sub (k := 0) h27 rfl) 52 rfl rfl ?_
      refine z_xP zt62 10 54 [some (.ref 4), some (.int p1), some (.int p2), some (.int p3), some (.ref a8)] [.ref a8] rfl rfl ?_
      refine z_xgR (κ := .inr (201, 0, 9, (-2147483648), 2147483647)) zt62 11 rfl zo62 zzf0_163 X k15 (by decide) (by decide) rfl (fun (a29 : Nat) h28 k30 => ?_)
      refine z_xP zt62 12 58 [some (.ref 4), some (.int p1), some (.int p2), some (.int p3), some (.ref a8)] [.int p2, .ref a29] rfl rfl ?_
      refine z_xil zt62 13 rfl X k30 (by decide) (by omega) (by omega) (fun (x31 : Int32) h32 (h33 : (-2147483648) ≤ x31.toInt) (h34 : x31.toInt ≤ 2147483647) => ?_)
      exact z_xri zt62 14 rfl zzr62 (kk x31 M0 X (Or.inr ⟨h1, by rw [z_Fv.of h2]; exact h7, a8, q12, t13, m14, h9, k15, Or.inr ⟨x20, h19, Or.inr ⟨h17, h24, Or.inl ⟨h27, a29, h28, h32⟩⟩⟩⟩))
    by_cases h35 : p3.toInt = 1
    · refine z_xSC zt62 9 (z_sub (k := 1) h35 rfl) 60 rfl rfl ?_
      refine z_xP zt62 15 62 [some (.ref 4), some (.int p1), some (.int p2), some (.int p3), some (.ref a8)] [.ref a8] rfl rfl ?_
      refine z_xgR (κ := .inr (202, 0, 9, (-2147483648), 2147483647)) zt62 16 rfl zo62 zzf0_166 X k15 (by decide) (by decide) rfl (fun (a37 : Nat) h36 k38 => ?_)
      refine z_xP zt62 17 66 [some (.ref 4), some (.int p1), some (.int p2), some (.int p3), some (.ref a8)] [.int p2, .ref a37] rfl rfl ?_
      refine z_xil zt62 18 rfl X k38 (by decide) (by omega) (by omega) (fun (x39 : Int32) h40 (h41 : (-2147483648) ≤ x39.toInt) (h42 : x39.toInt ≤ 2147483647) => ?_)
      exact z_xri zt62 19 rfl zzr62 (kk x39 M0 X (Or.inr ⟨h1, by rw [z_Fv.of h2]; exact h7, a8, q12, t13, m14, h9, k15, Or.inr ⟨x20, h19, Or.inr ⟨h17, h24, Or.inr (Or.inl ⟨h35, a37, h36, h40⟩)⟩⟩⟩))
    by_cases h43 : p3.toInt = 2
    · refine z_xSC zt62 9 (z_sub (k := 2) h43 rfl) 68 rfl rfl ?_
      refine z_xP zt62 20 70 [some (.ref 4), some (.int p1), some (.int p2), some (.int p3), some (.ref a8)] [.ref a8] rfl rfl ?_
      refine z_xgR (κ := .inr (203, 0, 9, (-2147483648), 2147483647)) zt62 21 rfl zo62 zzf0_169 X k15 (by decide) (by decide) rfl (fun (a45 : Nat) h44 k46 => ?_)
      refine z_xP zt62 22 74 [some (.ref 4), some (.int p1), some (.int p2), some (.int p3), some (.ref a8)] [.int p2, .ref a45] rfl rfl ?_
      refine z_xil zt62 23 rfl X k46 (by decide) (by omega) (by omega) (fun (x47 : Int32) h48 (h49 : (-2147483648) ≤ x47.toInt) (h50 : x47.toInt ≤ 2147483647) => ?_)
      exact z_xri zt62 24 rfl zzr62 (kk x47 M0 X (Or.inr ⟨h1, by rw [z_Fv.of h2]; exact h7, a8, q12, t13, m14, h9, k15, Or.inr ⟨x20, h19, Or.inr ⟨h17, h24, Or.inr (Or.inr (Or.inl ⟨h43, a45, h44, h48⟩))⟩⟩⟩))
    refine z_xSD zt62 9 rfl rfl (by omega) ?_
    refine z_xP zt62 25 77 [some (.ref 4), some (.int p1), some (.int p2), some (.int p3), some (.ref a8)] [.int (-1)] rfl rfl ?_
    have qm1 : (((-1) : Int32)).toInt = (-1) := rfl
    exact z_xri zt62 26 rfl zzr62 (kk (-1) M0 X (Or.inr ⟨h1, by rw [z_Fv.of h2]; exact h7, a8, q12, t13, m14, h9, k15, Or.inr ⟨x20, h19, Or.inr ⟨h17, h24, Or.inr (Or.inr (Or.inr (⟨qm1, by omega⟩)))⟩⟩⟩))
  refine z_xP zt35 5 22 [some (.ref 4), some (.int p1)] [.null] rfl rfl ?_
  refine z_xrn zt35 10 rfl zzr35 ?_
  show z_ev (d + 1) 62 5 [some (.ref 4), some (.int p1), some (.int p2), some (.int p3), none] [.null] M0 _
  refine z_xP zt62 2 21 [some (.ref 4), some (.int p1), some (.int p2), some (.int p3), some (.null)] [] rfl rfl ?_
  refine z_xP zt62 6 22 [some (.ref 4), some (.int p1), some (.int p2), some (.int p3), some (.null)] [.int (-1)] rfl rfl ?_
  have qm1 : (((-1) : Int32)).toInt = (-1) := rfl
  exact z_xri zt62 7 rfl zzr62 (kk (-1) M0 X (Or.inl ⟨qm1, Or.inr (by rw [z_Fv.of h2]; exact h7)⟩))
theorem zLC227 {T : List zK} {d : Nat} {K : Option Value → zH → Prop} {p1 : Int32} {p2 : Int32} {p3 : Int32} {M0 : zH} (hW : z_W M0 T)  (kk : ∀ (x : Int32) (M1 : zH), z_X T zw227 M0 M1 → y_q227 M0 p1 p2 p3 x → K (some (.int x)) M1) : z_ev (d + 2) 227 0 [some (.ref 19), some (.int p1), some (.int p2), some (.int p3), none] [] M0 K := by
  have X : z_X T zw227 M0 M0 := .refl hW
  refine z_xP zt227 0 3 [some (.ref 19), some (.int p1), some (.int p2), some (.int p3), none] [.int p2, .int p1, .ref 19] rfl rfl ?_
  have f19 : T[19]? = some (.inl (12, 0, 0, 0, 0)) := X.1.k rfl (by decide)
  refine z_xcV (vs := [.ref 19, .int p1, .int p2]) (r := []) (L2 := [some (.ref 19), some (.int p1), some (.int p2)]) zt227 1 rfl zo227 zzcV12_234 (Or.inl rfl) rfl X f19 rfl rfl rfl (Nat.le_of_ble_eq_true rfl) zzm223 (Nat.le_of_ble_eq_true rfl) rfl ?_
  refine z_xP zt223 0 2 [some (.ref 19), some (.int p1), some (.int p2)] [.int p1, .ref 19] rfl rfl ?_
  refine z_xcV (vs := [.ref 19, .int p1]) (r := []) (L2 := [some (.ref 19), some (.int p1)]) zt223 1 rfl zo223 zzcV12_209 (Or.inl rfl) rfl X f19 rfl rfl rfl (Nat.le_of_ble_eq_true rfl) zzm209 (Nat.le_of_ble_eq_true rfl) rfl ?_
  refine z_xP zt209 0 1 [some (.ref 19), some (.int p1)] [.int p1] rfl rfl ?_
  refine z_xZ zt209 1 rfl rfl (fun (h1 : p1.toInt < 0) => ?_) (fun (h1 : 0 ≤ p1.toInt) => ?_)
  · skip
    refine z_xP zt209 6 17 [some (.ref 19), some (.int p1)] [.int 0] rfl rfl ?_
    refine z_xrz zt209 7 rfl zzr209 (by decide) (by decide) ?_
    show z_ev (d + 1) 223 5 [some (.ref 19), some (.int p1), some (.int p2)] [.int 0] M0 _
    refine z_xZ zt223 2 rfl rfl (fun (h2 : (0 : Int) = 0) => ?_) (fun (h2 : (0 : Int) ≠ 0) => absurd h2 (by omega))
    refine z_xP zt223 11 27 [some (.ref 19), some (.int p1), some (.int p2)] [.int 0] rfl rfl ?_
    refine z_xrz zt223 12 rfl zzr223 (by decide) (by decide) ?_
    show z_ev (d + 2) 227 6 [some (.ref 19), some (.int p1), some (.int p2), some (.int p3), none] [.int 0] M0 _
    refine z_xZ zt227 2 rfl rfl (fun (h3 : (0 : Int) = 0) => ?_) (fun (h3 : (0 : Int) ≠ 0) => absurd h3 (by omega))
    refine z_xP zt227 9 22 [some (.ref 19), some (.int p1), some (.int p2), some (.int p3), none] [.int (-1)] rfl rfl ?_
    have qm1 : (((-1) : Int32)).toInt = (-1) := rfl
    exact z_xri zt227 10 rfl zzr227 (kk (-1) M0 X (Or.inl ⟨qm1, Or.inl h1⟩))
  refine z_xP zt209 2 6 [some (.ref 19), some (.int p1)] [.ref 19, .int p1] rfl rfl ?_
  refine z_xgI zt209 3 rfl zo209 zzf12_110 X f19 (by decide) (by decide) rfl (fun (x5 : Int32) h4 (h6 : 0 ≤ x5.toInt) (h7 : x5.toInt ≤ 8) => ?_)
  have h8 := z_b32 p1
  refine z_xJ zt209 4 rfl rfl (fun (h9 : x5.toInt ≤ p1.toInt) => ?_) (fun (h9 : p1.toInt < x5.toInt) => ?_)
  · skip
    refine z_xP zt209 6 17 [some (.ref 19), some (.int p1)] [.int 0] rfl rfl ?_
    refine z_xrz zt209 7 rfl zzr209 (by decide) (by decide) ?_
    show z_ev (d + 1) 223 5 [some (.ref 19), some (.int p1), some (.int p2)] [.int 0] M0 _
    refine z_xZ zt223 2 rfl rfl (fun (h10 : (0 : Int) = 0) => ?_) (fun (h10 : (0 : Int) ≠ 0) => absurd h10 (by omega))
    refine z_xP zt223 11 27 [some (.ref 19), some (.int p1), some (.int p2)] [.int 0] rfl rfl ?_
    refine z_xrz zt223 12 rfl zzr223 (by decide) (by decide) ?_
    show z_ev (d + 2) 227 6 [some (.ref 19), some (.int p1), some (.int p2), some (.int p3), none] [.int 0] M0 _
    refine z_xZ zt227 2 rfl rfl (fun (h11 : (0 : Int) = 0) => ?_) (fun (h11 : (0 : Int) ≠ 0) => absurd h11 (by omega))
    refine z_xP zt227 9 22 [some (.ref 19), some (.int p1), some (.int p2), some (.int p3), none] [.int (-1)] rfl rfl ?_
    have qm1 : (((-1) : Int32)).toInt = (-1) := rfl
    exact z_xri zt227 10 rfl zzr227 (kk (-1) M0 X (Or.inl ⟨qm1, Or.inr (by rw [z_Fv.of h4]; exact h9)⟩))
  refine z_xP zt209 5 17 [some (.ref 19), some (.int p1)] [.int 1] rfl rfl ?_
  refine z_xrz zt209 7 rfl zzr209 (by decide) (by decide) ?_
  show z_ev (d + 1) 223 5 [some (.ref 19), some (.int p1), some (.int p2)] [.int 1] M0 _
  refine z_xZ zt223 2 rfl rfl (fun (h12 : (1 : Int) = 0) => absurd h12 (by omega)) (fun (h12 : (1 : Int) ≠ 0) => ?_)
  refine z_xP zt223 3 9 [some (.ref 19), some (.int p1), some (.int p2)] [.int p2] rfl rfl ?_
  refine z_xZ zt223 4 rfl rfl (fun (h13 : p2.toInt < 0) => ?_) (fun (h13 : 0 ≤ p2.toInt) => ?_)
  · skip
    refine z_xP zt223 11 27 [some (.ref 19), some (.int p1), some (.int p2)] [.int 0] rfl rfl ?_
    refine z_xrz zt223 12 rfl zzr223 (by decide) (by decide) ?_
    show z_ev (d + 2) 227 6 [some (.ref 19), some (.int p1), some (.int p2), some (.int p3), none] [.int 0] M0 _
    refine z_xZ zt227 2 rfl rfl (fun (h14 : (0 : Int) = 0) => ?_) (fun (h14 : (0 : Int) ≠ 0) => absurd h14 (by omega))
    refine z_xP zt227 9 22 [some (.ref 19), some (.int p1), some (.int p2), some (.int p3), none] [.int (-1)] rfl rfl ?_
    have qm1 : (((-1) : Int32)).toInt = (-1) := rfl
    exact z_xri zt227 10 rfl zzr227 (kk (-1) M0 X (Or.inr ⟨h1, by rw [z_Fv.of h4]; exact h9, Or.inl ⟨qm1, Or.inl h13⟩⟩))
  refine z_xP zt223 5 14 [some (.ref 19), some (.int p1), some (.int p2)] [.ref 19, .int p2] rfl rfl ?_
  refine z_xgX (b := 35) zt223 6 rfl zo223 zzf12_55 X f19 (by decide) (by decide) rfl ?_
  refine z_xP zt223 7 18 [some (.ref 19), some (.int p1), some (.int p2)] [.int p1, .ref 35, .int p2] rfl rfl ?_
  have f35 : T[35]? = some (.inr (35, 0, 8, 0, 9)) := X.1.k rfl (by decide)
  refine z_xil zt223 8 rfl X f35 (by decide) (by omega) (by omega) (fun (x15 : Int32) h16 (h17 : 0 ≤ x15.toInt) (h18 : x15.toInt ≤ 9) => ?_)
  have h19 := z_b32 p2
  refine z_xJ zt223 9 rfl rfl (fun (h20 : x15.toInt ≤ p2.toInt) => ?_) (fun (h20 : p2.toInt < x15.toInt) => ?_)
  · skip
    refine z_xP zt223 11 27 [some (.ref 19), some (.int p1), some (.int p2)] [.int 0] rfl rfl ?_
    refine z_xrz zt223 12 rfl zzr223 (by decide) (by decide) ?_
    show z_ev (d + 2) 227 6 [some (.ref 19), some (.int p1), some (.int p2), some (.int p3), none] [.int 0] M0 _
    refine z_xZ zt227 2 rfl rfl (fun (h21 : (0 : Int) = 0) => ?_) (fun (h21 : (0 : Int) ≠ 0) => absurd h21 (by omega))
    refine z_xP zt227 9 22 [some (.ref 19), some (.int p1), some (.int p2), some (.int p3), none] [.int (-1)] rfl rfl ?_
    have qm1 : (((-1) : Int32)).toInt = (-1) := rfl
    exact z_xri zt227 10 rfl zzr227 (kk (-1) M0 X (Or.inr ⟨h1, by rw [z_Fv.of h4]; exact h9, Or.inl ⟨qm1, Or.inr (by rw [h16]; exact h20)⟩⟩))
  refine z_xP zt223 10 27 [some (.ref 19), some (.int p1), some (.int p2)] [.int 1] rfl rfl ?_
  refine z_xrz zt223 12 rfl zzr223 (by decide) (by decide) ?_
  show z_ev (d + 2) 227 6 [some (.ref 19), some (.int p1), some (.int p2), some (.int p3), none] [.int 1] M0 _
  refine z_xZ zt227 2 rfl rfl (fun (h22 : (1 : Int) = 0) => absurd h22 (by omega)) (fun (h22 : (1 : Int) ≠ 0) => ?_)
  refine z_xP zt227 3 10 [some (.ref 19), some (.int p1), some (.int p2), some (.int p3), none] [.int p3] rfl rfl ?_
  have h23 := z_b32 p3
  refine z_xL zt227 4 rfl rfl (fun (y24 : Int64) (h25 : y24.toInt = p3.toInt) => ?_) (z_qI2L rfl)
  refine z_xP zt227 5 12 [some (.ref 19), some (.int p1), some (.int p2), some (.int p3), none] [.long 0, .long y24] rfl rfl ?_
  refine z_xl2 zt227 6 rfl zo227 zkl12_240 ?_
  refine z_xcS (vs := [.long y24, .long 0, .long 2]) (r := []) (L2 := [some (.long y24), none, some (.long 0), none, some (.long 2), none]) zt227 7 rfl zo227 zzcS12_116 (Or.inl rfl) (Nat.le_of_ble_eq_true rfl) rfl rfl (Nat.le_of_ble_eq_true rfl) zzm189 (Nat.le_of_ble_eq_true rfl) rfl ?_
  refine z_xP zt189 0 2 [some (.long y24), none, some (.long 0), none, some (.long 2), none] [.long 0, .long y24] rfl rfl ?_
  refine z_xI zt189 1 rfl rfl (fun (x26 : Int32) (h27 : (x26.toInt < 0 ∧ y24.toInt < 0) ∨ (x26.toInt = 0 ∧ y24.toInt = 0) ∨ (0 < x26.toInt ∧ 0 < y24.toInt)) => ?_) (z_qCmp rfl rfl)
  refine z_xZ zt189 2 rfl rfl (fun (h28 : x26.toInt < 0) => ?_) (fun (h28 : 0 ≤ x26.toInt) => ?_)
  · skip
    refine z_xP zt189 7 18 [some (.long y24), none, some (.long 0), none, some (.long 2), none] [.int 0] rfl rfl ?_
    refine z_xrz zt189 8 rfl zzr189 (by decide) (by decide) ?_
    show z_ev (d + 2) 227 18 [some (.ref 19), some (.int p1), some (.int p2), some (.int p3), none] [.int 0] M0 _
    refine z_xZ zt227 8 rfl rfl (fun (h29 : (0 : Int) ≠ 0) => absurd h29 (by omega)) (fun (h29 : (0 : Int) = 0) => ?_)
    refine z_xP zt227 9 22 [some (.ref 19), some (.int p1), some (.int p2), some (.int p3), none] [.int (-1)] rfl rfl ?_
    have qm1 : (((-1) : Int32)).toInt = (-1) := rfl
    exact z_xri zt227 10 rfl zzr227 (kk (-1) M0 X (Or.inr ⟨h1, by rw [z_Fv.of h4]; exact h9, Or.inr ⟨h13, by rw [h16]; exact h20, Or.inr (Or.inr (Or.inr (⟨qm1, by omega⟩)))⟩⟩))
  refine z_xP zt189 3 9 [some (.long y24), none, some (.long 0), none, some (.long 2), none] [.long 2, .long y24] rfl rfl ?_
  refine z_xI zt189 4 rfl rfl (fun (x30 : Int32) (h31 : (x30.toInt < 0 ∧ y24.toInt < 2) ∨ (x30.toInt = 0 ∧ y24.toInt = 2) ∨ (0 < x30.toInt ∧ 2 < y24.toInt)) => ?_) (z_qCmp rfl rfl)
  refine z_xZ zt189 5 rfl rfl (fun (h32 : 0 < x30.toInt) => ?_) (fun (h32 : x30.toInt ≤ 0) => ?_)
  · skip
    refine z_xP zt189 7 18 [some (.long y24), none, some (.long 0), none, some (.long 2), none] [.int 0] rfl rfl ?_
    refine z_xrz zt189 8 rfl zzr189 (by decide) (by decide) ?_
    show z_ev (d + 2) 227 18 [some (.ref 19), some (.int p1), some (.int p2), some (.int p3), none] [.int 0] M0 _
    refine z_xZ zt227 8 rfl rfl (fun (h33 : (0 : Int) ≠ 0) => absurd h33 (by omega)) (fun (h33 : (0 : Int) = 0) => ?_)
    refine z_xP zt227 9 22 [some (.ref 19), some (.int p1), some (.int p2), some (.int p3), none] [.int (-1)] rfl rfl ?_
    have qm1 : (((-1) : Int32)).toInt = (-1) := rfl
    exact z_xri zt227 10 rfl zzr227 (kk (-1) M0 X (Or.inr ⟨h1, by rw [z_Fv.of h4]; exact h9, Or.inr ⟨h13, by rw [h16]; exact h20, Or.inr (Or.inr (Or.inr (⟨qm1, by omega⟩)))⟩⟩))
  refine z_xP zt189 6 18 [some (.long y24), none, some (.long 0), none, some (.long 2), none] [.int 1] rfl rfl ?_
  refine z_xrz zt189 8 rfl zzr189 (by decide) (by decide) ?_
  show z_ev (d + 2) 227 18 [some (.ref 19), some (.int p1), some (.int p2), some (.int p3), none] [.int 1] M0 _
  refine z_xZ zt227 8 rfl rfl (fun (h34 : (1 : Int) ≠ 0) => ?_) (fun (h34 : (1 : Int) = 0) => absurd h34 (by omega))
  refine z_xP zt227 11 26 [some (.ref 19), some (.int p1), some (.int p2), some (.int p3), none] [.int p1, .int 9] rfl rfl ?_
  refine z_xI zt227 12 rfl rfl (fun (x35 : Int32) (h36 : x35.toInt = 9 * p1.toInt) => ?_) (z_pMul rfl rfl (by omega) (by omega))
  refine z_xP zt227 13 28 [some (.ref 19), some (.int p1), some (.int p2), some (.int p3), none] [.int p2, .int x35] rfl rfl ?_
  refine z_xI zt227 14 rfl rfl (fun (x37 : Int32) (h38 : x37.toInt = x35.toInt + p2.toInt) => ?_) (z_pAdd rfl rfl (by omega) (by omega))
  refine z_xP zt227 15 32 [some (.ref 19), some (.int p1), some (.int p2), some (.int p3), some (.int x37)] [.int p3] rfl rfl ?_
  refine z_xZ zt227 16 rfl rfl (fun (h39 : p3.toInt ≠ 0) => ?_) (fun (h39 : p3.toInt = 0) => ?_)
  · skip
    refine z_xP zt227 22 47 [some (.ref 19), some (.int p1), some (.int p2), some (.int p3), some (.int x37)] [.int 1, .int p3] rfl rfl ?_
    refine z_xJ zt227 23 rfl rfl (fun (h40 : p3.toInt ≠ 1) => ?_) (fun (h40 : p3.toInt = 1) => ?_)
    · skip
      refine z_xP zt227 29 61 [some (.ref 19), some (.int p1), some (.int p2), some (.int p3), some (.int x37)] [.ref 19] rfl rfl ?_
      refine z_xgX (b := 34) zt227 30 rfl zo227 zzf12_52 X f19 (by decide) (by decide) rfl ?_
      refine z_xP zt227 31 66 [some (.ref 19), some (.int p1), some (.int p2), some (.int p3), some (.int x37)] [.int x37, .ref 34] rfl rfl ?_
      have f34 : T[34]? = some (.inr (34, 0, 72, (-2147483648), 2147483647)) := X.1.k rfl (by decide)
      refine z_xil zt227 32 rfl X f34 (by decide) (by omega) (by omega) (fun (x41 : Int32) h42 (h43 : (-2147483648) ≤ x41.toInt) (h44 : x41.toInt ≤ 2147483647) => ?_)
      exact z_xri zt227 33 rfl zzr227 (kk x41 M0 X (Or.inr ⟨h1, by rw [z_Fv.of h4]; exact h9, Or.inr ⟨h13, by rw [h16]; exact h20, Or.inr (Or.inr (Or.inl ⟨by omega, by rw [show 9 * p1.toNatClampNeg + p2.toNatClampNeg = x37.toNatClampNeg from by unfold Int32.toNatClampNeg; omega]; exact h42⟩))⟩⟩))
    refine z_xP zt227 24 51 [some (.ref 19), some (.int p1), some (.int p2), some (.int p3), some (.int x37)] [.ref 19] rfl rfl ?_
    refine z_xgX (b := 33) zt227 25 rfl zo227 zzf12_49 X f19 (by decide) (by decide) rfl ?_
    refine z_xP zt227 26 56 [some (.ref 19), some (.int p1), some (.int p2), some (.int p3), some (.int x37)] [.int x37, .ref 33] rfl rfl ?_
    have f33 : T[33]? = some (.inr (33, 0, 72, (-2147483648), 2147483647)) := X.1.k rfl (by decide)
    refine z_xil zt227 27 rfl X f33 (by decide) (by omega) (by omega) (fun (x45 : Int32) h46 (h47 : (-2147483648) ≤ x45.toInt) (h48 : x45.toInt ≤ 2147483647) => ?_)
    refine z_xP zt227 28 67 [some (.ref 19), some (.int p1), some (.int p2), some (.int p3), some (.int x37)] [.int x45] rfl rfl ?_
    exact z_xri zt227 33 rfl zzr227 (kk x45 M0 X (Or.inr ⟨h1, by rw [z_Fv.of h4]; exact h9, Or.inr ⟨h13, by rw [h16]; exact h20, Or.inr (Or.inl ⟨h40, by rw [show 9 * p1.toNatClampNeg + p2.toNatClampNeg = x37.toNatClampNeg from by unfold Int32.toNatClampNeg; omega]; exact h46⟩)⟩⟩))
  refine z_xP zt227 17 36 [some (.ref 19), some (.int p1), some (.int p2), some (.int p3), some (.int x37)] [.ref 19] rfl rfl ?_
  refine z_xgX (b := 32) zt227 18 rfl zo227 zzf12_46 X f19 (by decide) (by decide) rfl ?_
  refine z_xP zt227 19 41 [some (.ref 19), some (.int p1), some (.int p2), some (.int p3), some (.int x37)] [.int x37, .ref 32] rfl rfl ?_
  have f32 : T[32]? = some (.inr (32, 0, 72, (-2147483648), 2147483647)) := X.1.k rfl (by decide)
  refine z_xil zt227 20 rfl X f32 (by decide) (by omega) (by omega) (fun (x49 : Int32) h50 (h51 : (-2147483648) ≤ x49.toInt) (h52 : x49.toInt ≤ 2147483647) => ?_)
  refine z_xP zt227 21 67 [some (.ref 19), some (.int p1), some (.int p2), some (.int p3), some (.int x37)] [.int x49] rfl rfl ?_
  exact z_xri zt227 33 rfl zzr227 (kk x49 M0 X (Or.inr ⟨h1, by rw [z_Fv.of h4]; exact h9, Or.inr ⟨h13, by rw [h16]; exact h20, Or.inl ⟨h39, by rw [show 9 * p1.toNatClampNeg + p2.toNatClampNeg = x37.toNatClampNeg from by unfold Int32.toNatClampNeg; omega]; exact h50⟩⟩⟩))
theorem z_ojs {M M1 : zH} {b a J : Nat} {w yy n : Nat → Int32} {p2 p3 y z : Int32} (b1 : z_F M b 1 = some (.ref (b + 1))) (b2 : z_F M b 2 = some (.ref (b + 2))) (b3 : z_F M b 3 = some (.ref (b + 3))) (g4 : z_CB M b J w yy n) (g5 : y_CB M1 a J w yy n) (h1 : z_ojc M b p2 p3 y) (h2 : y_ojc M1 a p2 p3 z) : y = z := by
  obtain ⟨⟨xj, fj, ej⟩, g4⟩ := g4
  obtain ⟨eJ, g5⟩ := g5
  unfold y_ojc at h2
  rw [eJ] at h2
  have h3 : (y.toInt = -1 ∧ (p2.toInt < 0 ∨ (J : Int) ≤ p2.toInt)) ∨ (0 ≤ p2.toInt ∧ p2.toInt < (J : Int) ∧ ((p3.toInt = 0 ∧ w p2.toNatClampNeg = y) ∨ (p3.toInt = 1 ∧ yy p2.toNatClampNeg = y) ∨ (p3.toInt = 2 ∧ n p2.toNatClampNeg = y) ∨ (y.toInt = -1 ∧ (p3.toInt < 0 ∨ 2 < p3.toInt)))) := by
    rcases h1 with ⟨h1, c1⟩ | ⟨jv, f4, h1⟩
    · exact Or.inl ⟨h1, Or.inl c1⟩
    · rw [z_ive f4 fj, ej] at h1
      rcases h1 with ⟨h1, c1⟩ | ⟨c1, c2, h1⟩
      · exact Or.inl ⟨h1, Or.inr c1⟩
      · have hj := g4 p2.toNatClampNeg (by unfold Int32.toNatClampNeg; omega)
        refine Or.inr ⟨c1, c2, ?_⟩
        rcases h1 with ⟨c, a1, d, e⟩ | ⟨c, a1, d, e⟩ | ⟨c, a1, d, e⟩ | h1
        · rw [← z_rfe b1 d, hj.1] at e
          exact Or.inl ⟨c, e⟩
        · rw [← z_rfe b2 d, hj.2.1] at e
          exact Or.inr (Or.inl ⟨c, e⟩)
        · rw [← z_rfe b3 d, hj.2.2] at e
          exact Or.inr (Or.inr (Or.inl ⟨c, e⟩))
        · exact Or.inr (Or.inr (Or.inr h1))
  clear h1
  rcases h3 with ⟨h3, c1⟩ | ⟨c1, c2, h3⟩
  · rcases h2 with ⟨h2, d1⟩ | ⟨d1, d2, h2⟩
    · exact Int32.toInt_inj.mp (h3.trans h2.symm)
    · exfalso; omega
  · rcases h2 with ⟨h2, d1⟩ | ⟨d1, d2, h2⟩
    · exfalso; omega
    · have hj := g5 p2.toNatClampNeg (by unfold Int32.toNatClampNeg; omega)
      rw [hj.1, hj.2.1, hj.2.2] at h2
      rcases h3 with ⟨c, e⟩ | ⟨c, e⟩ | ⟨c, e⟩ | ⟨e, c⟩ <;> rcases h2 with ⟨c3, e2⟩ | ⟨c3, e2⟩ | ⟨c3, e2⟩ | ⟨e2, c3⟩ <;> first | exact e.symm.trans e2 | exact Int32.toInt_inj.mp (e.trans e2.symm) | (exfalso; omega)
theorem z_same12 {T : List zK} {M M1 : zH} {x1 x2 x3 y z : Int32} {rs : List Nat} (h7 : z_R7 T M) (hW : z_W M T) (ke : z_ke T rs M M1) (hc : (([32, 33, 34, 35] : List Nat).all fun x => !rs.elem x) = true) (hA2 : (z_Fv M1 19 13).toInt = (z_Fv M 4 3).toInt) (h1 : z_q62 T M x1 x2 x3 y) (h2 : y_q227 M1 x1 x2 x3 z) : y = z := by
  have k4 : T[4]? = some (.inl (0, 0, 0, 0, 0)) := hW.k rfl (by decide)
  obtain ⟨A, hA, _, _⟩ := hW.fi k4 (k := 3) (lo := 0) (hi := 8) (by decide) rfl
  have eA := z_Fv.of hA
  unfold y_q227 at h2
  rw [hA2] at h2
  unfold z_q62 at h1
  rw [eA] at h1 h2
  rcases h1 with ⟨h1, h3⟩ | ⟨a1, a2, b, q, t, m, ob, kb, h1⟩
  · rcases h2 with ⟨h2, _⟩ | ⟨b1, b2, _⟩
    · exact Int32.toInt_inj.mp (h1.trans h2.symm)
    · exfalso; omega
  · rcases h2 with ⟨_, h2⟩ | ⟨_, _, h2⟩
    · exfalso; omega
    · have ex : (x1.toNatClampNeg : Int) = x1.toInt := by unfold Int32.toNatClampNeg; omega
      obtain ⟨b2, q2, t2, m2, g1, g2, J, w, yy, n, g3, g4, g5, g6⟩ := (h7.2 A hA).1 x1.toNatClampNeg (by omega)
      obtain rfl : b = b2 := Option.some.inj (ob.symm.trans g1)
      have hb := h7.1 _ _ _ _ _ kb
      exact z_ojs hb.1 hb.2.1 hb.2.2.1 g4 (g5.ke hW ke hc) h1 h2
def z_Q12 (I : zH → Prop) : Prop := ∀ (x1 : Int32) (x2 : Int32) (x3 : Int32) (M : zH), I M → z_ev 2046 62 0 (z_ent [.ref 4, .int x1, .int x2, .int x3] (z_ml 62)) [] M fun v M1 => (∃ y, v = some (.int y)) ∧ z_ev 2046 227 0 (z_ent [.ref 19, .int x1, .int x2, .int x3] (z_ml 227)) [] M1 fun v2 M2 => (∃ y, v2 = some (.int y)) ∧ v = v2 ∧ I M2 ∧ M2.length ≤ M.length + 1171 ∧ z_szr M2 ≤ z_szr M + 14000
theorem zS12 : z_Q12 z_J := by
  intro x1 x2 x3 M ⟨T, hA, hR⟩
  refine z_J.two (r1 := zw62) (r2 := zw227) (C := fun v v2 => v = v2) hA hR rfl rfl ?_
  rw [zzm62]
  show z_ev 2046 62 0 [some (.ref 4), some (.int x1), some (.int x2), some (.int x3), none] [] M _
  refine zLC62 (d := 2045) hA.1.1 hA.1 fun y M1 X1 h1 => ?_
  have hB := z_kee hA X1 (by decide)
  refine ⟨⟨y, rfl⟩, X1, ?_⟩
  rw [zzm227]
  show z_ev 2046 227 0 [some (.ref 19), some (.int x1), some (.int x2), some (.int x3), none] [] M1 _
  refine zLC227 (d := 2044) hB.1.1 fun z M2 X2 h2 => ?_
  have k19 : T[19]? = some (.inl (12, 0, 0, 0, 0)) := hA.1.1.k rfl (by decide)
  exact ⟨⟨z, rfl⟩, by rw [z_same12 hR.2.2 hA.1.1 X1.2 rfl ((congrArg Int32.toInt (z_FvK (X1.2.1 19 12 0 0 0 0 13 k19 (by decide)))).trans (z_R5.v hR.1).2.1) h1 h2], X2⟩
