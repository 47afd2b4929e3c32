/-! twisted: what is remembered is made once -/
theorem zw0_12 : ((z_cl[0]?).map fun w => (w.2.1 12).2.2.2) = some false := by decide +kernel
theorem zzm119 : z_ml 119 = 6 := by decide +kernel
theorem zzm263 : z_ml 263 = 9 := by decide +kernel
def zw119 : List Nat := [201, 202, 203, 205, 206, 207, 208, 209, 210, 300, 1304]
theorem zC119 {T : List zK} {d : Nat} {K : Option Value → zH → Prop} {p1 : Int32} {p2 : Int32} {p3 : Int32} {M0 : zH} (hW : z_W M0 T) (hT : ∀ (b c : Nat) (A : Int32), 4 ≤ c ∧ c ≤ 11 → T[b]? = some (.inl (c, 0, 0, 0, 0)) → z_F M0 4 3 = some (.int A) → 0 ≤ p2.toInt → p2.toInt < A.toInt → A.toInt ≤ 8 → 1 ≤ p3.toInt → p3.toInt ≤ 5 → z_F M0 4 12 = some .null → z_ev (d + 7) 119 37 [some (.ref 4), some (.int p1), some (.int p2), some (.int p3), some (.ref b), some (.int 0)] [] M0 K) (hG : z_GG T M0) (kk : ∀ (x : Int32) (M1 : zH), z_X T zw119 M0 M1 → K (some (.int x)) M1) : z_ev (d + 7) 119 0 [some (.ref 4), some (.int p1), some (.int p2), some (.int p3), none, none] [] M0 K := by
  have X : z_X T zw119 M0 M0 := .refl hW
  refine z_xP zt119 0 2 [some (.ref 4), some (.int p1), some (.int p2), some (.int p3), none, none] [.int p1, .ref 4] rfl rfl ?_
  have f4 : T[4]? = some (.inl (0, 0, 0, 0, 0)) := X.1.k rfl (by decide)
  refine z_xcV (vs := [.ref 4, .int p1]) (r := []) (L2 := [some (.ref 4), some (.int p1)]) zt119 1 rfl zo119 zzcV0_221 (Or.inl rfl) rfl X f4 rfl rfl rfl (Nat.le_of_ble_eq_true rfl) zzm84 (Nat.le_of_ble_eq_true rfl) rfl ?_
  refine z_xP zt84 0 1 [some (.ref 4), some (.int p1)] [.int p1] rfl rfl ?_
  refine z_xZ zt84 1 rfl rfl (fun (h1 : p1.toInt < 0) => ?_) (fun (h1 : 0 ≤ p1.toInt) => ?_)
  · skip
    refine z_xP zt84 5 22 [some (.ref 4), some (.int p1)] [.null] rfl rfl ?_
    refine z_xrn zt84 10 rfl zzr84 ?_
    show z_ev (d + 7) 119 5 [some (.ref 4), some (.int p1), some (.int p2), some (.int p3), none, none] [.null] M0 _
    refine z_xP zt119 2 12 [some (.ref 4), some (.int p1), some (.int p2), some (.int p3), some (.null), none] [] rfl rfl ?_
    refine z_xP zt119 3 13 [some (.ref 4), some (.int p1), some (.int p2), some (.int p3), some (.null), none] [.int (-1)] rfl rfl ?_
    have qm1 : (((-1) : Int32)).toInt = (-1) := rfl
    exact z_xri zt119 4 rfl zzr119 (kk (-1) M0 X)
  refine z_xP zt84 2 6 [some (.ref 4), some (.int p1)] [.ref 4, .int p1] rfl rfl ?_
  refine z_xgI zt84 3 rfl zo84 zzf0_188 X f4 (by decide) (by decide) rfl (fun (x3 : Int32) h2 (h4 : 0 ≤ x3.toInt) (h5 : x3.toInt ≤ 20) => ?_)
  have h6 := z_b32 p1
  refine z_xJ zt84 4 rfl rfl (fun (h7 : p1.toInt < x3.toInt) => ?_) (fun (h7 : x3.toInt ≤ p1.toInt) => ?_)
  · skip
    refine z_xP zt84 6 17 [some (.ref 4), some (.int p1)] [.ref 4] rfl rfl ?_
    refine z_xgX (b := 12) zt84 7 rfl zo84 zzf0_27 X f4 (by decide) (by decide) rfl ?_
    refine z_xP zt84 8 21 [some (.ref 4), some (.int p1)] [.int p1, .ref 12] rfl rfl ?_
    have f12 : T[12]? = some (.inr (12, 3, 20, 0, 0)) := X.1.k rfl (by decide)
    refine z_xal zt84 9 rfl X f12 (by decide) (by decide) (by decide) (by omega) (by omega) (fun (a8 : Nat) h9 h10 => ?_) (fun h11 => absurd h11 (z_Gb (hG.go X (by decide)).2.1 h2 (by omega) (by omega)))
    obtain ⟨c12, w13l, w13u, k14⟩ : ∃ ci, 4 ≤ ci ∧ ci ≤ 11 ∧ T[a8]? = some (.inl (ci, 0, 0, 0, 0)) := h10
    have w13 := And.intro w13l w13u
    refine z_xra zt84 10 rfl zzr84 ?_
    show z_ev (d + 7) 119 5 [some (.ref 4), some (.int p1), some (.int p2), some (.int p3), none, none] [.ref a8] M0 _
    refine z_xP zt119 2 14 [some (.ref 4), some (.int p1), some (.int p2), some (.int p3), some (.ref a8), none] [] rfl rfl ?_
    refine z_xP zt119 5 17 [some (.ref 4), some (.int p1), some (.int p2), some (.int p3), some (.ref a8), none] [.int p3, .int p2, .ref 4] rfl rfl ?_
    refine z_xcV (vs := [.ref 4, .int p2, .int p3]) (r := []) (L2 := [some (.ref 4), some (.int p2), some (.int p3), none]) zt119 6 rfl zo119 zzcV0_241 (Or.inl rfl) rfl X f4 rfl rfl rfl (Nat.le_of_ble_eq_true rfl) zzm103 (Nat.le_of_ble_eq_true rfl) rfl ?_
    refine z_xP zt103 0 2 [some (.ref 4), some (.int p2), some (.int p3), none] [.int p2, .ref 4] rfl rfl ?_
    refine z_xcV (vs := [.ref 4, .int p2]) (r := []) (L2 := [some (.ref 4), some (.int p2)]) zt103 1 rfl zo103 zzcV0_108 (Or.inl rfl) rfl X f4 rfl rfl rfl (Nat.le_of_ble_eq_true rfl) zzm37 (Nat.le_of_ble_eq_true rfl) rfl ?_
    refine z_xP zt37 0 1 [some (.ref 4), some (.int p2)] [.int p2] rfl rfl ?_
    refine z_xZ zt37 1 rfl rfl (fun (h15 : p2.toInt < 0) => ?_) (fun (h15 : 0 ≤ p2.toInt) => ?_)
    · skip
      refine z_xP zt37 5 25 [some (.ref 4), some (.int p2)] [.null] rfl rfl ?_
      refine z_xrn zt37 11 rfl zzr37 ?_
      show z_ev (d + 6) 103 5 [some (.ref 4), some (.int p2), some (.int p3), none] [.null] M0 _
      refine z_xP zt103 2 20 [some (.ref 4), some (.int p2), some (.int p3), some (.null)] [] rfl rfl ?_
      refine z_xP zt103 7 21 [some (.ref 4), some (.int p2), some (.int p3), some (.null)] [.int (-1)] rfl rfl ?_
      refine z_xri zt103 8 rfl zzr103 ?_
      show z_ev (d + 7) 119 20 [some (.ref 4), some (.int p1), some (.int p2), some (.int p3), some (.ref a8), none] [.int (-1)] M0 _
      refine z_xP zt119 7 24 [some (.ref 4), some (.int p1), some (.int p2), some (.int p3), some (.ref a8), some (.int (-1))] [.int (-1)] rfl rfl ?_
      refine z_xZ zt119 8 rfl rfl (fun (h16 : ((-1) : Int) = 0) => absurd h16 (by omega)) (fun (h16 : ((-1) : Int) ≠ 0) => ?_)
      refine z_xP zt119 9 29 [some (.ref 4), some (.int p1), some (.int p2), some (.int p3), some (.ref a8), some (.int (-1))] [.int (-1)] rfl rfl ?_
      have qm1 : (((-1) : Int32)).toInt = (-1) := rfl
      exact z_xri zt119 10 rfl zzr119 (kk (-1) M0 X)
    refine z_xP zt37 2 6 [some (.ref 4), some (.int p2)] [.ref 4, .int p2] rfl rfl ?_
    refine z_xgI zt37 3 rfl zo37 zzf0_59 X f4 (by decide) (by decide) rfl (fun (x18 : Int32) h17 (h19 : 0 ≤ x18.toInt) (h20 : x18.toInt ≤ 8) => ?_)
    have h21 := z_b32 p2
    refine z_xJ zt37 4 rfl rfl (fun (h22 : p2.toInt < x18.toInt) => ?_) (fun (h22 : x18.toInt ≤ p2.toInt) => ?_)
    · skip
      refine z_xP zt37 6 17 [some (.ref 4), some (.int p2)] [.ref 4] rfl rfl ?_
      refine z_xgX (b := 10) zt37 7 rfl zo37 zzf0_18 X f4 (by decide) (by decide) rfl ?_
      refine z_xP zt37 8 21 [some (.ref 4), some (.int p2)] [.int p2, .ref 10] rfl rfl ?_
      have f10 : T[10]? = some (.inr (10, 2, 8, 9, 0)) := X.1.k rfl (by decide)
      refine z_xal zt37 9 rfl X f10 (by decide) (by decide) (by decide) (by omega) (by omega) (fun (a23 : Nat) h24 h25 => ?_) (fun h26 => absurd h26 (z_Gs (hG.go X (by decide)).2.1 h17 (by omega) (by omega)))
      obtain ⟨q27, t28, m29, k30⟩ : ∃ q t m, T[a23]? = some (.inl (3, q, t, m, 9)) := h25
      have g31 := X.1.p3 k30
      refine z_xgR (κ := .inl (2, q27, t28, m29, 0)) zt37 10 rfl zo37 zzf0_89 X k30 (by decide) (by decide) rfl (fun (a33 : Nat) h32 k34 => ?_)
      have g35 := X.1.p2 k34
      refine z_xra zt37 11 rfl zzr37 ?_
      show z_ev (d + 6) 103 5 [some (.ref 4), some (.int p2), some (.int p3), none] [.ref a33] M0 _
      refine z_xP zt103 2 10 [some (.ref 4), some (.int p2), some (.int p3), some (.ref a33)] [] rfl rfl ?_
      refine z_xP zt103 3 12 [some (.ref 4), some (.int p2), some (.int p3), some (.ref a33)] [.int 1, .int p3] rfl rfl ?_
      refine z_xJ zt103 4 rfl rfl (fun (h36 : p3.toInt < 1) => ?_) (fun (h36 : 1 ≤ p3.toInt) => ?_)
      · skip
        refine z_xP zt103 7 21 [some (.ref 4), some (.int p2), some (.int p3), some (.ref a33)] [.int (-1)] rfl rfl ?_
        refine z_xri zt103 8 rfl zzr103 ?_
        show z_ev (d + 7) 119 20 [some (.ref 4), some (.int p1), some (.int p2), some (.int p3), some (.ref a8), none] [.int (-1)] M0 _
        refine z_xP zt119 7 24 [some (.ref 4), some (.int p1), some (.int p2), some (.int p3), some (.ref a8), some (.int (-1))] [.int (-1)] rfl rfl ?_
        refine z_xZ zt119 8 rfl rfl (fun (h37 : ((-1) : Int) = 0) => absurd h37 (by omega)) (fun (h37 : ((-1) : Int) ≠ 0) => ?_)
        refine z_xP zt119 9 29 [some (.ref 4), some (.int p1), some (.int p2), some (.int p3), some (.ref a8), some (.int (-1))] [.int (-1)] rfl rfl ?_
        have qm1 : (((-1) : Int32)).toInt = (-1) := rfl
        exact z_xri zt119 10 rfl zzr119 (kk (-1) M0 X)
      refine z_xP zt103 5 17 [some (.ref 4), some (.int p2), some (.int p3), some (.ref a33)] [.int 5, .int p3] rfl rfl ?_
      refine z_xJ zt103 6 rfl rfl (fun (h38 : p3.toInt ≤ 5) => ?_) (fun (h38 : 5 < p3.toInt) => ?_)
      · skip
        refine z_xP zt103 9 23 [some (.ref 4), some (.int p2), some (.int p3), some (.ref a33)] [.ref a33] rfl rfl ?_
        refine z_xgR (κ := .inr (102, 0, m29, 0, 1023)) zt103 10 rfl zo103 zzf0_74 X k34 (by decide) (by decide) rfl (fun (a40 : Nat) h39 k41 => ?_)
        refine z_xln zt103 11 rfl X k41 (by decide) (by omega) (fun (x42 : Int32) (h43 : x42.toInt = ((m29 : Nat) : Int)) => ?_)
        refine z_xP zt103 12 29 [some (.ref 4), some (.int p2), some (.int p3), some (.ref a33)] [.int 12, .int x42] rfl rfl ?_
        refine z_xJ zt103 13 rfl rfl (fun (h44 : x42.toInt ≤ 12) => ?_) (fun (h44 : 12 < x42.toInt) => ?_)
        · skip
          refine z_xP zt103 15 38 [some (.ref 4), some (.int p2), some (.int p3), some (.ref a33)] [.int 0] rfl rfl ?_
          refine z_xri zt103 16 rfl zzr103 ?_
          show z_ev (d + 7) 119 20 [some (.ref 4), some (.int p1), some (.int p2), some (.int p3), some (.ref a8), none] [.int 0] M0 _
          refine z_xP zt119 7 24 [some (.ref 4), some (.int p1), some (.int p2), some (.int p3), some (.ref a8), some (.int 0)] [.int 0] rfl rfl ?_
          refine z_xZ zt119 8 rfl rfl (fun (h45 : (0 : Int) = 0) => ?_) (fun (h45 : (0 : Int) ≠ 0) => absurd h45 (by omega))
          refine z_xP zt119 11 31 [some (.ref 4), some (.int p1), some (.int p2), some (.int p3), some (.ref a8), some (.int 0)] [.ref 4] rfl rfl ?_
          refine z_xgN (κ := .inr (300, 0, 16380, (-2147483648), 2147483647)) zt119 12 rfl zo119 zzf0_267 X f4 (by decide) (by decide) rfl (fun (a47 : Nat) h46 k48 => ?_) (fun h49 => ?_)
          · skip
            refine z_xP zt119 13 46 [some (.ref 4), some (.int p1), some (.int p2), some (.int p3), some (.ref a8), some (.int 0)] [] rfl rfl ?_
            refine z_xP zt119 17 49 [some (.ref 4), some (.int p1), some (.int p2), some (.int p3), some (.ref a8), some (.int 0)] [.ref 4, .ref a8] rfl rfl ?_
            refine z_xgX (b := 11) zt119 18 rfl zo119 zzf0_22 X f4 (by decide) (by decide) rfl ?_
            refine z_xP zt119 19 53 [some (.ref 4), some (.int p1), some (.int p2), some (.int p3), some (.ref a8), some (.int 0)] [.int p2, .ref 11, .ref a8] rfl rfl ?_
            have f11 : T[11]? = some (.inr (11, 2, 8, 5, 0)) := X.1.k rfl (by decide)
            refine z_xal zt119 20 rfl X f11 (by decide) (by decide) (by decide) (by omega) (by omega) (fun (a50 : Nat) h51 h52 => ?_) (fun h53 => absurd h53 (z_Gt (hG.go X (by decide)).2.1 h17 (by omega) (by omega)))
            obtain ⟨q54, t55, m56, k57⟩ : ∃ q t m, T[a50]? = some (.inl (3, q, t, m, 5)) := h52
            have g58 := X.1.p3 k57
            have h59 := z_Gm (hG.go X (by decide)).2.2 X.1 (z_cll (n := 8) (by omega) (by decide)) h24 h51 k30 k57
            refine z_xP zt119 21 56 [some (.ref 4), some (.int p1), some (.int p2), some (.int p3), some (.ref a8), some (.int 0)] [.ref 4, .int p3, .ref a50, .ref a8] rfl rfl ?_
            refine z_xgv zt119 22 rfl zo119 zzf0_267 X f4 (by decide) h46 ?_
            refine z_xcV (vs := [.ref a8, .ref a50, .int p3, .ref a47]) (r := []) (L2 := [some (.ref a8), some (.ref a50), some (.int p3), some (.ref a47), none, none, none, none, none, none]) zt119 23 rfl zo119 zzcV0_270 (Or.inr rfl) rfl X k14 (z_w8 (fun c => (([(4, 120), (10, 120), (7, 120), (5, 120), (11, 120), (8, 120), (6, 120), (9, 120)] : List (Nat × Nat)).find? fun t => t.1 == c) = some (c, 120)) rfl rfl rfl rfl rfl rfl rfl rfl w13) rfl rfl (Nat.le_of_ble_eq_true rfl) zzm120 (Nat.le_of_ble_eq_true rfl) rfl ?_
            refine zC120 X.1 w13 k14 k57 (by omega) k48 (fun x62 M60 X61  => ?_)
            have X63 := X.go X61 (z_sb (by decide))
            show z_ev (d + 7) 119 62 [some (.ref 4), some (.int p1), some (.int p2), some (.int p3), some (.ref a8), some (.int 0)] [.int x62] M60 _
            exact z_xri zt119 24 rfl zzr119 (kk x62 M60 X63)
          refine z_xP zt119 13 37 [some (.ref 4), some (.int p1), some (.int p2), some (.int p3), some (.ref a8), some (.int 0)] [] rfl rfl ?_
          exact hT a8 c12 x18 w13 k14 h17 h15 h22 h20 h36 h38 h49
        refine z_xP zt103 14 38 [some (.ref 4), some (.int p2), some (.int p3), some (.ref a33)] [.int (-4)] rfl rfl ?_
        refine z_xri zt103 16 rfl zzr103 ?_
        show z_ev (d + 7) 119 20 [some (.ref 4), some (.int p1), some (.int p2), some (.int p3), some (.ref a8), none] [.int (-4)] M0 _
        refine z_xP zt119 7 24 [some (.ref 4), some (.int p1), some (.int p2), some (.int p3), some (.ref a8), some (.int (-4))] [.int (-4)] rfl rfl ?_
        refine z_xZ zt119 8 rfl rfl (fun (h65 : ((-4) : Int) = 0) => absurd h65 (by omega)) (fun (h65 : ((-4) : Int) ≠ 0) => ?_)
        refine z_xP zt119 9 29 [some (.ref 4), some (.int p1), some (.int p2), some (.int p3), some (.ref a8), some (.int (-4))] [.int (-4)] rfl rfl ?_
        have qm4 : (((-4) : Int32)).toInt = (-4) := rfl
        exact z_xri zt119 10 rfl zzr119 (kk (-4) M0 X)
      refine z_xP zt103 7 21 [some (.ref 4), some (.int p2), some (.int p3), some (.ref a33)] [.int (-1)] rfl rfl ?_
      refine z_xri zt103 8 rfl zzr103 ?_
      show z_ev (d + 7) 119 20 [some (.ref 4), some (.int p1), some (.int p2), some (.int p3), some (.ref a8), none] [.int (-1)] M0 _
      refine z_xP zt119 7 24 [some (.ref 4), some (.int p1), some (.int p2), some (.int p3), some (.ref a8), some (.int (-1))] [.int (-1)] rfl rfl ?_
      refine z_xZ zt119 8 rfl rfl (fun (h66 : ((-1) : Int) = 0) => absurd h66 (by omega)) (fun (h66 : ((-1) : Int) ≠ 0) => ?_)
      refine z_xP zt119 9 29 [some (.ref 4), some (.int p1), some (.int p2), some (.int p3), some (.ref a8), some (.int (-1))] [.int (-1)] rfl rfl ?_
      have qm1 : (((-1) : Int32)).toInt = (-1) := rfl
      exact z_xri zt119 10 rfl zzr119 (kk (-1) M0 X)
    refine z_xP zt37 5 25 [some (.ref 4), some (.int p2)] [.null] rfl rfl ?_
    refine z_xrn zt37 11 rfl zzr37 ?_
    show z_ev (d + 6) 103 5 [some (.ref 4), some (.int p2), some (.int p3), none] [.null] M0 _
    refine z_xP zt103 2 20 [some (.ref 4), some (.int p2), some (.int p3), some (.null)] [] rfl rfl ?_
    refine z_xP zt103 7 21 [some (.ref 4), some (.int p2), some (.int p3), some (.null)] [.int (-1)] rfl rfl ?_
    refine z_xri zt103 8 rfl zzr103 ?_
    show z_ev (d + 7) 119 20 [some (.ref 4), some (.int p1), some (.int p2), some (.int p3), some (.ref a8), none] [.int (-1)] M0 _
    refine z_xP zt119 7 24 [some (.ref 4), some (.int p1), some (.int p2), some (.int p3), some (.ref a8), some (.int (-1))] [.int (-1)] rfl rfl ?_
    refine z_xZ zt119 8 rfl rfl (fun (h67 : ((-1) : Int) = 0) => absurd h67 (by omega)) (fun (h67 : ((-1) : Int) ≠ 0) => ?_)
    refine z_xP zt119 9 29 [some (.ref 4), some (.int p1), some (.int p2), some (.int p3), some (.ref a8), some (.int (-1))] [.int (-1)] rfl rfl ?_
    have qm1 : (((-1) : Int32)).toInt = (-1) := rfl
    exact z_xri zt119 10 rfl zzr119 (kk (-1) M0 X)
  refine z_xP zt84 5 22 [some (.ref 4), some (.int p1)] [.null] rfl rfl ?_
  refine z_xrn zt84 10 rfl zzr84 ?_
  show z_ev (d + 7) 119 5 [some (.ref 4), some (.int p1), some (.int p2), some (.int p3), none, none] [.null] M0 _
  refine z_xP zt119 2 12 [some (.ref 4), some (.int p1), some (.int p2), some (.int p3), some (.null), none] [] rfl rfl ?_
  refine z_xP zt119 3 13 [some (.ref 4), some (.int p1), some (.int p2), some (.int p3), some (.null), none] [.int (-1)] rfl rfl ?_
  have qm1 : (((-1) : Int32)).toInt = (-1) := rfl
  exact z_xri zt119 4 rfl zzr119 (kk (-1) M0 X)
theorem zT119 {T : List zK} {d : Nat} {K : Option Value → zH → Prop} {p1 p2 p3 : Int32} {M0 : zH} (hG : z_GG T M0) {b c : Nat} {A : Int32} (w13 : 4 ≤ c ∧ c ≤ 11) (hb : T[b]? = some (.inl (c, 0, 0, 0, 0))) (hA : z_F M0 4 3 = some (.int A)) (h0 : 0 ≤ p2.toInt) (h1 : p2.toInt < A.toInt) (h8 : A.toInt ≤ 8) (n0 : 1 ≤ p3.toInt) (n1 : p3.toInt ≤ 5) (kk : ∀ (x : Int32) (M3 : zH), z_W (M0 ++ [.inl (0, 16380, .inl fun _ => 0)]) (T ++ [(.inr (300, 0, 16380, (-2147483648), 2147483647) : zK)]) → z_X (T ++ [(.inr (300, 0, 16380, (-2147483648), 2147483647) : zK)]) (1012 :: zw119) (M0 ++ [.inl (0, 16380, .inl fun _ => 0)]) M3 → z_F M3 4 12 = some (.ref M0.length) → z_sz M3 = z_sz M0 + 16380 → K (some (.int x)) M3) : z_ev (d + 7) 119 37 [some (.ref 4), some (.int p1), some (.int p2), some (.int p3), some (.ref b), some (.int 0)] [] M0 K := by
  have hW := hG.1
  have hW1 : z_W (M0 ++ [.inl (0, 16380, .inl fun _ => 0)]) (T ++ [(.inr (300, 0, 16380, (-2147483648), 2147483647) : zK)]) := hW.push (Or.inr ⟨rfl, rfl, rfl, fun i _ => ⟨(by decide : (-2147483648 : Int) ≤ (0 : Int32).toInt), (by decide : (0 : Int32).toInt ≤ 2147483647)⟩⟩)
  have hs : z_same T M0 (M0 ++ [.inl (0, 16380, .inl fun _ => 0)]) := z_same.push hW
  have hG1 : z_GG (T ++ [(.inr (300, 0, 16380, (-2147483648), 2147483647) : zK)]) (M0 ++ [.inl (0, 16380, .inl fun _ => 0)]) := hG.new hs hW1
  have X : z_X (T ++ [(.inr (300, 0, 16380, (-2147483648), 2147483647) : zK)]) (1012 :: zw119) (M0 ++ [.inl (0, 16380, .inl fun _ => 0)]) (M0 ++ [.inl (0, 16380, .inl fun _ => 0)]) := .refl hW1
  have k40 : T[4]? = some (.inl (0, 0, 0, 0, 0)) := hW.k rfl (by decide)
  have kN : (T ++ [(.inr (300, 0, 16380, (-2147483648), 2147483647) : zK)])[M0.length]? = some (.inr (300, 0, 16380, (-2147483648), 2147483647)) := by rw [hW.1, List.getElem?_append_right (Nat.le_refl _), Nat.sub_self]; rfl
  have f4 : (T ++ [(.inr (300, 0, 16380, (-2147483648), 2147483647) : zK)])[4]? = some (.inl (0, 0, 0, 0, 0)) := X.1.k rfl (by decide)
  have k14 : (T ++ [(.inr (300, 0, 16380, (-2147483648), 2147483647) : zK)])[b]? = some (.inl (c, 0, 0, 0, 0)) := z_le.push b _ hb (fun z => by have := z.1; omega)
  refine z_xP zt119 14 41 [some (.ref 4), some (.int p1), some (.int p2), some (.int p3), some (.ref b), some (.int 0)] [.int 16380, .ref 4] rfl rfl ?_
  refine z_enai (N := M0.length) (k := 16380) (z_dc1 zt119 (n := 15) rfl) (by decide) rfl rfl ?_
  refine z_ev.mono (z_ev.grow (K := fun v M3 => ∃ x, v = some (.int x) ∧ z_X (T ++ [(.inr (300, 0, 16380, (-2147483648), 2147483647) : zK)]) (1012 :: zw119) (M0 ++ [.inl (0, 16380, .inl fun _ => 0)]) M3 ∧ z_F M3 4 12 = some (.ref M0.length)) ?_) (fun v M3 ⟨⟨x, hx, X3, h⟩, hg, _⟩ => by rw [hx]; exact kk x M3 hW1 X3 h ((z_szg hg (X3.1.1.trans hW1.1.symm)).trans (z_sz_push _ _)))
  refine z_xpf zt119 16 rfl zo119 zzf0_267 X f4 (by decide) (by decide) kN rfl (by decide) zw0_12 (fun M2 X2 ke h => ?_)
  have hA2 : z_F M2 4 3 = some (.int A) := ke.f f4 (by decide) ((hs.f k40 (by decide)).trans hA)
  refine z_xP zt119 17 49 [some (.ref 4), some (.int p1), some (.int p2), some (.int p3), some (.ref b), some (.int 0)] [.ref 4, .ref b] rfl rfl ?_
  refine z_xgX (b := 11) zt119 18 rfl zo119 zzf0_22 X2 f4 (by decide) (by decide) rfl ?_
  refine z_xP zt119 19 53 [some (.ref 4), some (.int p1), some (.int p2), some (.int p3), some (.ref b), some (.int 0)] [.int p2, .ref 11, .ref b] rfl rfl ?_
  have f11 : (T ++ [(.inr (300, 0, 16380, (-2147483648), 2147483647) : zK)])[11]? = some (.inr (11, 2, 8, 5, 0)) := X2.1.k rfl (by decide)
  refine z_xal zt119 20 rfl X2 f11 (by decide) (by decide) (by decide) (by omega) (by omega) (fun (a50 : Nat) h51 h52 => ?_) (fun h53 => absurd h53 (z_Gt (hG1.go X2 (by decide)).2.1 hA2 (by omega) (by omega)))
  obtain ⟨q54, t55, m56, k57⟩ : ∃ q t m, (T ++ [(.inr (300, 0, 16380, (-2147483648), 2147483647) : zK)])[a50]? = some (.inl (3, q, t, m, 5)) := h52
  refine z_xP zt119 21 56 [some (.ref 4), some (.int p1), some (.int p2), some (.int p3), some (.ref b), some (.int 0)] [.ref 4, .int p3, .ref a50, .ref b] rfl rfl ?_
  refine z_xgv zt119 22 rfl zo119 zzf0_267 X2 f4 (by decide) h ?_
  refine z_xcV (vs := [.ref b, .ref a50, .int p3, .ref M0.length]) (r := []) (L2 := [some (.ref b), some (.ref a50), some (.int p3), some (.ref M0.length), none, none, none, none, none, none]) zt119 23 rfl zo119 zzcV0_270 (Or.inr rfl) rfl X2 k14 (z_w8 (fun c => (([(4, 120), (10, 120), (7, 120), (5, 120), (11, 120), (8, 120), (6, 120), (9, 120)] : List (Nat × Nat)).find? fun t => t.1 == c) = some (c, 120)) rfl rfl rfl rfl rfl rfl rfl rfl w13) rfl rfl (Nat.le_of_ble_eq_true rfl) zzm120 (Nat.le_of_ble_eq_true rfl) rfl ?_
  refine zC120 X2.1 w13 k14 k57 (by omega) kN (fun x62 M60 X61  => ?_)
  have X63 := X2.go X61 (z_sb (by decide))
  show z_ev (d + 7) 119 62 [some (.ref 4), some (.int p1), some (.int p2), some (.int p3), some (.ref b), some (.int 0)] [.int x62] M60 _
  exact z_xri zt119 24 rfl zzr119 ⟨x62, rfl, X63, X61.2.f f4 (by decide) h⟩
