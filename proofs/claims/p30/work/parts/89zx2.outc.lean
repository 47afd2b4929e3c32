/-! outcome of the class, told -/
def z_vO (M : zH) (p1 p2 p3 : Int32) : Prop := (0 ≤ p1.toInt ∧ p1.toInt < (z_Fv M 4 5).toInt) ∧ (0 ≤ p2.toInt ∧ p2.toInt < (z_Fv M 4 3).toInt) ∧ 0 ≤ p3.toInt ∧ p3.toInt ≤ 4
def z_cO (T : List zK) (M0 M1 : zH) (p1 p2 p3 : Int32) (x : Int) : Prop := (x = -1 ∧ ¬ z_vO M0 p1 p2 p3 ∧ z_ke T [] M0 M1) ∨ (z_vO M0 p1 p2 p3 ∧ ∃ (w c b N q t m pr en J : Nat) (B : Nat → Nat) (sh jv ch dv : Int32) (ww yy nn : Nat → Int32), z_O M0 12 p1.toNatClampNeg = some w ∧ T[w]? = some (.inl (c, 0, 0, 0, 0)) ∧ z_DP T M0 w b N q t m 9 pr en B sh jv ch ∧ z_tob T M0 p2.toNatClampNeg b N q t m pr en J B jv ww yy nn ∧ z_dq c M0 b B q pr en sh.toInt.toNat jv.toInt.toNat ch.toInt.toNat dv.toInt ∧ z_oA B q t (dv.toInt.toNat % 1024) (dv.toInt.toNat / 1024) p3.toInt x ∧ z_oth T (fun u => u = b) M0 M1 ∧ z_lz M1 b)
theorem z_cO0 {T : List zK} {M : zH} {p1 p2 p3 : Int32} {x : Int} (h : ¬ z_vO M p1 p2 p3) (hx : x = -1) : z_cO T M M p1 p2 p3 x := Or.inl ⟨hx, h, .refl⟩
theorem zUC85 {T : List zK} {d : Nat} {K : Option Value → zH → Prop} {p1 : Int32} {p2 : Int32} {p3 : Int32} {M0 : zH} (hW : z_W M0 T) (hR : z_RR T M0) (h9 : z_R89 T M0) (hG : z_GG T M0) (kk : ∀ (x : Int32) (M1 : zH), z_X T zw85 M0 M1 → z_cO T M0 M1 p1 p2 p3 x.toInt → K (some (.int x)) M1) : z_ev (d + 4) 85 0 [some (.ref 4), some (.int p1), some (.int p2), some (.int p3), none, none, none] [] M0 K := by
  have X : z_X T zw85 M0 M0 := .refl hW
  refine z_xP zt85 0 2 [some (.ref 4), some (.int p1), some (.int p2), some (.int p3), none, none, none] [.int p1, .ref 4] rfl rfl ?_
  have f4 : T[4]? = some (.inl (0, 0, 0, 0, 0)) := X.1.k rfl (by decide)
  refine z_xcV (vs := [.ref 4, .int p1]) (r := []) (L2 := [some (.ref 4), some (.int p1)]) zt85 1 rfl zo85 zzcV0_221 (Or.inl rfl) rfl X f4 rfl rfl rfl (Nat.le_of_ble_eq_true rfl) zzm84 (Nat.le_of_ble_eq_true rfl) rfl ?_
  refine z_xP zt84 0 1 [some (.ref 4), some (.int p1)] [.int p1] rfl rfl ?_
  refine z_xZ zt84 1 rfl rfl (fun (h1 : p1.toInt < 0) => ?_) (fun (h1 : 0 ≤ p1.toInt) => ?_)
  · skip
    refine z_xP zt84 5 22 [some (.ref 4), some (.int p1)] [.null] rfl rfl ?_
    refine z_xrn zt84 10 rfl zzr84 ?_
    show z_ev (d + 4) 85 5 [some (.ref 4), some (.int p1), some (.int p2), some (.int p3), none, none, none] [.null] M0 _
    refine z_xP zt85 2 9 [some (.ref 4), some (.int p1), some (.int p2), some (.int p3), some (.null), none, none] [.int p2, .ref 4] rfl rfl ?_
    refine z_xcV (vs := [.ref 4, .int p2]) (r := []) (L2 := [some (.ref 4), some (.int p2)]) zt85 3 rfl zo85 zzcV0_85 (Or.inl rfl) rfl X f4 rfl rfl rfl (Nat.le_of_ble_eq_true rfl) zzm35 (Nat.le_of_ble_eq_true rfl) rfl ?_
    refine z_xP zt35 0 1 [some (.ref 4), some (.int p2)] [.int p2] rfl rfl ?_
    refine z_xZ zt35 1 rfl rfl (fun (h2 : p2.toInt < 0) => ?_) (fun (h2 : 0 ≤ p2.toInt) => ?_)
    · skip
      refine z_xP zt35 5 22 [some (.ref 4), some (.int p2)] [.null] rfl rfl ?_
      refine z_xrn zt35 10 rfl zzr35 ?_
      show z_ev (d + 4) 85 12 [some (.ref 4), some (.int p1), some (.int p2), some (.int p3), some (.null), none, none] [.null] M0 _
      refine z_xP zt85 4 33 [some (.ref 4), some (.int p1), some (.int p2), some (.int p3), some (.null), some (.null), none] [] rfl rfl ?_
      refine z_xP zt85 10 34 [some (.ref 4), some (.int p1), some (.int p2), some (.int p3), some (.null), some (.null), none] [.int (-1)] rfl rfl ?_
      have qm1 : (((-1) : Int32)).toInt = (-1) := rfl
      exact z_xri zt85 11 rfl zzr85 (kk (-1) M0 X (z_cO0 (by unfold z_vO; omega) rfl))
    refine z_xP zt35 2 6 [some (.ref 4), some (.int p2)] [.ref 4, .int p2] rfl rfl ?_
    refine z_xgI zt35 3 rfl zo35 zzf0_59 X f4 (by decide) (by decide) rfl (fun (x4 : Int32) h3 (h5 : 0 ≤ x4.toInt) (h6 : x4.toInt ≤ 8) => ?_)
    have ex4 : (z_Fv M0 4 3).toInt = x4.toInt := by rw [z_Fv.of h3]
    have h7 := z_b32 p2
    refine z_xJ zt35 4 rfl rfl (fun (h8 : p2.toInt < x4.toInt) => ?_) (fun (h8 : x4.toInt ≤ p2.toInt) => ?_)
    · skip
      refine z_xP zt35 6 17 [some (.ref 4), some (.int p2)] [.ref 4] rfl rfl ?_
      refine z_xgX (b := 10) zt35 7 rfl zo35 zzf0_18 X f4 (by decide) (by decide) rfl ?_
      refine z_xP zt35 8 21 [some (.ref 4), some (.int p2)] [.int p2, .ref 10] rfl rfl ?_
      have f10 : T[10]? = some (.inr (10, 2, 8, 9, 0)) := X.1.k rfl (by decide)
      refine z_xal zt35 9 rfl X f10 (by decide) (by decide) (by decide) (by omega) (by omega) (fun (a9 : Nat) h10 h11 => ?_) (fun h12 => absurd h12 (z_Gs (hG.go X (by decide)).2.1 h3 (by omega) (by omega)))
      obtain ⟨q13, t14, m15, k16⟩ : ∃ q t m, T[a9]? = some (.inl (3, q, t, m, 9)) := h11
      have g17 := X.1.p3 k16
      refine z_xra zt35 10 rfl zzr35 ?_
      show z_ev (d + 4) 85 12 [some (.ref 4), some (.int p1), some (.int p2), some (.int p3), some (.null), none, none] [.ref a9] M0 _
      refine z_xP zt85 4 33 [some (.ref 4), some (.int p1), some (.int p2), some (.int p3), some (.null), some (.ref a9), none] [] rfl rfl ?_
      refine z_xP zt85 10 34 [some (.ref 4), some (.int p1), some (.int p2), some (.int p3), some (.null), some (.ref a9), none] [.int (-1)] rfl rfl ?_
      have qm1 : (((-1) : Int32)).toInt = (-1) := rfl
      exact z_xri zt85 11 rfl zzr85 (kk (-1) M0 X (z_cO0 (by unfold z_vO; omega) rfl))
    refine z_xP zt35 5 22 [some (.ref 4), some (.int p2)] [.null] rfl rfl ?_
    refine z_xrn zt35 10 rfl zzr35 ?_
    show z_ev (d + 4) 85 12 [some (.ref 4), some (.int p1), some (.int p2), some (.int p3), some (.null), none, none] [.null] M0 _
    refine z_xP zt85 4 33 [some (.ref 4), some (.int p1), some (.int p2), some (.int p3), some (.null), some (.null), none] [] rfl rfl ?_
    refine z_xP zt85 10 34 [some (.ref 4), some (.int p1), some (.int p2), some (.int p3), some (.null), some (.null), none] [.int (-1)] rfl rfl ?_
    have qm1 : (((-1) : Int32)).toInt = (-1) := rfl
    exact z_xri zt85 11 rfl zzr85 (kk (-1) M0 X (z_cO0 (by unfold z_vO; omega) rfl))
  refine z_xP zt84 2 6 [some (.ref 4), some (.int p1)] [.ref 4, .int p1] rfl rfl ?_
  refine z_xgI zt84 3 rfl zo84 zzf0_188 X f4 (by decide) (by decide) rfl (fun (x19 : Int32) h18 (h20 : 0 ≤ x19.toInt) (h21 : x19.toInt ≤ 20) => ?_)
  have ex19 : (z_Fv M0 4 5).toInt = x19.toInt := by rw [z_Fv.of h18]
  have h22 := z_b32 p1
  refine z_xJ zt84 4 rfl rfl (fun (h23 : p1.toInt < x19.toInt) => ?_) (fun (h23 : x19.toInt ≤ p1.toInt) => ?_)
  · skip
    refine z_xP zt84 6 17 [some (.ref 4), some (.int p1)] [.ref 4] rfl rfl ?_
    refine z_xgX (b := 12) zt84 7 rfl zo84 zzf0_27 X f4 (by decide) (by decide) rfl ?_
    refine z_xP zt84 8 21 [some (.ref 4), some (.int p1)] [.int p1, .ref 12] rfl rfl ?_
    have f12 : T[12]? = some (.inr (12, 3, 20, 0, 0)) := X.1.k rfl (by decide)
    refine z_xal zt84 9 rfl X f12 (by decide) (by decide) (by decide) (by omega) (by omega) (fun (a24 : Nat) h25 h26 => ?_) (fun h27 => absurd h27 (z_Gb (hG.go X (by decide)).2.1 h18 (by omega) (by omega)))
    obtain ⟨c28, w29l, w29u, k30⟩ : ∃ ci, 4 ≤ ci ∧ ci ≤ 11 ∧ T[a24]? = some (.inl (ci, 0, 0, 0, 0)) := h26
    have w29 := And.intro w29l w29u
    refine z_xra zt84 10 rfl zzr84 ?_
    show z_ev (d + 4) 85 5 [some (.ref 4), some (.int p1), some (.int p2), some (.int p3), none, none, none] [.ref a24] M0 _
    refine z_xP zt85 2 9 [some (.ref 4), some (.int p1), some (.int p2), some (.int p3), some (.ref a24), none, none] [.int p2, .ref 4] rfl rfl ?_
    refine z_xcV (vs := [.ref 4, .int p2]) (r := []) (L2 := [some (.ref 4), some (.int p2)]) zt85 3 rfl zo85 zzcV0_85 (Or.inl rfl) rfl X f4 rfl rfl rfl (Nat.le_of_ble_eq_true rfl) zzm35 (Nat.le_of_ble_eq_true rfl) rfl ?_
    refine z_xP zt35 0 1 [some (.ref 4), some (.int p2)] [.int p2] rfl rfl ?_
    refine z_xZ zt35 1 rfl rfl (fun (h31 : p2.toInt < 0) => ?_) (fun (h31 : 0 ≤ p2.toInt) => ?_)
    · skip
      refine z_xP zt35 5 22 [some (.ref 4), some (.int p2)] [.null] rfl rfl ?_
      refine z_xrn zt35 10 rfl zzr35 ?_
      show z_ev (d + 4) 85 12 [some (.ref 4), some (.int p1), some (.int p2), some (.int p3), some (.ref a24), none, none] [.null] M0 _
      refine z_xP zt85 4 19 [some (.ref 4), some (.int p1), some (.int p2), some (.int p3), some (.ref a24), some (.null), none] [] rfl rfl ?_
      refine z_xP zt85 5 33 [some (.ref 4), some (.int p1), some (.int p2), some (.int p3), some (.ref a24), some (.null), none] [] rfl rfl ?_
      refine z_xP zt85 10 34 [some (.ref 4), some (.int p1), some (.int p2), some (.int p3), some (.ref a24), some (.null), none] [.int (-1)] rfl rfl ?_
      have qm1 : (((-1) : Int32)).toInt = (-1) := rfl
      exact z_xri zt85 11 rfl zzr85 (kk (-1) M0 X (z_cO0 (by unfold z_vO; omega) rfl))
    refine z_xP zt35 2 6 [some (.ref 4), some (.int p2)] [.ref 4, .int p2] rfl rfl ?_
    refine z_xgI zt35 3 rfl zo35 zzf0_59 X f4 (by decide) (by decide) rfl (fun (x33 : Int32) h32 (h34 : 0 ≤ x33.toInt) (h35 : x33.toInt ≤ 8) => ?_)
    have ex33 : (z_Fv M0 4 3).toInt = x33.toInt := by rw [z_Fv.of h32]
    have h36 := z_b32 p2
    refine z_xJ zt35 4 rfl rfl (fun (h37 : p2.toInt < x33.toInt) => ?_) (fun (h37 : x33.toInt ≤ p2.toInt) => ?_)
    · skip
      refine z_xP zt35 6 17 [some (.ref 4), some (.int p2)] [.ref 4] rfl rfl ?_
      refine z_xgX (b := 10) zt35 7 rfl zo35 zzf0_18 X f4 (by decide) (by decide) rfl ?_
      refine z_xP zt35 8 21 [some (.ref 4), some (.int p2)] [.int p2, .ref 10] rfl rfl ?_
      have f10 : T[10]? = some (.inr (10, 2, 8, 9, 0)) := X.1.k rfl (by decide)
      refine z_xal zt35 9 rfl X f10 (by decide) (by decide) (by decide) (by omega) (by omega) (fun (a38 : Nat) h39 h40 => ?_) (fun h41 => absurd h41 (z_Gs (hG.go X (by decide)).2.1 h32 (by omega) (by omega)))
      obtain ⟨q42, t43, m44, k45⟩ : ∃ q t m, T[a38]? = some (.inl (3, q, t, m, 9)) := h40
      have g46 := X.1.p3 k45
      refine z_xra zt35 10 rfl zzr35 ?_
      show z_ev (d + 4) 85 12 [some (.ref 4), some (.int p1), some (.int p2), some (.int p3), some (.ref a24), none, none] [.ref a38] M0 _
      refine z_xP zt85 4 19 [some (.ref 4), some (.int p1), some (.int p2), some (.int p3), some (.ref a24), some (.ref a38), none] [] rfl rfl ?_
      refine z_xP zt85 5 24 [some (.ref 4), some (.int p1), some (.int p2), some (.int p3), some (.ref a24), some (.ref a38), none] [] rfl rfl ?_
      refine z_xP zt85 6 25 [some (.ref 4), some (.int p1), some (.int p2), some (.int p3), some (.ref a24), some (.ref a38), none] [.int p3] rfl rfl ?_
      refine z_xZ zt85 7 rfl rfl (fun (h47 : p3.toInt < 0) => ?_) (fun (h47 : 0 ≤ p3.toInt) => ?_)
      · skip
        refine z_xP zt85 10 34 [some (.ref 4), some (.int p1), some (.int p2), some (.int p3), some (.ref a24), some (.ref a38), none] [.int (-1)] rfl rfl ?_
        have qm1 : (((-1) : Int32)).toInt = (-1) := rfl
        exact z_xri zt85 11 rfl zzr85 (kk (-1) M0 X (z_cO0 (by unfold z_vO; omega) rfl))
      refine z_xP zt85 8 30 [some (.ref 4), some (.int p1), some (.int p2), some (.int p3), some (.ref a24), some (.ref a38), none] [.int 4, .int p3] rfl rfl ?_
      refine z_xJ zt85 9 rfl rfl (fun (h48 : p3.toInt ≤ 4) => ?_) (fun (h48 : 4 < p3.toInt) => ?_)
      · skip
        refine z_xP zt85 12 39 [some (.ref 4), some (.int p1), some (.int p2), some (.int p3), some (.ref a24), some (.ref a38), none] [.ref a38, .ref a24] rfl rfl ?_
        obtain ⟨N, pr, en, J, B, sh, jv, ch, ww, yy, nn, hD, hTB⟩ := z_DPof hW hR h9 h32 ⟨by omega, by omega⟩ h39 k45 w29 k30
        have hvO : z_vO M0 p1 p2 p3 := by unfold z_vO; omega
        have q1 : 1 ≤ q42 ∧ q42 ≤ 10 := by omega
        have hbk := hD.1.2
        have hag := hD.2.2.2.1
        have k2 := hW.k (k := 2) (κ := z_al 2 6) rfl (by decide)
        obtain ⟨_, _, _, _, _, _, _, _, _, _, _, hc2⟩ := id hR.1
        refine zWdecide zt85 13 rfl zo85 zzcV0_234 X k30 w29 (Nat.le_of_ble_eq_true rfl) hD (fun x51 M49 X50 hdq hlz hoth => ?_)
        have hdl := z_outL hdq.2 q1.1
        have hd0 := hdq.1
        have X52 := X.go X50 (z_sb (by decide))
        show z_ev (d + 4) 85 42 [some (.ref 4), some (.int p1), some (.int p2), some (.int p3), some (.ref a24), some (.ref a38), none] [.int x51] M49 _
        refine z_xP zt85 14 45 [some (.ref 4), some (.int p1), some (.int p2), some (.int p3), some (.ref a24), some (.ref a38), some (.int x51)] [.int p3] rfl rfl ?_
        by_cases h54 : p3.toInt = 0
        · refine z_xSC zt85 15 (z_sub (k := 0) h54 rfl) 76 rfl rfl ?_
          refine z_xP zt85 16 81 [some (.ref 4), some (.int p1), some (.int p2), some (.int p3), some (.ref a24), some (.ref a38), some (.int x51)] [.int 1023, .int x51] rfl rfl ?_
          refine z_xI zt85 17 rfl rfl (fun (x55 : Int32) (h56 : x55 = x51 &&& 1023) => ?_) rfl
          exact z_xri zt85 18 rfl zzr85 (kk x55 M49 X52 (Or.inr ⟨hvO, a24, _, a38, N, q42, t43, m44, pr, en, J, B, sh, jv, ch, x51, ww, yy, nn, h25, k30, hD, hTB, hdq, Or.inl ⟨h54, by have := z_and1023 h56 hd0.1; omega⟩, hoth, hlz⟩))
        by_cases h57 : p3.toInt = 1
        · refine z_xSC zt85 15 (z_sub (k := 1) h57 rfl) 83 rfl rfl ?_
          refine z_xP zt85 19 87 [some (.ref 4), some (.int p1), some (.int p2), some (.int p3), some (.ref a24), some (.ref a38), some (.int x51)] [.int 10, .int x51] rfl rfl ?_
          have h58 := z_b32 x51
          refine z_xI zt85 20 rfl rfl (fun (x59 : Int32) (h60 : x59.toInt = x51.toInt / 1024) => ?_) (z_pShr (c := 1024) 10 rfl rfl (by decide))
          exact z_xri zt85 21 rfl zzr85 (kk x59 M49 X52 (Or.inr ⟨hvO, a24, _, a38, N, q42, t43, m44, pr, en, J, B, sh, jv, ch, x51, ww, yy, nn, h25, k30, hD, hTB, hdq, Or.inr (Or.inl ⟨h57, by omega⟩), hoth, hlz⟩))
        by_cases h61 : p3.toInt = 2
        · refine z_xSC zt85 15 (z_sub (k := 2) h61 rfl) 89 rfl rfl ?_
          refine z_xP zt85 22 91 [some (.ref 4), some (.int p1), some (.int p2), some (.int p3), some (.ref a24), some (.ref a38), some (.int x51)] [.ref a38] rfl rfl ?_
          refine z_xgR (κ := .inl (2, q42, t43, m44, 0)) zt85 23 rfl zo85 zzf0_89 X52 k45 (by decide) (by decide) rfl (fun (a63 : Nat) h62 k64 => ?_)
          have g65 := X52.1.p2 k64
          refine z_xgI zt85 24 rfl zo85 zzf0_238 X52 k64 (by decide) (by decide) rfl (fun (x67 : Int32) h66 (h68 : ((z_po q42 : Nat) : Int) - 1 ≤ x67.toInt) (h69 : x67.toInt ≤ ((z_po q42 : Nat) : Int) - 1) => ?_)
          refine z_xP zt85 25 103 [some (.ref 4), some (.int p1), some (.int p2), some (.int p3), some (.ref a24), some (.ref a38), some (.int x51)] [.int 10, .int x51, .int x51, .int x67] rfl rfl ?_
          have h70 := z_b32 x51
          refine z_xI zt85 26 rfl rfl (fun (x71 : Int32) (h72 : x71.toInt = x51.toInt / 1024) => ?_) (z_pShr (c := 1024) 10 rfl rfl (by decide))
          refine z_xI zt85 27 rfl rfl (fun (x73 : Int32) (h73 : x73 = x51 ||| x71) => ?_) rfl
          refine z_xP zt85 28 106 [some (.ref 4), some (.int p1), some (.int p2), some (.int p3), some (.ref a24), some (.ref a38), some (.int x51)] [.int (-1), .int x73, .int x67] rfl rfl ?_
          refine z_xI zt85 29 rfl rfl (fun (x75 : Int32) (h75 : x75 = x73 ^^^ (-1 : Int32)) => ?_) rfl
          refine z_xI zt85 30 rfl rfl (fun (x77 : Int32) (h78 : x77 = x67 &&& x75) => ?_) rfl
          exact z_xri zt85 31 rfl zzr85 (kk x77 M49 X52 (Or.inr ⟨hvO, a24, _, a38, N, q42, t43, m44, pr, en, J, B, sh, jv, ch, x51, ww, yy, nn, h25, k30, hD, hTB, hdq, Or.inr (Or.inr (Or.inl ⟨h61, z_oA2 (show x67.toInt = ((2 ^ q42 : Nat) : Int) - 1 by unfold z_po at *; omega) q1.2 hd0 h72 h73 h75 h78⟩)), hoth, hlz⟩))
        by_cases h79 : p3.toInt = 3
        · refine z_xSC zt85 15 (z_sub (k := 3) h79 rfl) 109 rfl rfl ?_
          refine z_xP zt85 32 111 [some (.ref 4), some (.int p1), some (.int p2), some (.int p3), some (.ref a24), some (.ref a38), some (.int x51)] [.ref a38] rfl rfl ?_
          refine z_xgR (κ := .inl (2, q42, t43, m44, 0)) zt85 33 rfl zo85 zzf0_89 X52 k45 (by decide) (by decide) rfl (fun (a81 : Nat) h80 k82 => ?_)
          have g83 := X52.1.p2 k82
          refine z_xP zt85 34 116 [some (.ref 4), some (.int p1), some (.int p2), some (.int p3), some (.ref a24), some (.ref a38), some (.int x51)] [.int x51, .ref a81] rfl rfl ?_
          refine z_xcV (vs := [.ref a81, .int x51]) (r := []) (L2 := [some (.ref a81), some (.int x51), none, none, none, none, none]) zt85 35 rfl zo85 zzcV0_120 (Or.inl rfl) rfl X52 k82 rfl rfl rfl (Nat.le_of_ble_eq_true rfl) zzm40 (Nat.le_of_ble_eq_true rfl) rfl ?_
          have eN : a81 = N := z_rfe h80 (X52.2.f k45 (by decide) hD.2.2.1)
          rw [eN] at k82 ⊢
          have hag2 := hag.ke (fun _ _ h => h) X52.2 (by decide)
          obtain ⟨_, _, _, _, _, ⟨wv, f7, w7⟩, _, _, ⟨kp, f8, k8, b8⟩, _⟩ := id hag2
          refine zUC40 (uy := x51.toInt.toNat % 1024) (un := x51.toInt.toNat / 1024) X52.1 k82 f7 w7 ⟨by omega, by omega, by omega⟩ (fun k hk => by rw [X52.2.lg k2 (by decide)]; exact hc2 k hk) f8 k8 b8 (fun x86 M84 X85 h87 h88 h86 => ?_)
          have X89 := X52.go X85 (z_sb (by decide))
          show z_ev (d + 4) 85 119 [some (.ref 4), some (.int p1), some (.int p2), some (.int p3), some (.ref a24), some (.ref a38), some (.int x51)] [.int x86] M84 _
          exact z_xri zt85 36 rfl zzr85 (kk x86 M84 X89 (Or.inr ⟨hvO, a24, _, a38, N, q42, t43, m44, pr, en, J, B, sh, jv, ch, x51, ww, yy, nn, h25, k30, hD, hTB, hdq, Or.inr (Or.inr (Or.inr (Or.inl ⟨h79, h86⟩))), hoth.trans (.ke hbk hW X85.2 rfl rfl), hlz.ke hbk hW k45 X85.2 rfl⟩))
        refine z_xSD zt85 15 rfl rfl (by omega) ?_
        refine z_xP zt85 37 122 [some (.ref 4), some (.int p1), some (.int p2), some (.int p3), some (.ref a24), some (.ref a38), some (.int x51)] [.ref a38] rfl rfl ?_
        refine z_xgR (κ := .inl (2, q42, t43, m44, 0)) zt85 38 rfl zo85 zzf0_89 X52 k45 (by decide) (by decide) rfl (fun (a92 : Nat) h91 k93 => ?_)
        have g94 := X52.1.p2 k93
        refine z_xP zt85 39 127 [some (.ref 4), some (.int p1), some (.int p2), some (.int p3), some (.ref a24), some (.ref a38), some (.int x51)] [.int x51, .ref a92] rfl rfl ?_
        refine z_xcV (vs := [.ref a92, .int x51]) (r := []) (L2 := [some (.ref a92), some (.int x51), none]) zt85 40 rfl zo85 zzcV0_126 (Or.inl rfl) rfl X52 k93 rfl rfl rfl (Nat.le_of_ble_eq_true rfl) zzm44 (Nat.le_of_ble_eq_true rfl) rfl ?_
        have eN : a92 = N := z_rfe h91 (X52.2.f k45 (by decide) hD.2.2.1)
        rw [eN] at k93 ⊢
        have hag2 := hag.ke (fun _ _ h => h) X52.2 (by decide)
        refine zUC44 (uy := x51.toInt.toNat % 1024) (un := x51.toInt.toNat / 1024) X52.1 k93 hag2 ⟨by omega, by omega, by omega⟩ hdl (fun x97 M95 X96 h98 h99 h97 => ?_)
        have X100 := X52.go X96 (z_sb (by decide))
        show z_ev (d + 4) 85 130 [some (.ref 4), some (.int p1), some (.int p2), some (.int p3), some (.ref a24), some (.ref a38), some (.int x51)] [.int x97] M95 _
        refine z_xZ zt85 41 rfl rfl (fun (h102 : x97.toInt = 0) => ?_) (fun (h102 : x97.toInt ≠ 0) => ?_)
        · skip
          refine z_xP zt85 43 138 [some (.ref 4), some (.int p1), some (.int p2), some (.int p3), some (.ref a24), some (.ref a38), some (.int x51)] [.int 1] rfl rfl ?_
          have q1 : ((1 : Int32)).toInt = 1 := rfl
          exact z_xri zt85 44 rfl zzr85 (kk 1 M95 X100 (Or.inr ⟨hvO, a24, _, a38, N, q42, t43, m44, pr, en, J, B, sh, jv, ch, x51, ww, yy, nn, h25, k30, hD, hTB, hdq, Or.inr (Or.inr (Or.inr (Or.inr ⟨by omega, Or.inl ⟨rfl, z_orn h97 h102⟩⟩))), hoth.trans (.ke hbk hW X96.2 rfl rfl), hlz.ke hbk hW k45 X96.2 rfl⟩))
        refine z_xP zt85 42 138 [some (.ref 4), some (.int p1), some (.int p2), some (.int p3), some (.ref a24), some (.ref a38), some (.int x51)] [.int 0] rfl rfl ?_
        have q0 : ((0 : Int32)).toInt = 0 := rfl
        exact z_xri zt85 44 rfl zzr85 (kk 0 M95 X100 (Or.inr ⟨hvO, a24, _, a38, N, q42, t43, m44, pr, en, J, B, sh, jv, ch, x51, ww, yy, nn, h25, k30, hD, hTB, hdq, Or.inr (Or.inr (Or.inr (Or.inr ⟨by omega, Or.inr ⟨rfl, z_or1 h97 h102⟩⟩))), hoth.trans (.ke hbk hW X96.2 rfl rfl), hlz.ke hbk hW k45 X96.2 rfl⟩))
      refine z_xP zt85 10 34 [some (.ref 4), some (.int p1), some (.int p2), some (.int p3), some (.ref a24), some (.ref a38), none] [.int (-1)] rfl rfl ?_
      have qm1 : (((-1) : Int32)).toInt = (-1) := rfl
      exact z_xri zt85 11 rfl zzr85 (kk (-1) M0 X (z_cO0 (by unfold z_vO; omega) rfl))
    refine z_xP zt35 5 22 [some (.ref 4), some (.int p2)] [.null] rfl rfl ?_
    refine z_xrn zt35 10 rfl zzr35 ?_
    show z_ev (d + 4) 85 12 [some (.ref 4), some (.int p1), some (.int p2), some (.int p3), some (.ref a24), none, none] [.null] M0 _
    refine z_xP zt85 4 19 [some (.ref 4), some (.int p1), some (.int p2), some (.int p3), some (.ref a24), some (.null), none] [] rfl rfl ?_
    refine z_xP zt85 5 33 [some (.ref 4), some (.int p1), some (.int p2), some (.int p3), some (.ref a24), some (.null), none] [] rfl rfl ?_
    refine z_xP zt85 10 34 [some (.ref 4), some (.int p1), some (.int p2), some (.int p3), some (.ref a24), some (.null), none] [.int (-1)] rfl rfl ?_
    have qm1 : (((-1) : Int32)).toInt = (-1) := rfl
    exact z_xri zt85 11 rfl zzr85 (kk (-1) M0 X (z_cO0 (by unfold z_vO; omega) rfl))
  refine z_xP zt84 5 22 [some (.ref 4), some (.int p1)] [.null] rfl rfl ?_
  refine z_xrn zt84 10 rfl zzr84 ?_
  show z_ev (d + 4) 85 5 [some (.ref 4), some (.int p1), some (.int p2), some (.int p3), none, none, none] [.null] M0 _
  refine z_xP zt85 2 9 [some (.ref 4), some (.int p1), some (.int p2), some (.int p3), some (.null), none, none] [.int p2, .ref 4] rfl rfl ?_
  refine z_xcV (vs := [.ref 4, .int p2]) (r := []) (L2 := [some (.ref 4), some (.int p2)]) zt85 3 rfl zo85 zzcV0_85 (Or.inl rfl) rfl X f4 rfl rfl rfl (Nat.le_of_ble_eq_true rfl) zzm35 (Nat.le_of_ble_eq_true rfl) rfl ?_
  refine z_xP zt35 0 1 [some (.ref 4), some (.int p2)] [.int p2] rfl rfl ?_
  refine z_xZ zt35 1 rfl rfl (fun (h103 : p2.toInt < 0) => ?_) (fun (h103 : 0 ≤ p2.toInt) => ?_)
  · skip
    refine z_xP zt35 5 22 [some (.ref 4), some (.int p2)] [.null] rfl rfl ?_
    refine z_xrn zt35 10 rfl zzr35 ?_
    show z_ev (d + 4) 85 12 [some (.ref 4), some (.int p1), some (.int p2), some (.int p3), some (.null), none, none] [.null] M0 _
    refine z_xP zt85 4 33 [some (.ref 4), some (.int p1), some (.int p2), some (.int p3), some (.null), some (.null), none] [] rfl rfl ?_
    refine z_xP zt85 10 34 [some (.ref 4), some (.int p1), some (.int p2), some (.int p3), some (.null), some (.null), none] [.int (-1)] rfl rfl ?_
    have qm1 : (((-1) : Int32)).toInt = (-1) := rfl
    exact z_xri zt85 11 rfl zzr85 (kk (-1) M0 X (z_cO0 (by unfold z_vO; omega) rfl))
  refine z_xP zt35 2 6 [some (.ref 4), some (.int p2)] [.ref 4, .int p2] rfl rfl ?_
  refine z_xgI zt35 3 rfl zo35 zzf0_59 X f4 (by decide) (by decide) rfl (fun (x105 : Int32) h104 (h106 : 0 ≤ x105.toInt) (h107 : x105.toInt ≤ 8) => ?_)
  have ex105 : (z_Fv M0 4 3).toInt = x105.toInt := by rw [z_Fv.of h104]
  have h108 := z_b32 p2
  refine z_xJ zt35 4 rfl rfl (fun (h109 : p2.toInt < x105.toInt) => ?_) (fun (h109 : x105.toInt ≤ p2.toInt) => ?_)
  · skip
    refine z_xP zt35 6 17 [some (.ref 4), some (.int p2)] [.ref 4] rfl rfl ?_
    refine z_xgX (b := 10) zt35 7 rfl zo35 zzf0_18 X f4 (by decide) (by decide) rfl ?_
    refine z_xP zt35 8 21 [some (.ref 4), some (.int p2)] [.int p2, .ref 10] rfl rfl ?_
    have f10 : T[10]? = some (.inr (10, 2, 8, 9, 0)) := X.1.k rfl (by decide)
    refine z_xal zt35 9 rfl X f10 (by decide) (by decide) (by decide) (by omega) (by omega) (fun (a110 : Nat) h111 h112 => ?_) (fun h113 => absurd h113 (z_Gs (hG.go X (by decide)).2.1 h104 (by omega) (by omega)))
    obtain ⟨q114, t115, m116, k117⟩ : ∃ q t m, T[a110]? = some (.inl (3, q, t, m, 9)) := h112
    have g118 := X.1.p3 k117
    refine z_xra zt35 10 rfl zzr35 ?_
    show z_ev (d + 4) 85 12 [some (.ref 4), some (.int p1), some (.int p2), some (.int p3), some (.null), none, none] [.ref a110] M0 _
    refine z_xP zt85 4 33 [some (.ref 4), some (.int p1), some (.int p2), some (.int p3), some (.null), some (.ref a110), none] [] rfl rfl ?_
    refine z_xP zt85 10 34 [some (.ref 4), some (.int p1), some (.int p2), some (.int p3), some (.null), some (.ref a110), none] [.int (-1)] rfl rfl ?_
    have qm1 : (((-1) : Int32)).toInt = (-1) := rfl
    exact z_xri zt85 11 rfl zzr85 (kk (-1) M0 X (z_cO0 (by unfold z_vO; omega) rfl))
  refine z_xP zt35 5 22 [some (.ref 4), some (.int p2)] [.null] rfl rfl ?_
  refine z_xrn zt35 10 rfl zzr35 ?_
  show z_ev (d + 4) 85 12 [some (.ref 4), some (.int p1), some (.int p2), some (.int p3), some (.null), none, none] [.null] M0 _
  refine z_xP zt85 4 33 [some (.ref 4), some (.int p1), some (.int p2), some (.int p3), some (.null), some (.null), none] [] rfl rfl ?_
  refine z_xP zt85 10 34 [some (.ref 4), some (.int p1), some (.int p2), some (.int p3), some (.null), some (.null), none] [.int (-1)] rfl rfl ?_
  have qm1 : (((-1) : Int32)).toInt = (-1) := rfl
  exact z_xri zt85 11 rfl zzr85 (kk (-1) M0 X (z_cO0 (by unfold z_vO; omega) rfl))
