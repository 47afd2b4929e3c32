/-! lawful of both sides -/
def z_q36 (T : List zK) (M : zH) (p1 p2 x : Int32) : Prop := (x.toInt = -1 ∧ (p1.toInt < 0 ∨ (z_Fv M 4 3).toInt ≤ p1.toInt ∨ p2.toInt < 0)) ∨ (0 ≤ p1.toInt ∧ p1.toInt < (z_Fv M 4 3).toInt ∧ 0 ≤ p2.toInt ∧ ∃ b N q t m, z_O M 10 p1.toNatClampNeg = some b ∧ T[b]? = some (.inl (3, q, t, m, 9)) ∧ z_F M b 0 = some (.ref N) ∧ ((x.toInt = -1 ∧ (m : Int) ≤ p2.toInt) ∨ (p2.toInt < (m : Int) ∧ ∃ sa, z_F M N 5 = some (.ref sa) ∧ z_Ar M sa p2.toNatClampNeg = x)))
def y_q210 (M : zH) (p1 p2 x : Int32) : Prop := (x.toInt = -1 ∧ (p1.toInt < 0 ∨ (z_Fv M 19 13).toInt ≤ p1.toInt ∨ p2.toInt < 0)) ∨ (0 ≤ p1.toInt ∧ p1.toInt < (z_Fv M 19 13).toInt ∧ 0 ≤ p2.toInt ∧ ((x.toInt = -1 ∧ (z_Ar M 31 p1.toNatClampNeg).toInt ≤ p2.toInt) ∨ (p2.toInt < (z_Ar M 31 p1.toNatClampNeg).toInt ∧ x = z_Ar M 30 (1024 * p1.toNatClampNeg + p2.toNatClampNeg))))
theorem zLC36 {T : List zK} {d : Nat} {K : Option Value → zH → Prop} {p1 : Int32} {p2 : Int32} {M0 : zH} (hW : z_W M0 T)  (hG : z_GG T M0) (kk : ∀ (x : Int32) (M1 : zH), z_X T zw36 M0 M1 → (-1) ≤ x.toInt → x.toInt ≤ 1023 → z_q36 T M0 p1 p2 x → K (some (.int x)) M1) : z_ev (d + 1) 36 0 [some (.ref 4), some (.int p1), some (.int p2), none] [] M0 K := by
  have X : z_X T zw36 M0 M0 := .refl hW
  refine z_xP zt36 0 2 [some (.ref 4), some (.int p1), some (.int p2), none] [.int p1, .ref 4] rfl rfl ?_
  have f4 : T[4]? = some (.inl (0, 0, 0, 0, 0)) := X.1.k rfl (by decide)
  refine z_xcV (vs := [.ref 4, .int p1]) (r := []) (L2 := [some (.ref 4), some (.int p1)]) zt36 1 rfl zo36 zzcV0_108 (Or.inl rfl) rfl X f4 rfl rfl rfl (Nat.le_of_ble_eq_true rfl) zzm37 (Nat.le_of_ble_eq_true rfl) rfl ?_
  refine z_xP zt37 0 1 [some (.ref 4), some (.int p1)] [.int p1] rfl rfl ?_
  refine z_xZ zt37 1 rfl rfl (fun (h1 : p1.toInt < 0) => ?_) (fun (h1 : 0 ≤ p1.toInt) => ?_)
  · skip
    refine z_xP zt37 5 25 [some (.ref 4), some (.int p1)] [.null] rfl rfl ?_
    refine z_xrn zt37 11 rfl zzr37 ?_
    show z_ev (d + 1) 36 5 [some (.ref 4), some (.int p1), some (.int p2), none] [.null] M0 _
    refine z_xP zt36 2 23 [some (.ref 4), some (.int p1), some (.int p2), some (.null)] [] rfl rfl ?_
    refine z_xP zt36 9 24 [some (.ref 4), some (.int p1), some (.int p2), some (.null)] [.int (-1)] rfl rfl ?_
    have qm1 : (((-1) : Int32)).toInt = (-1) := rfl
    exact z_xri zt36 10 rfl zzr36 (kk (-1) M0 X (by omega) (by omega) (Or.inl ⟨qm1, Or.inl h1⟩))
  refine z_xP zt37 2 6 [some (.ref 4), some (.int p1)] [.ref 4, .int p1] rfl rfl ?_
  refine z_xgI zt37 3 rfl zo37 zzf0_59 X f4 (by decide) (by decide) rfl (fun (x3 : Int32) h2 (h4 : 0 ≤ x3.toInt) (h5 : x3.toInt ≤ 8) => ?_)
  have h6 := z_b32 p1
  refine z_xJ zt37 4 rfl rfl (fun (h7 : p1.toInt < x3.toInt) => ?_) (fun (h7 : x3.toInt ≤ p1.toInt) => ?_)
  · skip
    refine z_xP zt37 6 17 [some (.ref 4), some (.int p1)] [.ref 4] rfl rfl ?_
    refine z_xgX (b := 10) zt37 7 rfl zo37 zzf0_18 X f4 (by decide) (by decide) rfl ?_
    refine z_xP zt37 8 21 [some (.ref 4), some (.int p1)] [.int p1, .ref 10] rfl rfl ?_
    have f10 : T[10]? = some (.inr (10, 2, 8, 9, 0)) := X.1.k rfl (by decide)
    refine z_xal zt37 9 rfl X f10 (by decide) (by decide) (by decide) (by omega) (by omega) (fun (a8 : Nat) h9 h10 => ?_) (fun h11 => absurd h11 (z_Gs (hG.go X (by decide)).2.1 h2 (by omega) (by omega)))
    obtain ⟨q12, t13, m14, k15⟩ : ∃ q t m, T[a8]? = some (.inl (3, q, t, m, 9)) := h10
    have g16 := X.1.p3 k15
    refine z_xgR (κ := .inl (2, q12, t13, m14, 0)) zt37 10 rfl zo37 zzf0_89 X k15 (by decide) (by decide) rfl (fun (a18 : Nat) h17 k19 => ?_)
    have g20 := X.1.p2 k19
    refine z_xra zt37 11 rfl zzr37 ?_
    show z_ev (d + 1) 36 5 [some (.ref 4), some (.int p1), some (.int p2), none] [.ref a18] M0 _
    refine z_xP zt36 2 10 [some (.ref 4), some (.int p1), some (.int p2), some (.ref a18)] [] rfl rfl ?_
    refine z_xP zt36 3 11 [some (.ref 4), some (.int p1), some (.int p2), some (.ref a18)] [.int p2] rfl rfl ?_
    refine z_xZ zt36 4 rfl rfl (fun (h21 : p2.toInt < 0) => ?_) (fun (h21 : 0 ≤ p2.toInt) => ?_)
    · skip
      refine z_xP zt36 9 24 [some (.ref 4), some (.int p1), some (.int p2), some (.ref a18)] [.int (-1)] rfl rfl ?_
      have qm1 : (((-1) : Int32)).toInt = (-1) := rfl
      exact z_xri zt36 10 rfl zzr36 (kk (-1) M0 X (by omega) (by omega) (Or.inl ⟨qm1, Or.inr (Or.inr h21)⟩))
    refine z_xP zt36 5 16 [some (.ref 4), some (.int p1), some (.int p2), some (.ref a18)] [.ref a18, .int p2] rfl rfl ?_
    refine z_xgR (κ := .inr (102, 0, m14, 0, 1023)) zt36 6 rfl zo36 zzf0_74 X k19 (by decide) (by decide) rfl (fun (a23 : Nat) h22 k24 => ?_)
    refine z_xln zt36 7 rfl X k24 (by decide) (by omega) (fun (x25 : Int32) (h26 : x25.toInt = ((m14 : Nat) : Int)) => ?_)
    have h27 := z_b32 p2
    refine z_xJ zt36 8 rfl rfl (fun (h28 : p2.toInt < x25.toInt) => ?_) (fun (h28 : x25.toInt ≤ p2.toInt) => ?_)
    · skip
      refine z_xP zt36 11 26 [some (.ref 4), some (.int p1), some (.int p2), some (.ref a18)] [.ref a18] rfl rfl ?_
      refine z_xgv zt36 12 rfl zo36 zzf0_74 X k19 (by decide) h22 ?_
      refine z_xP zt36 13 30 [some (.ref 4), some (.int p1), some (.int p2), some (.ref a18)] [.int p2, .ref a23] rfl rfl ?_
      refine z_xil zt36 14 rfl X k24 (by decide) (by omega) (by omega) (fun (x29 : Int32) h30 (h31 : 0 ≤ x29.toInt) (h32 : x29.toInt ≤ 1023) => ?_)
      exact z_xri zt36 15 rfl zzr36 (kk x29 M0 X (by omega) (by omega) (Or.inr ⟨h1, by rw [z_Fv.of h2]; exact h7, h21, a8, a18, q12, t13, m14, h9, k15, h17, Or.inr ⟨by omega, a23, h22, h30⟩⟩))
    refine z_xP zt36 9 24 [some (.ref 4), some (.int p1), some (.int p2), some (.ref a18)] [.int (-1)] rfl rfl ?_
    have qm1 : (((-1) : Int32)).toInt = (-1) := rfl
    exact z_xri zt36 10 rfl zzr36 (kk (-1) M0 X (by omega) (by omega) (Or.inr ⟨h1, by rw [z_Fv.of h2]; exact h7, h21, a8, a18, q12, t13, m14, h9, k15, h17, Or.inl ⟨qm1, by omega⟩⟩))
  refine z_xP zt37 5 25 [some (.ref 4), some (.int p1)] [.null] rfl rfl ?_
  refine z_xrn zt37 11 rfl zzr37 ?_
  show z_ev (d + 1) 36 5 [some (.ref 4), some (.int p1), some (.int p2), none] [.null] M0 _
  refine z_xP zt36 2 23 [some (.ref 4), some (.int p1), some (.int p2), some (.null)] [] rfl rfl ?_
  refine z_xP zt36 9 24 [some (.ref 4), some (.int p1), some (.int p2), some (.null)] [.int (-1)] rfl rfl ?_
  have qm1 : (((-1) : Int32)).toInt = (-1) := rfl
  exact z_xri zt36 10 rfl zzr36 (kk (-1) M0 X (by omega) (by omega) (Or.inl ⟨qm1, Or.inr (Or.inl (by rw [z_Fv.of h2]; exact h7))⟩))
theorem zLC210 {T : List zK} {d : Nat} {K : Option Value → zH → Prop} {p1 : Int32} {p2 : Int32} {M0 : zH} (hW : z_W M0 T)  (kk : ∀ (x : Int32) (M1 : zH), z_X T zw210 M0 M1 → (-1) ≤ x.toInt → x.toInt ≤ 1023 → y_q210 M0 p1 p2 x → K (some (.int x)) M1) : z_ev (d + 1) 210 0 [some (.ref 19), some (.int p1), some (.int p2)] [] M0 K := by
  have X : z_X T zw210 M0 M0 := .refl hW
  refine z_xP zt210 0 2 [some (.ref 19), some (.int p1), some (.int p2)] [.int p1, .ref 19] rfl rfl ?_
  have f19 : T[19]? = some (.inl (12, 0, 0, 0, 0)) := X.1.k rfl (by decide)
  refine z_xcV (vs := [.ref 19, .int p1]) (r := []) (L2 := [some (.ref 19), some (.int p1)]) zt210 1 rfl zo210 zzcV12_209 (Or.inl rfl) rfl X f19 rfl rfl rfl (Nat.le_of_ble_eq_true rfl) zzm209 (Nat.le_of_ble_eq_true rfl) rfl ?_
  refine z_xP zt209 0 1 [some (.ref 19), some (.int p1)] [.int p1] rfl rfl ?_
  refine z_xZ zt209 1 rfl rfl (fun (h1 : p1.toInt < 0) => ?_) (fun (h1 : 0 ≤ p1.toInt) => ?_)
  · skip
    refine z_xP zt209 6 17 [some (.ref 19), some (.int p1)] [.int 0] rfl rfl ?_
    refine z_xrz zt209 7 rfl zzr209 (by decide) (by decide) ?_
    show z_ev (d + 1) 210 5 [some (.ref 19), some (.int p1), some (.int p2)] [.int 0] M0 _
    refine z_xZ zt210 2 rfl rfl (fun (h2 : (0 : Int) = 0) => ?_) (fun (h2 : (0 : Int) ≠ 0) => absurd h2 (by omega))
    refine z_xP zt210 18 38 [some (.ref 19), some (.int p1), some (.int p2)] [.int (-1)] rfl rfl ?_
    have qm1 : (((-1) : Int32)).toInt = (-1) := rfl
    exact z_xri zt210 19 rfl zzr210 (kk (-1) M0 X (by omega) (by omega) (Or.inl ⟨qm1, Or.inl h1⟩))
  refine z_xP zt209 2 6 [some (.ref 19), some (.int p1)] [.ref 19, .int p1] rfl rfl ?_
  refine z_xgI zt209 3 rfl zo209 zzf12_110 X f19 (by decide) (by decide) rfl (fun (x4 : Int32) h3 (h5 : 0 ≤ x4.toInt) (h6 : x4.toInt ≤ 8) => ?_)
  have h7 := z_b32 p1
  refine z_xJ zt209 4 rfl rfl (fun (h8 : x4.toInt ≤ p1.toInt) => ?_) (fun (h8 : p1.toInt < x4.toInt) => ?_)
  · skip
    refine z_xP zt209 6 17 [some (.ref 19), some (.int p1)] [.int 0] rfl rfl ?_
    refine z_xrz zt209 7 rfl zzr209 (by decide) (by decide) ?_
    show z_ev (d + 1) 210 5 [some (.ref 19), some (.int p1), some (.int p2)] [.int 0] M0 _
    refine z_xZ zt210 2 rfl rfl (fun (h9 : (0 : Int) = 0) => ?_) (fun (h9 : (0 : Int) ≠ 0) => absurd h9 (by omega))
    refine z_xP zt210 18 38 [some (.ref 19), some (.int p1), some (.int p2)] [.int (-1)] rfl rfl ?_
    have qm1 : (((-1) : Int32)).toInt = (-1) := rfl
    exact z_xri zt210 19 rfl zzr210 (kk (-1) M0 X (by omega) (by omega) (Or.inl ⟨qm1, Or.inr (Or.inl (by rw [z_Fv.of h3]; exact h8))⟩))
  refine z_xP zt209 5 17 [some (.ref 19), some (.int p1)] [.int 1] rfl rfl ?_
  refine z_xrz zt209 7 rfl zzr209 (by decide) (by decide) ?_
  show z_ev (d + 1) 210 5 [some (.ref 19), some (.int p1), some (.int p2)] [.int 1] M0 _
  refine z_xZ zt210 2 rfl rfl (fun (h10 : (1 : Int) = 0) => absurd h10 (by omega)) (fun (h10 : (1 : Int) ≠ 0) => ?_)
  refine z_xP zt210 3 9 [some (.ref 19), some (.int p1), some (.int p2)] [.int p2] rfl rfl ?_
  refine z_xZ zt210 4 rfl rfl (fun (h11 : p2.toInt < 0) => ?_) (fun (h11 : 0 ≤ p2.toInt) => ?_)
  · skip
    refine z_xP zt210 18 38 [some (.ref 19), some (.int p1), some (.int p2)] [.int (-1)] rfl rfl ?_
    have qm1 : (((-1) : Int32)).toInt = (-1) := rfl
    exact z_xri zt210 19 rfl zzr210 (kk (-1) M0 X (by omega) (by omega) (Or.inl ⟨qm1, Or.inr (Or.inr h11)⟩))
  refine z_xP zt210 5 14 [some (.ref 19), some (.int p1), some (.int p2)] [.ref 19, .int p2] rfl rfl ?_
  refine z_xgX (b := 31) zt210 6 rfl zo210 zzf12_43 X f19 (by decide) (by decide) rfl ?_
  refine z_xP zt210 7 18 [some (.ref 19), some (.int p1), some (.int p2)] [.int p1, .ref 31, .int p2] rfl rfl ?_
  have f31 : T[31]? = some (.inr (31, 0, 8, 0, 1024)) := X.1.k rfl (by decide)
  refine z_xil zt210 8 rfl X f31 (by decide) (by omega) (by omega) (fun (x12 : Int32) h13 (h14 : 0 ≤ x12.toInt) (h15 : x12.toInt ≤ 1024) => ?_)
  have h16 := z_b32 p2
  refine z_xJ zt210 9 rfl rfl (fun (h17 : x12.toInt ≤ p2.toInt) => ?_) (fun (h17 : p2.toInt < x12.toInt) => ?_)
  · skip
    refine z_xP zt210 18 38 [some (.ref 19), some (.int p1), some (.int p2)] [.int (-1)] rfl rfl ?_
    have qm1 : (((-1) : Int32)).toInt = (-1) := rfl
    exact z_xri zt210 19 rfl zzr210 (kk (-1) M0 X (by omega) (by omega) (Or.inr ⟨h1, by rw [z_Fv.of h3]; exact h8, h11, Or.inl ⟨qm1, by rw [h13]; exact h17⟩⟩))
  refine z_xP zt210 10 23 [some (.ref 19), some (.int p1), some (.int p2)] [.ref 19] rfl rfl ?_
  refine z_xgX (b := 30) zt210 11 rfl zo210 zzf12_40 X f19 (by decide) (by decide) rfl ?_
  refine z_xP zt210 12 30 [some (.ref 19), some (.int p1), some (.int p2)] [.int p1, .int 1024, .ref 30] rfl rfl ?_
  refine z_xI zt210 13 rfl rfl (fun (x18 : Int32) (h19 : x18.toInt = 1024 * p1.toInt) => ?_) (z_pMul rfl rfl (by omega) (by omega))
  refine z_xP zt210 14 32 [some (.ref 19), some (.int p1), some (.int p2)] [.int p2, .int x18, .ref 30] rfl rfl ?_
  refine z_xI zt210 15 rfl rfl (fun (x20 : Int32) (h21 : x20.toInt = x18.toInt + p2.toInt) => ?_) (z_pAdd rfl rfl (by omega) (by omega))
  have f30 : T[30]? = some (.inr (30, 0, 8192, 0, 1023)) := X.1.k rfl (by decide)
  refine z_xil zt210 16 rfl X f30 (by decide) (by omega) (by omega) (fun (x22 : Int32) h23 (h24 : 0 ≤ x22.toInt) (h25 : x22.toInt ≤ 1023) => ?_)
  refine z_xP zt210 17 38 [some (.ref 19), some (.int p1), some (.int p2)] [.int x22] rfl rfl ?_
  exact z_xri zt210 19 rfl zzr210 (kk x22 M0 X (by omega) (by omega) (Or.inr ⟨h1, by rw [z_Fv.of h3]; exact h8, h11, Or.inr ⟨by rw [h13]; exact h17, by rw [show 1024 * p1.toNatClampNeg + p2.toNatClampNeg = x20.toNatClampNeg from by unfold Int32.toNatClampNeg; omega]; exact h23.symm⟩⟩))
theorem z_same3 {T : List zK} {M M1 : zH} {x1 x2 y z : Int32} {rs : List Nat} (h6 : z_R6 T M) (hW : z_W M T) (ke : z_ke T rs M M1) (hs : (z_agr.all fun x => !rs.elem x) = true) (hA2 : (z_Fv M1 19 13).toInt = (z_Fv M 4 3).toInt) (h1 : z_q36 T M x1 x2 y) (h2 : y_q210 M1 x1 x2 z) : y = z := by
  have k4 : T[4]? = some (.inl (0, 0, 0, 0, 0)) := hW.k rfl (by decide)
  obtain ⟨A, hA, _, _⟩ := hW.fi k4 (k := 3) (lo := 0) (hi := 8) (by decide) rfl
  have eA := z_Fv.of hA
  unfold y_q210 at h2
  rw [hA2] at h2
  unfold z_q36 at h1
  rw [eA] at h1 h2
  apply Int32.toInt_inj.mp
  rcases h1 with ⟨h1, h3⟩ | ⟨a1, a2, a3, b, N, q, t, m, ob, kb, fb, h1⟩
  · rcases h2 with ⟨h2, _⟩ | ⟨b1, b2, b3, _⟩
    · rw [h1, h2]
    · exfalso; omega
  · rcases h2 with ⟨_, h2⟩ | ⟨_, _, _, h2⟩
    · exfalso; omega
    · have ex : (x1.toNatClampNeg : Int) = x1.toInt := by unfold Int32.toNatClampNeg; omega
      obtain ⟨b', N', q', t', m', pr, en, B, ob', kb', fb', hG, hY⟩ := h6 A hA x1.toNatClampNeg (by omega)
      obtain rfl : b = b' := Option.some.inj (ob.symm.trans ob')
      rw [kb] at kb'
      cases kb'
      obtain rfl : N = N' := by rw [fb] at fb'; cases fb'; rfl
      have hY1 := hY.ke hW ke hs
      obtain ⟨k0, hB, hm, _, _, _, ⟨sa, e5, k5, f5⟩, _⟩ := hG
      rw [hY1.2.2.2.2.1] at h2
      rcases h1 with ⟨h1, h3⟩ | ⟨h3, sa', e5', h1⟩
      · rcases h2 with ⟨h2, _⟩ | ⟨h2, _⟩
        · rw [h1, h2]
        · exfalso; omega
      · rcases h2 with ⟨_, h2⟩ | ⟨_, h2⟩
        · exfalso; omega
        · obtain rfl : sa = sa' := by rw [e5] at e5'; cases e5'; rfl
          have ex2 : (x2.toNatClampNeg : Int) = x2.toInt := by unfold Int32.toNatClampNeg; omega
          obtain ⟨s, s1, s2, s3⟩ := z_lc_ex (B := B) (2 ^ q) x2.toNatClampNeg (by rw [← hm]; omega)
          have g1 := f5 s s1 s2
          have g2 := hY1.2.2.2.2.2.2 s s1 s2
          rw [s3] at g1 g2
          rw [h1] at g1
          rw [h2, g1]
          exact g2.symm
def z_Q3 (I : zH → Prop) : Prop := ∀ (x1 : Int32) (x2 : Int32) (M : zH), I M → z_ev 2046 36 0 (z_ent [.ref 4, .int x1, .int x2] (z_ml 36)) [] M fun v M1 => (∃ y, v = some (.int y)) ∧ z_ev 2046 210 0 (z_ent [.ref 19, .int x1, .int x2] (z_ml 210)) [] M1 fun v2 M2 => (∃ y, v2 = some (.int y)) ∧ v = v2 ∧ I M2 ∧ M2.length ≤ M.length + 1171 ∧ z_szr M2 ≤ z_szr M + 14000
theorem zS3 : z_Q3 z_J := by
  intro x1 x2 M ⟨T, hA, hR⟩
  refine z_J.two (r1 := zw36) (r2 := zw210) (C := fun v v2 => v = v2) hA hR rfl rfl ?_
  rw [zzm36]
  show z_ev 2046 36 0 [some (.ref 4), some (.int x1), some (.int x2), none] [] M _
  refine zLC36 (d := 2045) hA.1.1 hA.1 fun y M1 X1 _ _ h1 => ?_
  have hB := z_kee hA X1 (by decide)
  refine ⟨⟨y, rfl⟩, X1, ?_⟩
  rw [zzm210]
  show z_ev 2046 210 0 [some (.ref 19), some (.int x1), some (.int x2)] [] M1 _
  refine zLC210 (d := 2045) hB.1.1 fun z M2 X2 _ _ h2 => ?_
  have k19 : T[19]? = some (.inl (12, 0, 0, 0, 0)) := hA.1.1.k rfl (by decide)
  exact ⟨⟨z, rfl⟩, by rw [z_same3 hR.2.1 hA.1.1 X1.2 rfl ((congrArg Int32.toInt (z_FvK (X1.2.1 19 12 0 0 0 0 13 k19 (by decide)))).trans (z_R5.v hR.1).2.1) h1 h2], X2⟩
