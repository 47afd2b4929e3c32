/-! a bench is altered -/
theorem z_rfe {o : Option Value} {a b : Nat} (h : o = some (.ref a)) (h2 : o = some (.ref b)) : a = b := by
  rw [h] at h2
  cases h2
  rfl
def z_alt (M0 M1 : zH) (b : Nat) (j Y N : Int32) : Prop := z_Ar M1 (b + 2) = upd (z_Ar M0 (b + 2)) j.toNatClampNeg Y ∧ z_Ar M1 (b + 3) = upd (z_Ar M0 (b + 3)) j.toNatClampNeg N
theorem z_ive {o : Option Value} {a b : Int32} (h : o = some (.int a)) (h2 : o = some (.int b)) : a = b := by
  rw [h] at h2
  cases h2
  rfl
theorem z_R6.at2 {T : List zK} {M : zH} (h6 : z_R6 T M) {A p : Int32} (hA : z_F M 4 3 = some (.int A)) (h0 : 0 ≤ p.toInt) (hp : p.toInt < A.toInt) {b q t m : Nat} (ho : z_O M 10 p.toNatClampNeg = some b) (kb : T[b]? = some (.inl (3, q, t, m, 9))) : ∃ (N pr en : Nat) (B : Nat → Nat), z_AB T M p.toNatClampNeg b N q t m pr en B := by
  have ex : (p.toNatClampNeg : Int) = p.toInt := by unfold Int32.toNatClampNeg; omega
  obtain ⟨b', N', q', t', m', pr, en, B, hAB⟩ := h6 A hA p.toNatClampNeg (by omega)
  have ob' := hAB.1
  have kb' := hAB.2.1
  obtain rfl : b = b' := Option.some.inj (ho.symm.trans ob')
  rw [kb] at kb'
  cases kb'
  exact ⟨N', pr, en, B, hAB⟩
/-- a call about an agenda's told bench: none such, or as told -/
def z_qB (T : List zK) (M : zH) (p : Int32) (x : Int) (R0 : Prop) (R : Nat → Nat → (Nat → Nat) → Prop) : Prop := ∃ A : Int32, z_F M 4 3 = some (.int A) ∧ ((x = -1 ∧ ¬ (0 ≤ p.toInt ∧ p.toInt < A.toInt) ∧ R0) ∨ ((0 ≤ p.toInt ∧ p.toInt < A.toInt) ∧ ∃ (b N q t m pr en : Nat) (B : Nat → Nat), z_AB T M p.toNatClampNeg b N q t m pr en B ∧ R b q B))
theorem z_qB0 {T : List zK} {M : zH} {p A : Int32} {x : Int} {R0 : Prop} {R : Nat → Nat → (Nat → Nat) → Prop} (hA : z_F M 4 3 = some (.int A)) (h : x = -1) (hp : p.toInt < 0 ∨ A.toInt ≤ p.toInt) (h0 : R0) : z_qB T M p x R0 R := ⟨A, hA, Or.inl ⟨h, by omega, h0⟩⟩
theorem z_qB1 {T : List zK} {M : zH} {p A : Int32} {x : Int} {b N q t m pr en : Nat} {B : Nat → Nat} {R0 : Prop} {R : Nat → Nat → (Nat → Nat) → Prop} (hA : z_F M 4 3 = some (.int A)) (hp : 0 ≤ p.toInt ∧ p.toInt < A.toInt) (h : z_AB T M p.toNatClampNeg b N q t m pr en B) (hR : R b q B) : z_qB T M p x R0 R := ⟨A, hA, Or.inr ⟨hp, b, N, q, t, m, pr, en, B, h, hR⟩⟩
def y_qB (M : zH) (p : Int32) (x : Int) (R0 R : Prop) : Prop := ∃ A : Int32, z_F M 19 13 = some (.int A) ∧ ((x = -1 ∧ ¬ (0 ≤ p.toInt ∧ p.toInt < A.toInt) ∧ R0) ∨ ((0 ≤ p.toInt ∧ p.toInt < A.toInt) ∧ R))
theorem y_qB0 {M : zH} {p A : Int32} {x : Int} {R0 R : Prop} (hA : z_F M 19 13 = some (.int A)) (h : x = -1) (hp : p.toInt < 0 ∨ A.toInt ≤ p.toInt) (h0 : R0) : y_qB M p x R0 R := ⟨A, hA, Or.inl ⟨h, by omega, h0⟩⟩
theorem y_qB1 {M : zH} {p A : Int32} {x : Int} {R0 R : Prop} (hA : z_F M 19 13 = some (.int A)) (hp : 0 ≤ p.toInt ∧ p.toInt < A.toInt) (hR : R) : y_qB M p x R0 R := ⟨A, hA, Or.inr ⟨hp, hR⟩⟩
def y_se (M0 M1 : zH) (p w Y N : Int32) : Prop := (∃ v : Int32, v.toInt = (z_Ar M0 35 p.toNatClampNeg).toInt + 1 ∧ z_Ar M1 35 = upd (z_Ar M0 35) p.toNatClampNeg v) ∧ ∃ i : Int32, i.toInt = 9 * p.toInt + (z_Ar M0 35 p.toNatClampNeg).toInt ∧ z_Ar M1 32 = upd (z_Ar M0 32) i.toNatClampNeg w ∧ z_Ar M1 33 = upd (z_Ar M0 33) i.toNatClampNeg Y ∧ z_Ar M1 34 = upd (z_Ar M0 34) i.toNatClampNeg N
def y_alt (M0 M1 : zH) (p j Y N : Int32) : Prop := ∃ i : Int32, i.toInt = 9 * p.toInt + j.toInt ∧ z_Ar M1 33 = upd (z_Ar M0 33) i.toNatClampNeg Y ∧ ∃ i2 : Int32, i2.toInt = 9 * p.toInt + j.toInt ∧ z_Ar M1 34 = upd (z_Ar M0 34) i2.toNatClampNeg N
def z_se (M0 M1 : zH) (b : Nat) (j w Y N : Int32) : Prop := (∃ x : Int32, z_F M1 b 4 = some (.int x) ∧ x.toInt = j.toInt + 1) ∧ z_Ar M1 (b + 1) = upd (z_Ar M0 (b + 1)) j.toNatClampNeg w ∧ z_Ar M1 (b + 2) = upd (upd (z_Ar M0 (b + 2)) j.toNatClampNeg 0) j.toNatClampNeg Y ∧ z_Ar M1 (b + 3) = upd (upd (z_Ar M0 (b + 3)) j.toNatClampNeg 0) j.toNatClampNeg N
theorem z_alt.pre {T : List zK} {M0 M M1 : zH} {rs : List Nat} {b q t m J : Nat} {j Y N : Int32} (hbk : z_blk T M0) (hW : z_W M0 T) (kb : T[b]? = some (.inl (3, q, t, m, J))) (ke : z_ke T rs M0 M) (h : z_alt M M1 b j Y N) (hr : (([202, 203] : List Nat).all fun x => !rs.elem x) = true := by decide) : z_alt M0 M1 b j Y N := by
  have nn := z_nin hr
  unfold z_alt at *
  rw [← ke.a (hbk.k2 hW kb) (nn _ rfl), ← ke.a (hbk.k3 hW kb) (nn _ rfl)]
  exact h
theorem z_se.pre {T : List zK} {M0 M M1 : zH} {rs : List Nat} {b q t m J : Nat} {j w Y N : Int32} (hbk : z_blk T M0) (hW : z_W M0 T) (kb : T[b]? = some (.inl (3, q, t, m, J))) (ke : z_ke T rs M0 M) (h : z_se M M1 b j w Y N) (hr : (([201, 202, 203] : List Nat).all fun x => !rs.elem x) = true := by decide) : z_se M0 M1 b j w Y N := by
  have nn := z_nin hr
  unfold z_se at *
  rw [← ke.a (hbk.k1 hW kb) (nn _ rfl), ← ke.a (hbk.k2 hW kb) (nn _ rfl), ← ke.a (hbk.k3 hW kb) (nn _ rfl)]
  exact h
def zw53 : List Nat := [201, 202, 203, 205, 1304]
def zw61 : List Nat := [205, 1304]
theorem zUB7 {T : List zK} {d : Nat} {K : Option Value → zH → Prop} {a0 : Nat} {rr : Nat} {len : Nat} {lo : Int} {hi : Int} {p1 : Int32} {M0 : zH} (r0 : rr ≠ 99 ∧ 4 ≤ a0) (k0 : T[a0]? = some (.inr (rr, 0, len, lo, hi))) (hv : lo ≤ p1.toInt ∧ p1.toInt ≤ hi) (hl : len < 2147483648) (kk : ∀ (M1 : zH), z_X T [rr] M0 M1 → (∀ k : Nat, k < len → z_Ar M1 a0 k = p1) → K none M1) : ∀ n : Nat, (∀ (M : zH) (b2 : Int32) (b3 : Int32), z_X T [rr] M0 M → 0 ≤ b2.toInt ∧ b2.toInt ≤ 2147483647 → 0 ≤ b3.toInt ∧ b3.toInt ≤ 2147483647 → b3.toInt = (len : Int) → (∀ k : Nat, k < b2.toInt.toNat → z_Ar M a0 k = p1) → ((0) * 2 + 0) * 2147483648 + (2147483647 - b2.toInt) < (n : Int) → z_ev d 7 5 [some (.ref a0), some (.int p1), some (.int b2), some (.int b3)] [] M K) := by
  intro n
  induction n with
  | zero => exact by intros; exfalso; omega
  | succ n ih =>
    intro M b2 b3 X hh0 hh1 hh2 hI hE
    refine z_xP zt7 3 7 [some (.ref a0), some (.int p1), some (.int b2), some (.int b3)] [.int b3, .int b2] rfl rfl ?_
    have h1 := z_b32 b2
    have h2 := z_b32 b3
    refine z_xJ zt7 4 rfl rfl (fun (h3 : b3.toInt ≤ b2.toInt) => ?_) (fun (h3 : b2.toInt < b3.toInt) => ?_)
    · skip
      exact z_xrv zt7 9 rfl zzr7 (kk M X (fun k hk => hI k (by omega)))
    refine z_xP zt7 5 13 [some (.ref a0), some (.int p1), some (.int b2), some (.int b3)] [.int p1, .int b2, .ref a0] rfl rfl ?_
    refine z_xis zt7 6 rfl X k0 r0.1 r0.2 (by omega) (by omega) (by omega) (by omega) (List.mem_singleton.mpr rfl) (fun M4 X5 e6 h7 => ?_)
    refine z_xN zt7 7 rfl rfl (fun (x8 : Int32) (h9 : x8.toInt = b2.toInt + 1) => ?_) (z_pAdd rfl rfl (by omega) (by omega))
    show z_ev d 7 17 [some (.ref a0), some (.int p1), some (.int x8), some (.int b3)] [] M4 _
    refine z_xP zt7 8 5 [some (.ref a0), some (.int p1), some (.int x8), some (.int b3)] [] rfl rfl ?_
    have h10 := z_b32 x8
    refine ih M4 x8 b3 X5 ⟨by omega, by omega⟩ ⟨by omega, by omega⟩ (by omega) (fun k hk => ?_) (by omega)
    rw [h7]
    show (if k = b2.toInt.toNat then p1 else z_Ar M a0 k) = p1
    by_cases c : k = b2.toInt.toNat
    · rw [if_pos c]
    · rw [if_neg c]
      exact hI k (by omega)
theorem zUC7 {T : List zK} {d : Nat} {K : Option Value → zH → Prop} {a0 : Nat} {rr : Nat} {len : Nat} {lo : Int} {hi : Int} {p1 : Int32} {M0 : zH} (hW : z_W M0 T) (r0 : rr ≠ 99 ∧ 4 ≤ a0) (k0 : T[a0]? = some (.inr (rr, 0, len, lo, hi))) (hv : lo ≤ p1.toInt ∧ p1.toInt ≤ hi) (hl : len < 2147483648) (kk : ∀ (M1 : zH), z_X T [rr] M0 M1 → (∀ k : Nat, k < len → z_Ar M1 a0 k = p1) → K none M1) : z_ev d 7 0 [some (.ref a0), some (.int p1), none, none] [] M0 K := by
  have X : z_X T [rr] M0 M0 := .refl hW
  refine z_xP zt7 0 3 [some (.ref a0), some (.int p1), some (.int 0), none] [.ref a0] rfl rfl ?_
  refine z_xln zt7 1 rfl X k0 r0.1 (by omega) (fun (x1 : Int32) (h2 : x1.toInt = ((len : Nat) : Int)) => ?_)
  refine z_xP zt7 2 5 [some (.ref a0), some (.int p1), some (.int 0), some (.int x1)] [] rfl rfl ?_
  have q0 : ((0 : Int32)).toInt = 0 := rfl
  have h3 := z_b32 x1
  exact (zUB7 r0 k0 hv hl kk 4294967296) M0 (0) x1 X (by decide) ⟨by omega, by omega⟩ (by omega) (fun k hk => absurd hk (Nat.not_lt_zero k)) (by omega)
theorem zUB54 {T : List zK} {d : Nat} {K : Option Value → zH → Prop} {a0 : Nat} {q : Nat} {t : Nat} {m : Nat} {J : Nat} {p1 : Int32} {p2 : Int32} {p3 : Int32} {jv : Int32} {M0 : zH} (k0 : T[a0]? = some (.inl (3, q, t, m, J))) (u1 : 0 ≤ p1.toInt ∧ p1.toInt ≤ 8) (hW0 : z_W M0 T) (hbk : z_blk T M0) (hln : z_LN M0 a0 q) (hj4 : z_F M0 a0 4 = some (.int jv)) (hj5 : p1.toInt < jv.toInt) (kk : ∀ (M1 : zH), z_X T zw54 M0 M1 → z_alt M0 M1 a0 p1 p2 p3 → z_LN M1 a0 q → K none M1) : ∀ n : Nat, (∀ (M : zH) (b4 : Int32) (b5 : Int32) (b6 : Int32) (o7 : Option Value), z_X T zw54 M0 M → 0 ≤ b6.toInt ∧ b6.toInt ≤ 10 → z_Ar M (a0 + 2) = z_Ar M0 (a0 + 2) → z_Ar M (a0 + 3) = z_Ar M0 (a0 + 3) → z_Ar M0 (a0 + 2) p1.toNatClampNeg = b4 → z_Ar M0 (a0 + 3) p1.toNatClampNeg = b5 → z_lvi M0 M a0 p1 p2 p3 b6.toInt → ((0) * 2 + 0) * 11 + (10 - b6.toInt) < (n : Int) → z_ev d 54 19 [some (.ref a0), some (.int p1), some (.int p2), some (.int p3), some (.int b4), some (.int b5), some (.int b6), o7] [] M K) := by
  intro n
  induction n with
  | zero => exact by intros; exfalso; omega
  | succ n ih =>
    intro M b4 b5 b6 o7 X hh0 hY hN hO4 hO5 hV hE
    have g0 := X.1.p3 k0
    refine z_xP zt54 9 22 [some (.ref a0), some (.int p1), some (.int p2), some (.int p3), some (.int b4), some (.int b5), some (.int b6), o7] [.ref a0, .int b6] rfl rfl ?_
    refine z_xgR (κ := .inl (2, q, t, m, 0)) zt54 10 rfl zo54 zzf3_39 X k0 (by decide) (by decide) rfl (fun (a2 : Nat) h1 k3 => ?_)
    have g4 := X.1.p2 k3
    refine z_xgI zt54 11 rfl zo54 zzf3_63 X k3 (by decide) (by decide) rfl (fun (x6 : Int32) h5 (h7 : (q : Int) ≤ x6.toInt) (h8 : x6.toInt ≤ (q : Int)) => ?_)
    refine z_xJ zt54 12 rfl rfl (fun (h9 : x6.toInt ≤ b6.toInt) => ?_) (fun (h9 : b6.toInt < x6.toInt) => ?_)
    · skip
      refine z_xP zt54 45 88 [some (.ref a0), some (.int p1), some (.int p2), some (.int p3), some (.int b4), some (.int b5), some (.int b6), o7] [.ref a0] rfl rfl ?_
      refine z_xgR (κ := .inr (202, 0, 9, (-2147483648), 2147483647)) zt54 46 rfl zo54 zzf3_15 X k0 (by decide) (by decide) rfl (fun (a11 : Nat) h10 k12 => ?_)
      refine z_xP zt54 47 93 [some (.ref a0), some (.int p1), some (.int p2), some (.int p3), some (.int b4), some (.int b5), some (.int b6), o7] [.int p2, .int p1, .ref a11] rfl rfl ?_
      refine z_xis zt54 48 rfl X k12 (by decide) (X.1.g4 k12 (by decide)) (by omega) (by omega) (Int32.le_toInt _) (Int32.toInt_le _) (by decide) (fun M13 X14 e15 h16 => ?_)
      have h17 := (e15.f k0 (by decide) h10)
      have i18 := z_rfe h17 (X14.2.f k0 (by decide) (hbk _ _ _ _ _ k0).2.1)
      rw [i18] at h16
      refine z_xP zt54 49 95 [some (.ref a0), some (.int p1), some (.int p2), some (.int p3), some (.int b4), some (.int b5), some (.int b6), o7] [.ref a0] rfl rfl ?_
      refine z_xgR (κ := .inr (203, 0, 9, (-2147483648), 2147483647)) zt54 50 rfl zo54 zzf3_18 X14 k0 (by decide) (by decide) rfl (fun (a20 : Nat) h19 k21 => ?_)
      refine z_xP zt54 51 100 [some (.ref a0), some (.int p1), some (.int p2), some (.int p3), some (.int b4), some (.int b5), some (.int b6), o7] [.int p3, .int p1, .ref a20] rfl rfl ?_
      refine z_xis zt54 52 rfl X14 k21 (by decide) (X14.1.g4 k21 (by decide)) (by omega) (by omega) (Int32.le_toInt _) (Int32.toInt_le _) (by decide) (fun M22 X23 e24 h25 => ?_)
      have h26 := (e24.f k0 (by decide) h19)
      have i27 := z_rfe h26 (X23.2.f k0 (by decide) (hbk _ _ _ _ _ k0).2.2.1)
      rw [i27] at h25
      exact z_xrv zt54 53 rfl zzr54 (kk M22 X23 ⟨((e24.a (hbk.k2 hW0 k0) (by decide)).trans (h16.trans (congrArg (fun f => upd f p1.toNatClampNeg p2) hY))), (h25.trans (congrArg (fun f => upd f p1.toNatClampNeg p3) ((e15.a (hbk.k3 hW0 k0) (by decide)).trans hN)))⟩ (z_LN.al hln hj4 (by omega) (by omega) ((e24.1 a0 3 _ _ _ _ 4 k0 (by decide)).trans ((e15.1 a0 3 _ _ _ _ 4 k0 (by decide)).trans (X.2.1 a0 3 _ _ _ _ 4 k0 (by decide)))) ((e24.a (hbk.k1 hW0 k0) (by decide)).trans ((e15.a (hbk.k1 hW0 k0) (by decide)).trans (X.2.a (hbk.k1 hW0 k0) (by decide)))) ((e24.a (hbk.k2 hW0 k0) (by decide)).trans (h16.trans (congrArg (fun f => upd f p1.toNatClampNeg p2) hY))) (h25.trans (congrArg (fun f => upd f p1.toNatClampNeg p3) ((e15.a (hbk.k3 hW0 k0) (by decide)).trans hN))) (fun k k0_ k1_ => by rw [((e24.a (hbk.k4 hW0 k0) (by decide)).trans ((e15.a (hbk.k4 hW0 k0) (by decide)).trans rfl))]; exact (hV k k0_).1 (by omega))))
    refine z_xP zt54 13 34 [some (.ref a0), some (.int p1), some (.int p2), some (.int p3), some (.int b4), some (.int b5), some (.int b6), o7] [.int b6, .int p2] rfl rfl ?_
    have h28 := z_b32 p2
    refine z_xI zt54 14 rfl rfl (fun (x29 : Int32) (h30 : x29 = p2 >>> (b6 &&& 31)) => ?_) (rfl)
    refine z_xP zt54 15 36 [some (.ref a0), some (.int p1), some (.int p2), some (.int p3), some (.int b4), some (.int b5), some (.int b6), o7] [.int 1, .int x29] rfl rfl ?_
    refine z_xI zt54 16 rfl rfl (fun (x31 : Int32) (h32 : x31 = x29 &&& (1 : Int32)) => ?_) (rfl)
    refine z_xP zt54 17 40 [some (.ref a0), some (.int p1), some (.int p2), some (.int p3), some (.int b4), some (.int b5), some (.int b6), o7] [.int b6, .int p3, .int x31] rfl rfl ?_
    have h33 := z_b32 p3
    refine z_xI zt54 18 rfl rfl (fun (x34 : Int32) (h35 : x34 = p3 >>> (b6 &&& 31)) => ?_) (rfl)
    refine z_xP zt54 19 42 [some (.ref a0), some (.int p1), some (.int p2), some (.int p3), some (.int b4), some (.int b5), some (.int b6), o7] [.int 1, .int x34, .int x31] rfl rfl ?_
    refine z_xI zt54 20 rfl rfl (fun (x36 : Int32) (h37 : x36 = x34 &&& (1 : Int32)) => ?_) (rfl)
    have h38 := z_b32 x31
    have h39 := z_b32 x36
    refine z_xI zt54 21 rfl rfl (fun (x40 : Int32) (h41 : x40 = x31 - x36) => ?_) (rfl)
    refine z_xP zt54 22 48 [some (.ref a0), some (.int p1), some (.int p2), some (.int p3), some (.int b4), some (.int b5), some (.int b6), o7] [.int b6, .int b4, .int x40] rfl rfl ?_
    have h42 := z_b32 b4
    refine z_xI zt54 23 rfl rfl (fun (x43 : Int32) (h44 : x43 = b4 >>> (b6 &&& 31)) => ?_) (rfl)
    refine z_xP zt54 24 50 [some (.ref a0), some (.int p1), some (.int p2), some (.int p3), some (.int b4), some (.int b5), some (.int b6), o7] [.int 1, .int x43, .int x40] rfl rfl ?_
    refine z_xI zt54 25 rfl rfl (fun (x45 : Int32) (h46 : x45 = x43 &&& (1 : Int32)) => ?_) (rfl)
    have h47 := z_b32 x40
    have h48 := z_b32 x45
    refine z_xI zt54 26 rfl rfl (fun (x49 : Int32) (h50 : x49 = x40 - x45) => ?_) (rfl)
    refine z_xP zt54 27 56 [some (.ref a0), some (.int p1), some (.int p2), some (.int p3), some (.int b4), some (.int b5), some (.int b6), o7] [.int b6, .int b5, .int x49] rfl rfl ?_
    have h51 := z_b32 b5
    refine z_xI zt54 28 rfl rfl (fun (x52 : Int32) (h53 : x52 = b5 >>> (b6 &&& 31)) => ?_) (rfl)
    refine z_xP zt54 29 58 [some (.ref a0), some (.int p1), some (.int p2), some (.int p3), some (.int b4), some (.int b5), some (.int b6), o7] [.int 1, .int x52, .int x49] rfl rfl ?_
    refine z_xI zt54 30 rfl rfl (fun (x54 : Int32) (h55 : x54 = x52 &&& (1 : Int32)) => ?_) (rfl)
    have h56 := z_b32 x49
    have h57 := z_b32 x54
    refine z_xI zt54 31 rfl rfl (fun (x58 : Int32) (h59 : x58 = x49 + x54) => ?_) (rfl)
    refine z_xP zt54 32 63 [some (.ref a0), some (.int p1), some (.int p2), some (.int p3), some (.int b4), some (.int b5), some (.int b6), some (.int x58)] [.ref a0] rfl rfl ?_
    refine z_xgR (κ := .inr (205, 0, 10, (-2147483648), 2147483647)) zt54 33 rfl zo54 zzf3_21 X k0 (by decide) (by decide) rfl (fun (a61 : Nat) h60 k62 => ?_)
    refine z_xP zt54 34 69 [some (.ref a0), some (.int p1), some (.int p2), some (.int p3), some (.int b4), some (.int b5), some (.int b6), some (.int x58)] [.int b6, .ref a61, .int b6, .ref a61] rfl rfl ?_
    refine z_xil zt54 35 rfl X k62 (by decide) (by omega) (by omega) (fun (x63 : Int32) h64 (h65 : (-2147483648) ≤ x63.toInt) (h66 : x63.toInt ≤ 2147483647) => ?_)
    refine z_xP zt54 36 73 [some (.ref a0), some (.int p1), some (.int p2), some (.int p3), some (.int b4), some (.int b5), some (.int b6), some (.int x58)] [.ref a0, .int x58, .int x63, .int b6, .ref a61] rfl rfl ?_
    refine z_xgR (κ := .inr (201, 0, 9, (-2147483648), 2147483647)) zt54 37 rfl zo54 zzf3_9 X k0 (by decide) (by decide) rfl (fun (a68 : Nat) h67 k69 => ?_)
    refine z_xP zt54 38 77 [some (.ref a0), some (.int p1), some (.int p2), some (.int p3), some (.int b4), some (.int b5), some (.int b6), some (.int x58)] [.int p1, .ref a68, .int x58, .int x63, .int b6, .ref a61] rfl rfl ?_
    refine z_xil zt54 39 rfl X k69 (by decide) (by omega) (by omega) (fun (x70 : Int32) h71 (h72 : (-2147483648) ≤ x70.toInt) (h73 : x70.toInt ≤ 2147483647) => ?_)
    have h74 := z_b32 x58
    have h75 := z_b32 x70
    refine z_xI zt54 40 rfl rfl (fun (x76 : Int32) (h77 : x76 = x58 * x70) => ?_) (rfl)
    have h78 := z_b32 x63
    have h79 := z_b32 x76
    refine z_xI zt54 41 rfl rfl (fun (x80 : Int32) (h81 : x80 = x63 + x76) => ?_) (rfl)
    refine z_xis zt54 42 rfl X k62 (by decide) (X.1.g4 k62 (by decide)) (by omega) (by omega) (Int32.le_toInt _) (Int32.toInt_le _) (by decide) (fun M82 X83 e84 h85 => ?_)
    have h86 := (e84.f k0 (by decide) h60)
    have ia87 := z_rfe h86 (X83.2.f k0 (by decide) (hbk _ _ _ _ _ k0).2.2.2.1)
    rw [ia87] at h85
    refine z_xN zt54 43 rfl rfl (fun (x88 : Int32) (h89 : x88.toInt = b6.toInt + 1) => ?_) (z_pAdd rfl rfl (by omega) (by omega))
    show z_ev d 54 84 [some (.ref a0), some (.int p1), some (.int p2), some (.int p3), some (.int b4), some (.int b5), some (.int x88), some (.int x58)] [] M82 _
    refine z_xP zt54 44 19 [some (.ref a0), some (.int p1), some (.int p2), some (.int p3), some (.int b4), some (.int b5), some (.int x88), some (.int x58)] [] rfl rfl ?_
    have h90 := h64
    have ia91 := z_rfe h86 (X83.2.f k0 (by decide) (hbk _ _ _ _ _ k0).2.2.2.1)
    rw [ia91] at h90
    have h92 := h71
    have h93 := (e84.f k0 (by decide) h67)
    have ia94 := z_rfe h93 (X83.2.f k0 (by decide) (hbk _ _ _ _ _ k0).1)
    rw [ia94] at h92
    exact ih M82 b4 b5 x88 (some (.int x58)) X83 ⟨by omega, by omega⟩ ((e84.a (hbk.k2 hW0 k0) (by decide)).trans hY) ((e84.a (hbk.k3 hW0 k0) (by decide)).trans hN) hO4 hO5 (z_lviS hV (by omega) (by omega) h85 h90 hO4 hO5 ((congrFun (X.2.a (hbk.k1 hW0 k0) (by decide)) _).symm.trans h92) h30 h32 h35 h37 h41 h44 h46 h50 h53 h55 h59 h77 h81) (by omega)
theorem zUC54 {T : List zK} {d : Nat} {K : Option Value → zH → Prop} {a0 : Nat} {q : Nat} {t : Nat} {m : Nat} {J : Nat} {p1 : Int32} {p2 : Int32} {p3 : Int32} {jv : Int32} {M0 : zH} (hW : z_W M0 T) (k0 : T[a0]? = some (.inl (3, q, t, m, J))) (u1 : 0 ≤ p1.toInt ∧ p1.toInt ≤ 8) (hW0 : z_W M0 T) (hbk : z_blk T M0) (hln : z_LN M0 a0 q) (hj4 : z_F M0 a0 4 = some (.int jv)) (hj5 : p1.toInt < jv.toInt) (kk : ∀ (M1 : zH), z_X T zw54 M0 M1 → z_alt M0 M1 a0 p1 p2 p3 → z_LN M1 a0 q → K none M1) : z_ev d 54 0 [some (.ref a0), some (.int p1), some (.int p2), some (.int p3), none, none, none, none] [] M0 K := by
  have X : z_X T zw54 M0 M0 := .refl hW
  have g0 := X.1.p3 k0
  refine z_xP zt54 0 1 [some (.ref a0), some (.int p1), some (.int p2), some (.int p3), none, none, none, none] [.ref a0] rfl rfl ?_
  refine z_xgR (κ := .inr (202, 0, 9, (-2147483648), 2147483647)) zt54 1 rfl zo54 zzf3_15 X k0 (by decide) (by decide) rfl (fun (a2 : Nat) h1 k3 => ?_)
  refine z_xP zt54 2 5 [some (.ref a0), some (.int p1), some (.int p2), some (.int p3), none, none, none, none] [.int p1, .ref a2] rfl rfl ?_
  refine z_xil zt54 3 rfl X k3 (by decide) (by omega) (by omega) (fun (x4 : Int32) h5 (h6 : (-2147483648) ≤ x4.toInt) (h7 : x4.toInt ≤ 2147483647) => ?_)
  refine z_xP zt54 4 9 [some (.ref a0), some (.int p1), some (.int p2), some (.int p3), some (.int x4), none, none, none] [.ref a0] rfl rfl ?_
  refine z_xgR (κ := .inr (203, 0, 9, (-2147483648), 2147483647)) zt54 5 rfl zo54 zzf3_18 X k0 (by decide) (by decide) rfl (fun (a9 : Nat) h8 k10 => ?_)
  refine z_xP zt54 6 13 [some (.ref a0), some (.int p1), some (.int p2), some (.int p3), some (.int x4), none, none, none] [.int p1, .ref a9] rfl rfl ?_
  refine z_xil zt54 7 rfl X k10 (by decide) (by omega) (by omega) (fun (x11 : Int32) h12 (h13 : (-2147483648) ≤ x11.toInt) (h14 : x11.toInt ≤ 2147483647) => ?_)
  refine z_xP zt54 8 19 [some (.ref a0), some (.int p1), some (.int p2), some (.int p3), some (.int x4), some (.int x11), some (.int 0), none] [] rfl rfl ?_
  have h15 := h5
  have ia16 := z_rfe h1 (X.2.f k0 (by decide) (hbk _ _ _ _ _ k0).2.1)
  rw [ia16] at h15
  have h17 := h12
  have ia18 := z_rfe h8 (X.2.f k0 (by decide) (hbk _ _ _ _ _ k0).2.2.1)
  rw [ia18] at h17
  have q0 : ((0 : Int32)).toInt = 0 := rfl
  exact (zUB54 k0 u1 hW0 hbk hln hj4 hj5 kk 22) M0 x4 x11 (0) none X (by decide) rfl rfl h15 h17 (z_lvi0 rfl rfl) (by omega)
theorem zUC53 {T : List zK} {d : Nat} {K : Option Value → zH → Prop} {a0 : Nat} {q : Nat} {t : Nat} {m : Nat} {J : Nat} {p1 : Int32} {p2 : Int32} {p3 : Int32} {jv : Int32} {M0 : zH} (hW : z_W M0 T) (k0 : T[a0]? = some (.inl (3, q, t, m, J))) (hW0 : z_W M0 T) (hbk : z_blk T M0) (hj4 : z_F M0 a0 4 = some (.int jv)) (hjv : 0 ≤ jv.toInt ∧ jv.toInt ≤ 8 ∧ jv.toInt < (J : Int)) (hln : z_LN M0 a0 q) (kk : ∀ (M1 : zH), z_X T zw53 M0 M1 → z_se M0 M1 a0 jv p1 p2 p3 → z_LN M1 a0 q → K none M1) : z_ev (d + 1) 53 0 [some (.ref a0), some (.int p1), some (.int p2), some (.int p3)] [] M0 K := by
  have X : z_X T zw53 M0 M0 := .refl hW
  have g0 := X.1.p3 k0
  refine z_xP zt53 0 1 [some (.ref a0), some (.int p1), some (.int p2), some (.int p3)] [.ref a0] rfl rfl ?_
  refine z_xgR (κ := .inr (201, 0, 9, (-2147483648), 2147483647)) zt53 1 rfl zo53 zzf3_9 X k0 (by decide) (by decide) rfl (fun (a2 : Nat) h1 k3 => ?_)
  refine z_xP zt53 2 5 [some (.ref a0), some (.int p1), some (.int p2), some (.int p3)] [.ref a0, .ref a2] rfl rfl ?_
  refine z_xgv zt53 3 rfl zo53 zzf3_53 X k0 (by decide) hj4 ?_
  refine z_xP zt53 4 9 [some (.ref a0), some (.int p1), some (.int p2), some (.int p3)] [.int p1, .int jv, .ref a2] rfl rfl ?_
  refine z_xis zt53 5 rfl X k3 (by decide) (X.1.g4 k3 (by decide)) (by omega) (by omega) (Int32.le_toInt _) (Int32.toInt_le _) (by decide) (fun M4 X5 e6 h7 => ?_)
  have h8 := (e6.f k0 (by decide) h1)
  have i9 := z_rfe h8 (X5.2.f k0 (by decide) (hbk _ _ _ _ _ k0).1)
  rw [i9] at h7
  refine z_xP zt53 6 11 [some (.ref a0), some (.int p1), some (.int p2), some (.int p3)] [.ref a0] rfl rfl ?_
  refine z_xgR (κ := .inr (202, 0, 9, (-2147483648), 2147483647)) zt53 7 rfl zo53 zzf3_15 X5 k0 (by decide) (by decide) rfl (fun (a11 : Nat) h10 k12 => ?_)
  refine z_xP zt53 8 15 [some (.ref a0), some (.int p1), some (.int p2), some (.int p3)] [.ref a0, .ref a11] rfl rfl ?_
  have h13 := (e6.f k0 (by decide) hj4)
  refine z_xgv zt53 9 rfl zo53 zzf3_53 X5 k0 (by decide) h13 ?_
  refine z_xP zt53 10 19 [some (.ref a0), some (.int p1), some (.int p2), some (.int p3)] [.ref a0, .int jv, .ref a11] rfl rfl ?_
  refine z_xgR (κ := .inr (203, 0, 9, (-2147483648), 2147483647)) zt53 11 rfl zo53 zzf3_18 X5 k0 (by decide) (by decide) rfl (fun (a15 : Nat) h14 k16 => ?_)
  refine z_xP zt53 12 23 [some (.ref a0), some (.int p1), some (.int p2), some (.int p3)] [.ref a0, .ref a15, .int jv, .ref a11] rfl rfl ?_
  refine z_xgv zt53 13 rfl zo53 zzf3_53 X5 k0 (by decide) h13 ?_
  refine z_xP zt53 14 28 [some (.ref a0), some (.int p1), some (.int p2), some (.int p3)] [.int 0, .int jv, .ref a15, .int 0, .int jv, .ref a11] rfl rfl ?_
  have q0 : ((0 : Int32)).toInt = 0 := rfl
  refine z_xis zt53 15 rfl X5 k16 (by decide) (X5.1.g4 k16 (by decide)) (by omega) (by omega) (by omega) (by omega) (by decide) (fun M17 X18 e19 h20 => ?_)
  have h21 := (e19.f k0 (by decide) h14)
  have i22 := z_rfe h21 (X18.2.f k0 (by decide) (hbk _ _ _ _ _ k0).2.2.1)
  rw [i22] at h20
  have q0 : ((0 : Int32)).toInt = 0 := rfl
  have q0 : ((0 : Int32)).toInt = 0 := rfl
  refine z_xis zt53 16 rfl X18 k12 (by decide) (X18.1.g4 k12 (by decide)) (by omega) (by omega) (by omega) (by omega) (by decide) (fun M23 X24 e25 h26 => ?_)
  have h27 := (e25.f k0 (by decide) (e19.f k0 (by decide) h10))
  have i28 := z_rfe h27 (X24.2.f k0 (by decide) (hbk _ _ _ _ _ k0).2.1)
  rw [i28] at h26
  have q0 : ((0 : Int32)).toInt = 0 := rfl
  refine z_xP zt53 17 32 [some (.ref a0), some (.int p1), some (.int p2), some (.int p3)] [.ref a0, .ref a0] rfl rfl ?_
  have h29 := (e25.f k0 (by decide) (e19.f k0 (by decide) h13))
  refine z_xgv zt53 18 rfl zo53 zzf3_53 X24 k0 (by decide) h29 ?_
  refine z_xP zt53 19 36 [some (.ref a0), some (.int p1), some (.int p2), some (.int p3)] [.int 1, .int jv, .ref a0] rfl rfl ?_
  refine z_xI zt53 20 rfl rfl (fun (x30 : Int32) (h31 : x30.toInt = jv.toInt + 1) => ?_) (z_pAdd rfl rfl (by omega) (by omega))
  refine z_xpf zt53 21 rfl zo53 zzf3_53 X24 k0 (by decide) (by decide) ⟨by omega, by omega⟩ rfl (by decide) zw3_4 (fun M32 X33 e34 h35 => ?_)
  refine z_xP zt53 22 42 [some (.ref a0), some (.int p1), some (.int p2), some (.int p3)] [.ref a0, .ref a0] rfl rfl ?_
  refine z_xgv zt53 23 rfl zo53 zzf3_53 X33 k0 (by decide) h35 ?_
  refine z_xP zt53 24 46 [some (.ref a0), some (.int p1), some (.int p2), some (.int p3)] [.int 1, .int x30, .ref a0] rfl rfl ?_
  refine z_xI zt53 25 rfl rfl (fun (x36 : Int32) (h37 : x36.toInt = x30.toInt - 1) => ?_) (z_pSub rfl rfl (by omega) (by omega))
  refine z_xP zt53 26 49 [some (.ref a0), some (.int p1), some (.int p2), some (.int p3)] [.int p3, .int p2, .int x36, .ref a0] rfl rfl ?_
  refine z_xcV (vs := [.ref a0, .int x36, .int p2, .int p3]) (r := []) (L2 := [some (.ref a0), some (.int x36), some (.int p2), some (.int p3), none, none, none, none]) zt53 27 rfl zo53 zzcV3_59 (Or.inl rfl) rfl X33 k0 rfl rfl rfl (Nat.le_of_ble_eq_true rfl) zzm54 (Nat.le_of_ble_eq_true rfl) rfl ?_
  refine zUC54 X33.1 k0 (by omega) X33.1 (hbk.ke X33.2 (by decide)) (z_LN.in0 hln hj4 (by omega) h35 (by omega) ((e34.a (hbk.k1 hW0 k0) (by decide)).trans ((e25.a (hbk.k1 hW0 k0) (by decide)).trans ((e19.a (hbk.k1 hW0 k0) (by decide)).trans (h7.trans (congrArg (fun f => upd f jv.toNatClampNeg p1) rfl))))) ((e34.a (hbk.k2 hW0 k0) (by decide)).trans (h26.trans (congrArg (fun f => upd f jv.toNatClampNeg (0 : Int32)) ((e19.a (hbk.k2 hW0 k0) (by decide)).trans ((e6.a (hbk.k2 hW0 k0) (by decide)).trans rfl))))) ((e34.a (hbk.k3 hW0 k0) (by decide)).trans ((e25.a (hbk.k3 hW0 k0) (by decide)).trans (h20.trans (congrArg (fun f => upd f jv.toNatClampNeg (0 : Int32)) ((e6.a (hbk.k3 hW0 k0) (by decide)).trans rfl))))) ((e34.a (hbk.k4 hW0 k0) (by decide)).trans ((e25.a (hbk.k4 hW0 k0) (by decide)).trans ((e19.a (hbk.k4 hW0 k0) (by decide)).trans ((e6.a (hbk.k4 hW0 k0) (by decide)).trans rfl))))) h35 (by omega) (fun M38 X39 h40 h41 => ?_)
  have X42 := X33.go X39 (z_sb (by decide))
  show z_ev (d + 1) 53 52 [some (.ref a0), some (.int p1), some (.int p2), some (.int p3)] [] M38 _
  have i44 : x36 = jv := Int32.toInt_inj.mp (by omega)
  rw [i44] at h40
  have h45 := (X39.2.f k0 (by decide) h35)
  exact z_xrv zt53 28 rfl zzr53 (kk M38 X42 ⟨⟨_, h45, by omega⟩, ((X39.2.a (hbk.k1 hW0 k0) (by decide)).trans ((e34.a (hbk.k1 hW0 k0) (by decide)).trans ((e25.a (hbk.k1 hW0 k0) (by decide)).trans ((e19.a (hbk.k1 hW0 k0) (by decide)).trans (h7.trans (congrArg (fun f => upd f jv.toNatClampNeg p1) rfl)))))), (h40.1.trans (congrArg (fun f => upd f jv.toNatClampNeg p2) ((e34.a (hbk.k2 hW0 k0) (by decide)).trans (h26.trans (congrArg (fun f => upd f jv.toNatClampNeg (0 : Int32)) ((e19.a (hbk.k2 hW0 k0) (by decide)).trans ((e6.a (hbk.k2 hW0 k0) (by decide)).trans rfl))))))), (h40.2.trans (congrArg (fun f => upd f jv.toNatClampNeg p3) ((e34.a (hbk.k3 hW0 k0) (by decide)).trans ((e25.a (hbk.k3 hW0 k0) (by decide)).trans (h20.trans (congrArg (fun f => upd f jv.toNatClampNeg (0 : Int32)) ((e6.a (hbk.k3 hW0 k0) (by decide)).trans rfl)))))))⟩ h41)
theorem zUC61 {T : List zK} {d : Nat} {K : Option Value → zH → Prop} {a0 : Nat} {q : Nat} {t : Nat} {m : Nat} {J : Nat} {M0 : zH} (hW : z_W M0 T) (k0 : T[a0]? = some (.inl (3, q, t, m, J))) (hW0 : z_W M0 T) (hbk : z_blk T M0) (kk : ∀ (M1 : zH), z_X T zw61 M0 M1 → z_F M1 a0 4 = some (.int 0) → z_LN M1 a0 q → K none M1) : z_ev (d + 1) 61 0 [some (.ref a0)] [] M0 K := by
  have X : z_X T zw61 M0 M0 := .refl hW
  have g0 := X.1.p3 k0
  refine z_xP zt61 0 2 [some (.ref a0)] [.int 0, .ref a0] rfl rfl ?_
  have q0 : ((0 : Int32)).toInt = 0 := rfl
  refine z_xpf zt61 1 rfl zo61 zzf3_53 X k0 (by decide) (by decide) ⟨by omega, by omega⟩ rfl (by decide) zw3_4 (fun M1 X2 e3 h4 => ?_)
  refine z_xP zt61 2 6 [some (.ref a0)] [.ref a0] rfl rfl ?_
  refine z_xgR (κ := .inr (205, 0, 10, (-2147483648), 2147483647)) zt61 3 rfl zo61 zzf3_21 X2 k0 (by decide) (by decide) rfl (fun (a6 : Nat) h5 k7 => ?_)
  refine z_xP zt61 4 10 [some (.ref a0)] [.int 0, .ref a6] rfl rfl ?_
  refine z_xcS (vs := [.ref a6, .int 0]) (r := []) (L2 := [some (.ref a6), some (.int 0), none, none]) zt61 5 rfl zo61 zzcS3_66 (Or.inl rfl) (Nat.le_of_ble_eq_true rfl) rfl rfl (Nat.le_of_ble_eq_true rfl) zzm7 (Nat.le_of_ble_eq_true rfl) rfl ?_
  have q0 : ((0 : Int32)).toInt = 0 := rfl
  have q0 : ((0 : Int32)).toInt = 0 := rfl
  refine zUC7 X2.1 ⟨(by decide), (X2.1.g4 k7 (by decide))⟩ k7 ⟨by omega, by omega⟩ (by decide) (fun M8 X9 h10 => ?_)
  have X11 := X2.go X9 (z_sb (by decide))
  show z_ev (d + 1) 61 13 [some (.ref a0)] [] M8 _
  have h13 := (X9.2.f k0 (by decide) h4)
  have h14 := (X9.2.f k0 (by decide) h5)
  have ia15 := z_rfe h14 (X11.2.f k0 (by decide) (hbk _ _ _ _ _ k0).2.2.2.1)
  rw [ia15] at h10
  exact z_xrv zt61 6 rfl zzr61 (kk M8 X11 h13 (z_LN.no h13 h10 (by omega)))
theorem zUC52 {T : List zK} {d : Nat} {K : Option Value → zH → Prop} {p1 : Int32} {p2 : Int32} {p3 : Int32} {p4 : Int32} {M0 : zH} (hW : z_W M0 T) (hW0 : z_W M0 T) (hbk : z_blk T M0) (hR6 : z_R6 T M0) (hR8 : z_R8 T M0) (hG : z_GG T M0) (kk : ∀ (x : Int32) (M1 : zH), z_X T zw52 M0 M1 → (-3) ≤ x.toInt → x.toInt ≤ 8 → z_qB T M0 p1 x.toInt (z_ke T [] M0 M1) (fun b q B => (x.toInt = -1 ∧ ¬ (z_ans q p3 p4 ∧ 1 ≤ p2.toInt ∧ p2.toInt ≤ 9) ∧ z_ke T [] M0 M1) ∨ ((z_ans q p3 p4 ∧ 1 ≤ p2.toInt ∧ p2.toInt ≤ 9) ∧ ((x.toInt = -2 ∧ ¬ z_cs B q p3.toInt.toNat p4.toInt.toNat ∧ z_ke T [] M0 M1) ∨ (z_cs B q p3.toInt.toNat p4.toInt.toNat ∧ ∃ jv : Int32, z_F M0 b 4 = some (.int jv) ∧ ((x.toInt = -3 ∧ 9 ≤ jv.toInt ∧ z_ke T [] M0 M1) ∨ (jv.toInt < 9 ∧ x.toInt = jv.toInt ∧ z_oth T (fun w => w = b) M0 M1 ∧ z_se M0 M1 b jv p2 p3 p4 ∧ z_LN M1 b q)))))) → K (some (.int x)) M1) : z_ev (d + 3) 52 0 [some (.ref 4), some (.int p1), some (.int p2), some (.int p3), some (.int p4), none] [] M0 K := by
  have X : z_X T zw52 M0 M0 := .refl hW
  refine z_xP zt52 0 2 [some (.ref 4), some (.int p1), some (.int p2), some (.int p3), some (.int p4), none] [.int p1, .ref 4] rfl rfl ?_
  have f4 : T[4]? = some (.inl (0, 0, 0, 0, 0)) := X.1.k rfl (by decide)
  refine z_xcV (vs := [.ref 4, .int p1]) (r := []) (L2 := [some (.ref 4), some (.int p1)]) zt52 1 rfl zo52 zzcV0_85 (Or.inl rfl) rfl X f4 rfl rfl rfl (Nat.le_of_ble_eq_true rfl) zzm35 (Nat.le_of_ble_eq_true rfl) rfl ?_
  refine z_xP zt35 0 1 [some (.ref 4), some (.int p1)] [.int p1] rfl rfl ?_
  refine z_xZ zt35 1 rfl rfl (fun (h1 : p1.toInt < 0) => ?_) (fun (h1 : 0 ≤ p1.toInt) => ?_)
  · skip
    refine z_xP zt35 5 22 [some (.ref 4), some (.int p1)] [.null] rfl rfl ?_
    refine z_xrn zt35 10 rfl zzr35 ?_
    show z_ev (d + 3) 52 5 [some (.ref 4), some (.int p1), some (.int p2), some (.int p3), some (.int p4), none] [.null] M0 _
    refine z_xP zt52 2 37 [some (.ref 4), some (.int p1), some (.int p2), some (.int p3), some (.int p4), some (.null)] [] rfl rfl ?_
    refine z_xP zt52 12 38 [some (.ref 4), some (.int p1), some (.int p2), some (.int p3), some (.int p4), some (.null)] [.int (-1)] rfl rfl ?_
    have qm1 : (((-1) : Int32)).toInt = (-1) := rfl
    obtain ⟨x2, h3, h4, h5⟩ := z_W.fi X.1 f4 (k := 3) (lo := 0) (hi := 8) (by decide) rfl
    have qm1 : (((-1) : Int32)).toInt = (-1) := rfl
    exact z_xri zt52 13 rfl zzr52 (kk (-1) M0 X (by omega) (by omega) (z_qB0 h3 (by omega) (by omega) z_ke.refl))
  refine z_xP zt35 2 6 [some (.ref 4), some (.int p1)] [.ref 4, .int p1] rfl rfl ?_
  refine z_xgI zt35 3 rfl zo35 zzf0_59 X f4 (by decide) (by decide) rfl (fun (x7 : Int32) h6 (h8 : 0 ≤ x7.toInt) (h9 : x7.toInt ≤ 8) => ?_)
  have h10 := z_b32 p1
  refine z_xJ zt35 4 rfl rfl (fun (h11 : p1.toInt < x7.toInt) => ?_) (fun (h11 : x7.toInt ≤ p1.toInt) => ?_)
  · skip
    refine z_xP zt35 6 17 [some (.ref 4), some (.int p1)] [.ref 4] rfl rfl ?_
    refine z_xgX (b := 10) zt35 7 rfl zo35 zzf0_18 X f4 (by decide) (by decide) rfl ?_
    refine z_xP zt35 8 21 [some (.ref 4), some (.int p1)] [.int p1, .ref 10] rfl rfl ?_
    have f10 : T[10]? = some (.inr (10, 2, 8, 9, 0)) := X.1.k rfl (by decide)
    refine z_xal zt35 9 rfl X f10 (by decide) (by decide) (by decide) (by omega) (by omega) (fun (a12 : Nat) h13 h14 => ?_) (fun h15 => absurd h15 (z_Gs (hG.go X (by decide)).2.1 h6 (by omega) (by omega)))
    obtain ⟨q16, t17, m18, k19⟩ : ∃ q t m, T[a12]? = some (.inl (3, q, t, m, 9)) := h14
    have g20 := X.1.p3 k19
    refine z_xra zt35 10 rfl zzr35 ?_
    show z_ev (d + 3) 52 5 [some (.ref 4), some (.int p1), some (.int p2), some (.int p3), some (.int p4), none] [.ref a12] M0 _
    refine z_xP zt52 2 12 [some (.ref 4), some (.int p1), some (.int p2), some (.int p3), some (.int p4), some (.ref a12)] [] rfl rfl ?_
    refine z_xP zt52 3 14 [some (.ref 4), some (.int p1), some (.int p2), some (.int p3), some (.int p4), some (.ref a12)] [.int 1, .int p2] rfl rfl ?_
    refine z_xJ zt52 4 rfl rfl (fun (h21 : p2.toInt < 1) => ?_) (fun (h21 : 1 ≤ p2.toInt) => ?_)
    · skip
      refine z_xP zt52 12 38 [some (.ref 4), some (.int p1), some (.int p2), some (.int p3), some (.int p4), some (.ref a12)] [.int (-1)] rfl rfl ?_
      have qm1 : (((-1) : Int32)).toInt = (-1) := rfl
      obtain ⟨N22, pr23, en24, B25, hAB26⟩ := hR6.at2 h6 (by omega) (by omega) h13 k19
      have qm1 : (((-1) : Int32)).toInt = (-1) := rfl
      exact z_xri zt52 13 rfl zzr52 (kk (-1) M0 X (by omega) (by omega) (z_qB1 h6 ⟨by omega, by omega⟩ hAB26 (Or.inl ⟨by omega, (fun h => by obtain ⟨⟨w1, w2, -⟩, w4, w5⟩ := h; unfold z_po at *; omega), z_ke.refl⟩)))
    refine z_xP zt52 5 20 [some (.ref 4), some (.int p1), some (.int p2), some (.int p3), some (.int p4), some (.ref a12)] [.int 9, .int p2] rfl rfl ?_
    refine z_xJ zt52 6 rfl rfl (fun (h27 : 9 < p2.toInt) => ?_) (fun (h27 : p2.toInt ≤ 9) => ?_)
    · skip
      refine z_xP zt52 12 38 [some (.ref 4), some (.int p1), some (.int p2), some (.int p3), some (.int p4), some (.ref a12)] [.int (-1)] rfl rfl ?_
      have qm1 : (((-1) : Int32)).toInt = (-1) := rfl
      obtain ⟨N28, pr29, en30, B31, hAB32⟩ := hR6.at2 h6 (by omega) (by omega) h13 k19
      have qm1 : (((-1) : Int32)).toInt = (-1) := rfl
      exact z_xri zt52 13 rfl zzr52 (kk (-1) M0 X (by omega) (by omega) (z_qB1 h6 ⟨by omega, by omega⟩ hAB32 (Or.inl ⟨by omega, (fun h => by obtain ⟨⟨w1, w2, -⟩, w4, w5⟩ := h; unfold z_po at *; omega), z_ke.refl⟩)))
    refine z_xP zt52 7 25 [some (.ref 4), some (.int p1), some (.int p2), some (.int p3), some (.int p4), some (.ref a12)] [.ref a12] rfl rfl ?_
    refine z_xgR (κ := .inl (2, q16, t17, m18, 0)) zt52 8 rfl zo52 zzf0_89 X k19 (by decide) (by decide) rfl (fun (a34 : Nat) h33 k35 => ?_)
    have g36 := X.1.p2 k35
    refine z_xP zt52 9 31 [some (.ref 4), some (.int p1), some (.int p2), some (.int p3), some (.int p4), some (.ref a12)] [.int p4, .int p3, .ref a34] rfl rfl ?_
    refine z_xcV (vs := [.ref a34, .int p3, .int p4]) (r := []) (L2 := [some (.ref a34), some (.int p3), some (.int p4)]) zt52 10 rfl zo52 zzcV0_123 (Or.inl rfl) rfl X k35 rfl rfl rfl (Nat.le_of_ble_eq_true rfl) zzm43 (Nat.le_of_ble_eq_true rfl) rfl ?_
    refine z_xP zt43 0 2 [some (.ref a34), some (.int p3), some (.int p4)] [.int p3, .ref a34] rfl rfl ?_
    refine z_xcV (vs := [.ref a34, .int p3]) (r := []) (L2 := [some (.ref a34), some (.int p3)]) zt43 1 rfl zo43 zzcV2_76 (Or.inl rfl) rfl X k35 rfl rfl rfl (Nat.le_of_ble_eq_true rfl) zzm28 (Nat.le_of_ble_eq_true rfl) rfl ?_
    refine z_xP zt28 0 1 [some (.ref a34), some (.int p3)] [.int p3] rfl rfl ?_
    refine z_xZ zt28 1 rfl rfl (fun (h37 : p3.toInt < 0) => ?_) (fun (h37 : 0 ≤ p3.toInt) => ?_)
    · skip
      refine z_xP zt28 6 17 [some (.ref a34), some (.int p3)] [.int 0] rfl rfl ?_
      refine z_xrz zt28 7 rfl zzr28 (by decide) (by decide) ?_
      show z_ev (d + 2) 43 5 [some (.ref a34), some (.int p3), some (.int p4)] [.int 0] M0 _
      refine z_xZ zt43 2 rfl rfl (fun (h38 : (0 : Int) = 0) => ?_) (fun (h38 : (0 : Int) ≠ 0) => absurd h38 (by omega))
      refine z_xP zt43 10 27 [some (.ref a34), some (.int p3), some (.int p4)] [.int 0] rfl rfl ?_
      refine z_xrz zt43 11 rfl zzr43 (by decide) (by decide) ?_
      show z_ev (d + 3) 52 34 [some (.ref 4), some (.int p1), some (.int p2), some (.int p3), some (.int p4), some (.ref a12)] [.int 0] M0 _
      refine z_xZ zt52 11 rfl rfl (fun (h39 : (0 : Int) ≠ 0) => absurd h39 (by omega)) (fun (h39 : (0 : Int) = 0) => ?_)
      refine z_xP zt52 12 38 [some (.ref 4), some (.int p1), some (.int p2), some (.int p3), some (.int p4), some (.ref a12)] [.int (-1)] rfl rfl ?_
      have qm1 : (((-1) : Int32)).toInt = (-1) := rfl
      obtain ⟨pr40, en41, B42, hAB43⟩ := hR6.at h6 (by omega) (by omega) h13 k19 h33
      have qm1 : (((-1) : Int32)).toInt = (-1) := rfl
      exact z_xri zt52 13 rfl zzr52 (kk (-1) M0 X (by omega) (by omega) (z_qB1 h6 ⟨by omega, by omega⟩ hAB43 (Or.inl ⟨by omega, (fun h => by obtain ⟨⟨w1, w2, -⟩, w4, w5⟩ := h; unfold z_po at *; omega), z_ke.refl⟩)))
    refine z_xP zt28 2 6 [some (.ref a34), some (.int p3)] [.ref a34, .int p3] rfl rfl ?_
    refine z_xgI zt28 3 rfl zo28 zzf2_32 X k35 (by decide) (by decide) rfl (fun (x45 : Int32) h44 (h46 : ((z_po q16 : Nat) : Int) - 1 ≤ x45.toInt) (h47 : x45.toInt ≤ ((z_po q16 : Nat) : Int) - 1) => ?_)
    have h48 := z_b32 p3
    refine z_xJ zt28 4 rfl rfl (fun (h49 : x45.toInt < p3.toInt) => ?_) (fun (h49 : p3.toInt ≤ x45.toInt) => ?_)
    · skip
      refine z_xP zt28 6 17 [some (.ref a34), some (.int p3)] [.int 0] rfl rfl ?_
      refine z_xrz zt28 7 rfl zzr28 (by decide) (by decide) ?_
      show z_ev (d + 2) 43 5 [some (.ref a34), some (.int p3), some (.int p4)] [.int 0] M0 _
      refine z_xZ zt43 2 rfl rfl (fun (h50 : (0 : Int) = 0) => ?_) (fun (h50 : (0 : Int) ≠ 0) => absurd h50 (by omega))
      refine z_xP zt43 10 27 [some (.ref a34), some (.int p3), some (.int p4)] [.int 0] rfl rfl ?_
      refine z_xrz zt43 11 rfl zzr43 (by decide) (by decide) ?_
      show z_ev (d + 3) 52 34 [some (.ref 4), some (.int p1), some (.int p2), some (.int p3), some (.int p4), some (.ref a12)] [.int 0] M0 _
      refine z_xZ zt52 11 rfl rfl (fun (h51 : (0 : Int) ≠ 0) => absurd h51 (by omega)) (fun (h51 : (0 : Int) = 0) => ?_)
      refine z_xP zt52 12 38 [some (.ref 4), some (.int p1), some (.int p2), some (.int p3), some (.int p4), some (.ref a12)] [.int (-1)] rfl rfl ?_
      have qm1 : (((-1) : Int32)).toInt = (-1) := rfl
      obtain ⟨pr52, en53, B54, hAB55⟩ := hR6.at h6 (by omega) (by omega) h13 k19 h33
      have qm1 : (((-1) : Int32)).toInt = (-1) := rfl
      exact z_xri zt52 13 rfl zzr52 (kk (-1) M0 X (by omega) (by omega) (z_qB1 h6 ⟨by omega, by omega⟩ hAB55 (Or.inl ⟨by omega, (fun h => by obtain ⟨⟨w1, w2, -⟩, w4, w5⟩ := h; unfold z_po at *; omega), z_ke.refl⟩)))
    refine z_xP zt28 5 17 [some (.ref a34), some (.int p3)] [.int 1] rfl rfl ?_
    refine z_xrz zt28 7 rfl zzr28 (by decide) (by decide) ?_
    show z_ev (d + 2) 43 5 [some (.ref a34), some (.int p3), some (.int p4)] [.int 1] M0 _
    refine z_xZ zt43 2 rfl rfl (fun (h56 : (1 : Int) = 0) => absurd h56 (by omega)) (fun (h56 : (1 : Int) ≠ 0) => ?_)
    refine z_xP zt43 3 10 [some (.ref a34), some (.int p3), some (.int p4)] [.int p4, .ref a34] rfl rfl ?_
    refine z_xcV (vs := [.ref a34, .int p4]) (r := []) (L2 := [some (.ref a34), some (.int p4)]) zt43 4 rfl zo43 zzcV2_76 (Or.inl rfl) rfl X k35 rfl rfl rfl (Nat.le_of_ble_eq_true rfl) zzm28 (Nat.le_of_ble_eq_true rfl) rfl ?_
    refine z_xP zt28 0 1 [some (.ref a34), some (.int p4)] [.int p4] rfl rfl ?_
    refine z_xZ zt28 1 rfl rfl (fun (h57 : p4.toInt < 0) => ?_) (fun (h57 : 0 ≤ p4.toInt) => ?_)
    · skip
      refine z_xP zt28 6 17 [some (.ref a34), some (.int p4)] [.int 0] rfl rfl ?_
      refine z_xrz zt28 7 rfl zzr28 (by decide) (by decide) ?_
      show z_ev (d + 2) 43 13 [some (.ref a34), some (.int p3), some (.int p4)] [.int 0] M0 _
      refine z_xZ zt43 5 rfl rfl (fun (h58 : (0 : Int) = 0) => ?_) (fun (h58 : (0 : Int) ≠ 0) => absurd h58 (by omega))
      refine z_xP zt43 10 27 [some (.ref a34), some (.int p3), some (.int p4)] [.int 0] rfl rfl ?_
      refine z_xrz zt43 11 rfl zzr43 (by decide) (by decide) ?_
      show z_ev (d + 3) 52 34 [some (.ref 4), some (.int p1), some (.int p2), some (.int p3), some (.int p4), some (.ref a12)] [.int 0] M0 _
      refine z_xZ zt52 11 rfl rfl (fun (h59 : (0 : Int) ≠ 0) => absurd h59 (by omega)) (fun (h59 : (0 : Int) = 0) => ?_)
      refine z_xP zt52 12 38 [some (.ref 4), some (.int p1), some (.int p2), some (.int p3), some (.int p4), some (.ref a12)] [.int (-1)] rfl rfl ?_
      have qm1 : (((-1) : Int32)).toInt = (-1) := rfl
      obtain ⟨pr60, en61, B62, hAB63⟩ := hR6.at h6 (by omega) (by omega) h13 k19 h33
      have qm1 : (((-1) : Int32)).toInt = (-1) := rfl
      exact z_xri zt52 13 rfl zzr52 (kk (-1) M0 X (by omega) (by omega) (z_qB1 h6 ⟨by omega, by omega⟩ hAB63 (Or.inl ⟨by omega, (fun h => by obtain ⟨⟨w1, w2, -⟩, w4, w5⟩ := h; unfold z_po at *; omega), z_ke.refl⟩)))
    refine z_xP zt28 2 6 [some (.ref a34), some (.int p4)] [.ref a34, .int p4] rfl rfl ?_
    refine z_xgv zt28 3 rfl zo28 zzf2_32 X k35 (by decide) h44 ?_
    have h64 := z_b32 p4
    refine z_xJ zt28 4 rfl rfl (fun (h65 : x45.toInt < p4.toInt) => ?_) (fun (h65 : p4.toInt ≤ x45.toInt) => ?_)
    · skip
      refine z_xP zt28 6 17 [some (.ref a34), some (.int p4)] [.int 0] rfl rfl ?_
      refine z_xrz zt28 7 rfl zzr28 (by decide) (by decide) ?_
      show z_ev (d + 2) 43 13 [some (.ref a34), some (.int p3), some (.int p4)] [.int 0] M0 _
      refine z_xZ zt43 5 rfl rfl (fun (h66 : (0 : Int) = 0) => ?_) (fun (h66 : (0 : Int) ≠ 0) => absurd h66 (by omega))
      refine z_xP zt43 10 27 [some (.ref a34), some (.int p3), some (.int p4)] [.int 0] rfl rfl ?_
      refine z_xrz zt43 11 rfl zzr43 (by decide) (by decide) ?_
      show z_ev (d + 3) 52 34 [some (.ref 4), some (.int p1), some (.int p2), some (.int p3), some (.int p4), some (.ref a12)] [.int 0] M0 _
      refine z_xZ zt52 11 rfl rfl (fun (h67 : (0 : Int) ≠ 0) => absurd h67 (by omega)) (fun (h67 : (0 : Int) = 0) => ?_)
      refine z_xP zt52 12 38 [some (.ref 4), some (.int p1), some (.int p2), some (.int p3), some (.int p4), some (.ref a12)] [.int (-1)] rfl rfl ?_
      have qm1 : (((-1) : Int32)).toInt = (-1) := rfl
      obtain ⟨pr68, en69, B70, hAB71⟩ := hR6.at h6 (by omega) (by omega) h13 k19 h33
      have qm1 : (((-1) : Int32)).toInt = (-1) := rfl
      exact z_xri zt52 13 rfl zzr52 (kk (-1) M0 X (by omega) (by omega) (z_qB1 h6 ⟨by omega, by omega⟩ hAB71 (Or.inl ⟨by omega, (fun h => by obtain ⟨⟨w1, w2, -⟩, w4, w5⟩ := h; unfold z_po at *; omega), z_ke.refl⟩)))
    refine z_xP zt28 5 17 [some (.ref a34), some (.int p4)] [.int 1] rfl rfl ?_
    refine z_xrz zt28 7 rfl zzr28 (by decide) (by decide) ?_
    show z_ev (d + 2) 43 13 [some (.ref a34), some (.int p3), some (.int p4)] [.int 1] M0 _
    refine z_xZ zt43 5 rfl rfl (fun (h72 : (1 : Int) = 0) => absurd h72 (by omega)) (fun (h72 : (1 : Int) ≠ 0) => ?_)
    refine z_xP zt43 6 18 [some (.ref a34), some (.int p3), some (.int p4)] [.int p4, .int p3] rfl rfl ?_
    refine z_xI zt43 7 rfl rfl (fun (x73 : Int32) (h74 : x73 = p3 &&& p4 ∧ 0 ≤ x73.toInt ∧ x73.toInt ≤ p3.toInt ∧ x73.toInt ≤ p4.toInt) => ?_) (⟨rfl, z_pAnd2 rfl rfl (by omega) (by omega)⟩)
    refine z_xZ zt43 8 rfl rfl (fun (h75 : x73.toInt ≠ 0) => ?_) (fun (h75 : x73.toInt = 0) => ?_)
    · skip
      refine z_xP zt43 10 27 [some (.ref a34), some (.int p3), some (.int p4)] [.int 0] rfl rfl ?_
      refine z_xrz zt43 11 rfl zzr43 (by decide) (by decide) ?_
      show z_ev (d + 3) 52 34 [some (.ref 4), some (.int p1), some (.int p2), some (.int p3), some (.int p4), some (.ref a12)] [.int 0] M0 _
      refine z_xZ zt52 11 rfl rfl (fun (h76 : (0 : Int) ≠ 0) => absurd h76 (by omega)) (fun (h76 : (0 : Int) = 0) => ?_)
      refine z_xP zt52 12 38 [some (.ref 4), some (.int p1), some (.int p2), some (.int p3), some (.int p4), some (.ref a12)] [.int (-1)] rfl rfl ?_
      have qm1 : (((-1) : Int32)).toInt = (-1) := rfl
      obtain ⟨pr77, en78, B79, hAB80⟩ := hR6.at h6 (by omega) (by omega) h13 k19 h33
      have qm1 : (((-1) : Int32)).toInt = (-1) := rfl
      exact z_xri zt52 13 rfl zzr52 (kk (-1) M0 X (by omega) (by omega) (z_qB1 h6 ⟨by omega, by omega⟩ hAB80 (Or.inl ⟨by omega, (fun h => by obtain ⟨⟨-, -, w3⟩, w4, w5⟩ := h; rw [← h74.1] at w3; omega), z_ke.refl⟩)))
    refine z_xP zt43 9 27 [some (.ref a34), some (.int p3), some (.int p4)] [.int 1] rfl rfl ?_
    refine z_xrz zt43 11 rfl zzr43 (by decide) (by decide) ?_
    show z_ev (d + 3) 52 34 [some (.ref 4), some (.int p1), some (.int p2), some (.int p3), some (.int p4), some (.ref a12)] [.int 1] M0 _
    refine z_xZ zt52 11 rfl rfl (fun (h81 : (1 : Int) ≠ 0) => ?_) (fun (h81 : (1 : Int) = 0) => absurd h81 (by omega))
    refine z_xP zt52 14 41 [some (.ref 4), some (.int p1), some (.int p2), some (.int p3), some (.int p4), some (.ref a12)] [.ref a12] rfl rfl ?_
    refine z_xgv zt52 15 rfl zo52 zzf0_89 X k19 (by decide) h33 ?_
    refine z_xP zt52 16 49 [some (.ref 4), some (.int p1), some (.int p2), some (.int p3), some (.int p4), some (.ref a12)] [.int 10, .int p4, .int p3, .ref a34] rfl rfl ?_
    refine z_xI zt52 17 rfl rfl (fun (x82 : Int32) (h83 : x82 = p4 <<< ((10 : Int32) &&& 31) ∧ x82.toInt = p4.toInt * 1024) => ?_) (⟨rfl, z_pShl 10 rfl rfl (by decide) (by decide) (by omega) rfl (by omega)⟩)
    refine z_xI zt52 18 rfl rfl (fun (x84 : Int32) (h85 : x84 = p3 ||| x82 ∧ 0 ≤ x84.toInt ∧ x84.toInt < 1048576 ∧ p3.toInt ≤ x84.toInt ∧ x82.toInt ≤ x84.toInt) => ?_) (⟨rfl, z_pOr 20 rfl rfl (by omega) (by omega) (by decide) (by omega) (by omega) (by decide)⟩)
    refine z_xcV (vs := [.ref a34, .int x84]) (r := []) (L2 := [some (.ref a34), some (.int x84), none]) zt52 19 rfl zo52 zzcV0_126 (Or.inl rfl) rfl X k35 rfl rfl rfl (Nat.le_of_ble_eq_true rfl) zzm44 (Nat.le_of_ble_eq_true rfl) rfl ?_
    obtain ⟨pr86, en87, B88, hAB89⟩ := hR6.at h6 (by omega) (by omega) h13 k19 h33
    have ha90 : z_ans q16 p3 p4 := ⟨⟨by omega, by unfold z_po at *; omega⟩, ⟨by omega, by unfold z_po at *; omega⟩, by rw [← h74.1]; omega⟩
    have ht91 := ha90.lt (by omega)
    have ht92 := z_told ⟨ht91.1.1, ht91.1.2.1⟩ ⟨ht91.2.1, ht91.2.2.1⟩ h83.1 h85.1
    refine zUC44 X.1 k35 (hAB89.2.2.2.1.ke (fun _ _ h => h) X.2 rfl) ht92 ⟨ht91.1.2.2, ht91.2.2.2⟩ (fun x96 M93 X94 h97 h98 h95 => ?_)
    have X99 := X.go X94 (z_sb (by decide))
    show z_ev (d + 3) 52 54 [some (.ref 4), some (.int p1), some (.int p2), some (.int p3), some (.int p4), some (.ref a12)] [.int x96] M93 _
    refine z_xZ zt52 20 rfl rfl (fun (h101 : x96.toInt ≠ 0) => ?_) (fun (h101 : x96.toInt = 0) => ?_)
    · skip
      refine z_xP zt52 23 62 [some (.ref 4), some (.int p1), some (.int p2), some (.int p3), some (.int p4), some (.ref a12)] [.ref a12] rfl rfl ?_
      refine z_xgI zt52 24 rfl zo52 zzf0_105 X99 k19 (by decide) (by decide) rfl (fun (x103 : Int32) h102 (h104 : 0 ≤ x103.toInt) (h105 : x103.toInt ≤ (9 : Int)) => ?_)
      refine z_xP zt52 25 67 [some (.ref 4), some (.int p1), some (.int p2), some (.int p3), some (.int p4), some (.ref a12)] [.int 9, .int x103] rfl rfl ?_
      refine z_xJ zt52 26 rfl rfl (fun (h106 : x103.toInt < 9) => ?_) (fun (h106 : 9 ≤ x103.toInt) => ?_)
      · skip
        refine z_xP zt52 29 79 [some (.ref 4), some (.int p1), some (.int p2), some (.int p3), some (.int p4), some (.ref a12)] [.int p4, .int p3, .int p2, .ref a12] rfl rfl ?_
        refine z_xcV (vs := [.ref a12, .int p2, .int p3, .int p4]) (r := []) (L2 := [some (.ref a12), some (.int p2), some (.int p3), some (.int p4)]) zt52 30 rfl zo52 zzcV0_138 (Or.inl rfl) rfl X99 k19 rfl rfl rfl (Nat.le_of_ble_eq_true rfl) zzm53 (Nat.le_of_ble_eq_true rfl) rfl ?_
        refine z_ev.told (fun w => w = a12) (hbk.ke X99.2 (by decide)) X99.1 (z_qLc (z_rvr (z_pb.ben k19 rfl)) (z_qLc z_rvi (z_qLc z_rvi (z_qLc z_rvi z_qL0)))) z_qS0 ?_
        refine zUC53 X99.1 k19 X99.1 (hbk.ke X99.2 (by decide)) h102 ⟨by omega, by omega, by omega⟩ (z_LN.ke (rs := []) (hR8 _ _ _ _ k19) hbk hW0 k19 (z_ke.refl.trans X94.2 (z_sb (by decide))) rfl) (fun M107 X108 h109 h110 => ?_)
        intro ho111
        have X112 := X99.go X108 (z_sb (by decide))
        show z_ev (d + 3) 52 82 [some (.ref 4), some (.int p1), some (.int p2), some (.int p3), some (.int p4), some (.ref a12)] [] M107 _
        refine z_xP zt52 31 84 [some (.ref 4), some (.int p1), some (.int p2), some (.int p3), some (.int p4), some (.ref a12)] [.ref a12] rfl rfl ?_
        refine z_xgI zt52 32 rfl zo52 zzf0_105 X112 k19 (by decide) (by decide) rfl (fun (x115 : Int32) h114 (h116 : 0 ≤ x115.toInt) (h117 : x115.toInt ≤ (9 : Int)) => ?_)
        refine z_xP zt52 33 88 [some (.ref 4), some (.int p1), some (.int p2), some (.int p3), some (.int p4), some (.ref a12)] [.int 1, .int x115] rfl rfl ?_
        refine z_xI zt52 34 rfl rfl (fun (x118 : Int32) (h119 : x118.toInt = x115.toInt - 1) => ?_) (z_pSub rfl rfl (by omega) (by omega))
        obtain ⟨x120, e121⟩ := h109.1
        have i122 := z_ive e121.1 h114
        have i123 : x120.toInt = x115.toInt := congrArg Int32.toInt (z_ive e121.1 h114)
        exact z_xri zt52 35 rfl zzr52 (kk x118 M107 X112 (by omega) (by omega) (z_qB1 h6 ⟨by omega, by omega⟩ hAB89 (Or.inr ⟨⟨ha90, by omega, by omega⟩, Or.inr ⟨z_or1 h95 (by omega), _, (X94.2.1 a12 3 _ _ _ 9 4 k19 (by decide)).symm.trans h102, Or.inr ⟨by omega, by omega, ((z_oth.refl.trans (z_oth.ke hbk hW0 X94.2 (by decide) (by decide))).trans ho111), z_se.pre hbk hW0 k19 X94.2 h109, h110⟩⟩⟩)))
      refine z_xP zt52 27 72 [some (.ref 4), some (.int p1), some (.int p2), some (.int p3), some (.int p4), some (.ref a12)] [.int (-3)] rfl rfl ?_
      have qm3 : (((-3) : Int32)).toInt = (-3) := rfl
      have qm3 : (((-3) : Int32)).toInt = (-3) := rfl
      exact z_xri zt52 28 rfl zzr52 (kk (-3) M93 X99 (by omega) (by omega) (z_qB1 h6 ⟨by omega, by omega⟩ hAB89 (Or.inr ⟨⟨ha90, by omega, by omega⟩, Or.inr ⟨z_or1 h95 (by omega), _, (X94.2.1 a12 3 _ _ _ 9 4 k19 (by decide)).symm.trans h102, Or.inl ⟨by omega, by omega, (z_ke.refl.trans X94.2 (z_sb (by decide)))⟩⟩⟩)))
    refine z_xP zt52 21 59 [some (.ref 4), some (.int p1), some (.int p2), some (.int p3), some (.int p4), some (.ref a12)] [.int (-2)] rfl rfl ?_
    have qm2 : (((-2) : Int32)).toInt = (-2) := rfl
    have qm2 : (((-2) : Int32)).toInt = (-2) := rfl
    exact z_xri zt52 22 rfl zzr52 (kk (-2) M93 X99 (by omega) (by omega) (z_qB1 h6 ⟨by omega, by omega⟩ hAB89 (Or.inr ⟨⟨ha90, by omega, by omega⟩, Or.inl ⟨by omega, z_orn h95 (by omega), (z_ke.refl.trans X94.2 (z_sb (by decide)))⟩⟩)))
  refine z_xP zt35 5 22 [some (.ref 4), some (.int p1)] [.null] rfl rfl ?_
  refine z_xrn zt35 10 rfl zzr35 ?_
  show z_ev (d + 3) 52 5 [some (.ref 4), some (.int p1), some (.int p2), some (.int p3), some (.int p4), none] [.null] M0 _
  refine z_xP zt52 2 37 [some (.ref 4), some (.int p1), some (.int p2), some (.int p3), some (.int p4), some (.null)] [] rfl rfl ?_
  refine z_xP zt52 12 38 [some (.ref 4), some (.int p1), some (.int p2), some (.int p3), some (.int p4), some (.null)] [.int (-1)] rfl rfl ?_
  have qm1 : (((-1) : Int32)).toInt = (-1) := rfl
  have qm1 : (((-1) : Int32)).toInt = (-1) := rfl
  exact z_xri zt52 13 rfl zzr52 (kk (-1) M0 X (by omega) (by omega) (z_qB0 h6 (by omega) (by omega) z_ke.refl))
theorem zUC55 {T : List zK} {d : Nat} {K : Option Value → zH → Prop} {p1 : Int32} {p2 : Int32} {p3 : Int32} {p4 : Int32} {M0 : zH} (hW : z_W M0 T) (hW0 : z_W M0 T) (hbk : z_blk T M0) (hR6 : z_R6 T M0) (hR8 : z_R8 T M0) (hG : z_GG T M0) (kk : ∀ (x : Int32) (M1 : zH), z_X T zw55 M0 M1 → (-2) ≤ x.toInt → x.toInt ≤ 1 → z_qB T M0 p1 x.toInt (z_ke T [] M0 M1) (fun b q B => ∃ jv : Int32, z_F M0 b 4 = some (.int jv) ∧ ((x.toInt = -1 ∧ ¬ (z_ans q p3 p4 ∧ 0 ≤ p2.toInt ∧ p2.toInt < jv.toInt) ∧ z_ke T [] M0 M1) ∨ ((z_ans q p3 p4 ∧ 0 ≤ p2.toInt ∧ p2.toInt < jv.toInt) ∧ ((x.toInt = -2 ∧ ¬ z_cs B q p3.toInt.toNat p4.toInt.toNat ∧ z_ke T [] M0 M1) ∨ (z_cs B q p3.toInt.toNat p4.toInt.toNat ∧ x.toInt = 1 ∧ z_oth T (fun w => w = b) M0 M1 ∧ z_alt M0 M1 b p2 p3 p4 ∧ z_F M1 b 4 = z_F M0 b 4 ∧ z_Ar M1 (b + 1) = z_Ar M0 (b + 1) ∧ z_LN M1 b q))))) → K (some (.int x)) M1) : z_ev (d + 3) 55 0 [some (.ref 4), some (.int p1), some (.int p2), some (.int p3), some (.int p4), none] [] M0 K := by
  have X : z_X T zw55 M0 M0 := .refl hW
  refine z_xP zt55 0 2 [some (.ref 4), some (.int p1), some (.int p2), some (.int p3), some (.int p4), none] [.int p1, .ref 4] rfl rfl ?_
  have f4 : T[4]? = some (.inl (0, 0, 0, 0, 0)) := X.1.k rfl (by decide)
  refine z_xcV (vs := [.ref 4, .int p1]) (r := []) (L2 := [some (.ref 4), some (.int p1)]) zt55 1 rfl zo55 zzcV0_85 (Or.inl rfl) rfl X f4 rfl rfl rfl (Nat.le_of_ble_eq_true rfl) zzm35 (Nat.le_of_ble_eq_true rfl) rfl ?_
  refine z_xP zt35 0 1 [some (.ref 4), some (.int p1)] [.int p1] rfl rfl ?_
  refine z_xZ zt35 1 rfl rfl (fun (h1 : p1.toInt < 0) => ?_) (fun (h1 : 0 ≤ p1.toInt) => ?_)
  · skip
    refine z_xP zt35 5 22 [some (.ref 4), some (.int p1)] [.null] rfl rfl ?_
    refine z_xrn zt35 10 rfl zzr35 ?_
    show z_ev (d + 3) 55 5 [some (.ref 4), some (.int p1), some (.int p2), some (.int p3), some (.int p4), none] [.null] M0 _
    refine z_xP zt55 2 35 [some (.ref 4), some (.int p1), some (.int p2), some (.int p3), some (.int p4), some (.null)] [] rfl rfl ?_
    refine z_xP zt55 11 36 [some (.ref 4), some (.int p1), some (.int p2), some (.int p3), some (.int p4), some (.null)] [.int (-1)] rfl rfl ?_
    have qm1 : (((-1) : Int32)).toInt = (-1) := rfl
    obtain ⟨x2, h3, h4, h5⟩ := z_W.fi X.1 f4 (k := 3) (lo := 0) (hi := 8) (by decide) rfl
    have qm1 : (((-1) : Int32)).toInt = (-1) := rfl
    exact z_xri zt55 12 rfl zzr55 (kk (-1) M0 X (by omega) (by omega) (z_qB0 h3 (by omega) (by omega) z_ke.refl))
  refine z_xP zt35 2 6 [some (.ref 4), some (.int p1)] [.ref 4, .int p1] rfl rfl ?_
  refine z_xgI zt35 3 rfl zo35 zzf0_59 X f4 (by decide) (by decide) rfl (fun (x7 : Int32) h6 (h8 : 0 ≤ x7.toInt) (h9 : x7.toInt ≤ 8) => ?_)
  have h10 := z_b32 p1
  refine z_xJ zt35 4 rfl rfl (fun (h11 : p1.toInt < x7.toInt) => ?_) (fun (h11 : x7.toInt ≤ p1.toInt) => ?_)
  · skip
    refine z_xP zt35 6 17 [some (.ref 4), some (.int p1)] [.ref 4] rfl rfl ?_
    refine z_xgX (b := 10) zt35 7 rfl zo35 zzf0_18 X f4 (by decide) (by decide) rfl ?_
    refine z_xP zt35 8 21 [some (.ref 4), some (.int p1)] [.int p1, .ref 10] rfl rfl ?_
    have f10 : T[10]? = some (.inr (10, 2, 8, 9, 0)) := X.1.k rfl (by decide)
    refine z_xal zt35 9 rfl X f10 (by decide) (by decide) (by decide) (by omega) (by omega) (fun (a12 : Nat) h13 h14 => ?_) (fun h15 => absurd h15 (z_Gs (hG.go X (by decide)).2.1 h6 (by omega) (by omega)))
    obtain ⟨q16, t17, m18, k19⟩ : ∃ q t m, T[a12]? = some (.inl (3, q, t, m, 9)) := h14
    have g20 := X.1.p3 k19
    refine z_xra zt35 10 rfl zzr35 ?_
    show z_ev (d + 3) 55 5 [some (.ref 4), some (.int p1), some (.int p2), some (.int p3), some (.int p4), none] [.ref a12] M0 _
    refine z_xP zt55 2 12 [some (.ref 4), some (.int p1), some (.int p2), some (.int p3), some (.int p4), some (.ref a12)] [] rfl rfl ?_
    refine z_xP zt55 3 15 [some (.ref 4), some (.int p1), some (.int p2), some (.int p3), some (.int p4), some (.ref a12)] [.int p2, .ref a12] rfl rfl ?_
    refine z_xcV (vs := [.ref a12, .int p2]) (r := []) (L2 := [some (.ref a12), some (.int p2)]) zt55 4 rfl zo55 zzcV0_142 (Or.inl rfl) rfl X k19 rfl rfl rfl (Nat.le_of_ble_eq_true rfl) zzm56 (Nat.le_of_ble_eq_true rfl) rfl ?_
    refine z_xP zt56 0 1 [some (.ref a12), some (.int p2)] [.int p2] rfl rfl ?_
    refine z_xZ zt56 1 rfl rfl (fun (h21 : p2.toInt < 0) => ?_) (fun (h21 : 0 ≤ p2.toInt) => ?_)
    · skip
      refine z_xP zt56 6 17 [some (.ref a12), some (.int p2)] [.int 0] rfl rfl ?_
      refine z_xrz zt56 7 rfl zzr56 (by decide) (by decide) ?_
      show z_ev (d + 3) 55 18 [some (.ref 4), some (.int p1), some (.int p2), some (.int p3), some (.int p4), some (.ref a12)] [.int 0] M0 _
      refine z_xZ zt55 5 rfl rfl (fun (h22 : (0 : Int) = 0) => ?_) (fun (h22 : (0 : Int) ≠ 0) => absurd h22 (by omega))
      refine z_xP zt55 11 36 [some (.ref 4), some (.int p1), some (.int p2), some (.int p3), some (.int p4), some (.ref a12)] [.int (-1)] rfl rfl ?_
      have qm1 : (((-1) : Int32)).toInt = (-1) := rfl
      obtain ⟨N23, pr24, en25, B26, hAB27⟩ := hR6.at2 h6 (by omega) (by omega) h13 k19
      obtain ⟨x28, h29, h30, h31⟩ := z_W.fi X.1 k19 (k := 4) (lo := 0) (hi := (9 : Int)) (by decide) rfl
      have qm1 : (((-1) : Int32)).toInt = (-1) := rfl
      exact z_xri zt55 12 rfl zzr55 (kk (-1) M0 X (by omega) (by omega) (z_qB1 h6 ⟨by omega, by omega⟩ hAB27 ⟨_, h29, (Or.inl ⟨by omega, (fun h => by obtain ⟨⟨w1, w2, -⟩, w4, w5⟩ := h; unfold z_po at *; omega), z_ke.refl⟩)⟩))
    refine z_xP zt56 2 6 [some (.ref a12), some (.int p2)] [.ref a12, .int p2] rfl rfl ?_
    refine z_xgI zt56 3 rfl zo56 zzf3_53 X k19 (by decide) (by decide) rfl (fun (x33 : Int32) h32 (h34 : 0 ≤ x33.toInt) (h35 : x33.toInt ≤ (9 : Int)) => ?_)
    have h36 := z_b32 p2
    refine z_xJ zt56 4 rfl rfl (fun (h37 : x33.toInt ≤ p2.toInt) => ?_) (fun (h37 : p2.toInt < x33.toInt) => ?_)
    · skip
      refine z_xP zt56 6 17 [some (.ref a12), some (.int p2)] [.int 0] rfl rfl ?_
      refine z_xrz zt56 7 rfl zzr56 (by decide) (by decide) ?_
      show z_ev (d + 3) 55 18 [some (.ref 4), some (.int p1), some (.int p2), some (.int p3), some (.int p4), some (.ref a12)] [.int 0] M0 _
      refine z_xZ zt55 5 rfl rfl (fun (h38 : (0 : Int) = 0) => ?_) (fun (h38 : (0 : Int) ≠ 0) => absurd h38 (by omega))
      refine z_xP zt55 11 36 [some (.ref 4), some (.int p1), some (.int p2), some (.int p3), some (.int p4), some (.ref a12)] [.int (-1)] rfl rfl ?_
      have qm1 : (((-1) : Int32)).toInt = (-1) := rfl
      obtain ⟨N39, pr40, en41, B42, hAB43⟩ := hR6.at2 h6 (by omega) (by omega) h13 k19
      have qm1 : (((-1) : Int32)).toInt = (-1) := rfl
      exact z_xri zt55 12 rfl zzr55 (kk (-1) M0 X (by omega) (by omega) (z_qB1 h6 ⟨by omega, by omega⟩ hAB43 ⟨_, h32, (Or.inl ⟨by omega, (fun h => by obtain ⟨⟨w1, w2, -⟩, w4, w5⟩ := h; unfold z_po at *; omega), z_ke.refl⟩)⟩))
    refine z_xP zt56 5 17 [some (.ref a12), some (.int p2)] [.int 1] rfl rfl ?_
    refine z_xrz zt56 7 rfl zzr56 (by decide) (by decide) ?_
    show z_ev (d + 3) 55 18 [some (.ref 4), some (.int p1), some (.int p2), some (.int p3), some (.int p4), some (.ref a12)] [.int 1] M0 _
    refine z_xZ zt55 5 rfl rfl (fun (h44 : (1 : Int) = 0) => absurd h44 (by omega)) (fun (h44 : (1 : Int) ≠ 0) => ?_)
    refine z_xP zt55 6 23 [some (.ref 4), some (.int p1), some (.int p2), some (.int p3), some (.int p4), some (.ref a12)] [.ref a12] rfl rfl ?_
    refine z_xgR (κ := .inl (2, q16, t17, m18, 0)) zt55 7 rfl zo55 zzf0_89 X k19 (by decide) (by decide) rfl (fun (a46 : Nat) h45 k47 => ?_)
    have g48 := X.1.p2 k47
    refine z_xP zt55 8 29 [some (.ref 4), some (.int p1), some (.int p2), some (.int p3), some (.int p4), some (.ref a12)] [.int p4, .int p3, .ref a46] rfl rfl ?_
    refine z_xcV (vs := [.ref a46, .int p3, .int p4]) (r := []) (L2 := [some (.ref a46), some (.int p3), some (.int p4)]) zt55 9 rfl zo55 zzcV0_123 (Or.inl rfl) rfl X k47 rfl rfl rfl (Nat.le_of_ble_eq_true rfl) zzm43 (Nat.le_of_ble_eq_true rfl) rfl ?_
    refine z_xP zt43 0 2 [some (.ref a46), some (.int p3), some (.int p4)] [.int p3, .ref a46] rfl rfl ?_
    refine z_xcV (vs := [.ref a46, .int p3]) (r := []) (L2 := [some (.ref a46), some (.int p3)]) zt43 1 rfl zo43 zzcV2_76 (Or.inl rfl) rfl X k47 rfl rfl rfl (Nat.le_of_ble_eq_true rfl) zzm28 (Nat.le_of_ble_eq_true rfl) rfl ?_
    refine z_xP zt28 0 1 [some (.ref a46), some (.int p3)] [.int p3] rfl rfl ?_
    refine z_xZ zt28 1 rfl rfl (fun (h49 : p3.toInt < 0) => ?_) (fun (h49 : 0 ≤ p3.toInt) => ?_)
    · skip
      refine z_xP zt28 6 17 [some (.ref a46), some (.int p3)] [.int 0] rfl rfl ?_
      refine z_xrz zt28 7 rfl zzr28 (by decide) (by decide) ?_
      show z_ev (d + 2) 43 5 [some (.ref a46), some (.int p3), some (.int p4)] [.int 0] M0 _
      refine z_xZ zt43 2 rfl rfl (fun (h50 : (0 : Int) = 0) => ?_) (fun (h50 : (0 : Int) ≠ 0) => absurd h50 (by omega))
      refine z_xP zt43 10 27 [some (.ref a46), some (.int p3), some (.int p4)] [.int 0] rfl rfl ?_
      refine z_xrz zt43 11 rfl zzr43 (by decide) (by decide) ?_
      show z_ev (d + 3) 55 32 [some (.ref 4), some (.int p1), some (.int p2), some (.int p3), some (.int p4), some (.ref a12)] [.int 0] M0 _
      refine z_xZ zt55 10 rfl rfl (fun (h51 : (0 : Int) ≠ 0) => absurd h51 (by omega)) (fun (h51 : (0 : Int) = 0) => ?_)
      refine z_xP zt55 11 36 [some (.ref 4), some (.int p1), some (.int p2), some (.int p3), some (.int p4), some (.ref a12)] [.int (-1)] rfl rfl ?_
      have qm1 : (((-1) : Int32)).toInt = (-1) := rfl
      obtain ⟨pr52, en53, B54, hAB55⟩ := hR6.at h6 (by omega) (by omega) h13 k19 h45
      have qm1 : (((-1) : Int32)).toInt = (-1) := rfl
      exact z_xri zt55 12 rfl zzr55 (kk (-1) M0 X (by omega) (by omega) (z_qB1 h6 ⟨by omega, by omega⟩ hAB55 ⟨_, h32, (Or.inl ⟨by omega, (fun h => by obtain ⟨⟨w1, w2, -⟩, w4, w5⟩ := h; unfold z_po at *; omega), z_ke.refl⟩)⟩))
    refine z_xP zt28 2 6 [some (.ref a46), some (.int p3)] [.ref a46, .int p3] rfl rfl ?_
    refine z_xgI zt28 3 rfl zo28 zzf2_32 X k47 (by decide) (by decide) rfl (fun (x57 : Int32) h56 (h58 : ((z_po q16 : Nat) : Int) - 1 ≤ x57.toInt) (h59 : x57.toInt ≤ ((z_po q16 : Nat) : Int) - 1) => ?_)
    have h60 := z_b32 p3
    refine z_xJ zt28 4 rfl rfl (fun (h61 : x57.toInt < p3.toInt) => ?_) (fun (h61 : p3.toInt ≤ x57.toInt) => ?_)
    · skip
      refine z_xP zt28 6 17 [some (.ref a46), some (.int p3)] [.int 0] rfl rfl ?_
      refine z_xrz zt28 7 rfl zzr28 (by decide) (by decide) ?_
      show z_ev (d + 2) 43 5 [some (.ref a46), some (.int p3), some (.int p4)] [.int 0] M0 _
      refine z_xZ zt43 2 rfl rfl (fun (h62 : (0 : Int) = 0) => ?_) (fun (h62 : (0 : Int) ≠ 0) => absurd h62 (by omega))
      refine z_xP zt43 10 27 [some (.ref a46), some (.int p3), some (.int p4)] [.int 0] rfl rfl ?_
      refine z_xrz zt43 11 rfl zzr43 (by decide) (by decide) ?_
      show z_ev (d + 3) 55 32 [some (.ref 4), some (.int p1), some (.int p2), some (.int p3), some (.int p4), some (.ref a12)] [.int 0] M0 _
      refine z_xZ zt55 10 rfl rfl (fun (h63 : (0 : Int) ≠ 0) => absurd h63 (by omega)) (fun (h63 : (0 : Int) = 0) => ?_)
      refine z_xP zt55 11 36 [some (.ref 4), some (.int p1), some (.int p2), some (.int p3), some (.int p4), some (.ref a12)] [.int (-1)] rfl rfl ?_
      have qm1 : (((-1) : Int32)).toInt = (-1) := rfl
      obtain ⟨pr64, en65, B66, hAB67⟩ := hR6.at h6 (by omega) (by omega) h13 k19 h45
      have qm1 : (((-1) : Int32)).toInt = (-1) := rfl
      exact z_xri zt55 12 rfl zzr55 (kk (-1) M0 X (by omega) (by omega) (z_qB1 h6 ⟨by omega, by omega⟩ hAB67 ⟨_, h32, (Or.inl ⟨by omega, (fun h => by obtain ⟨⟨w1, w2, -⟩, w4, w5⟩ := h; unfold z_po at *; omega), z_ke.refl⟩)⟩))
    refine z_xP zt28 5 17 [some (.ref a46), some (.int p3)] [.int 1] rfl rfl ?_
    refine z_xrz zt28 7 rfl zzr28 (by decide) (by decide) ?_
    show z_ev (d + 2) 43 5 [some (.ref a46), some (.int p3), some (.int p4)] [.int 1] M0 _
    refine z_xZ zt43 2 rfl rfl (fun (h68 : (1 : Int) = 0) => absurd h68 (by omega)) (fun (h68 : (1 : Int) ≠ 0) => ?_)
    refine z_xP zt43 3 10 [some (.ref a46), some (.int p3), some (.int p4)] [.int p4, .ref a46] rfl rfl ?_
    refine z_xcV (vs := [.ref a46, .int p4]) (r := []) (L2 := [some (.ref a46), some (.int p4)]) zt43 4 rfl zo43 zzcV2_76 (Or.inl rfl) rfl X k47 rfl rfl rfl (Nat.le_of_ble_eq_true rfl) zzm28 (Nat.le_of_ble_eq_true rfl) rfl ?_
    refine z_xP zt28 0 1 [some (.ref a46), some (.int p4)] [.int p4] rfl rfl ?_
    refine z_xZ zt28 1 rfl rfl (fun (h69 : p4.toInt < 0) => ?_) (fun (h69 : 0 ≤ p4.toInt) => ?_)
    · skip
      refine z_xP zt28 6 17 [some (.ref a46), some (.int p4)] [.int 0] rfl rfl ?_
      refine z_xrz zt28 7 rfl zzr28 (by decide) (by decide) ?_
      show z_ev (d + 2) 43 13 [some (.ref a46), some (.int p3), some (.int p4)] [.int 0] M0 _
      refine z_xZ zt43 5 rfl rfl (fun (h70 : (0 : Int) = 0) => ?_) (fun (h70 : (0 : Int) ≠ 0) => absurd h70 (by omega))
      refine z_xP zt43 10 27 [some (.ref a46), some (.int p3), some (.int p4)] [.int 0] rfl rfl ?_
      refine z_xrz zt43 11 rfl zzr43 (by decide) (by decide) ?_
      show z_ev (d + 3) 55 32 [some (.ref 4), some (.int p1), some (.int p2), some (.int p3), some (.int p4), some (.ref a12)] [.int 0] M0 _
      refine z_xZ zt55 10 rfl rfl (fun (h71 : (0 : Int) ≠ 0) => absurd h71 (by omega)) (fun (h71 : (0 : Int) = 0) => ?_)
      refine z_xP zt55 11 36 [some (.ref 4), some (.int p1), some (.int p2), some (.int p3), some (.int p4), some (.ref a12)] [.int (-1)] rfl rfl ?_
      have qm1 : (((-1) : Int32)).toInt = (-1) := rfl
      obtain ⟨pr72, en73, B74, hAB75⟩ := hR6.at h6 (by omega) (by omega) h13 k19 h45
      have qm1 : (((-1) : Int32)).toInt = (-1) := rfl
      exact z_xri zt55 12 rfl zzr55 (kk (-1) M0 X (by omega) (by omega) (z_qB1 h6 ⟨by omega, by omega⟩ hAB75 ⟨_, h32, (Or.inl ⟨by omega, (fun h => by obtain ⟨⟨w1, w2, -⟩, w4, w5⟩ := h; unfold z_po at *; omega), z_ke.refl⟩)⟩))
    refine z_xP zt28 2 6 [some (.ref a46), some (.int p4)] [.ref a46, .int p4] rfl rfl ?_
    refine z_xgv zt28 3 rfl zo28 zzf2_32 X k47 (by decide) h56 ?_
    have h76 := z_b32 p4
    refine z_xJ zt28 4 rfl rfl (fun (h77 : x57.toInt < p4.toInt) => ?_) (fun (h77 : p4.toInt ≤ x57.toInt) => ?_)
    · skip
      refine z_xP zt28 6 17 [some (.ref a46), some (.int p4)] [.int 0] rfl rfl ?_
      refine z_xrz zt28 7 rfl zzr28 (by decide) (by decide) ?_
      show z_ev (d + 2) 43 13 [some (.ref a46), some (.int p3), some (.int p4)] [.int 0] M0 _
      refine z_xZ zt43 5 rfl rfl (fun (h78 : (0 : Int) = 0) => ?_) (fun (h78 : (0 : Int) ≠ 0) => absurd h78 (by omega))
      refine z_xP zt43 10 27 [some (.ref a46), some (.int p3), some (.int p4)] [.int 0] rfl rfl ?_
      refine z_xrz zt43 11 rfl zzr43 (by decide) (by decide) ?_
      show z_ev (d + 3) 55 32 [some (.ref 4), some (.int p1), some (.int p2), some (.int p3), some (.int p4), some (.ref a12)] [.int 0] M0 _
      refine z_xZ zt55 10 rfl rfl (fun (h79 : (0 : Int) ≠ 0) => absurd h79 (by omega)) (fun (h79 : (0 : Int) = 0) => ?_)
      refine z_xP zt55 11 36 [some (.ref 4), some (.int p1), some (.int p2), some (.int p3), some (.int p4), some (.ref a12)] [.int (-1)] rfl rfl ?_
      have qm1 : (((-1) : Int32)).toInt = (-1) := rfl
      obtain ⟨pr80, en81, B82, hAB83⟩ := hR6.at h6 (by omega) (by omega) h13 k19 h45
      have qm1 : (((-1) : Int32)).toInt = (-1) := rfl
      exact z_xri zt55 12 rfl zzr55 (kk (-1) M0 X (by omega) (by omega) (z_qB1 h6 ⟨by omega, by omega⟩ hAB83 ⟨_, h32, (Or.inl ⟨by omega, (fun h => by obtain ⟨⟨w1, w2, -⟩, w4, w5⟩ := h; unfold z_po at *; omega), z_ke.refl⟩)⟩))
    refine z_xP zt28 5 17 [some (.ref a46), some (.int p4)] [.int 1] rfl rfl ?_
    refine z_xrz zt28 7 rfl zzr28 (by decide) (by decide) ?_
    show z_ev (d + 2) 43 13 [some (.ref a46), some (.int p3), some (.int p4)] [.int 1] M0 _
    refine z_xZ zt43 5 rfl rfl (fun (h84 : (1 : Int) = 0) => absurd h84 (by omega)) (fun (h84 : (1 : Int) ≠ 0) => ?_)
    refine z_xP zt43 6 18 [some (.ref a46), some (.int p3), some (.int p4)] [.int p4, .int p3] rfl rfl ?_
    refine z_xI zt43 7 rfl rfl (fun (x85 : Int32) (h86 : x85 = p3 &&& p4 ∧ 0 ≤ x85.toInt ∧ x85.toInt ≤ p3.toInt ∧ x85.toInt ≤ p4.toInt) => ?_) (⟨rfl, z_pAnd2 rfl rfl (by omega) (by omega)⟩)
    refine z_xZ zt43 8 rfl rfl (fun (h87 : x85.toInt ≠ 0) => ?_) (fun (h87 : x85.toInt = 0) => ?_)
    · skip
      refine z_xP zt43 10 27 [some (.ref a46), some (.int p3), some (.int p4)] [.int 0] rfl rfl ?_
      refine z_xrz zt43 11 rfl zzr43 (by decide) (by decide) ?_
      show z_ev (d + 3) 55 32 [some (.ref 4), some (.int p1), some (.int p2), some (.int p3), some (.int p4), some (.ref a12)] [.int 0] M0 _
      refine z_xZ zt55 10 rfl rfl (fun (h88 : (0 : Int) ≠ 0) => absurd h88 (by omega)) (fun (h88 : (0 : Int) = 0) => ?_)
      refine z_xP zt55 11 36 [some (.ref 4), some (.int p1), some (.int p2), some (.int p3), some (.int p4), some (.ref a12)] [.int (-1)] rfl rfl ?_
      have qm1 : (((-1) : Int32)).toInt = (-1) := rfl
      obtain ⟨pr89, en90, B91, hAB92⟩ := hR6.at h6 (by omega) (by omega) h13 k19 h45
      have qm1 : (((-1) : Int32)).toInt = (-1) := rfl
      exact z_xri zt55 12 rfl zzr55 (kk (-1) M0 X (by omega) (by omega) (z_qB1 h6 ⟨by omega, by omega⟩ hAB92 ⟨_, h32, (Or.inl ⟨by omega, (fun h => by obtain ⟨⟨-, -, w3⟩, w4, w5⟩ := h; rw [← h86.1] at w3; omega), z_ke.refl⟩)⟩))
    refine z_xP zt43 9 27 [some (.ref a46), some (.int p3), some (.int p4)] [.int 1] rfl rfl ?_
    refine z_xrz zt43 11 rfl zzr43 (by decide) (by decide) ?_
    show z_ev (d + 3) 55 32 [some (.ref 4), some (.int p1), some (.int p2), some (.int p3), some (.int p4), some (.ref a12)] [.int 1] M0 _
    refine z_xZ zt55 10 rfl rfl (fun (h93 : (1 : Int) ≠ 0) => ?_) (fun (h93 : (1 : Int) = 0) => absurd h93 (by omega))
    refine z_xP zt55 13 39 [some (.ref 4), some (.int p1), some (.int p2), some (.int p3), some (.int p4), some (.ref a12)] [.ref a12] rfl rfl ?_
    refine z_xgv zt55 14 rfl zo55 zzf0_89 X k19 (by decide) h45 ?_
    refine z_xP zt55 15 47 [some (.ref 4), some (.int p1), some (.int p2), some (.int p3), some (.int p4), some (.ref a12)] [.int 10, .int p4, .int p3, .ref a46] rfl rfl ?_
    refine z_xI zt55 16 rfl rfl (fun (x94 : Int32) (h95 : x94 = p4 <<< ((10 : Int32) &&& 31) ∧ x94.toInt = p4.toInt * 1024) => ?_) (⟨rfl, z_pShl 10 rfl rfl (by decide) (by decide) (by omega) rfl (by omega)⟩)
    refine z_xI zt55 17 rfl rfl (fun (x96 : Int32) (h97 : x96 = p3 ||| x94 ∧ 0 ≤ x96.toInt ∧ x96.toInt < 1048576 ∧ p3.toInt ≤ x96.toInt ∧ x94.toInt ≤ x96.toInt) => ?_) (⟨rfl, z_pOr 20 rfl rfl (by omega) (by omega) (by decide) (by omega) (by omega) (by decide)⟩)
    refine z_xcV (vs := [.ref a46, .int x96]) (r := []) (L2 := [some (.ref a46), some (.int x96), none]) zt55 18 rfl zo55 zzcV0_126 (Or.inl rfl) rfl X k47 rfl rfl rfl (Nat.le_of_ble_eq_true rfl) zzm44 (Nat.le_of_ble_eq_true rfl) rfl ?_
    obtain ⟨pr98, en99, B100, hAB101⟩ := hR6.at h6 (by omega) (by omega) h13 k19 h45
    have ha102 : z_ans q16 p3 p4 := ⟨⟨by omega, by unfold z_po at *; omega⟩, ⟨by omega, by unfold z_po at *; omega⟩, by rw [← h86.1]; omega⟩
    have ht103 := ha102.lt (by omega)
    have ht104 := z_told ⟨ht103.1.1, ht103.1.2.1⟩ ⟨ht103.2.1, ht103.2.2.1⟩ h95.1 h97.1
    refine zUC44 X.1 k47 (hAB101.2.2.2.1.ke (fun _ _ h => h) X.2 rfl) ht104 ⟨ht103.1.2.2, ht103.2.2.2⟩ (fun x108 M105 X106 h109 h110 h107 => ?_)
    have X111 := X.go X106 (z_sb (by decide))
    show z_ev (d + 3) 55 52 [some (.ref 4), some (.int p1), some (.int p2), some (.int p3), some (.int p4), some (.ref a12)] [.int x108] M105 _
    refine z_xZ zt55 19 rfl rfl (fun (h113 : x108.toInt ≠ 0) => ?_) (fun (h113 : x108.toInt = 0) => ?_)
    · skip
      refine z_xP zt55 22 64 [some (.ref 4), some (.int p1), some (.int p2), some (.int p3), some (.int p4), some (.ref a12)] [.int p4, .int p3, .int p2, .ref a12] rfl rfl ?_
      refine z_xcV (vs := [.ref a12, .int p2, .int p3, .int p4]) (r := []) (L2 := [some (.ref a12), some (.int p2), some (.int p3), some (.int p4), none, none, none, none]) zt55 23 rfl zo55 zzcV0_145 (Or.inl rfl) rfl X111 k19 rfl rfl rfl (Nat.le_of_ble_eq_true rfl) zzm54 (Nat.le_of_ble_eq_true rfl) rfl ?_
      have h114 := (X106.2.f k19 (by decide) h32)
      refine z_ev.told (fun w => w = a12) (hbk.ke X111.2 (by decide)) X111.1 (z_qLc (z_rvr (z_pb.ben k19 rfl)) (z_qLc z_rvi (z_qLc z_rvi (z_qLc z_rvi (z_qLn (z_qLn (z_qLn (z_qLn z_qL0)))))))) z_qS0 ?_
      refine zUC54 X111.1 k19 (by omega) X111.1 (hbk.ke X111.2 (by decide)) (z_LN.ke (rs := []) (hR8 _ _ _ _ k19) hbk hW0 k19 (z_ke.refl.trans X106.2 (z_sb (by decide))) rfl) h114 (by omega) (fun M115 X116 h117 h118 => ?_)
      intro ho119
      have X120 := X111.go X116 (z_sb (by decide))
      show z_ev (d + 3) 55 67 [some (.ref 4), some (.int p1), some (.int p2), some (.int p3), some (.int p4), some (.ref a12)] [] M115 _
      refine z_xP zt55 24 68 [some (.ref 4), some (.int p1), some (.int p2), some (.int p3), some (.int p4), some (.ref a12)] [.int 1] rfl rfl ?_
      have q1 : ((1 : Int32)).toInt = 1 := rfl
      have h122 := (X116.2.f k19 (by decide) h114)
      have q1 : ((1 : Int32)).toInt = 1 := rfl
      exact z_xri zt55 25 rfl zzr55 (kk 1 M115 X120 (by omega) (by omega) (z_qB1 h6 ⟨by omega, by omega⟩ hAB101 ⟨_, ((X106.2.1 a12 3 _ _ _ 9 4 k19 (by decide)).symm.trans ((X116.2.1 a12 3 _ _ _ 9 4 k19 (by decide)).symm.trans h122)), (Or.inr ⟨⟨ha102, by omega, by omega⟩, Or.inr ⟨z_or1 h107 (by omega), by omega, ((z_oth.refl.trans (z_oth.ke hbk hW0 X106.2 (by decide) (by decide))).trans ho119), z_alt.pre hbk hW0 k19 X106.2 h117, (X116.2.1 a12 3 _ _ _ 9 4 k19 (by decide)).trans (X106.2.1 a12 3 _ _ _ 9 4 k19 (by decide)), (X116.2.a (hbk.k1 hW0 k19) (by decide)).trans (X106.2.a (hbk.k1 hW0 k19) (by decide)), h118⟩⟩)⟩))
    refine z_xP zt55 20 57 [some (.ref 4), some (.int p1), some (.int p2), some (.int p3), some (.int p4), some (.ref a12)] [.int (-2)] rfl rfl ?_
    have qm2 : (((-2) : Int32)).toInt = (-2) := rfl
    have h123 := (X106.2.f k19 (by decide) h32)
    have qm2 : (((-2) : Int32)).toInt = (-2) := rfl
    exact z_xri zt55 21 rfl zzr55 (kk (-2) M105 X111 (by omega) (by omega) (z_qB1 h6 ⟨by omega, by omega⟩ hAB101 ⟨_, ((X106.2.1 a12 3 _ _ _ 9 4 k19 (by decide)).symm.trans h123), (Or.inr ⟨⟨ha102, by omega, by omega⟩, Or.inl ⟨by omega, z_orn h107 (by omega), (z_ke.refl.trans X106.2 (z_sb (by decide)))⟩⟩)⟩))
  refine z_xP zt35 5 22 [some (.ref 4), some (.int p1)] [.null] rfl rfl ?_
  refine z_xrn zt35 10 rfl zzr35 ?_
  show z_ev (d + 3) 55 5 [some (.ref 4), some (.int p1), some (.int p2), some (.int p3), some (.int p4), none] [.null] M0 _
  refine z_xP zt55 2 35 [some (.ref 4), some (.int p1), some (.int p2), some (.int p3), some (.int p4), some (.null)] [] rfl rfl ?_
  refine z_xP zt55 11 36 [some (.ref 4), some (.int p1), some (.int p2), some (.int p3), some (.int p4), some (.null)] [.int (-1)] rfl rfl ?_
  have qm1 : (((-1) : Int32)).toInt = (-1) := rfl
  have qm1 : (((-1) : Int32)).toInt = (-1) := rfl
  exact z_xri zt55 12 rfl zzr55 (kk (-1) M0 X (by omega) (by omega) (z_qB0 h6 (by omega) (by omega) z_ke.refl))
theorem zUC60 {T : List zK} {d : Nat} {K : Option Value → zH → Prop} {p1 : Int32} {M0 : zH} (hW : z_W M0 T) (hW0 : z_W M0 T) (hbk : z_blk T M0) (hR6 : z_R6 T M0) (hR8 : z_R8 T M0) (hG : z_GG T M0) (kk : ∀ (x : Int32) (M1 : zH), z_X T zw60 M0 M1 → (-1) ≤ x.toInt → x.toInt ≤ 9 → z_qB T M0 p1 x.toInt (z_ke T [] M0 M1) (fun b q B => z_F M0 b 4 = some (.int x) ∧ z_oth T (fun w => w = b) M0 M1 ∧ z_F M1 b 4 = some (.int 0) ∧ z_LN M1 b q) → K (some (.int x)) M1) : z_ev (d + 2) 60 0 [some (.ref 4), some (.int p1), none, none] [] M0 K := by
  have X : z_X T zw60 M0 M0 := .refl hW
  refine z_xP zt60 0 2 [some (.ref 4), some (.int p1), none, none] [.int p1, .ref 4] rfl rfl ?_
  have f4 : T[4]? = some (.inl (0, 0, 0, 0, 0)) := X.1.k rfl (by decide)
  refine z_xcV (vs := [.ref 4, .int p1]) (r := []) (L2 := [some (.ref 4), some (.int p1)]) zt60 1 rfl zo60 zzcV0_85 (Or.inl rfl) rfl X f4 rfl rfl rfl (Nat.le_of_ble_eq_true rfl) zzm35 (Nat.le_of_ble_eq_true rfl) rfl ?_
  refine z_xP zt35 0 1 [some (.ref 4), some (.int p1)] [.int p1] rfl rfl ?_
  refine z_xZ zt35 1 rfl rfl (fun (h1 : p1.toInt < 0) => ?_) (fun (h1 : 0 ≤ p1.toInt) => ?_)
  · skip
    refine z_xP zt35 5 22 [some (.ref 4), some (.int p1)] [.null] rfl rfl ?_
    refine z_xrn zt35 10 rfl zzr35 ?_
    show z_ev (d + 2) 60 5 [some (.ref 4), some (.int p1), none, none] [.null] M0 _
    refine z_xP zt60 2 10 [some (.ref 4), some (.int p1), some (.null), none] [] rfl rfl ?_
    refine z_xP zt60 3 11 [some (.ref 4), some (.int p1), some (.null), none] [.int (-1)] rfl rfl ?_
    have qm1 : (((-1) : Int32)).toInt = (-1) := rfl
    obtain ⟨x2, h3, h4, h5⟩ := z_W.fi X.1 f4 (k := 3) (lo := 0) (hi := 8) (by decide) rfl
    have qm1 : (((-1) : Int32)).toInt = (-1) := rfl
    exact z_xri zt60 4 rfl zzr60 (kk (-1) M0 X (by omega) (by omega) (z_qB0 h3 (by omega) (by omega) z_ke.refl))
  refine z_xP zt35 2 6 [some (.ref 4), some (.int p1)] [.ref 4, .int p1] rfl rfl ?_
  refine z_xgI zt35 3 rfl zo35 zzf0_59 X f4 (by decide) (by decide) rfl (fun (x7 : Int32) h6 (h8 : 0 ≤ x7.toInt) (h9 : x7.toInt ≤ 8) => ?_)
  have h10 := z_b32 p1
  refine z_xJ zt35 4 rfl rfl (fun (h11 : p1.toInt < x7.toInt) => ?_) (fun (h11 : x7.toInt ≤ p1.toInt) => ?_)
  · skip
    refine z_xP zt35 6 17 [some (.ref 4), some (.int p1)] [.ref 4] rfl rfl ?_
    refine z_xgX (b := 10) zt35 7 rfl zo35 zzf0_18 X f4 (by decide) (by decide) rfl ?_
    refine z_xP zt35 8 21 [some (.ref 4), some (.int p1)] [.int p1, .ref 10] rfl rfl ?_
    have f10 : T[10]? = some (.inr (10, 2, 8, 9, 0)) := X.1.k rfl (by decide)
    refine z_xal zt35 9 rfl X f10 (by decide) (by decide) (by decide) (by omega) (by omega) (fun (a12 : Nat) h13 h14 => ?_) (fun h15 => absurd h15 (z_Gs (hG.go X (by decide)).2.1 h6 (by omega) (by omega)))
    obtain ⟨q16, t17, m18, k19⟩ : ∃ q t m, T[a12]? = some (.inl (3, q, t, m, 9)) := h14
    have g20 := X.1.p3 k19
    refine z_xra zt35 10 rfl zzr35 ?_
    show z_ev (d + 2) 60 5 [some (.ref 4), some (.int p1), none, none] [.ref a12] M0 _
    refine z_xP zt60 2 12 [some (.ref 4), some (.int p1), some (.ref a12), none] [] rfl rfl ?_
    refine z_xP zt60 5 13 [some (.ref 4), some (.int p1), some (.ref a12), none] [.ref a12] rfl rfl ?_
    refine z_xgI zt60 6 rfl zo60 zzf0_105 X k19 (by decide) (by decide) rfl (fun (x22 : Int32) h21 (h23 : 0 ≤ x22.toInt) (h24 : x22.toInt ≤ (9 : Int)) => ?_)
    refine z_xP zt60 7 18 [some (.ref 4), some (.int p1), some (.ref a12), some (.int x22)] [.ref a12] rfl rfl ?_
    refine z_xcV (vs := [.ref a12]) (r := []) (L2 := [some (.ref a12)]) zt60 8 rfl zo60 zzcV0_160 (Or.inl rfl) rfl X k19 rfl rfl rfl (Nat.le_of_ble_eq_true rfl) zzm61 (Nat.le_of_ble_eq_true rfl) rfl ?_
    obtain ⟨N29, pr30, en31, B32, hAB33⟩ := hR6.at2 h6 (by omega) (by omega) h13 k19
    refine z_ev.told (fun w => w = a12) (hbk.ke X.2 (by decide)) X.1 (z_qLc (z_rvr (z_pb.ben k19 rfl)) z_qL0) z_qS0 ?_
    refine zUC61 X.1 k19 X.1 (hbk.ke X.2 (by decide)) (fun M25 X26 h27 h28 => ?_)
    intro ho34
    have X35 := X.go X26 (z_sb (by decide))
    show z_ev (d + 2) 60 21 [some (.ref 4), some (.int p1), some (.ref a12), some (.int x22)] [] M25 _
    refine z_xP zt60 9 22 [some (.ref 4), some (.int p1), some (.ref a12), some (.int x22)] [.int x22] rfl rfl ?_
    exact z_xri zt60 10 rfl zzr60 (kk x22 M25 X35 (by omega) (by omega) (z_qB1 h6 ⟨by omega, by omega⟩ hAB33 ⟨h21, (z_oth.refl.trans ho34), h27, h28⟩))
  refine z_xP zt35 5 22 [some (.ref 4), some (.int p1)] [.null] rfl rfl ?_
  refine z_xrn zt35 10 rfl zzr35 ?_
  show z_ev (d + 2) 60 5 [some (.ref 4), some (.int p1), none, none] [.null] M0 _
  refine z_xP zt60 2 10 [some (.ref 4), some (.int p1), some (.null), none] [] rfl rfl ?_
  refine z_xP zt60 3 11 [some (.ref 4), some (.int p1), some (.null), none] [.int (-1)] rfl rfl ?_
  have qm1 : (((-1) : Int32)).toInt = (-1) := rfl
  have qm1 : (((-1) : Int32)).toInt = (-1) := rfl
  exact z_xri zt60 4 rfl zzr60 (kk (-1) M0 X (by omega) (by omega) (z_qB0 h6 (by omega) (by omega) z_ke.refl))
theorem zUC221 {T : List zK} {d : Nat} {K : Option Value → zH → Prop} {p1 : Int32} {p2 : Int32} {p3 : Int32} {p4 : Int32} {M0 : zH} (hW : z_W M0 T)  (kk : ∀ (x : Int32) (M1 : zH), z_X T zw221 M0 M1 → (-3) ≤ x.toInt → x.toInt ≤ 8 → y_qB M0 p1 x.toInt (z_ke T [] M0 M1) ((x.toInt = -1 ∧ ¬ (z_ans (z_Ar M0 24 p1.toNatClampNeg).toInt.toNat p3 p4 ∧ 1 ≤ p2.toInt ∧ p2.toInt ≤ 9) ∧ z_ke T [] M0 M1) ∨ ((z_ans (z_Ar M0 24 p1.toNatClampNeg).toInt.toNat p3 p4 ∧ 1 ≤ p2.toInt ∧ p2.toInt ≤ 9) ∧ ((x.toInt = -2 ∧ ¬ y_cs (fun j => z_Ar M0 30 (1024 * p1.toNatClampNeg + j)) p3 p4 (z_Ar M0 31 p1.toNatClampNeg).toInt.toNat ∧ z_ke T [] M0 M1) ∨ (y_cs (fun j => z_Ar M0 30 (1024 * p1.toNatClampNeg + j)) p3 p4 (z_Ar M0 31 p1.toNatClampNeg).toInt.toNat ∧ ((x.toInt = -3 ∧ (z_Ar M0 35 p1.toNatClampNeg).toInt = 9 ∧ z_ke T [] M0 M1) ∨ ((z_Ar M0 35 p1.toNatClampNeg).toInt ≠ 9 ∧ x.toInt = (z_Ar M0 35 p1.toNatClampNeg).toInt ∧ y_se M0 M1 p1 p2 p3 p4)))))) → K (some (.int x)) M1) : z_ev (d + 2) 221 0 [some (.ref 19), some (.int p1), some (.int p2), some (.int p3), some (.int p4), none] [] M0 K := by
  have X : z_X T zw221 M0 M0 := .refl hW
  refine z_xP zt221 0 5 [some (.ref 19), some (.int p1), some (.int p2), some (.int p3), some (.int p4), none] [.int p4, .int p3, .int p1, .ref 19] rfl rfl ?_
  have f19 : T[19]? = some (.inl (12, 0, 0, 0, 0)) := X.1.k rfl (by decide)
  refine z_xcV (vs := [.ref 19, .int p1, .int p3, .int p4]) (r := []) (L2 := [some (.ref 19), some (.int p1), some (.int p3), some (.int p4)]) zt221 1 rfl zo221 zzcV12_219 (Or.inl rfl) rfl X f19 rfl rfl rfl (Nat.le_of_ble_eq_true rfl) zzm214 (Nat.le_of_ble_eq_true rfl) rfl ?_
  refine z_xP zt214 0 2 [some (.ref 19), some (.int p1), some (.int p3), some (.int p4)] [.int p1, .ref 19] rfl rfl ?_
  refine z_xcV (vs := [.ref 19, .int p1]) (r := []) (L2 := [some (.ref 19), some (.int p1)]) zt214 1 rfl zo214 zzcV12_209 (Or.inl rfl) rfl X f19 rfl rfl rfl (Nat.le_of_ble_eq_true rfl) zzm209 (Nat.le_of_ble_eq_true rfl) rfl ?_
  refine z_xP zt209 0 1 [some (.ref 19), some (.int p1)] [.int p1] rfl rfl ?_
  refine z_xZ zt209 1 rfl rfl (fun (h1 : p1.toInt < 0) => ?_) (fun (h1 : 0 ≤ p1.toInt) => ?_)
  · skip
    refine z_xP zt209 6 17 [some (.ref 19), some (.int p1)] [.int 0] rfl rfl ?_
    refine z_xrz zt209 7 rfl zzr209 (by decide) (by decide) ?_
    show z_ev (d + 1) 214 5 [some (.ref 19), some (.int p1), some (.int p3), some (.int p4)] [.int 0] M0 _
    refine z_xZ zt214 2 rfl rfl (fun (h2 : (0 : Int) = 0) => ?_) (fun (h2 : (0 : Int) ≠ 0) => absurd h2 (by omega))
    refine z_xP zt214 13 37 [some (.ref 19), some (.int p1), some (.int p3), some (.int p4)] [.int 0] rfl rfl ?_
    refine z_xrz zt214 14 rfl zzr214 (by decide) (by decide) ?_
    show z_ev (d + 2) 221 8 [some (.ref 19), some (.int p1), some (.int p2), some (.int p3), some (.int p4), none] [.int 0] M0 _
    refine z_xZ zt221 2 rfl rfl (fun (h3 : (0 : Int) = 0) => ?_) (fun (h3 : (0 : Int) ≠ 0) => absurd h3 (by omega))
    refine z_xP zt221 9 24 [some (.ref 19), some (.int p1), some (.int p2), some (.int p3), some (.int p4), none] [.int (-1)] rfl rfl ?_
    have qm1 : (((-1) : Int32)).toInt = (-1) := rfl
    obtain ⟨x4, h5, h6, h7⟩ := z_W.fi X.1 f19 (k := 13) (lo := 0) (hi := 8) (by decide) rfl
    have qm1 : (((-1) : Int32)).toInt = (-1) := rfl
    exact z_xri zt221 10 rfl zzr221 (kk (-1) M0 X (by omega) (by omega) (y_qB0 h5 (by omega) (by omega) z_ke.refl))
  refine z_xP zt209 2 6 [some (.ref 19), some (.int p1)] [.ref 19, .int p1] rfl rfl ?_
  refine z_xgI zt209 3 rfl zo209 zzf12_110 X f19 (by decide) (by decide) rfl (fun (x9 : Int32) h8 (h10 : 0 ≤ x9.toInt) (h11 : x9.toInt ≤ 8) => ?_)
  have h12 := z_b32 p1
  refine z_xJ zt209 4 rfl rfl (fun (h13 : x9.toInt ≤ p1.toInt) => ?_) (fun (h13 : p1.toInt < x9.toInt) => ?_)
  · skip
    refine z_xP zt209 6 17 [some (.ref 19), some (.int p1)] [.int 0] rfl rfl ?_
    refine z_xrz zt209 7 rfl zzr209 (by decide) (by decide) ?_
    show z_ev (d + 1) 214 5 [some (.ref 19), some (.int p1), some (.int p3), some (.int p4)] [.int 0] M0 _
    refine z_xZ zt214 2 rfl rfl (fun (h14 : (0 : Int) = 0) => ?_) (fun (h14 : (0 : Int) ≠ 0) => absurd h14 (by omega))
    refine z_xP zt214 13 37 [some (.ref 19), some (.int p1), some (.int p3), some (.int p4)] [.int 0] rfl rfl ?_
    refine z_xrz zt214 14 rfl zzr214 (by decide) (by decide) ?_
    show z_ev (d + 2) 221 8 [some (.ref 19), some (.int p1), some (.int p2), some (.int p3), some (.int p4), none] [.int 0] M0 _
    refine z_xZ zt221 2 rfl rfl (fun (h15 : (0 : Int) = 0) => ?_) (fun (h15 : (0 : Int) ≠ 0) => absurd h15 (by omega))
    refine z_xP zt221 9 24 [some (.ref 19), some (.int p1), some (.int p2), some (.int p3), some (.int p4), none] [.int (-1)] rfl rfl ?_
    have qm1 : (((-1) : Int32)).toInt = (-1) := rfl
    have qm1 : (((-1) : Int32)).toInt = (-1) := rfl
    exact z_xri zt221 10 rfl zzr221 (kk (-1) M0 X (by omega) (by omega) (y_qB0 h8 (by omega) (by omega) z_ke.refl))
  refine z_xP zt209 5 17 [some (.ref 19), some (.int p1)] [.int 1] rfl rfl ?_
  refine z_xrz zt209 7 rfl zzr209 (by decide) (by decide) ?_
  show z_ev (d + 1) 214 5 [some (.ref 19), some (.int p1), some (.int p3), some (.int p4)] [.int 1] M0 _
  refine z_xZ zt214 2 rfl rfl (fun (h16 : (1 : Int) = 0) => absurd h16 (by omega)) (fun (h16 : (1 : Int) ≠ 0) => ?_)
  refine z_xP zt214 3 11 [some (.ref 19), some (.int p1), some (.int p3), some (.int p4)] [.int p3, .int p1, .ref 19] rfl rfl ?_
  refine z_xcV (vs := [.ref 19, .int p1, .int p3]) (r := []) (L2 := [some (.ref 19), some (.int p1), some (.int p3)]) zt214 4 rfl zo214 zzcV12_212 (Or.inl rfl) rfl X f19 rfl rfl rfl (Nat.le_of_ble_eq_true rfl) zzm212 (Nat.le_of_ble_eq_true rfl) rfl ?_
  refine z_xP zt212 0 1 [some (.ref 19), some (.int p1), some (.int p3)] [.int p3] rfl rfl ?_
  refine z_xZ zt212 1 rfl rfl (fun (h17 : p3.toInt < 0) => ?_) (fun (h17 : 0 ≤ p3.toInt) => ?_)
  · skip
    refine z_xP zt212 9 21 [some (.ref 19), some (.int p1), some (.int p3)] [.int 0] rfl rfl ?_
    refine z_xrz zt212 10 rfl zzr212 (by decide) (by decide) ?_
    show z_ev (d + 1) 214 14 [some (.ref 19), some (.int p1), some (.int p3), some (.int p4)] [.int 0] M0 _
    refine z_xZ zt214 5 rfl rfl (fun (h18 : (0 : Int) = 0) => ?_) (fun (h18 : (0 : Int) ≠ 0) => absurd h18 (by omega))
    refine z_xP zt214 13 37 [some (.ref 19), some (.int p1), some (.int p3), some (.int p4)] [.int 0] rfl rfl ?_
    refine z_xrz zt214 14 rfl zzr214 (by decide) (by decide) ?_
    show z_ev (d + 2) 221 8 [some (.ref 19), some (.int p1), some (.int p2), some (.int p3), some (.int p4), none] [.int 0] M0 _
    refine z_xZ zt221 2 rfl rfl (fun (h19 : (0 : Int) = 0) => ?_) (fun (h19 : (0 : Int) ≠ 0) => absurd h19 (by omega))
    refine z_xP zt221 9 24 [some (.ref 19), some (.int p1), some (.int p2), some (.int p3), some (.int p4), none] [.int (-1)] rfl rfl ?_
    have qm1 : (((-1) : Int32)).toInt = (-1) := rfl
    have qm1 : (((-1) : Int32)).toInt = (-1) := rfl
    exact z_xri zt221 10 rfl zzr221 (kk (-1) M0 X (by omega) (by omega) (y_qB1 h8 ⟨by omega, by omega⟩ (Or.inl ⟨by omega, (fun h => by obtain ⟨⟨w1, w2, -⟩, w4, w5⟩ := h; omega), z_ke.refl⟩)))
  refine z_xP zt212 2 7 [some (.ref 19), some (.int p1), some (.int p3)] [.ref 19, .int 1, .int p3] rfl rfl ?_
  refine z_xgX (b := 24) zt212 3 rfl zo212 zzf12_22 X f19 (by decide) (by decide) rfl ?_
  refine z_xP zt212 4 11 [some (.ref 19), some (.int p1), some (.int p3)] [.int p1, .ref 24, .int 1, .int p3] rfl rfl ?_
  have f24 : T[24]? = some (.inr (24, 0, 8, 0, 10)) := X.1.k rfl (by decide)
  refine z_xil zt212 5 rfl X f24 (by decide) (by omega) (by omega) (fun (x20 : Int32) h21 (h22 : 0 ≤ x20.toInt) (h23 : x20.toInt ≤ 10) => ?_)
  refine z_xI zt212 6 rfl rfl (fun (x24 : Int32) (h25 : x24 = (1 : Int32) <<< (x20 &&& 31) ∧ 1 ≤ x24.toInt ∧ x24.toInt ≤ 1024) => ?_) (⟨rfl, z_pShlB (a := 1) (b := 10) (c := 1024) (r := 1024) rfl rfl (by omega) (by omega) (by omega) (by omega) (by decide) (by decide) (by decide) (by decide)⟩)
  have h26 := z_b32 p3
  refine z_xJ zt212 7 rfl rfl (fun (h27 : x24.toInt ≤ p3.toInt) => ?_) (fun (h27 : p3.toInt < x24.toInt) => ?_)
  · skip
    refine z_xP zt212 9 21 [some (.ref 19), some (.int p1), some (.int p3)] [.int 0] rfl rfl ?_
    refine z_xrz zt212 10 rfl zzr212 (by decide) (by decide) ?_
    show z_ev (d + 1) 214 14 [some (.ref 19), some (.int p1), some (.int p3), some (.int p4)] [.int 0] M0 _
    refine z_xZ zt214 5 rfl rfl (fun (h28 : (0 : Int) = 0) => ?_) (fun (h28 : (0 : Int) ≠ 0) => absurd h28 (by omega))
    refine z_xP zt214 13 37 [some (.ref 19), some (.int p1), some (.int p3), some (.int p4)] [.int 0] rfl rfl ?_
    refine z_xrz zt214 14 rfl zzr214 (by decide) (by decide) ?_
    show z_ev (d + 2) 221 8 [some (.ref 19), some (.int p1), some (.int p2), some (.int p3), some (.int p4), none] [.int 0] M0 _
    refine z_xZ zt221 2 rfl rfl (fun (h29 : (0 : Int) = 0) => ?_) (fun (h29 : (0 : Int) ≠ 0) => absurd h29 (by omega))
    refine z_xP zt221 9 24 [some (.ref 19), some (.int p1), some (.int p2), some (.int p3), some (.int p4), none] [.int (-1)] rfl rfl ?_
    have qm1 : (((-1) : Int32)).toInt = (-1) := rfl
    have i30 := z_2q1 (x := x20) (by omega) (by omega) h25.1
    have qm1 : (((-1) : Int32)).toInt = (-1) := rfl
    exact z_xri zt221 10 rfl zzr221 (kk (-1) M0 X (by omega) (by omega) (y_qB1 h8 ⟨by omega, by omega⟩ (Or.inl ⟨by omega, (fun h => by obtain ⟨⟨w1, w2, -⟩, w4, w5⟩ := h; rw [h21] at w1 w2; omega), z_ke.refl⟩)))
  refine z_xP zt212 8 21 [some (.ref 19), some (.int p1), some (.int p3)] [.int 1] rfl rfl ?_
  refine z_xrz zt212 10 rfl zzr212 (by decide) (by decide) ?_
  show z_ev (d + 1) 214 14 [some (.ref 19), some (.int p1), some (.int p3), some (.int p4)] [.int 1] M0 _
  refine z_xZ zt214 5 rfl rfl (fun (h31 : (1 : Int) = 0) => absurd h31 (by omega)) (fun (h31 : (1 : Int) ≠ 0) => ?_)
  refine z_xP zt214 6 20 [some (.ref 19), some (.int p1), some (.int p3), some (.int p4)] [.int p4, .int p1, .ref 19] rfl rfl ?_
  refine z_xcV (vs := [.ref 19, .int p1, .int p4]) (r := []) (L2 := [some (.ref 19), some (.int p1), some (.int p4)]) zt214 7 rfl zo214 zzcV12_212 (Or.inl rfl) rfl X f19 rfl rfl rfl (Nat.le_of_ble_eq_true rfl) zzm212 (Nat.le_of_ble_eq_true rfl) rfl ?_
  refine z_xP zt212 0 1 [some (.ref 19), some (.int p1), some (.int p4)] [.int p4] rfl rfl ?_
  refine z_xZ zt212 1 rfl rfl (fun (h32 : p4.toInt < 0) => ?_) (fun (h32 : 0 ≤ p4.toInt) => ?_)
  · skip
    refine z_xP zt212 9 21 [some (.ref 19), some (.int p1), some (.int p4)] [.int 0] rfl rfl ?_
    refine z_xrz zt212 10 rfl zzr212 (by decide) (by decide) ?_
    show z_ev (d + 1) 214 23 [some (.ref 19), some (.int p1), some (.int p3), some (.int p4)] [.int 0] M0 _
    refine z_xZ zt214 8 rfl rfl (fun (h33 : (0 : Int) = 0) => ?_) (fun (h33 : (0 : Int) ≠ 0) => absurd h33 (by omega))
    refine z_xP zt214 13 37 [some (.ref 19), some (.int p1), some (.int p3), some (.int p4)] [.int 0] rfl rfl ?_
    refine z_xrz zt214 14 rfl zzr214 (by decide) (by decide) ?_
    show z_ev (d + 2) 221 8 [some (.ref 19), some (.int p1), some (.int p2), some (.int p3), some (.int p4), none] [.int 0] M0 _
    refine z_xZ zt221 2 rfl rfl (fun (h34 : (0 : Int) = 0) => ?_) (fun (h34 : (0 : Int) ≠ 0) => absurd h34 (by omega))
    refine z_xP zt221 9 24 [some (.ref 19), some (.int p1), some (.int p2), some (.int p3), some (.int p4), none] [.int (-1)] rfl rfl ?_
    have qm1 : (((-1) : Int32)).toInt = (-1) := rfl
    have i35 := z_2q1 (x := x20) (by omega) (by omega) h25.1
    have qm1 : (((-1) : Int32)).toInt = (-1) := rfl
    exact z_xri zt221 10 rfl zzr221 (kk (-1) M0 X (by omega) (by omega) (y_qB1 h8 ⟨by omega, by omega⟩ (Or.inl ⟨by omega, (fun h => by obtain ⟨⟨w1, w2, -⟩, w4, w5⟩ := h; rw [h21] at w1 w2; omega), z_ke.refl⟩)))
  refine z_xP zt212 2 7 [some (.ref 19), some (.int p1), some (.int p4)] [.ref 19, .int 1, .int p4] rfl rfl ?_
  refine z_xgX (b := 24) zt212 3 rfl zo212 zzf12_22 X f19 (by decide) (by decide) rfl ?_
  refine z_xP zt212 4 11 [some (.ref 19), some (.int p1), some (.int p4)] [.int p1, .ref 24, .int 1, .int p4] rfl rfl ?_
  refine z_xil zt212 5 rfl X f24 (by decide) (by omega) (by omega) (fun (x36 : Int32) h37 (h38 : 0 ≤ x36.toInt) (h39 : x36.toInt ≤ 10) => ?_)
  have h40 := congrArg Int32.toInt (h37.symm.trans h21)
  refine z_xI zt212 6 rfl rfl (fun (x41 : Int32) (h42 : x41 = (1 : Int32) <<< (x36 &&& 31) ∧ 1 ≤ x41.toInt ∧ x41.toInt ≤ 1024) => ?_) (⟨rfl, z_pShlB (a := 1) (b := 10) (c := 1024) (r := 1024) rfl rfl (by omega) (by omega) (by omega) (by omega) (by decide) (by decide) (by decide) (by decide)⟩)
  have h43 := z_b32 p4
  refine z_xJ zt212 7 rfl rfl (fun (h44 : x41.toInt ≤ p4.toInt) => ?_) (fun (h44 : p4.toInt < x41.toInt) => ?_)
  · skip
    refine z_xP zt212 9 21 [some (.ref 19), some (.int p1), some (.int p4)] [.int 0] rfl rfl ?_
    refine z_xrz zt212 10 rfl zzr212 (by decide) (by decide) ?_
    show z_ev (d + 1) 214 23 [some (.ref 19), some (.int p1), some (.int p3), some (.int p4)] [.int 0] M0 _
    refine z_xZ zt214 8 rfl rfl (fun (h45 : (0 : Int) = 0) => ?_) (fun (h45 : (0 : Int) ≠ 0) => absurd h45 (by omega))
    refine z_xP zt214 13 37 [some (.ref 19), some (.int p1), some (.int p3), some (.int p4)] [.int 0] rfl rfl ?_
    refine z_xrz zt214 14 rfl zzr214 (by decide) (by decide) ?_
    show z_ev (d + 2) 221 8 [some (.ref 19), some (.int p1), some (.int p2), some (.int p3), some (.int p4), none] [.int 0] M0 _
    refine z_xZ zt221 2 rfl rfl (fun (h46 : (0 : Int) = 0) => ?_) (fun (h46 : (0 : Int) ≠ 0) => absurd h46 (by omega))
    refine z_xP zt221 9 24 [some (.ref 19), some (.int p1), some (.int p2), some (.int p3), some (.int p4), none] [.int (-1)] rfl rfl ?_
    have qm1 : (((-1) : Int32)).toInt = (-1) := rfl
    have i47 := z_2q1 (x := x20) (by omega) (by omega) h25.1
    have i48 := z_2q1 (x := x36) (by omega) (by omega) h42.1
    rw [show x36 = x20 from h37.symm.trans h21] at i48
    have qm1 : (((-1) : Int32)).toInt = (-1) := rfl
    exact z_xri zt221 10 rfl zzr221 (kk (-1) M0 X (by omega) (by omega) (y_qB1 h8 ⟨by omega, by omega⟩ (Or.inl ⟨by omega, (fun h => by obtain ⟨⟨w1, w2, -⟩, w4, w5⟩ := h; rw [h21] at w1 w2; omega), z_ke.refl⟩)))
  refine z_xP zt212 8 21 [some (.ref 19), some (.int p1), some (.int p4)] [.int 1] rfl rfl ?_
  refine z_xrz zt212 10 rfl zzr212 (by decide) (by decide) ?_
  show z_ev (d + 1) 214 23 [some (.ref 19), some (.int p1), some (.int p3), some (.int p4)] [.int 1] M0 _
  refine z_xZ zt214 8 rfl rfl (fun (h49 : (1 : Int) = 0) => absurd h49 (by omega)) (fun (h49 : (1 : Int) ≠ 0) => ?_)
  refine z_xP zt214 9 28 [some (.ref 19), some (.int p1), some (.int p3), some (.int p4)] [.int p4, .int p3] rfl rfl ?_
  refine z_xI zt214 10 rfl rfl (fun (x50 : Int32) (h51 : x50 = p3 &&& p4 ∧ 0 ≤ x50.toInt ∧ x50.toInt ≤ p3.toInt ∧ x50.toInt ≤ p4.toInt) => ?_) (⟨rfl, z_pAnd2 rfl rfl (by omega) (by omega)⟩)
  refine z_xZ zt214 11 rfl rfl (fun (h52 : x50.toInt ≠ 0) => ?_) (fun (h52 : x50.toInt = 0) => ?_)
  · skip
    refine z_xP zt214 13 37 [some (.ref 19), some (.int p1), some (.int p3), some (.int p4)] [.int 0] rfl rfl ?_
    refine z_xrz zt214 14 rfl zzr214 (by decide) (by decide) ?_
    show z_ev (d + 2) 221 8 [some (.ref 19), some (.int p1), some (.int p2), some (.int p3), some (.int p4), none] [.int 0] M0 _
    refine z_xZ zt221 2 rfl rfl (fun (h53 : (0 : Int) = 0) => ?_) (fun (h53 : (0 : Int) ≠ 0) => absurd h53 (by omega))
    refine z_xP zt221 9 24 [some (.ref 19), some (.int p1), some (.int p2), some (.int p3), some (.int p4), none] [.int (-1)] rfl rfl ?_
    have qm1 : (((-1) : Int32)).toInt = (-1) := rfl
    have i54 := z_2q1 (x := x20) (by omega) (by omega) h25.1
    have i55 := z_2q1 (x := x36) (by omega) (by omega) h42.1
    rw [show x36 = x20 from h37.symm.trans h21] at i55
    have qm1 : (((-1) : Int32)).toInt = (-1) := rfl
    exact z_xri zt221 10 rfl zzr221 (kk (-1) M0 X (by omega) (by omega) (y_qB1 h8 ⟨by omega, by omega⟩ (Or.inl ⟨by omega, (fun h => by obtain ⟨⟨-, -, w3⟩, w4, w5⟩ := h; rw [← h51.1] at w3; omega), z_ke.refl⟩)))
  refine z_xP zt214 12 37 [some (.ref 19), some (.int p1), some (.int p3), some (.int p4)] [.int 1] rfl rfl ?_
  refine z_xrz zt214 14 rfl zzr214 (by decide) (by decide) ?_
  show z_ev (d + 2) 221 8 [some (.ref 19), some (.int p1), some (.int p2), some (.int p3), some (.int p4), none] [.int 1] M0 _
  refine z_xZ zt221 2 rfl rfl (fun (h56 : (1 : Int) = 0) => absurd h56 (by omega)) (fun (h56 : (1 : Int) ≠ 0) => ?_)
  refine z_xP zt221 3 12 [some (.ref 19), some (.int p1), some (.int p2), some (.int p3), some (.int p4), none] [.int p2] rfl rfl ?_
  have h57 := z_b32 p2
  refine z_xL zt221 4 rfl rfl (fun (y58 : Int64) (h59 : y58.toInt = p2.toInt) => ?_) (z_qI2L rfl)
  refine z_xP zt221 5 14 [some (.ref 19), some (.int p1), some (.int p2), some (.int p3), some (.int p4), none] [.long 1, .long y58] rfl rfl ?_
  refine z_xl2 zt221 6 rfl zo221 zkl12_232 ?_
  refine z_xcS (vs := [.long y58, .long 1, .long 9]) (r := []) (L2 := [some (.long y58), none, some (.long 1), none, some (.long 9), none]) zt221 7 rfl zo221 zzcS12_116 (Or.inl rfl) (Nat.le_of_ble_eq_true rfl) rfl rfl (Nat.le_of_ble_eq_true rfl) zzm189 (Nat.le_of_ble_eq_true rfl) rfl ?_
  refine z_xP zt189 0 2 [some (.long y58), none, some (.long 1), none, some (.long 9), none] [.long 1, .long y58] rfl rfl ?_
  refine z_xI zt189 1 rfl rfl (fun (x60 : Int32) (h61 : (x60.toInt < 0 ∧ y58.toInt < 1) ∨ (x60.toInt = 0 ∧ y58.toInt = 1) ∨ (0 < x60.toInt ∧ 1 < y58.toInt)) => ?_) (z_qCmp rfl rfl)
  refine z_xZ zt189 2 rfl rfl (fun (h62 : x60.toInt < 0) => ?_) (fun (h62 : 0 ≤ x60.toInt) => ?_)
  · skip
    refine z_xP zt189 7 18 [some (.long y58), none, some (.long 1), none, some (.long 9), none] [.int 0] rfl rfl ?_
    refine z_xrz zt189 8 rfl zzr189 (by decide) (by decide) ?_
    show z_ev (d + 2) 221 20 [some (.ref 19), some (.int p1), some (.int p2), some (.int p3), some (.int p4), none] [.int 0] M0 _
    refine z_xZ zt221 8 rfl rfl (fun (h63 : (0 : Int) ≠ 0) => absurd h63 (by omega)) (fun (h63 : (0 : Int) = 0) => ?_)
    refine z_xP zt221 9 24 [some (.ref 19), some (.int p1), some (.int p2), some (.int p3), some (.int p4), none] [.int (-1)] rfl rfl ?_
    have qm1 : (((-1) : Int32)).toInt = (-1) := rfl
    have i64 := z_2q1 (x := x20) (by omega) (by omega) h25.1
    have i65 := z_2q1 (x := x36) (by omega) (by omega) h42.1
    rw [show x36 = x20 from h37.symm.trans h21] at i65
    have qm1 : (((-1) : Int32)).toInt = (-1) := rfl
    exact z_xri zt221 10 rfl zzr221 (kk (-1) M0 X (by omega) (by omega) (y_qB1 h8 ⟨by omega, by omega⟩ (Or.inl ⟨by omega, (fun h => by obtain ⟨⟨-, -, w3⟩, w4, w5⟩ := h; rw [← h51.1] at w3; omega), z_ke.refl⟩)))
  refine z_xP zt189 3 9 [some (.long y58), none, some (.long 1), none, some (.long 9), none] [.long 9, .long y58] rfl rfl ?_
  refine z_xI zt189 4 rfl rfl (fun (x66 : Int32) (h67 : (x66.toInt < 0 ∧ y58.toInt < 9) ∨ (x66.toInt = 0 ∧ y58.toInt = 9) ∨ (0 < x66.toInt ∧ 9 < y58.toInt)) => ?_) (z_qCmp rfl rfl)
  refine z_xZ zt189 5 rfl rfl (fun (h68 : 0 < x66.toInt) => ?_) (fun (h68 : x66.toInt ≤ 0) => ?_)
  · skip
    refine z_xP zt189 7 18 [some (.long y58), none, some (.long 1), none, some (.long 9), none] [.int 0] rfl rfl ?_
    refine z_xrz zt189 8 rfl zzr189 (by decide) (by decide) ?_
    show z_ev (d + 2) 221 20 [some (.ref 19), some (.int p1), some (.int p2), some (.int p3), some (.int p4), none] [.int 0] M0 _
    refine z_xZ zt221 8 rfl rfl (fun (h69 : (0 : Int) ≠ 0) => absurd h69 (by omega)) (fun (h69 : (0 : Int) = 0) => ?_)
    refine z_xP zt221 9 24 [some (.ref 19), some (.int p1), some (.int p2), some (.int p3), some (.int p4), none] [.int (-1)] rfl rfl ?_
    have qm1 : (((-1) : Int32)).toInt = (-1) := rfl
    have i70 := z_2q1 (x := x20) (by omega) (by omega) h25.1
    have i71 := z_2q1 (x := x36) (by omega) (by omega) h42.1
    rw [show x36 = x20 from h37.symm.trans h21] at i71
    have qm1 : (((-1) : Int32)).toInt = (-1) := rfl
    exact z_xri zt221 10 rfl zzr221 (kk (-1) M0 X (by omega) (by omega) (y_qB1 h8 ⟨by omega, by omega⟩ (Or.inl ⟨by omega, (fun h => by obtain ⟨⟨-, -, w3⟩, w4, w5⟩ := h; rw [← h51.1] at w3; omega), z_ke.refl⟩)))
  refine z_xP zt189 6 18 [some (.long y58), none, some (.long 1), none, some (.long 9), none] [.int 1] rfl rfl ?_
  refine z_xrz zt189 8 rfl zzr189 (by decide) (by decide) ?_
  show z_ev (d + 2) 221 20 [some (.ref 19), some (.int p1), some (.int p2), some (.int p3), some (.int p4), none] [.int 1] M0 _
  refine z_xZ zt221 8 rfl rfl (fun (h72 : (1 : Int) ≠ 0) => ?_) (fun (h72 : (1 : Int) = 0) => absurd h72 (by omega))
  refine z_xP zt221 11 30 [some (.ref 19), some (.int p1), some (.int p2), some (.int p3), some (.int p4), none] [.int p4, .int p3, .int p1, .ref 19] rfl rfl ?_
  refine z_xcV (vs := [.ref 19, .int p1, .int p3, .int p4]) (r := []) (L2 := [some (.ref 19), some (.int p1), some (.int p3), some (.int p4), none, none]) zt221 12 rfl zo221 zzcV12_222 (Or.inl rfl) rfl X f19 rfl rfl rfl (Nat.le_of_ble_eq_true rfl) zzm215 (Nat.le_of_ble_eq_true rfl) rfl ?_
  refine zUC215 X.1 (by omega) (fun x76 M73 X74 h77 h78 h75 => ?_)
  have X79 := X.go X74 (z_sb (by decide))
  show z_ev (d + 2) 221 33 [some (.ref 19), some (.int p1), some (.int p2), some (.int p3), some (.int p4), none] [.int x76] M73 _
  refine z_xZ zt221 13 rfl rfl (fun (h81 : x76.toInt ≠ 0) => ?_) (fun (h81 : x76.toInt = 0) => ?_)
  · skip
    refine z_xP zt221 16 40 [some (.ref 19), some (.int p1), some (.int p2), some (.int p3), some (.int p4), none] [.ref 19] rfl rfl ?_
    refine z_xgX (b := 35) zt221 17 rfl zo221 zzf12_55 X79 f19 (by decide) (by decide) rfl ?_
    refine z_xP zt221 18 44 [some (.ref 19), some (.int p1), some (.int p2), some (.int p3), some (.int p4), none] [.int p1, .ref 35] rfl rfl ?_
    have f35 : T[35]? = some (.inr (35, 0, 8, 0, 9)) := X79.1.k rfl (by decide)
    refine z_xil zt221 19 rfl X79 f35 (by decide) (by omega) (by omega) (fun (x82 : Int32) h83 (h84 : 0 ≤ x82.toInt) (h85 : x82.toInt ≤ 9) => ?_)
    refine z_xP zt221 20 47 [some (.ref 19), some (.int p1), some (.int p2), some (.int p3), some (.int p4), none] [.int 9, .int x82] rfl rfl ?_
    refine z_xJ zt221 21 rfl rfl (fun (h86 : x82.toInt ≠ 9) => ?_) (fun (h86 : x82.toInt = 9) => ?_)
    · skip
      refine z_xP zt221 24 56 [some (.ref 19), some (.int p1), some (.int p2), some (.int p3), some (.int p4), none] [.int p1, .int 9] rfl rfl ?_
      refine z_xI zt221 25 rfl rfl (fun (x87 : Int32) (h88 : x87.toInt = 9 * p1.toInt) => ?_) (z_pMul rfl rfl (by omega) (by omega))
      refine z_xP zt221 26 58 [some (.ref 19), some (.int p1), some (.int p2), some (.int p3), some (.int p4), none] [.ref 19, .int x87] rfl rfl ?_
      refine z_xgX (b := 35) zt221 27 rfl zo221 zzf12_55 X79 f19 (by decide) (by decide) rfl ?_
      refine z_xP zt221 28 62 [some (.ref 19), some (.int p1), some (.int p2), some (.int p3), some (.int p4), none] [.int p1, .ref 35, .int x87] rfl rfl ?_
      refine z_xil zt221 29 rfl X79 f35 (by decide) (by omega) (by omega) (fun (x89 : Int32) h90 (h91 : 0 ≤ x89.toInt) (h92 : x89.toInt ≤ 9) => ?_)
      have h93 := congrArg Int32.toInt (h90.symm.trans h83)
      refine z_xI zt221 30 rfl rfl (fun (x94 : Int32) (h95 : x94.toInt = x87.toInt + x89.toInt) => ?_) (z_pAdd rfl rfl (by omega) (by omega))
      refine z_xP zt221 31 67 [some (.ref 19), some (.int p1), some (.int p2), some (.int p3), some (.int p4), some (.int x94)] [.ref 19] rfl rfl ?_
      refine z_xgX (b := 32) zt221 32 rfl zo221 zzf12_46 X79 f19 (by decide) (by decide) rfl ?_
      refine z_xP zt221 33 73 [some (.ref 19), some (.int p1), some (.int p2), some (.int p3), some (.int p4), some (.int x94)] [.int p2, .int x94, .ref 32] rfl rfl ?_
      have f32 : T[32]? = some (.inr (32, 0, 72, (-2147483648), 2147483647)) := X79.1.k rfl (by decide)
      refine z_xis zt221 34 rfl X79 f32 (by decide) (by decide) (by omega) (by omega) (Int32.le_toInt _) (Int32.toInt_le _) (by decide) (fun M96 X97 e98 h99 => ?_)
      refine z_xP zt221 35 75 [some (.ref 19), some (.int p1), some (.int p2), some (.int p3), some (.int p4), some (.int x94)] [.ref 19] rfl rfl ?_
      refine z_xgX (b := 33) zt221 36 rfl zo221 zzf12_49 X97 f19 (by decide) (by decide) rfl ?_
      refine z_xP zt221 37 81 [some (.ref 19), some (.int p1), some (.int p2), some (.int p3), some (.int p4), some (.int x94)] [.int p3, .int x94, .ref 33] rfl rfl ?_
      have f33 : T[33]? = some (.inr (33, 0, 72, (-2147483648), 2147483647)) := X97.1.k rfl (by decide)
      refine z_xis zt221 38 rfl X97 f33 (by decide) (by decide) (by omega) (by omega) (Int32.le_toInt _) (Int32.toInt_le _) (by decide) (fun M100 X101 e102 h103 => ?_)
      refine z_xP zt221 39 83 [some (.ref 19), some (.int p1), some (.int p2), some (.int p3), some (.int p4), some (.int x94)] [.ref 19] rfl rfl ?_
      refine z_xgX (b := 34) zt221 40 rfl zo221 zzf12_52 X101 f19 (by decide) (by decide) rfl ?_
      refine z_xP zt221 41 90 [some (.ref 19), some (.int p1), some (.int p2), some (.int p3), some (.int p4), some (.int x94)] [.int p4, .int x94, .ref 34] rfl rfl ?_
      have f34 : T[34]? = some (.inr (34, 0, 72, (-2147483648), 2147483647)) := X101.1.k rfl (by decide)
      refine z_xis zt221 42 rfl X101 f34 (by decide) (by decide) (by omega) (by omega) (Int32.le_toInt _) (Int32.toInt_le _) (by decide) (fun M104 X105 e106 h107 => ?_)
      refine z_xP zt221 43 92 [some (.ref 19), some (.int p1), some (.int p2), some (.int p3), some (.int p4), some (.int x94)] [.ref 19] rfl rfl ?_
      refine z_xgX (b := 35) zt221 44 rfl zo221 zzf12_55 X105 f19 (by decide) (by decide) rfl ?_
      refine z_xP zt221 45 97 [some (.ref 19), some (.int p1), some (.int p2), some (.int p3), some (.int p4), some (.int x94)] [.int p1, .ref 35, .int p1, .ref 35] rfl rfl ?_
      refine z_xil zt221 46 rfl X105 f35 (by decide) (by omega) (by omega) (fun (x108 : Int32) h109 (h110 : 0 ≤ x108.toInt) (h111 : x108.toInt ≤ 9) => ?_)
      have h112 := congrArg Int32.toInt (h109.symm.trans ((congrFun (e106.a f35 (by decide)) _).trans ((congrFun (e102.a f35 (by decide)) _).trans ((congrFun (e98.a f35 (by decide)) _).trans h83))))
      refine z_xP zt221 47 99 [some (.ref 19), some (.int p1), some (.int p2), some (.int p3), some (.int p4), some (.int x94)] [.int 1, .int x108, .int p1, .ref 35] rfl rfl ?_
      refine z_xI zt221 48 rfl rfl (fun (x113 : Int32) (h114 : x113.toInt = x108.toInt + 1) => ?_) (z_pAdd rfl rfl (by omega) (by omega))
      refine z_xis zt221 49 rfl X105 f35 (by decide) (by decide) (by omega) (by omega) (by omega) (by omega) (by decide) (fun M115 X116 e117 h118 => ?_)
      refine z_xP zt221 50 102 [some (.ref 19), some (.int p1), some (.int p2), some (.int p3), some (.int p4), some (.int x94)] [.ref 19] rfl rfl ?_
      refine z_xgX (b := 35) zt221 51 rfl zo221 zzf12_55 X116 f19 (by decide) (by decide) rfl ?_
      refine z_xP zt221 52 106 [some (.ref 19), some (.int p1), some (.int p2), some (.int p3), some (.int p4), some (.int x94)] [.int p1, .ref 35] rfl rfl ?_
      refine z_xil zt221 53 rfl X116 f35 (by decide) (by omega) (by omega) (fun (x119 : Int32) h120 (h121 : 0 ≤ x119.toInt) (h122 : x119.toInt ≤ 9) => ?_)
      have h123 := congrArg Int32.toInt (h120.symm.trans (z_upe h118))
      refine z_xP zt221 54 108 [some (.ref 19), some (.int p1), some (.int p2), some (.int p3), some (.int p4), some (.int x94)] [.int 1, .int x119] rfl rfl ?_
      refine z_xI zt221 55 rfl rfl (fun (x124 : Int32) (h125 : x124.toInt = x119.toInt - 1) => ?_) (z_pSub rfl rfl (by omega) (by omega))
      have i126 := z_2q1 (x := x20) (by omega) (by omega) h25.1
      have i127 := z_2q1 (x := x36) (by omega) (by omega) h42.1
      rw [show x36 = x20 from h37.symm.trans h21] at i127
      have j128 : z_Ar M0 35 p1.toNatClampNeg = x82 := (congrFun (X74.2.a f35 (by decide)) _).symm.trans h83
      exact z_xri zt221 56 rfl zzr221 (kk x124 M115 X116 (by omega) (by omega) (y_qB1 h8 ⟨by omega, by omega⟩ (Or.inr ⟨⟨⟨by rw [h21]; exact ⟨by omega, by omega⟩, by rw [h21]; exact ⟨by omega, by omega⟩, by rw [← h51.1]; omega⟩, by omega, by omega⟩, Or.inr ⟨z_or1 h75 (by omega), Or.inr ⟨by rw [j128]; omega, by rw [j128]; omega, ⟨_, by rw [j128]; omega, (h118.trans (congrArg (fun f => upd f p1.toNatClampNeg x113) ((e106.a f35 (by decide)).trans ((e102.a f35 (by decide)).trans ((e98.a f35 (by decide)).trans ((X74.2.a f35 (by decide)).trans rfl))))))⟩, ⟨x94, by rw [j128]; omega, ((e117.a f32 (by decide)).trans ((e106.a f32 (by decide)).trans ((e102.a f32 (by decide)).trans (h99.trans (congrArg (fun f => upd f x94.toNatClampNeg p2) ((X74.2.a f32 (by decide)).trans rfl)))))), ((e117.a f33 (by decide)).trans ((e106.a f33 (by decide)).trans (h103.trans (congrArg (fun f => upd f x94.toNatClampNeg p3) ((e98.a f33 (by decide)).trans ((X74.2.a f33 (by decide)).trans rfl)))))), ((e117.a f34 (by decide)).trans (h107.trans (congrArg (fun f => upd f x94.toNatClampNeg p4) ((e102.a f34 (by decide)).trans ((e98.a f34 (by decide)).trans ((X74.2.a f34 (by decide)).trans rfl))))))⟩⟩⟩⟩)))
    refine z_xP zt221 22 52 [some (.ref 19), some (.int p1), some (.int p2), some (.int p3), some (.int p4), none] [.int (-3)] rfl rfl ?_
    have qm3 : (((-3) : Int32)).toInt = (-3) := rfl
    have i129 := z_2q1 (x := x20) (by omega) (by omega) h25.1
    have i130 := z_2q1 (x := x36) (by omega) (by omega) h42.1
    rw [show x36 = x20 from h37.symm.trans h21] at i130
    have j131 : z_Ar M0 35 p1.toNatClampNeg = x82 := (congrFun (X74.2.a f35 (by decide)) _).symm.trans h83
    have qm3 : (((-3) : Int32)).toInt = (-3) := rfl
    exact z_xri zt221 23 rfl zzr221 (kk (-3) M73 X79 (by omega) (by omega) (y_qB1 h8 ⟨by omega, by omega⟩ (Or.inr ⟨⟨⟨by rw [h21]; exact ⟨by omega, by omega⟩, by rw [h21]; exact ⟨by omega, by omega⟩, by rw [← h51.1]; omega⟩, by omega, by omega⟩, Or.inr ⟨z_or1 h75 (by omega), Or.inl ⟨by omega, by rw [j131]; omega, (z_ke.refl.trans X74.2 (z_sb (by decide)))⟩⟩⟩)))
  refine z_xP zt221 14 38 [some (.ref 19), some (.int p1), some (.int p2), some (.int p3), some (.int p4), none] [.int (-2)] rfl rfl ?_
  have qm2 : (((-2) : Int32)).toInt = (-2) := rfl
  have i132 := z_2q1 (x := x20) (by omega) (by omega) h25.1
  have i133 := z_2q1 (x := x36) (by omega) (by omega) h42.1
  rw [show x36 = x20 from h37.symm.trans h21] at i133
  have qm2 : (((-2) : Int32)).toInt = (-2) := rfl
  exact z_xri zt221 15 rfl zzr221 (kk (-2) M73 X79 (by omega) (by omega) (y_qB1 h8 ⟨by omega, by omega⟩ (Or.inr ⟨⟨⟨by rw [h21]; exact ⟨by omega, by omega⟩, by rw [h21]; exact ⟨by omega, by omega⟩, by rw [← h51.1]; omega⟩, by omega, by omega⟩, Or.inl ⟨by omega, z_orn h75 (by omega), (z_ke.refl.trans X74.2 (z_sb (by decide)))⟩⟩)))
theorem zUC222 {T : List zK} {d : Nat} {K : Option Value → zH → Prop} {p1 : Int32} {p2 : Int32} {p3 : Int32} {p4 : Int32} {M0 : zH} (hW : z_W M0 T)  (kk : ∀ (x : Int32) (M1 : zH), z_X T zw222 M0 M1 → (-2) ≤ x.toInt → x.toInt ≤ 1 → y_qB M0 p1 x.toInt (z_ke T [] M0 M1) ((x.toInt = -1 ∧ ¬ (z_ans (z_Ar M0 24 p1.toNatClampNeg).toInt.toNat p3 p4 ∧ 0 ≤ p2.toInt ∧ p2.toInt < (z_Ar M0 35 p1.toNatClampNeg).toInt) ∧ z_ke T [] M0 M1) ∨ ((z_ans (z_Ar M0 24 p1.toNatClampNeg).toInt.toNat p3 p4 ∧ 0 ≤ p2.toInt ∧ p2.toInt < (z_Ar M0 35 p1.toNatClampNeg).toInt) ∧ ((x.toInt = -2 ∧ ¬ y_cs (fun j => z_Ar M0 30 (1024 * p1.toNatClampNeg + j)) p3 p4 (z_Ar M0 31 p1.toNatClampNeg).toInt.toNat ∧ z_ke T [] M0 M1) ∨ (y_cs (fun j => z_Ar M0 30 (1024 * p1.toNatClampNeg + j)) p3 p4 (z_Ar M0 31 p1.toNatClampNeg).toInt.toNat ∧ x.toInt = 1 ∧ y_alt M0 M1 p1 p2 p3 p4)))) → K (some (.int x)) M1) : z_ev (d + 2) 222 0 [some (.ref 19), some (.int p1), some (.int p2), some (.int p3), some (.int p4)] [] M0 K := by
  have X : z_X T zw222 M0 M0 := .refl hW
  refine z_xP zt222 0 3 [some (.ref 19), some (.int p1), some (.int p2), some (.int p3), some (.int p4)] [.int p2, .int p1, .ref 19] rfl rfl ?_
  have f19 : T[19]? = some (.inl (12, 0, 0, 0, 0)) := X.1.k rfl (by decide)
  refine z_xcV (vs := [.ref 19, .int p1, .int p2]) (r := []) (L2 := [some (.ref 19), some (.int p1), some (.int p2)]) zt222 1 rfl zo222 zzcV12_234 (Or.inl rfl) rfl X f19 rfl rfl rfl (Nat.le_of_ble_eq_true rfl) zzm223 (Nat.le_of_ble_eq_true rfl) rfl ?_
  refine z_xP zt223 0 2 [some (.ref 19), some (.int p1), some (.int p2)] [.int p1, .ref 19] rfl rfl ?_
  refine z_xcV (vs := [.ref 19, .int p1]) (r := []) (L2 := [some (.ref 19), some (.int p1)]) zt223 1 rfl zo223 zzcV12_209 (Or.inl rfl) rfl X f19 rfl rfl rfl (Nat.le_of_ble_eq_true rfl) zzm209 (Nat.le_of_ble_eq_true rfl) rfl ?_
  refine z_xP zt209 0 1 [some (.ref 19), some (.int p1)] [.int p1] rfl rfl ?_
  refine z_xZ zt209 1 rfl rfl (fun (h1 : p1.toInt < 0) => ?_) (fun (h1 : 0 ≤ p1.toInt) => ?_)
  · skip
    refine z_xP zt209 6 17 [some (.ref 19), some (.int p1)] [.int 0] rfl rfl ?_
    refine z_xrz zt209 7 rfl zzr209 (by decide) (by decide) ?_
    show z_ev (d + 1) 223 5 [some (.ref 19), some (.int p1), some (.int p2)] [.int 0] M0 _
    refine z_xZ zt223 2 rfl rfl (fun (h2 : (0 : Int) = 0) => ?_) (fun (h2 : (0 : Int) ≠ 0) => absurd h2 (by omega))
    refine z_xP zt223 11 27 [some (.ref 19), some (.int p1), some (.int p2)] [.int 0] rfl rfl ?_
    refine z_xrz zt223 12 rfl zzr223 (by decide) (by decide) ?_
    show z_ev (d + 2) 222 6 [some (.ref 19), some (.int p1), some (.int p2), some (.int p3), some (.int p4)] [.int 0] M0 _
    refine z_xZ zt222 2 rfl rfl (fun (h3 : (0 : Int) = 0) => ?_) (fun (h3 : (0 : Int) ≠ 0) => absurd h3 (by omega))
    refine z_xP zt222 6 21 [some (.ref 19), some (.int p1), some (.int p2), some (.int p3), some (.int p4)] [.int (-1)] rfl rfl ?_
    have qm1 : (((-1) : Int32)).toInt = (-1) := rfl
    obtain ⟨x4, h5, h6, h7⟩ := z_W.fi X.1 f19 (k := 13) (lo := 0) (hi := 8) (by decide) rfl
    have qm1 : (((-1) : Int32)).toInt = (-1) := rfl
    exact z_xri zt222 7 rfl zzr222 (kk (-1) M0 X (by omega) (by omega) (y_qB0 h5 (by omega) (by omega) z_ke.refl))
  refine z_xP zt209 2 6 [some (.ref 19), some (.int p1)] [.ref 19, .int p1] rfl rfl ?_
  refine z_xgI zt209 3 rfl zo209 zzf12_110 X f19 (by decide) (by decide) rfl (fun (x9 : Int32) h8 (h10 : 0 ≤ x9.toInt) (h11 : x9.toInt ≤ 8) => ?_)
  have h12 := z_b32 p1
  refine z_xJ zt209 4 rfl rfl (fun (h13 : x9.toInt ≤ p1.toInt) => ?_) (fun (h13 : p1.toInt < x9.toInt) => ?_)
  · skip
    refine z_xP zt209 6 17 [some (.ref 19), some (.int p1)] [.int 0] rfl rfl ?_
    refine z_xrz zt209 7 rfl zzr209 (by decide) (by decide) ?_
    show z_ev (d + 1) 223 5 [some (.ref 19), some (.int p1), some (.int p2)] [.int 0] M0 _
    refine z_xZ zt223 2 rfl rfl (fun (h14 : (0 : Int) = 0) => ?_) (fun (h14 : (0 : Int) ≠ 0) => absurd h14 (by omega))
    refine z_xP zt223 11 27 [some (.ref 19), some (.int p1), some (.int p2)] [.int 0] rfl rfl ?_
    refine z_xrz zt223 12 rfl zzr223 (by decide) (by decide) ?_
    show z_ev (d + 2) 222 6 [some (.ref 19), some (.int p1), some (.int p2), some (.int p3), some (.int p4)] [.int 0] M0 _
    refine z_xZ zt222 2 rfl rfl (fun (h15 : (0 : Int) = 0) => ?_) (fun (h15 : (0 : Int) ≠ 0) => absurd h15 (by omega))
    refine z_xP zt222 6 21 [some (.ref 19), some (.int p1), some (.int p2), some (.int p3), some (.int p4)] [.int (-1)] rfl rfl ?_
    have qm1 : (((-1) : Int32)).toInt = (-1) := rfl
    have qm1 : (((-1) : Int32)).toInt = (-1) := rfl
    exact z_xri zt222 7 rfl zzr222 (kk (-1) M0 X (by omega) (by omega) (y_qB0 h8 (by omega) (by omega) z_ke.refl))
  refine z_xP zt209 5 17 [some (.ref 19), some (.int p1)] [.int 1] rfl rfl ?_
  refine z_xrz zt209 7 rfl zzr209 (by decide) (by decide) ?_
  show z_ev (d + 1) 223 5 [some (.ref 19), some (.int p1), some (.int p2)] [.int 1] M0 _
  refine z_xZ zt223 2 rfl rfl (fun (h16 : (1 : Int) = 0) => absurd h16 (by omega)) (fun (h16 : (1 : Int) ≠ 0) => ?_)
  refine z_xP zt223 3 9 [some (.ref 19), some (.int p1), some (.int p2)] [.int p2] rfl rfl ?_
  refine z_xZ zt223 4 rfl rfl (fun (h17 : p2.toInt < 0) => ?_) (fun (h17 : 0 ≤ p2.toInt) => ?_)
  · skip
    refine z_xP zt223 11 27 [some (.ref 19), some (.int p1), some (.int p2)] [.int 0] rfl rfl ?_
    refine z_xrz zt223 12 rfl zzr223 (by decide) (by decide) ?_
    show z_ev (d + 2) 222 6 [some (.ref 19), some (.int p1), some (.int p2), some (.int p3), some (.int p4)] [.int 0] M0 _
    refine z_xZ zt222 2 rfl rfl (fun (h18 : (0 : Int) = 0) => ?_) (fun (h18 : (0 : Int) ≠ 0) => absurd h18 (by omega))
    refine z_xP zt222 6 21 [some (.ref 19), some (.int p1), some (.int p2), some (.int p3), some (.int p4)] [.int (-1)] rfl rfl ?_
    have qm1 : (((-1) : Int32)).toInt = (-1) := rfl
    have qm1 : (((-1) : Int32)).toInt = (-1) := rfl
    exact z_xri zt222 7 rfl zzr222 (kk (-1) M0 X (by omega) (by omega) (y_qB1 h8 ⟨by omega, by omega⟩ (Or.inl ⟨by omega, (fun h => by obtain ⟨⟨w1, w2, w3⟩, w4, w5⟩ := h; omega), z_ke.refl⟩)))
  refine z_xP zt223 5 14 [some (.ref 19), some (.int p1), some (.int p2)] [.ref 19, .int p2] rfl rfl ?_
  refine z_xgX (b := 35) zt223 6 rfl zo223 zzf12_55 X f19 (by decide) (by decide) rfl ?_
  refine z_xP zt223 7 18 [some (.ref 19), some (.int p1), some (.int p2)] [.int p1, .ref 35, .int p2] rfl rfl ?_
  have f35 : T[35]? = some (.inr (35, 0, 8, 0, 9)) := X.1.k rfl (by decide)
  refine z_xil zt223 8 rfl X f35 (by decide) (by omega) (by omega) (fun (x19 : Int32) h20 (h21 : 0 ≤ x19.toInt) (h22 : x19.toInt ≤ 9) => ?_)
  have h23 := z_b32 p2
  refine z_xJ zt223 9 rfl rfl (fun (h24 : x19.toInt ≤ p2.toInt) => ?_) (fun (h24 : p2.toInt < x19.toInt) => ?_)
  · skip
    refine z_xP zt223 11 27 [some (.ref 19), some (.int p1), some (.int p2)] [.int 0] rfl rfl ?_
    refine z_xrz zt223 12 rfl zzr223 (by decide) (by decide) ?_
    show z_ev (d + 2) 222 6 [some (.ref 19), some (.int p1), some (.int p2), some (.int p3), some (.int p4)] [.int 0] M0 _
    refine z_xZ zt222 2 rfl rfl (fun (h25 : (0 : Int) = 0) => ?_) (fun (h25 : (0 : Int) ≠ 0) => absurd h25 (by omega))
    refine z_xP zt222 6 21 [some (.ref 19), some (.int p1), some (.int p2), some (.int p3), some (.int p4)] [.int (-1)] rfl rfl ?_
    have qm1 : (((-1) : Int32)).toInt = (-1) := rfl
    have qm1 : (((-1) : Int32)).toInt = (-1) := rfl
    exact z_xri zt222 7 rfl zzr222 (kk (-1) M0 X (by omega) (by omega) (y_qB1 h8 ⟨by omega, by omega⟩ (Or.inl ⟨by omega, (fun h => by obtain ⟨⟨w1, w2, w3⟩, w4, w5⟩ := h; rw [h20] at w5; omega), z_ke.refl⟩)))
  refine z_xP zt223 10 27 [some (.ref 19), some (.int p1), some (.int p2)] [.int 1] rfl rfl ?_
  refine z_xrz zt223 12 rfl zzr223 (by decide) (by decide) ?_
  show z_ev (d + 2) 222 6 [some (.ref 19), some (.int p1), some (.int p2), some (.int p3), some (.int p4)] [.int 1] M0 _
  refine z_xZ zt222 2 rfl rfl (fun (h26 : (1 : Int) = 0) => absurd h26 (by omega)) (fun (h26 : (1 : Int) ≠ 0) => ?_)
  refine z_xP zt222 3 14 [some (.ref 19), some (.int p1), some (.int p2), some (.int p3), some (.int p4)] [.int p4, .int p3, .int p1, .ref 19] rfl rfl ?_
  refine z_xcV (vs := [.ref 19, .int p1, .int p3, .int p4]) (r := []) (L2 := [some (.ref 19), some (.int p1), some (.int p3), some (.int p4)]) zt222 4 rfl zo222 zzcV12_219 (Or.inl rfl) rfl X f19 rfl rfl rfl (Nat.le_of_ble_eq_true rfl) zzm214 (Nat.le_of_ble_eq_true rfl) rfl ?_
  refine z_xP zt214 0 2 [some (.ref 19), some (.int p1), some (.int p3), some (.int p4)] [.int p1, .ref 19] rfl rfl ?_
  refine z_xcV (vs := [.ref 19, .int p1]) (r := []) (L2 := [some (.ref 19), some (.int p1)]) zt214 1 rfl zo214 zzcV12_209 (Or.inl rfl) rfl X f19 rfl rfl rfl (Nat.le_of_ble_eq_true rfl) zzm209 (Nat.le_of_ble_eq_true rfl) rfl ?_
  refine z_xP zt209 0 1 [some (.ref 19), some (.int p1)] [.int p1] rfl rfl ?_
  refine z_xZ zt209 1 rfl rfl (fun (h27 : p1.toInt < 0) => absurd h27 (by omega)) (fun (h27 : 0 ≤ p1.toInt) => ?_)
  refine z_xP zt209 2 6 [some (.ref 19), some (.int p1)] [.ref 19, .int p1] rfl rfl ?_
  refine z_xgv zt209 3 rfl zo209 zzf12_110 X f19 (by decide) h8 ?_
  refine z_xJ zt209 4 rfl rfl (fun (h28 : x9.toInt ≤ p1.toInt) => ?_) (fun (h28 : p1.toInt < x9.toInt) => ?_)
  · skip
    refine z_xP zt209 6 17 [some (.ref 19), some (.int p1)] [.int 0] rfl rfl ?_
    refine z_xrz zt209 7 rfl zzr209 (by decide) (by decide) ?_
    show z_ev (d + 1) 214 5 [some (.ref 19), some (.int p1), some (.int p3), some (.int p4)] [.int 0] M0 _
    refine z_xZ zt214 2 rfl rfl (fun (h29 : (0 : Int) = 0) => ?_) (fun (h29 : (0 : Int) ≠ 0) => absurd h29 (by omega))
    refine z_xP zt214 13 37 [some (.ref 19), some (.int p1), some (.int p3), some (.int p4)] [.int 0] rfl rfl ?_
    refine z_xrz zt214 14 rfl zzr214 (by decide) (by decide) ?_
    show z_ev (d + 2) 222 17 [some (.ref 19), some (.int p1), some (.int p2), some (.int p3), some (.int p4)] [.int 0] M0 _
    refine z_xZ zt222 5 rfl rfl (fun (h30 : (0 : Int) ≠ 0) => absurd h30 (by omega)) (fun (h30 : (0 : Int) = 0) => ?_)
    refine z_xP zt222 6 21 [some (.ref 19), some (.int p1), some (.int p2), some (.int p3), some (.int p4)] [.int (-1)] rfl rfl ?_
    have qm1 : (((-1) : Int32)).toInt = (-1) := rfl
    have qm1 : (((-1) : Int32)).toInt = (-1) := rfl
    exact z_xri zt222 7 rfl zzr222 (kk (-1) M0 X (by omega) (by omega) (y_qB1 h8 ⟨by omega, by omega⟩ (Or.inl ⟨by omega, (fun h => by obtain ⟨⟨w1, w2, w3⟩, w4, w5⟩ := h; rw [h20] at w5; omega), z_ke.refl⟩)))
  refine z_xP zt209 5 17 [some (.ref 19), some (.int p1)] [.int 1] rfl rfl ?_
  refine z_xrz zt209 7 rfl zzr209 (by decide) (by decide) ?_
  show z_ev (d + 1) 214 5 [some (.ref 19), some (.int p1), some (.int p3), some (.int p4)] [.int 1] M0 _
  refine z_xZ zt214 2 rfl rfl (fun (h31 : (1 : Int) = 0) => absurd h31 (by omega)) (fun (h31 : (1 : Int) ≠ 0) => ?_)
  refine z_xP zt214 3 11 [some (.ref 19), some (.int p1), some (.int p3), some (.int p4)] [.int p3, .int p1, .ref 19] rfl rfl ?_
  refine z_xcV (vs := [.ref 19, .int p1, .int p3]) (r := []) (L2 := [some (.ref 19), some (.int p1), some (.int p3)]) zt214 4 rfl zo214 zzcV12_212 (Or.inl rfl) rfl X f19 rfl rfl rfl (Nat.le_of_ble_eq_true rfl) zzm212 (Nat.le_of_ble_eq_true rfl) rfl ?_
  refine z_xP zt212 0 1 [some (.ref 19), some (.int p1), some (.int p3)] [.int p3] rfl rfl ?_
  refine z_xZ zt212 1 rfl rfl (fun (h32 : p3.toInt < 0) => ?_) (fun (h32 : 0 ≤ p3.toInt) => ?_)
  · skip
    refine z_xP zt212 9 21 [some (.ref 19), some (.int p1), some (.int p3)] [.int 0] rfl rfl ?_
    refine z_xrz zt212 10 rfl zzr212 (by decide) (by decide) ?_
    show z_ev (d + 1) 214 14 [some (.ref 19), some (.int p1), some (.int p3), some (.int p4)] [.int 0] M0 _
    refine z_xZ zt214 5 rfl rfl (fun (h33 : (0 : Int) = 0) => ?_) (fun (h33 : (0 : Int) ≠ 0) => absurd h33 (by omega))
    refine z_xP zt214 13 37 [some (.ref 19), some (.int p1), some (.int p3), some (.int p4)] [.int 0] rfl rfl ?_
    refine z_xrz zt214 14 rfl zzr214 (by decide) (by decide) ?_
    show z_ev (d + 2) 222 17 [some (.ref 19), some (.int p1), some (.int p2), some (.int p3), some (.int p4)] [.int 0] M0 _
    refine z_xZ zt222 5 rfl rfl (fun (h34 : (0 : Int) ≠ 0) => absurd h34 (by omega)) (fun (h34 : (0 : Int) = 0) => ?_)
    refine z_xP zt222 6 21 [some (.ref 19), some (.int p1), some (.int p2), some (.int p3), some (.int p4)] [.int (-1)] rfl rfl ?_
    have qm1 : (((-1) : Int32)).toInt = (-1) := rfl
    have qm1 : (((-1) : Int32)).toInt = (-1) := rfl
    exact z_xri zt222 7 rfl zzr222 (kk (-1) M0 X (by omega) (by omega) (y_qB1 h8 ⟨by omega, by omega⟩ (Or.inl ⟨by omega, (fun h => by obtain ⟨⟨w1, w2, w3⟩, w4, w5⟩ := h; rw [h20] at w5; omega), z_ke.refl⟩)))
  refine z_xP zt212 2 7 [some (.ref 19), some (.int p1), some (.int p3)] [.ref 19, .int 1, .int p3] rfl rfl ?_
  refine z_xgX (b := 24) zt212 3 rfl zo212 zzf12_22 X f19 (by decide) (by decide) rfl ?_
  refine z_xP zt212 4 11 [some (.ref 19), some (.int p1), some (.int p3)] [.int p1, .ref 24, .int 1, .int p3] rfl rfl ?_
  have f24 : T[24]? = some (.inr (24, 0, 8, 0, 10)) := X.1.k rfl (by decide)
  refine z_xil zt212 5 rfl X f24 (by decide) (by omega) (by omega) (fun (x35 : Int32) h36 (h37 : 0 ≤ x35.toInt) (h38 : x35.toInt ≤ 10) => ?_)
  refine z_xI zt212 6 rfl rfl (fun (x39 : Int32) (h40 : x39 = (1 : Int32) <<< (x35 &&& 31) ∧ 1 ≤ x39.toInt ∧ x39.toInt ≤ 1024) => ?_) (⟨rfl, z_pShlB (a := 1) (b := 10) (c := 1024) (r := 1024) rfl rfl (by omega) (by omega) (by omega) (by omega) (by decide) (by decide) (by decide) (by decide)⟩)
  have h41 := z_b32 p3
  refine z_xJ zt212 7 rfl rfl (fun (h42 : x39.toInt ≤ p3.toInt) => ?_) (fun (h42 : p3.toInt < x39.toInt) => ?_)
  · skip
    refine z_xP zt212 9 21 [some (.ref 19), some (.int p1), some (.int p3)] [.int 0] rfl rfl ?_
    refine z_xrz zt212 10 rfl zzr212 (by decide) (by decide) ?_
    show z_ev (d + 1) 214 14 [some (.ref 19), some (.int p1), some (.int p3), some (.int p4)] [.int 0] M0 _
    refine z_xZ zt214 5 rfl rfl (fun (h43 : (0 : Int) = 0) => ?_) (fun (h43 : (0 : Int) ≠ 0) => absurd h43 (by omega))
    refine z_xP zt214 13 37 [some (.ref 19), some (.int p1), some (.int p3), some (.int p4)] [.int 0] rfl rfl ?_
    refine z_xrz zt214 14 rfl zzr214 (by decide) (by decide) ?_
    show z_ev (d + 2) 222 17 [some (.ref 19), some (.int p1), some (.int p2), some (.int p3), some (.int p4)] [.int 0] M0 _
    refine z_xZ zt222 5 rfl rfl (fun (h44 : (0 : Int) ≠ 0) => absurd h44 (by omega)) (fun (h44 : (0 : Int) = 0) => ?_)
    refine z_xP zt222 6 21 [some (.ref 19), some (.int p1), some (.int p2), some (.int p3), some (.int p4)] [.int (-1)] rfl rfl ?_
    have qm1 : (((-1) : Int32)).toInt = (-1) := rfl
    have i45 := z_2q1 (x := x35) (by omega) (by omega) h40.1
    have qm1 : (((-1) : Int32)).toInt = (-1) := rfl
    exact z_xri zt222 7 rfl zzr222 (kk (-1) M0 X (by omega) (by omega) (y_qB1 h8 ⟨by omega, by omega⟩ (Or.inl ⟨by omega, (fun h => by obtain ⟨⟨w1, w2, w3⟩, w4, w5⟩ := h; rw [h20] at w5; rw [h36] at w1 w2; omega), z_ke.refl⟩)))
  refine z_xP zt212 8 21 [some (.ref 19), some (.int p1), some (.int p3)] [.int 1] rfl rfl ?_
  refine z_xrz zt212 10 rfl zzr212 (by decide) (by decide) ?_
  show z_ev (d + 1) 214 14 [some (.ref 19), some (.int p1), some (.int p3), some (.int p4)] [.int 1] M0 _
  refine z_xZ zt214 5 rfl rfl (fun (h46 : (1 : Int) = 0) => absurd h46 (by omega)) (fun (h46 : (1 : Int) ≠ 0) => ?_)
  refine z_xP zt214 6 20 [some (.ref 19), some (.int p1), some (.int p3), some (.int p4)] [.int p4, .int p1, .ref 19] rfl rfl ?_
  refine z_xcV (vs := [.ref 19, .int p1, .int p4]) (r := []) (L2 := [some (.ref 19), some (.int p1), some (.int p4)]) zt214 7 rfl zo214 zzcV12_212 (Or.inl rfl) rfl X f19 rfl rfl rfl (Nat.le_of_ble_eq_true rfl) zzm212 (Nat.le_of_ble_eq_true rfl) rfl ?_
  refine z_xP zt212 0 1 [some (.ref 19), some (.int p1), some (.int p4)] [.int p4] rfl rfl ?_
  refine z_xZ zt212 1 rfl rfl (fun (h47 : p4.toInt < 0) => ?_) (fun (h47 : 0 ≤ p4.toInt) => ?_)
  · skip
    refine z_xP zt212 9 21 [some (.ref 19), some (.int p1), some (.int p4)] [.int 0] rfl rfl ?_
    refine z_xrz zt212 10 rfl zzr212 (by decide) (by decide) ?_
    show z_ev (d + 1) 214 23 [some (.ref 19), some (.int p1), some (.int p3), some (.int p4)] [.int 0] M0 _
    refine z_xZ zt214 8 rfl rfl (fun (h48 : (0 : Int) = 0) => ?_) (fun (h48 : (0 : Int) ≠ 0) => absurd h48 (by omega))
    refine z_xP zt214 13 37 [some (.ref 19), some (.int p1), some (.int p3), some (.int p4)] [.int 0] rfl rfl ?_
    refine z_xrz zt214 14 rfl zzr214 (by decide) (by decide) ?_
    show z_ev (d + 2) 222 17 [some (.ref 19), some (.int p1), some (.int p2), some (.int p3), some (.int p4)] [.int 0] M0 _
    refine z_xZ zt222 5 rfl rfl (fun (h49 : (0 : Int) ≠ 0) => absurd h49 (by omega)) (fun (h49 : (0 : Int) = 0) => ?_)
    refine z_xP zt222 6 21 [some (.ref 19), some (.int p1), some (.int p2), some (.int p3), some (.int p4)] [.int (-1)] rfl rfl ?_
    have qm1 : (((-1) : Int32)).toInt = (-1) := rfl
    have i50 := z_2q1 (x := x35) (by omega) (by omega) h40.1
    have qm1 : (((-1) : Int32)).toInt = (-1) := rfl
    exact z_xri zt222 7 rfl zzr222 (kk (-1) M0 X (by omega) (by omega) (y_qB1 h8 ⟨by omega, by omega⟩ (Or.inl ⟨by omega, (fun h => by obtain ⟨⟨w1, w2, w3⟩, w4, w5⟩ := h; rw [h20] at w5; rw [h36] at w1 w2; omega), z_ke.refl⟩)))
  refine z_xP zt212 2 7 [some (.ref 19), some (.int p1), some (.int p4)] [.ref 19, .int 1, .int p4] rfl rfl ?_
  refine z_xgX (b := 24) zt212 3 rfl zo212 zzf12_22 X f19 (by decide) (by decide) rfl ?_
  refine z_xP zt212 4 11 [some (.ref 19), some (.int p1), some (.int p4)] [.int p1, .ref 24, .int 1, .int p4] rfl rfl ?_
  refine z_xil zt212 5 rfl X f24 (by decide) (by omega) (by omega) (fun (x51 : Int32) h52 (h53 : 0 ≤ x51.toInt) (h54 : x51.toInt ≤ 10) => ?_)
  have h55 := congrArg Int32.toInt (h52.symm.trans h36)
  refine z_xI zt212 6 rfl rfl (fun (x56 : Int32) (h57 : x56 = (1 : Int32) <<< (x51 &&& 31) ∧ 1 ≤ x56.toInt ∧ x56.toInt ≤ 1024) => ?_) (⟨rfl, z_pShlB (a := 1) (b := 10) (c := 1024) (r := 1024) rfl rfl (by omega) (by omega) (by omega) (by omega) (by decide) (by decide) (by decide) (by decide)⟩)
  have h58 := z_b32 p4
  refine z_xJ zt212 7 rfl rfl (fun (h59 : x56.toInt ≤ p4.toInt) => ?_) (fun (h59 : p4.toInt < x56.toInt) => ?_)
  · skip
    refine z_xP zt212 9 21 [some (.ref 19), some (.int p1), some (.int p4)] [.int 0] rfl rfl ?_
    refine z_xrz zt212 10 rfl zzr212 (by decide) (by decide) ?_
    show z_ev (d + 1) 214 23 [some (.ref 19), some (.int p1), some (.int p3), some (.int p4)] [.int 0] M0 _
    refine z_xZ zt214 8 rfl rfl (fun (h60 : (0 : Int) = 0) => ?_) (fun (h60 : (0 : Int) ≠ 0) => absurd h60 (by omega))
    refine z_xP zt214 13 37 [some (.ref 19), some (.int p1), some (.int p3), some (.int p4)] [.int 0] rfl rfl ?_
    refine z_xrz zt214 14 rfl zzr214 (by decide) (by decide) ?_
    show z_ev (d + 2) 222 17 [some (.ref 19), some (.int p1), some (.int p2), some (.int p3), some (.int p4)] [.int 0] M0 _
    refine z_xZ zt222 5 rfl rfl (fun (h61 : (0 : Int) ≠ 0) => absurd h61 (by omega)) (fun (h61 : (0 : Int) = 0) => ?_)
    refine z_xP zt222 6 21 [some (.ref 19), some (.int p1), some (.int p2), some (.int p3), some (.int p4)] [.int (-1)] rfl rfl ?_
    have qm1 : (((-1) : Int32)).toInt = (-1) := rfl
    have i62 := z_2q1 (x := x35) (by omega) (by omega) h40.1
    have i63 := z_2q1 (x := x51) (by omega) (by omega) h57.1
    rw [show x51 = x35 from h52.symm.trans h36] at i63
    have qm1 : (((-1) : Int32)).toInt = (-1) := rfl
    exact z_xri zt222 7 rfl zzr222 (kk (-1) M0 X (by omega) (by omega) (y_qB1 h8 ⟨by omega, by omega⟩ (Or.inl ⟨by omega, (fun h => by obtain ⟨⟨w1, w2, w3⟩, w4, w5⟩ := h; rw [h20] at w5; rw [h36] at w1 w2; omega), z_ke.refl⟩)))
  refine z_xP zt212 8 21 [some (.ref 19), some (.int p1), some (.int p4)] [.int 1] rfl rfl ?_
  refine z_xrz zt212 10 rfl zzr212 (by decide) (by decide) ?_
  show z_ev (d + 1) 214 23 [some (.ref 19), some (.int p1), some (.int p3), some (.int p4)] [.int 1] M0 _
  refine z_xZ zt214 8 rfl rfl (fun (h64 : (1 : Int) = 0) => absurd h64 (by omega)) (fun (h64 : (1 : Int) ≠ 0) => ?_)
  refine z_xP zt214 9 28 [some (.ref 19), some (.int p1), some (.int p3), some (.int p4)] [.int p4, .int p3] rfl rfl ?_
  refine z_xI zt214 10 rfl rfl (fun (x65 : Int32) (h66 : x65 = p3 &&& p4 ∧ 0 ≤ x65.toInt ∧ x65.toInt ≤ p3.toInt ∧ x65.toInt ≤ p4.toInt) => ?_) (⟨rfl, z_pAnd2 rfl rfl (by omega) (by omega)⟩)
  refine z_xZ zt214 11 rfl rfl (fun (h67 : x65.toInt ≠ 0) => ?_) (fun (h67 : x65.toInt = 0) => ?_)
  · skip
    refine z_xP zt214 13 37 [some (.ref 19), some (.int p1), some (.int p3), some (.int p4)] [.int 0] rfl rfl ?_
    refine z_xrz zt214 14 rfl zzr214 (by decide) (by decide) ?_
    show z_ev (d + 2) 222 17 [some (.ref 19), some (.int p1), some (.int p2), some (.int p3), some (.int p4)] [.int 0] M0 _
    refine z_xZ zt222 5 rfl rfl (fun (h68 : (0 : Int) ≠ 0) => absurd h68 (by omega)) (fun (h68 : (0 : Int) = 0) => ?_)
    refine z_xP zt222 6 21 [some (.ref 19), some (.int p1), some (.int p2), some (.int p3), some (.int p4)] [.int (-1)] rfl rfl ?_
    have qm1 : (((-1) : Int32)).toInt = (-1) := rfl
    have i69 := z_2q1 (x := x35) (by omega) (by omega) h40.1
    have i70 := z_2q1 (x := x51) (by omega) (by omega) h57.1
    rw [show x51 = x35 from h52.symm.trans h36] at i70
    have qm1 : (((-1) : Int32)).toInt = (-1) := rfl
    exact z_xri zt222 7 rfl zzr222 (kk (-1) M0 X (by omega) (by omega) (y_qB1 h8 ⟨by omega, by omega⟩ (Or.inl ⟨by omega, (fun h => by obtain ⟨⟨w1, w2, w3⟩, w4, w5⟩ := h; rw [h20] at w5; rw [← h66.1] at w3; rw [h36] at w1 w2; omega), z_ke.refl⟩)))
  refine z_xP zt214 12 37 [some (.ref 19), some (.int p1), some (.int p3), some (.int p4)] [.int 1] rfl rfl ?_
  refine z_xrz zt214 14 rfl zzr214 (by decide) (by decide) ?_
  show z_ev (d + 2) 222 17 [some (.ref 19), some (.int p1), some (.int p2), some (.int p3), some (.int p4)] [.int 1] M0 _
  refine z_xZ zt222 5 rfl rfl (fun (h71 : (1 : Int) ≠ 0) => ?_) (fun (h71 : (1 : Int) = 0) => absurd h71 (by omega))
  refine z_xP zt222 8 27 [some (.ref 19), some (.int p1), some (.int p2), some (.int p3), some (.int p4)] [.int p4, .int p3, .int p1, .ref 19] rfl rfl ?_
  refine z_xcV (vs := [.ref 19, .int p1, .int p3, .int p4]) (r := []) (L2 := [some (.ref 19), some (.int p1), some (.int p3), some (.int p4), none, none]) zt222 9 rfl zo222 zzcV12_222 (Or.inl rfl) rfl X f19 rfl rfl rfl (Nat.le_of_ble_eq_true rfl) zzm215 (Nat.le_of_ble_eq_true rfl) rfl ?_
  refine zUC215 X.1 (by omega) (fun x75 M72 X73 h76 h77 h74 => ?_)
  have X78 := X.go X73 (z_sb (by decide))
  show z_ev (d + 2) 222 30 [some (.ref 19), some (.int p1), some (.int p2), some (.int p3), some (.int p4)] [.int x75] M72 _
  refine z_xZ zt222 10 rfl rfl (fun (h80 : x75.toInt ≠ 0) => ?_) (fun (h80 : x75.toInt = 0) => ?_)
  · skip
    refine z_xP zt222 13 37 [some (.ref 19), some (.int p1), some (.int p2), some (.int p3), some (.int p4)] [.ref 19] rfl rfl ?_
    refine z_xgX (b := 33) zt222 14 rfl zo222 zzf12_49 X78 f19 (by decide) (by decide) rfl ?_
    refine z_xP zt222 15 43 [some (.ref 19), some (.int p1), some (.int p2), some (.int p3), some (.int p4)] [.int p1, .int 9, .ref 33] rfl rfl ?_
    refine z_xI zt222 16 rfl rfl (fun (x81 : Int32) (h82 : x81.toInt = 9 * p1.toInt) => ?_) (z_pMul rfl rfl (by omega) (by omega))
    refine z_xP zt222 17 45 [some (.ref 19), some (.int p1), some (.int p2), some (.int p3), some (.int p4)] [.int p2, .int x81, .ref 33] rfl rfl ?_
    refine z_xI zt222 18 rfl rfl (fun (x83 : Int32) (h84 : x83.toInt = x81.toInt + p2.toInt) => ?_) (z_pAdd rfl rfl (by omega) (by omega))
    refine z_xP zt222 19 47 [some (.ref 19), some (.int p1), some (.int p2), some (.int p3), some (.int p4)] [.int p3, .int x83, .ref 33] rfl rfl ?_
    have f33 : T[33]? = some (.inr (33, 0, 72, (-2147483648), 2147483647)) := X78.1.k rfl (by decide)
    refine z_xis zt222 20 rfl X78 f33 (by decide) (by decide) (by omega) (by omega) (Int32.le_toInt _) (Int32.toInt_le _) (by decide) (fun M85 X86 e87 h88 => ?_)
    refine z_xP zt222 21 49 [some (.ref 19), some (.int p1), some (.int p2), some (.int p3), some (.int p4)] [.ref 19] rfl rfl ?_
    refine z_xgX (b := 34) zt222 22 rfl zo222 zzf12_52 X86 f19 (by decide) (by decide) rfl ?_
    refine z_xP zt222 23 55 [some (.ref 19), some (.int p1), some (.int p2), some (.int p3), some (.int p4)] [.int p1, .int 9, .ref 34] rfl rfl ?_
    refine z_xI zt222 24 rfl rfl (fun (x89 : Int32) (h90 : x89.toInt = 9 * p1.toInt) => ?_) (z_pMul rfl rfl (by omega) (by omega))
    refine z_xP zt222 25 57 [some (.ref 19), some (.int p1), some (.int p2), some (.int p3), some (.int p4)] [.int p2, .int x89, .ref 34] rfl rfl ?_
    refine z_xI zt222 26 rfl rfl (fun (x91 : Int32) (h92 : x91.toInt = x89.toInt + p2.toInt) => ?_) (z_pAdd rfl rfl (by omega) (by omega))
    refine z_xP zt222 27 60 [some (.ref 19), some (.int p1), some (.int p2), some (.int p3), some (.int p4)] [.int p4, .int x91, .ref 34] rfl rfl ?_
    have f34 : T[34]? = some (.inr (34, 0, 72, (-2147483648), 2147483647)) := X86.1.k rfl (by decide)
    refine z_xis zt222 28 rfl X86 f34 (by decide) (by decide) (by omega) (by omega) (Int32.le_toInt _) (Int32.toInt_le _) (by decide) (fun M93 X94 e95 h96 => ?_)
    refine z_xP zt222 29 62 [some (.ref 19), some (.int p1), some (.int p2), some (.int p3), some (.int p4)] [.int 1] rfl rfl ?_
    have q1 : ((1 : Int32)).toInt = 1 := rfl
    have i97 := z_2q1 (x := x35) (by omega) (by omega) h40.1
    have i98 := z_2q1 (x := x51) (by omega) (by omega) h57.1
    rw [show x51 = x35 from h52.symm.trans h36] at i98
    have q1 : ((1 : Int32)).toInt = 1 := rfl
    exact z_xri zt222 30 rfl zzr222 (kk 1 M93 X94 (by omega) (by omega) (y_qB1 h8 ⟨by omega, by omega⟩ (Or.inr ⟨⟨⟨by rw [h36]; exact ⟨by omega, by omega⟩, by rw [h36]; exact ⟨by omega, by omega⟩, by rw [← h66.1]; omega⟩, by omega, by rw [h20]; omega⟩, Or.inr ⟨z_or1 h74 (by omega), by omega, x83, by omega, ((e95.a f33 (by decide)).trans (h88.trans (congrArg (fun f => upd f x83.toNatClampNeg p3) ((X73.2.a f33 (by decide)).trans rfl)))), x91, by omega, (h96.trans (congrArg (fun f => upd f x91.toNatClampNeg p4) ((e87.a f34 (by decide)).trans ((X73.2.a f34 (by decide)).trans rfl))))⟩⟩)))
  refine z_xP zt222 11 35 [some (.ref 19), some (.int p1), some (.int p2), some (.int p3), some (.int p4)] [.int (-2)] rfl rfl ?_
  have qm2 : (((-2) : Int32)).toInt = (-2) := rfl
  have i99 := z_2q1 (x := x35) (by omega) (by omega) h40.1
  have i100 := z_2q1 (x := x51) (by omega) (by omega) h57.1
  rw [show x51 = x35 from h52.symm.trans h36] at i100
  have qm2 : (((-2) : Int32)).toInt = (-2) := rfl
  exact z_xri zt222 12 rfl zzr222 (kk (-2) M72 X78 (by omega) (by omega) (y_qB1 h8 ⟨by omega, by omega⟩ (Or.inr ⟨⟨⟨by rw [h36]; exact ⟨by omega, by omega⟩, by rw [h36]; exact ⟨by omega, by omega⟩, by rw [← h66.1]; omega⟩, by omega, by rw [h20]; omega⟩, Or.inl ⟨by omega, z_orn h74 (by omega), (z_ke.refl.trans X73.2 (z_sb (by decide)))⟩⟩)))
theorem zUC226 {T : List zK} {d : Nat} {K : Option Value → zH → Prop} {p1 : Int32} {M0 : zH} (hW : z_W M0 T)  (kk : ∀ (x : Int32) (M1 : zH), z_X T zw226 M0 M1 → (-1) ≤ x.toInt → x.toInt ≤ 9 → y_qB M0 p1 x.toInt (z_ke T [] M0 M1) (x.toInt = (z_Ar M0 35 p1.toNatClampNeg).toInt ∧ z_Ar M1 35 = upd (z_Ar M0 35) p1.toNatClampNeg 0) → K (some (.int x)) M1) : z_ev (d + 1) 226 0 [some (.ref 19), some (.int p1), none] [] M0 K := by
  have X : z_X T zw226 M0 M0 := .refl hW
  refine z_xP zt226 0 2 [some (.ref 19), some (.int p1), none] [.int p1, .ref 19] rfl rfl ?_
  have f19 : T[19]? = some (.inl (12, 0, 0, 0, 0)) := X.1.k rfl (by decide)
  refine z_xcV (vs := [.ref 19, .int p1]) (r := []) (L2 := [some (.ref 19), some (.int p1)]) zt226 1 rfl zo226 zzcV12_209 (Or.inl rfl) rfl X f19 rfl rfl rfl (Nat.le_of_ble_eq_true rfl) zzm209 (Nat.le_of_ble_eq_true rfl) rfl ?_
  refine z_xP zt209 0 1 [some (.ref 19), some (.int p1)] [.int p1] rfl rfl ?_
  refine z_xZ zt209 1 rfl rfl (fun (h1 : p1.toInt < 0) => ?_) (fun (h1 : 0 ≤ p1.toInt) => ?_)
  · skip
    refine z_xP zt209 6 17 [some (.ref 19), some (.int p1)] [.int 0] rfl rfl ?_
    refine z_xrz zt209 7 rfl zzr209 (by decide) (by decide) ?_
    show z_ev (d + 1) 226 5 [some (.ref 19), some (.int p1), none] [.int 0] M0 _
    refine z_xZ zt226 2 rfl rfl (fun (h2 : (0 : Int) ≠ 0) => absurd h2 (by omega)) (fun (h2 : (0 : Int) = 0) => ?_)
    refine z_xP zt226 3 9 [some (.ref 19), some (.int p1), none] [.int (-1)] rfl rfl ?_
    have qm1 : (((-1) : Int32)).toInt = (-1) := rfl
    obtain ⟨x3, h4, h5, h6⟩ := z_W.fi X.1 f19 (k := 13) (lo := 0) (hi := 8) (by decide) rfl
    have qm1 : (((-1) : Int32)).toInt = (-1) := rfl
    exact z_xri zt226 4 rfl zzr226 (kk (-1) M0 X (by omega) (by omega) (y_qB0 h4 (by omega) (by omega) z_ke.refl))
  refine z_xP zt209 2 6 [some (.ref 19), some (.int p1)] [.ref 19, .int p1] rfl rfl ?_
  refine z_xgI zt209 3 rfl zo209 zzf12_110 X f19 (by decide) (by decide) rfl (fun (x8 : Int32) h7 (h9 : 0 ≤ x8.toInt) (h10 : x8.toInt ≤ 8) => ?_)
  have h11 := z_b32 p1
  refine z_xJ zt209 4 rfl rfl (fun (h12 : x8.toInt ≤ p1.toInt) => ?_) (fun (h12 : p1.toInt < x8.toInt) => ?_)
  · skip
    refine z_xP zt209 6 17 [some (.ref 19), some (.int p1)] [.int 0] rfl rfl ?_
    refine z_xrz zt209 7 rfl zzr209 (by decide) (by decide) ?_
    show z_ev (d + 1) 226 5 [some (.ref 19), some (.int p1), none] [.int 0] M0 _
    refine z_xZ zt226 2 rfl rfl (fun (h13 : (0 : Int) ≠ 0) => absurd h13 (by omega)) (fun (h13 : (0 : Int) = 0) => ?_)
    refine z_xP zt226 3 9 [some (.ref 19), some (.int p1), none] [.int (-1)] rfl rfl ?_
    have qm1 : (((-1) : Int32)).toInt = (-1) := rfl
    have qm1 : (((-1) : Int32)).toInt = (-1) := rfl
    exact z_xri zt226 4 rfl zzr226 (kk (-1) M0 X (by omega) (by omega) (y_qB0 h7 (by omega) (by omega) z_ke.refl))
  refine z_xP zt209 5 17 [some (.ref 19), some (.int p1)] [.int 1] rfl rfl ?_
  refine z_xrz zt209 7 rfl zzr209 (by decide) (by decide) ?_
  show z_ev (d + 1) 226 5 [some (.ref 19), some (.int p1), none] [.int 1] M0 _
  refine z_xZ zt226 2 rfl rfl (fun (h14 : (1 : Int) ≠ 0) => ?_) (fun (h14 : (1 : Int) = 0) => absurd h14 (by omega))
  refine z_xP zt226 5 11 [some (.ref 19), some (.int p1), none] [.ref 19] rfl rfl ?_
  refine z_xgX (b := 35) zt226 6 rfl zo226 zzf12_55 X f19 (by decide) (by decide) rfl ?_
  refine z_xP zt226 7 15 [some (.ref 19), some (.int p1), none] [.int p1, .ref 35] rfl rfl ?_
  have f35 : T[35]? = some (.inr (35, 0, 8, 0, 9)) := X.1.k rfl (by decide)
  refine z_xil zt226 8 rfl X f35 (by decide) (by omega) (by omega) (fun (x15 : Int32) h16 (h17 : 0 ≤ x15.toInt) (h18 : x15.toInt ≤ 9) => ?_)
  refine z_xP zt226 9 18 [some (.ref 19), some (.int p1), some (.int x15)] [.ref 19] rfl rfl ?_
  refine z_xgX (b := 35) zt226 10 rfl zo226 zzf12_55 X f19 (by decide) (by decide) rfl ?_
  refine z_xP zt226 11 23 [some (.ref 19), some (.int p1), some (.int x15)] [.int 0, .int p1, .ref 35] rfl rfl ?_
  have q0 : ((0 : Int32)).toInt = 0 := rfl
  refine z_xis zt226 12 rfl X f35 (by decide) (by decide) (by omega) (by omega) (by omega) (by omega) (by decide) (fun M19 X20 e21 h22 => ?_)
  have q0 : ((0 : Int32)).toInt = 0 := rfl
  refine z_xP zt226 13 25 [some (.ref 19), some (.int p1), some (.int x15)] [.int x15] rfl rfl ?_
  exact z_xri zt226 14 rfl zzr226 (kk x15 M19 X20 (by omega) (by omega) (y_qB1 h7 ⟨by omega, by omega⟩ ⟨by rw [h16], (h22.trans (congrArg (fun f => upd f p1.toNatClampNeg (0 : Int32)) rfl))⟩))
