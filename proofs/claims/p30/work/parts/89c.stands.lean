/-! stands of both sides -/
theorem z_kpL11 {M M0 : zH} {a0 a14 kp i j : Nat} {y : Int64} (h13 : z_F M a0 11 = some (.ref a14)) (h8 : z_F M a0 11 = some (.ref kp)) (hl : z_Lg M a14 i = y) (e : i = j) (ek : z_Lg M kp = z_Lg M0 kp) : z_Lg M0 kp j = y := by
  rw [h13] at h8
  cases h8
  rw [← ek, ← e]
  exact hl
theorem z_or1 {x : Int} {P : Prop} (h : (x = 1 ∧ P) ∨ (x = 0 ∧ ¬ P)) (hx : x ≠ 0) : P := by
  rcases h with h | h
  · exact h.2
  · exact absurd h.1 hx
theorem z_orn {x : Int} {P : Prop} (h : (x = 1 ∧ P) ∨ (x = 0 ∧ ¬ P)) (hx : x = 0) : ¬ P := by
  rcases h with h | h
  · exact absurd (h.1.symm.trans hx) (by decide)
  · exact h.2
/-- whether one of the first sets has them -/
def y_cb (S : Nat → Int32) (y n : Int32) (i : Nat) (x : Int) : Prop := (x = 1 ∧ y_cs S y n i) ∨ (x = 0 ∧ ¬ y_cs S y n i)
section ZCB
variable {S : Nat → Int32} {y n s : Int32} {i : Nat} {x x2 : Int}
theorem y_cb0 {x0 : Int32} (h0 : x0.toInt = 0) (hx : x = 0) : y_cb S y n x0.toInt.toNat x := Or.inr ⟨hx, fun ⟨j, hj, _⟩ => by
  rw [h0] at hj
  exact absurd hj (Nat.not_lt_zero j)⟩
theorem y_cbK (h : y_cb S y n i x) (hx : x ≠ 0) (h2 : x2 = 1) : y_cb S y n (i + 1) x2 := by
  rcases h with ⟨_, j, h3, h4⟩ | ⟨h3, _⟩
  · exact Or.inl ⟨h2, j, by omega, h4⟩
  · exact absurd h3 hx
theorem y_cbY (_ : y_cb S y n i x) (h2 : x2 = 1) (hs : S i = s) (ht : y_ht s y n) : y_cb S y n (i + 1) x2 := Or.inl ⟨h2, i, Nat.lt_succ_self i, by rw [hs]; exact ht⟩
theorem y_cbN (h : y_cb S y n i x) (hx : x = 0) (h2 : x2 = 0) (hs : S i = s) (ht : ¬ y_ht s y n) : y_cb S y n (i + 1) x2 := by
  rcases h with ⟨h3, _⟩ | ⟨_, h3⟩
  · exact absurd (h3.symm.trans hx) (by decide)
  · refine Or.inr ⟨h2, fun ⟨j, h4, h5⟩ => ?_⟩
    by_cases c : j = i
    · rw [c, hs] at h5
      exact ht h5
    · exact h3 ⟨j, by omega, h5⟩
end ZCB
theorem zUB45 {T : List zK} {d : Nat} {K : Option Value → zH → Prop} {a0 : Nat} {q : Nat} {t : Nat} {m : Nat} {p1 : Int32} {p2 : Int32} {uy un ya : Nat} {M0 : zH} (k0 : T[a0]? = some (.inl (2, q, t, m, 0))) (u2 : 0 ≤ p2.toInt ∧ p2.toInt ≤ 15) (hb0 : p2.toInt < ((z_sp m : Nat) : Int)) (hd : p1.toInt = (uy : Int) + 1024 * (un : Int) ∧ uy < 1024 ∧ un < 1024) (hw11 : z_F M0 a0 11 = some (.ref ya)) (hk11 : T[ya]? = some (.inr (111, 1, q * z_sp m, 0, 0))) (kk : ∀ (x : Int64) (M1 : zH), z_X T zw45 M0 M1 → z_gv (fun j => 64 * p2.toInt.toNat + j < m) (fun k j => z_yb (z_Lg M0 ya) (z_sp m) k (64 * p2.toInt.toNat + j)) uy un q x → K (some (.long x)) M1) : ∀ n : Nat, (∀ (M : zH) (b3 : Int64) (b5 : Int32), z_X T zw45 M0 M → 0 ≤ b5.toInt ∧ b5.toInt ≤ 10 → b5.toInt ≤ (q : Int) → z_gv (fun j => 64 * p2.toInt.toNat + j < m) (fun k j => z_yb (z_Lg M0 ya) (z_sp m) k (64 * p2.toInt.toNat + j)) uy un b5.toInt.toNat b3 → ((0) * 2 + 0) * 11 + (10 - b5.toInt) < (n : Int) → z_ev (d + 1) 45 9 [some (.ref a0), some (.int p1), some (.int p2), some (.long b3), none, some (.int b5)] [] M K) := by
  intro n
  induction n with
  | zero => exact by intros; exfalso; omega
  | succ n ih =>
    intro M b3 b5 X hh0 hh1 hI hE
    have g0 := X.1.p2 k0
    refine z_xP zt45 3 12 [some (.ref a0), some (.int p1), some (.int p2), some (.long b3), none, some (.int b5)] [.ref a0, .int b5] rfl rfl ?_
    refine z_xgI zt45 4 rfl zo45 zzf2_15 X k0 (by decide) (by decide) rfl (fun (x2 : Int32) h1 (h3 : (q : Int) ≤ x2.toInt) (h4 : x2.toInt ≤ (q : Int)) => ?_)
    refine z_xJ zt45 5 rfl rfl (fun (h5 : x2.toInt ≤ b5.toInt) => ?_) (fun (h5 : b5.toInt < x2.toInt) => ?_)
    · skip
      refine z_xP zt45 44 90 [some (.ref a0), some (.int p1), some (.int p2), some (.long b3), none, some (.int b5)] [.long b3] rfl rfl ?_
      have i6 : b5.toInt.toNat = q := by omega
      rw [i6] at hI
      exact z_xrl zt45 45 rfl zzr45 (kk b3 M X hI)
    refine z_xP zt45 6 20 [some (.ref a0), some (.int p1), some (.int p2), some (.long b3), none, some (.int b5)] [.long 0, .long b3] rfl rfl ?_
    refine z_xI zt45 7 rfl rfl (fun (x7 : Int32) (h8 : (x7.toInt < 0 ∧ b3.toInt < 0) ∨ (x7.toInt = 0 ∧ b3.toInt = 0) ∨ (0 < x7.toInt ∧ 0 < b3.toInt)) => ?_) (z_qCmp rfl rfl)
    refine z_xZ zt45 8 rfl rfl (fun (h9 : x7.toInt = 0) => ?_) (fun (h9 : x7.toInt ≠ 0) => ?_)
    · skip
      refine z_xP zt45 44 90 [some (.ref a0), some (.int p1), some (.int p2), some (.long b3), none, some (.int b5)] [.long b3] rfl rfl ?_
      exact z_xrl zt45 45 rfl zzr45 (kk b3 M X (z_gvE hI (by omega) (by omega)))
    refine z_xP zt45 9 27 [some (.ref a0), some (.int p1), some (.int p2), some (.long b3), none, some (.int b5)] [.int b5, .int p1] rfl rfl ?_
    have h10 := z_b32 p1
    refine z_xI zt45 10 rfl rfl (fun (x11 : Int32) (h12 : x11 = p1 >>> (b5 &&& 31)) => ?_) (rfl)
    refine z_xP zt45 11 29 [some (.ref a0), some (.int p1), some (.int p2), some (.long b3), none, some (.int b5)] [.int 1, .int x11] rfl rfl ?_
    refine z_xI zt45 12 rfl rfl (fun (x13 : Int32) (h14 : x13 = x11 &&& (1 : Int32)) => ?_) (rfl)
    refine z_xZ zt45 13 rfl rfl (fun (h15 : x13.toInt = 0) => ?_) (fun (h15 : x13.toInt ≠ 0) => ?_)
    · skip
      refine z_xP zt45 24 55 [some (.ref a0), some (.int p1), some (.int p2), some (.long b3), none, some (.int b5)] [.int 10, .int b5, .int p1] rfl rfl ?_
      refine z_xI zt45 25 rfl rfl (fun (x16 : Int32) (h17 : x16.toInt = b5.toInt + 10) => ?_) (z_pAdd rfl rfl (by omega) (by omega))
      refine z_xI zt45 26 rfl rfl (fun (x18 : Int32) (h19 : x18 = p1 >>> (x16 &&& 31)) => ?_) (rfl)
      refine z_xP zt45 27 58 [some (.ref a0), some (.int p1), some (.int p2), some (.long b3), none, some (.int b5)] [.int 1, .int x18] rfl rfl ?_
      refine z_xI zt45 28 rfl rfl (fun (x20 : Int32) (h21 : x20 = x18 &&& (1 : Int32)) => ?_) (rfl)
      refine z_xZ zt45 29 rfl rfl (fun (h22 : x20.toInt = 0) => ?_) (fun (h22 : x20.toInt ≠ 0) => ?_)
      · skip
        refine z_xN zt45 42 rfl rfl (fun (x23 : Int32) (h24 : x23.toInt = b5.toInt + 1) => ?_) (z_pAdd rfl rfl (by omega) (by omega))
        show z_ev (d + 1) 45 86 [some (.ref a0), some (.int p1), some (.int p2), some (.long b3), none, some (.int x23)] [] M _
        refine z_xP zt45 43 9 [some (.ref a0), some (.int p1), some (.int p2), some (.long b3), none, some (.int x23)] [] rfl rfl ?_
        have i25 : x23.toInt.toNat = b5.toInt.toNat + 1 := by omega
        exact ih M b3 x23 X ⟨by omega, by omega⟩ (by omega) (by rw [i25]; exact (z_gvn0 (z_gvy0 hI (z_toY hd h12 h14 ⟨by omega, by omega⟩) (by omega)) (z_toN (k := b5) (k2 := x16) hd (by omega) h19 h21 ⟨by omega, by omega⟩) (by omega))) (by omega)
      refine z_xP zt45 30 64 [some (.ref a0), some (.int p1), some (.int p2), some (.long b3), none, some (.int b5)] [.ref a0, .long b3] rfl rfl ?_
      refine z_xgR (κ := .inr (111, 1, q * z_sp m, 0, 0)) zt45 31 rfl zo45 zzf2_66 X k0 (by decide) (by decide) rfl (fun (a27 : Nat) h26 k28 => ?_)
      refine z_xP zt45 32 70 [some (.ref a0), some (.int p1), some (.int p2), some (.long b3), none, some (.int b5)] [.ref a0, .int b5, .ref a27, .long b3] rfl rfl ?_
      refine z_xgI zt45 33 rfl zo45 zzf2_63 X k0 (by decide) (by decide) rfl (fun (x30 : Int32) h29 (h31 : ((z_sp m : Nat) : Int) ≤ x30.toInt) (h32 : x30.toInt ≤ ((z_sp m : Nat) : Int)) => ?_)
      refine z_xI zt45 34 rfl rfl (fun (x33 : Int32) (h34 : x33.toInt = b5.toInt * x30.toInt ∧ 0 ≤ x33.toInt ∧ x33.toInt ≤ 144) => ?_) (z_pMulB (a := 9) (b := 16) rfl rfl (by omega) (by omega) (by omega) (by omega) (by decide) (by decide))
      refine z_xP zt45 35 75 [some (.ref a0), some (.int p1), some (.int p2), some (.long b3), none, some (.int b5)] [.int p2, .int x33, .ref a27, .long b3] rfl rfl ?_
      refine z_xI zt45 36 rfl rfl (fun (x35 : Int32) (h36 : x35.toInt = x33.toInt + p2.toInt) => ?_) (z_pAdd rfl rfl (by omega) (by omega))
      have h37 := z_nlx (p := x33.toInt) (x := b5.toInt) (y := x30.toInt) (s := p2.toInt) (z := x35.toInt) (A := q) (B := z_sp m) (by omega) (by omega) (by omega) (by omega) (by omega) (by omega) (by omega)
      refine z_xllv zt45 37 rfl X k28 (by decide) h37.1 h37.2 (fun (y38 : Int64) h39 => ?_)
      have i40 := z_ybw (z_kpL11 h26 (X.2.f k0 (by decide) hw11) h39 (z_ixm (B := z_sp m) h34.1 (by omega) (by omega) h36 (by omega)) (X.2.lg hk11 (by decide)))
      refine z_xl2 zt45 38 rfl zo45 zkl2_38 ?_
      refine z_xL zt45 39 rfl rfl (fun (y41 : Int64) (h42 : y41 = y38 ^^^ (-1)) => ?_) (rfl)
      refine z_xL zt45 40 rfl rfl (fun (y43 : Int64) (h44 : y43 = b3 &&& y41) => ?_) (rfl)
      refine z_xP zt45 41 83 [some (.ref a0), some (.int p1), some (.int p2), some (.long y43), none, some (.int b5)] [] rfl rfl ?_
      refine z_xN zt45 42 rfl rfl (fun (x45 : Int32) (h46 : x45.toInt = b5.toInt + 1) => ?_) (z_pAdd rfl rfl (by omega) (by omega))
      show z_ev (d + 1) 45 86 [some (.ref a0), some (.int p1), some (.int p2), some (.long y43), none, some (.int x45)] [] M _
      refine z_xP zt45 43 9 [some (.ref a0), some (.int p1), some (.int p2), some (.long y43), none, some (.int x45)] [] rfl rfl ?_
      have i47 : x45.toInt.toNat = b5.toInt.toNat + 1 := by omega
      exact ih M y43 x45 X ⟨by omega, by omega⟩ (by omega) (by rw [i47]; exact (z_gvn1 (z_gvy0 hI (z_toY hd h12 h14 ⟨by omega, by omega⟩) (by omega)) (z_toN (k := b5) (k2 := x16) hd (by omega) h19 h21 ⟨by omega, by omega⟩) (by omega) i40 h42 h44)) (by omega)
    refine z_xP zt45 14 35 [some (.ref a0), some (.int p1), some (.int p2), some (.long b3), none, some (.int b5)] [.ref a0, .long b3] rfl rfl ?_
    refine z_xgR (κ := .inr (111, 1, q * z_sp m, 0, 0)) zt45 15 rfl zo45 zzf2_66 X k0 (by decide) (by decide) rfl (fun (a49 : Nat) h48 k50 => ?_)
    refine z_xP zt45 16 41 [some (.ref a0), some (.int p1), some (.int p2), some (.long b3), none, some (.int b5)] [.ref a0, .int b5, .ref a49, .long b3] rfl rfl ?_
    refine z_xgI zt45 17 rfl zo45 zzf2_63 X k0 (by decide) (by decide) rfl (fun (x52 : Int32) h51 (h53 : ((z_sp m : Nat) : Int) ≤ x52.toInt) (h54 : x52.toInt ≤ ((z_sp m : Nat) : Int)) => ?_)
    refine z_xI zt45 18 rfl rfl (fun (x55 : Int32) (h56 : x55.toInt = b5.toInt * x52.toInt ∧ 0 ≤ x55.toInt ∧ x55.toInt ≤ 144) => ?_) (z_pMulB (a := 9) (b := 16) rfl rfl (by omega) (by omega) (by omega) (by omega) (by decide) (by decide))
    refine z_xP zt45 19 46 [some (.ref a0), some (.int p1), some (.int p2), some (.long b3), none, some (.int b5)] [.int p2, .int x55, .ref a49, .long b3] rfl rfl ?_
    refine z_xI zt45 20 rfl rfl (fun (x57 : Int32) (h58 : x57.toInt = x55.toInt + p2.toInt) => ?_) (z_pAdd rfl rfl (by omega) (by omega))
    have h59 := z_nlx (p := x55.toInt) (x := b5.toInt) (y := x52.toInt) (s := p2.toInt) (z := x57.toInt) (A := q) (B := z_sp m) (by omega) (by omega) (by omega) (by omega) (by omega) (by omega) (by omega)
    refine z_xllv zt45 21 rfl X k50 (by decide) h59.1 h59.2 (fun (y60 : Int64) h61 => ?_)
    have i62 := z_ybw (z_kpL11 h48 (X.2.f k0 (by decide) hw11) h61 (z_ixm (B := z_sp m) h56.1 (by omega) (by omega) h58 (by omega)) (X.2.lg hk11 (by decide)))
    refine z_xL zt45 22 rfl rfl (fun (y63 : Int64) (h64 : y63 = b3 &&& y60) => ?_) (rfl)
    refine z_xP zt45 23 50 [some (.ref a0), some (.int p1), some (.int p2), some (.long y63), none, some (.int b5)] [] rfl rfl ?_
    refine z_xP zt45 24 55 [some (.ref a0), some (.int p1), some (.int p2), some (.long y63), none, some (.int b5)] [.int 10, .int b5, .int p1] rfl rfl ?_
    refine z_xI zt45 25 rfl rfl (fun (x65 : Int32) (h66 : x65.toInt = b5.toInt + 10) => ?_) (z_pAdd rfl rfl (by omega) (by omega))
    refine z_xI zt45 26 rfl rfl (fun (x67 : Int32) (h68 : x67 = p1 >>> (x65 &&& 31)) => ?_) (rfl)
    refine z_xP zt45 27 58 [some (.ref a0), some (.int p1), some (.int p2), some (.long y63), none, some (.int b5)] [.int 1, .int x67] rfl rfl ?_
    refine z_xI zt45 28 rfl rfl (fun (x69 : Int32) (h70 : x69 = x67 &&& (1 : Int32)) => ?_) (rfl)
    refine z_xZ zt45 29 rfl rfl (fun (h71 : x69.toInt = 0) => ?_) (fun (h71 : x69.toInt ≠ 0) => ?_)
    · skip
      refine z_xN zt45 42 rfl rfl (fun (x72 : Int32) (h73 : x72.toInt = b5.toInt + 1) => ?_) (z_pAdd rfl rfl (by omega) (by omega))
      show z_ev (d + 1) 45 86 [some (.ref a0), some (.int p1), some (.int p2), some (.long y63), none, some (.int x72)] [] M _
      refine z_xP zt45 43 9 [some (.ref a0), some (.int p1), some (.int p2), some (.long y63), none, some (.int x72)] [] rfl rfl ?_
      have i74 : x72.toInt.toNat = b5.toInt.toNat + 1 := by omega
      exact ih M y63 x72 X ⟨by omega, by omega⟩ (by omega) (by rw [i74]; exact (z_gvn0 (z_gvy1 hI (z_toY hd h12 h14 ⟨by omega, by omega⟩) (by omega) i62 h64) (z_toN (k := b5) (k2 := x65) hd (by omega) h68 h70 ⟨by omega, by omega⟩) (by omega))) (by omega)
    refine z_xP zt45 30 64 [some (.ref a0), some (.int p1), some (.int p2), some (.long y63), none, some (.int b5)] [.ref a0, .long y63] rfl rfl ?_
    refine z_xgv zt45 31 rfl zo45 zzf2_66 X k0 (by decide) h48 ?_
    refine z_xP zt45 32 70 [some (.ref a0), some (.int p1), some (.int p2), some (.long y63), none, some (.int b5)] [.ref a0, .int b5, .ref a49, .long y63] rfl rfl ?_
    refine z_xgv zt45 33 rfl zo45 zzf2_63 X k0 (by decide) h51 ?_
    refine z_xI zt45 34 rfl rfl (fun (x75 : Int32) (h76 : x75.toInt = b5.toInt * x52.toInt ∧ 0 ≤ x75.toInt ∧ x75.toInt ≤ 144) => ?_) (z_pMulB (a := 9) (b := 16) rfl rfl (by omega) (by omega) (by omega) (by omega) (by decide) (by decide))
    refine z_xP zt45 35 75 [some (.ref a0), some (.int p1), some (.int p2), some (.long y63), none, some (.int b5)] [.int p2, .int x75, .ref a49, .long y63] rfl rfl ?_
    refine z_xI zt45 36 rfl rfl (fun (x77 : Int32) (h78 : x77.toInt = x75.toInt + p2.toInt) => ?_) (z_pAdd rfl rfl (by omega) (by omega))
    have h79 := z_nlx (p := x75.toInt) (x := b5.toInt) (y := x52.toInt) (s := p2.toInt) (z := x77.toInt) (A := q) (B := z_sp m) (by omega) (by omega) (by omega) (by omega) (by omega) (by omega) (by omega)
    refine z_xllv zt45 37 rfl X k50 (by decide) h79.1 h79.2 (fun (y80 : Int64) h81 => ?_)
    have i82 := z_ybw (z_kpL11 h48 (X.2.f k0 (by decide) hw11) h81 (z_ixm (B := z_sp m) h76.1 (by omega) (by omega) h78 (by omega)) (X.2.lg hk11 (by decide)))
    refine z_xl2 zt45 38 rfl zo45 zkl2_38 ?_
    refine z_xL zt45 39 rfl rfl (fun (y83 : Int64) (h84 : y83 = y80 ^^^ (-1)) => ?_) (rfl)
    refine z_xL zt45 40 rfl rfl (fun (y85 : Int64) (h86 : y85 = y63 &&& y83) => ?_) (rfl)
    refine z_xP zt45 41 83 [some (.ref a0), some (.int p1), some (.int p2), some (.long y85), none, some (.int b5)] [] rfl rfl ?_
    refine z_xN zt45 42 rfl rfl (fun (x87 : Int32) (h88 : x87.toInt = b5.toInt + 1) => ?_) (z_pAdd rfl rfl (by omega) (by omega))
    show z_ev (d + 1) 45 86 [some (.ref a0), some (.int p1), some (.int p2), some (.long y85), none, some (.int x87)] [] M _
    refine z_xP zt45 43 9 [some (.ref a0), some (.int p1), some (.int p2), some (.long y85), none, some (.int x87)] [] rfl rfl ?_
    have i89 : x87.toInt.toNat = b5.toInt.toNat + 1 := by omega
    exact ih M y85 x87 X ⟨by omega, by omega⟩ (by omega) (by rw [i89]; exact (z_gvn1 (z_gvy1 hI (z_toY hd h12 h14 ⟨by omega, by omega⟩) (by omega) i62 h64) (z_toN (k := b5) (k2 := x65) hd (by omega) h68 h70 ⟨by omega, by omega⟩) (by omega) i82 h84 h86)) (by omega)
theorem zUC45 {T : List zK} {d : Nat} {K : Option Value → zH → Prop} {a0 : Nat} {q : Nat} {t : Nat} {m : Nat} {p1 : Int32} {p2 : Int32} {uy un ya : Nat} {M0 : zH} (hW : z_W M0 T) (k0 : T[a0]? = some (.inl (2, q, t, m, 0))) (u2 : 0 ≤ p2.toInt ∧ p2.toInt ≤ 15) (hb0 : p2.toInt < ((z_sp m : Nat) : Int)) (hd : p1.toInt = (uy : Int) + 1024 * (un : Int) ∧ uy < 1024 ∧ un < 1024) (hw11 : z_F M0 a0 11 = some (.ref ya)) (hk11 : T[ya]? = some (.inr (111, 1, q * z_sp m, 0, 0))) (kk : ∀ (x : Int64) (M1 : zH), z_X T zw45 M0 M1 → z_gv (fun j => 64 * p2.toInt.toNat + j < m) (fun k j => z_yb (z_Lg M0 ya) (z_sp m) k (64 * p2.toInt.toNat + j)) uy un q x → K (some (.long x)) M1) : z_ev (d + 1) 45 0 [some (.ref a0), some (.int p1), some (.int p2), none, none, none] [] M0 K := by
  have X : z_X T zw45 M0 M0 := .refl hW
  have g0 := X.1.p2 k0
  refine z_xP zt45 0 2 [some (.ref a0), some (.int p1), some (.int p2), none, none, none] [.int p2, .ref a0] rfl rfl ?_
  refine z_xcV (vs := [.ref a0, .int p2]) (r := []) (L2 := [some (.ref a0), some (.int p2), none]) zt45 1 rfl zo45 zzcV2_79 (Or.inl rfl) rfl X k0 rfl rfl rfl (Nat.le_of_ble_eq_true rfl) zzm46 (Nat.le_of_ble_eq_true rfl) rfl ?_
  refine z_xP zt46 0 1 [some (.ref a0), some (.int p2), none] [.ref a0] rfl rfl ?_
  refine z_xgR (κ := .inr (102, 0, m, 0, 1023)) zt46 1 rfl zo46 zzf2_60 X k0 (by decide) (by decide) rfl (fun (a2 : Nat) h1 k3 => ?_)
  refine z_xln zt46 2 rfl X k3 (by decide) (by omega) (fun (x4 : Int32) (h5 : x4.toInt = ((m : Nat) : Int)) => ?_)
  refine z_xP zt46 3 8 [some (.ref a0), some (.int p2), none] [.int 6, .int p2, .int x4] rfl rfl ?_
  refine z_xI zt46 4 rfl rfl (fun (x6 : Int32) (h7 : x6.toInt = p2.toInt * 64) => ?_) (z_pShl 6 rfl rfl (by decide) (by decide) (by omega) rfl (by omega))
  refine z_xI zt46 5 rfl rfl (fun (x8 : Int32) (h9 : x8.toInt = x4.toInt - x6.toInt) => ?_) (z_pSub rfl rfl (by omega) (by omega))
  refine z_xP zt46 6 14 [some (.ref a0), some (.int p2), some (.int x8)] [.int 64, .int x8] rfl rfl ?_
  refine z_xJ zt46 7 rfl rfl (fun (h10 : x8.toInt < 64) => ?_) (fun (h10 : 64 ≤ x8.toInt) => ?_)
  · skip
    refine z_xP zt46 10 25 [some (.ref a0), some (.int p2), some (.int x8)] [.int x8, .long 1] rfl rfl ?_
    refine z_xL zt46 11 rfl rfl (fun (y11 : Int64) (h12 : y11 = (1 : Int64) <<< (x8.toInt64 &&& 63)) => ?_) (rfl)
    refine z_xP zt46 12 27 [some (.ref a0), some (.int p2), some (.int x8)] [.long 1, .long y11] rfl rfl ?_
    refine z_xL zt46 13 rfl rfl (fun (y13 : Int64) (h14 : y13 = y11 - 1) => ?_) (rfl)
    refine z_xrl zt46 14 rfl zzr46 ?_
    show z_ev (d + 1) 45 5 [some (.ref a0), some (.int p1), some (.int p2), none, none, none] [.long y13] M0 _
    refine z_xP zt45 2 9 [some (.ref a0), some (.int p1), some (.int p2), some (.long y13), none, some (.int 0)] [] rfl rfl ?_
    have q0 : ((0 : Int32)).toInt = 0 := rfl
    exact (zUB45 k0 u2 hb0 hd hw11 hk11 kk 22) M0 y13 (0) X (by decide) (by omega) (z_gv0b (x0 := 0) (x := x8) rfl (by omega) (by unfold z_sp at *; omega) (by omega) h12 h14) (by omega)
  refine z_xl2 zt46 8 rfl zo46 zkl2_38 ?_
  refine z_xP zt46 9 28 [some (.ref a0), some (.int p2), some (.int x8)] [.long (-1)] rfl rfl ?_
  refine z_xrl zt46 14 rfl zzr46 ?_
  show z_ev (d + 1) 45 5 [some (.ref a0), some (.int p1), some (.int p2), none, none, none] [.long (-1)] M0 _
  refine z_xP zt45 2 9 [some (.ref a0), some (.int p1), some (.int p2), some (.long (-1)), none, some (.int 0)] [] rfl rfl ?_
  have qm1 : (((-1) : Int64)).toInt = (-1) := rfl
  have q0 : ((0 : Int32)).toInt = 0 := rfl
  exact (zUB45 k0 u2 hb0 hd hw11 hk11 kk 22) M0 ((-1)) (0) X (by decide) (by omega) (z_gv0a (x0 := 0) rfl (by omega)) (by omega)
theorem zUB44 {T : List zK} {d : Nat} {K : Option Value → zH → Prop} {a0 : Nat} {q : Nat} {t : Nat} {m : Nat} {p1 : Int32} {uy un pr en : Nat} {B : Nat → Nat} {M0 : zH} (k0 : T[a0]? = some (.inl (2, q, t, m, 0))) (hag : z_AGO T M0 a0 q t m pr en B) (hd : p1.toInt = (uy : Int) + 1024 * (un : Int) ∧ uy < 1024 ∧ un < 1024) (hu : uy < 2 ^ q ∧ un < 2 ^ q) (kk : ∀ (x : Int32) (M1 : zH), z_X T zw44 M0 M1 → 0 ≤ x.toInt → x.toInt ≤ 1 → (x.toInt = 1 ∧ z_cs B q uy un) ∨ (x.toInt = 0 ∧ ¬ z_cs B q uy un) → K (some (.int x)) M1) : ∀ n : Nat, (∀ (M : zH) (b2 : Int32), z_X T zw44 M0 M → 0 ≤ b2.toInt ∧ b2.toInt ≤ 16 → z_csn B q uy un b2.toInt.toNat → ((0) * 2 + 0) * 17 + (16 - b2.toInt) < (n : Int) → z_ev (d + 2) 44 2 [some (.ref a0), some (.int p1), some (.int b2)] [] M K) := by
  intro n
  induction n with
  | zero => exact by intros; exfalso; omega
  | succ n ih =>
    intro M b2 X hh0 hI hE
    have g0 := X.1.p2 k0
    refine z_xP zt44 1 4 [some (.ref a0), some (.int p1), some (.int b2)] [.ref a0, .int b2] rfl rfl ?_
    refine z_xgI zt44 2 rfl zo44 zzf2_63 X k0 (by decide) (by decide) rfl (fun (x2 : Int32) h1 (h3 : ((z_sp m : Nat) : Int) ≤ x2.toInt) (h4 : x2.toInt ≤ ((z_sp m : Nat) : Int)) => ?_)
    refine z_xJ zt44 3 rfl rfl (fun (h5 : x2.toInt ≤ b2.toInt) => ?_) (fun (h5 : b2.toInt < x2.toInt) => ?_)
    · skip
      refine z_xP zt44 13 30 [some (.ref a0), some (.int p1), some (.int b2)] [.int 0] rfl rfl ?_
      have q0 : ((0 : Int32)).toInt = 0 := rfl
      have hm6 := hag.2.2.1
      have q0 : ((0 : Int32)).toInt = 0 := rfl
      exact z_xrz zt44 14 rfl zzr44 (by decide) (by decide) (kk 0 M X (by omega) (by omega) (Or.inr ⟨by omega, z_csN hI hm6 (by omega)⟩))
    refine z_xP zt44 4 13 [some (.ref a0), some (.int p1), some (.int b2)] [.int b2, .int p1, .ref a0] rfl rfl ?_
    refine z_xcV (vs := [.ref a0, .int p1, .int b2]) (r := []) (L2 := [some (.ref a0), some (.int p1), some (.int b2), none, none, none]) zt44 5 rfl zo44 zzcV2_83 (Or.inl rfl) rfl X k0 rfl rfl rfl (Nat.le_of_ble_eq_true rfl) zzm45 (Nat.le_of_ble_eq_true rfl) rfl ?_
    obtain ⟨-, -, hm7, -, -, -, -, -, -, ⟨ya8, e11_9, k11_10, f11_11⟩⟩ := hag
    refine zUC45 X.1 k0 (by omega) (by omega) hd (X.2.f k0 (by decide) e11_9) k11_10 (fun y15 M12 X13 h14 => ?_)
    have X16 := X.go X13 (z_sb (by decide))
    show z_ev (d + 2) 44 16 [some (.ref a0), some (.int p1), some (.int b2)] [.long y15] M12 _
    refine z_xP zt44 6 17 [some (.ref a0), some (.int p1), some (.int b2)] [.long 0, .long y15] rfl rfl ?_
    refine z_xI zt44 7 rfl rfl (fun (x18 : Int32) (h19 : (x18.toInt < 0 ∧ y15.toInt < 0) ∨ (x18.toInt = 0 ∧ y15.toInt = 0) ∨ (0 < x18.toInt ∧ 0 < y15.toInt)) => ?_) (z_qCmp rfl rfl)
    refine z_xZ zt44 8 rfl rfl (fun (h20 : x18.toInt = 0) => ?_) (fun (h20 : x18.toInt ≠ 0) => ?_)
    · skip
      refine z_xN zt44 11 rfl rfl (fun (x21 : Int32) (h22 : x21.toInt = b2.toInt + 1) => ?_) (z_pAdd rfl rfl (by omega) (by omega))
      show z_ev (d + 2) 44 26 [some (.ref a0), some (.int p1), some (.int x21)] [] M12 _
      refine z_xP zt44 12 2 [some (.ref a0), some (.int p1), some (.int x21)] [] rfl rfl ?_
      rw [X.2.lg k11_10 (by decide)] at h14
      have i23 := z_gvS f11_11 hm7 g0.1.2.1 hu.1 hu.2 (by omega) h14
      have i24 : x21.toInt.toNat = b2.toInt.toNat + 1 := by omega
      exact ih M12 x21 X16 ⟨by omega, by omega⟩ (by rw [i24]; exact z_csnS i23 (by omega) hI) (by omega)
    refine z_xP zt44 9 22 [some (.ref a0), some (.int p1), some (.int b2)] [.int 1] rfl rfl ?_
    have q1 : ((1 : Int32)).toInt = 1 := rfl
    rw [X.2.lg k11_10 (by decide)] at h14
    have i25 := z_gvS f11_11 hm7 g0.1.2.1 hu.1 hu.2 (by omega) h14
    have q1 : ((1 : Int32)).toInt = 1 := rfl
    exact z_xrz zt44 10 rfl zzr44 (by decide) (by decide) (kk 1 M12 X16 (by omega) (by omega) (Or.inl ⟨by omega, z_csY i25 (by omega)⟩))
theorem zUC44 {T : List zK} {d : Nat} {K : Option Value → zH → Prop} {a0 : Nat} {q : Nat} {t : Nat} {m : Nat} {p1 : Int32} {uy un pr en : Nat} {B : Nat → Nat} {M0 : zH} (hW : z_W M0 T) (k0 : T[a0]? = some (.inl (2, q, t, m, 0))) (hag : z_AGO T M0 a0 q t m pr en B) (hd : p1.toInt = (uy : Int) + 1024 * (un : Int) ∧ uy < 1024 ∧ un < 1024) (hu : uy < 2 ^ q ∧ un < 2 ^ q) (kk : ∀ (x : Int32) (M1 : zH), z_X T zw44 M0 M1 → 0 ≤ x.toInt → x.toInt ≤ 1 → (x.toInt = 1 ∧ z_cs B q uy un) ∨ (x.toInt = 0 ∧ ¬ z_cs B q uy un) → K (some (.int x)) M1) : z_ev (d + 2) 44 0 [some (.ref a0), some (.int p1), none] [] M0 K := by
  have X : z_X T zw44 M0 M0 := .refl hW
  have g0 := X.1.p2 k0
  refine z_xP zt44 0 2 [some (.ref a0), some (.int p1), some (.int 0)] [] rfl rfl ?_
  have q0 : ((0 : Int32)).toInt = 0 := rfl
  exact (zUB44 k0 hag hd hu kk 34) M0 (0) X (by decide) (z_csn0 (x0 := 0) rfl) (by omega)
theorem zUB215 {T : List zK} {d : Nat} {K : Option Value → zH → Prop} {p1 : Int32} {p2 : Int32} {p3 : Int32} {M0 : zH} (u1 : 0 ≤ p1.toInt ∧ p1.toInt ≤ 7) (kk : ∀ (x : Int32) (M1 : zH), z_X T zw215 M0 M1 → 0 ≤ x.toInt → x.toInt ≤ 1 → y_cb (fun j => z_Ar M0 30 (1024 * p1.toNatClampNeg + j)) p2 p3 (z_Ar M0 31 p1.toNatClampNeg).toInt.toNat x.toInt → K (some (.int x)) M1) : ∀ n : Nat, (∀ (M : zH) (b4 : Int32) (b5 : Int32) (z0 : Int32), z_X T zw215 M0 M → 0 ≤ b4.toInt ∧ b4.toInt ≤ 1 → 0 ≤ b5.toInt ∧ b5.toInt ≤ 1024 → z_Ar M 31 p1.toNatClampNeg = z0 → 0 ≤ z0.toInt ∧ z0.toInt ≤ 1024 → b5.toInt ≤ z0.toInt → y_cb (fun j => z_Ar M0 30 (1024 * p1.toNatClampNeg + j)) p2 p3 b5.toInt.toNat b4.toInt → ((0) * 2 + 0) * 1025 + (1024 - b5.toInt) < (n : Int) → z_ev (d + 1) 215 6 [some (.ref 19), some (.int p1), some (.int p2), some (.int p3), some (.int b4), some (.int b5)] [] M K) := by
  intro n
  induction n with
  | zero => exact by intros; exfalso; omega
  | succ n ih =>
    intro M b4 b5 z0 X hh0 hh1 hp0 hh3 hh4 hI hE
    refine z_xP zt215 1 9 [some (.ref 19), some (.int p1), some (.int p2), some (.int p3), some (.int b4), some (.int b5)] [.ref 19, .int b5] rfl rfl ?_
    have f19 : T[19]? = some (.inl (12, 0, 0, 0, 0)) := X.1.k rfl (by decide)
    refine z_xgX (b := 31) zt215 2 rfl zo215 zzf12_43 X f19 (by decide) (by decide) rfl ?_
    refine z_xP zt215 3 13 [some (.ref 19), some (.int p1), some (.int p2), some (.int p3), some (.int b4), some (.int b5)] [.int p1, .ref 31, .int b5] rfl rfl ?_
    have f31 : T[31]? = some (.inr (31, 0, 8, 0, 1024)) := X.1.k rfl (by decide)
    refine z_xil zt215 4 rfl X f31 (by decide) (by omega) (by omega) (fun (x1 : Int32) h2 (h3 : 0 ≤ x1.toInt) (h4 : x1.toInt ≤ 1024) => ?_)
    have h5 := congrArg Int32.toInt (h2.symm.trans hp0)
    refine z_xJ zt215 5 rfl rfl (fun (h6 : x1.toInt ≤ b5.toInt) => ?_) (fun (h6 : b5.toInt < x1.toInt) => ?_)
    · skip
      refine z_xP zt215 23 58 [some (.ref 19), some (.int p1), some (.int p2), some (.int p3), some (.int b4), some (.int b5)] [.int b4] rfl rfl ?_
      have i7 : b5.toInt.toNat = (z_Ar M0 31 p1.toNatClampNeg).toInt.toNat := by rw [(congrFun (X.2.a f31 (by decide)) _).symm.trans hp0]; omega
      exact z_xrz zt215 24 rfl zzr215 (by omega) (by omega) (kk b4 M X (by omega) (by omega) (by rw [← i7]; exact hI))
    refine z_xP zt215 6 19 [some (.ref 19), some (.int p1), some (.int p2), some (.int p3), some (.int b4), some (.int b5)] [.int b4] rfl rfl ?_
    refine z_xZ zt215 7 rfl rfl (fun (h8 : b4.toInt ≠ 0) => ?_) (fun (h8 : b4.toInt = 0) => ?_)
    · skip
      refine z_xP zt215 18 48 [some (.ref 19), some (.int p1), some (.int p2), some (.int p3), some (.int b4), some (.int b5)] [.int 1] rfl rfl ?_
      refine z_xP zt215 20 50 [some (.ref 19), some (.int p1), some (.int p2), some (.int p3), some (.int 1), some (.int b5)] [] rfl rfl ?_
      refine z_xN zt215 21 rfl rfl (fun (x9 : Int32) (h10 : x9.toInt = b5.toInt + 1) => ?_) (z_pAdd rfl rfl (by omega) (by omega))
      show z_ev (d + 1) 215 53 [some (.ref 19), some (.int p1), some (.int p2), some (.int p3), some (.int 1), some (.int x9)] [] M _
      refine z_xP zt215 22 6 [some (.ref 19), some (.int p1), some (.int p2), some (.int p3), some (.int 1), some (.int x9)] [] rfl rfl ?_
      have i11 : x9.toInt.toNat = b5.toInt.toNat + 1 := by omega
      have q1 : ((1 : Int32)).toInt = 1 := rfl
      have q1 : ((1 : Int32)).toInt = 1 := rfl
      exact ih M (1) x9 z0 X (by decide) ⟨by omega, by omega⟩ hp0 ⟨by omega, by omega⟩ (by omega) (by rw [i11]; exact y_cbK hI (by omega) (by omega)) (by omega)
    refine z_xP zt215 8 23 [some (.ref 19), some (.int p1), some (.int p2), some (.int p3), some (.int b4), some (.int b5)] [.ref 19] rfl rfl ?_
    refine z_xgX (b := 30) zt215 9 rfl zo215 zzf12_40 X f19 (by decide) (by decide) rfl ?_
    refine z_xP zt215 10 30 [some (.ref 19), some (.int p1), some (.int p2), some (.int p3), some (.int b4), some (.int b5)] [.int p1, .int 1024, .ref 30] rfl rfl ?_
    refine z_xI zt215 11 rfl rfl (fun (x12 : Int32) (h13 : x12.toInt = 1024 * p1.toInt) => ?_) (z_pMul rfl rfl (by omega) (by omega))
    refine z_xP zt215 12 33 [some (.ref 19), some (.int p1), some (.int p2), some (.int p3), some (.int b4), some (.int b5)] [.int b5, .int x12, .ref 30] rfl rfl ?_
    refine z_xI zt215 13 rfl rfl (fun (x14 : Int32) (h15 : x14.toInt = x12.toInt + b5.toInt) => ?_) (z_pAdd rfl rfl (by omega) (by omega))
    have f30 : T[30]? = some (.inr (30, 0, 8192, 0, 1023)) := X.1.k rfl (by decide)
    refine z_xil zt215 14 rfl X f30 (by decide) (by omega) (by omega) (fun (x16 : Int32) h17 (h18 : 0 ≤ x16.toInt) (h19 : x16.toInt ≤ 1023) => ?_)
    refine z_xP zt215 15 37 [some (.ref 19), some (.int p1), some (.int p2), some (.int p3), some (.int b4), some (.int b5)] [.int p3, .int p2, .int x16] rfl rfl ?_
    refine z_xcS (vs := [.int x16, .int p2, .int p3]) (r := []) (L2 := [some (.int x16), some (.int p2), some (.int p3)]) zt215 16 rfl zo215 zzcS12_216 (Or.inl rfl) (Nat.le_of_ble_eq_true rfl) rfl rfl (Nat.le_of_ble_eq_true rfl) zzm216 (Nat.le_of_ble_eq_true rfl) rfl ?_
    refine z_xP zt216 0 2 [some (.int x16), some (.int p2), some (.int p3)] [.int p2, .int x16] rfl rfl ?_
    refine z_xI zt216 1 rfl rfl (fun (x20 : Int32) (h21 : x20 = x16 &&& p2) => ?_) (rfl)
    refine z_xP zt216 2 4 [some (.int x16), some (.int p2), some (.int p3)] [.int p2, .int x20] rfl rfl ?_
    have h22 := z_b32 x20
    have h23 := z_b32 p2
    refine z_xJ zt216 3 rfl rfl (fun (h24 : x20.toInt ≠ p2.toInt) => ?_) (fun (h24 : x20.toInt = p2.toInt) => ?_)
    · skip
      refine z_xP zt216 8 18 [some (.int x16), some (.int p2), some (.int p3)] [.int 0] rfl rfl ?_
      refine z_xrz zt216 9 rfl zzr216 (by decide) (by decide) ?_
      show z_ev (d + 1) 215 40 [some (.ref 19), some (.int p1), some (.int p2), some (.int p3), some (.int b4), some (.int b5)] [.int 0] M _
      refine z_xZ zt215 17 rfl rfl (fun (h25 : (0 : Int) = 0) => ?_) (fun (h25 : (0 : Int) ≠ 0) => absurd h25 (by omega))
      refine z_xP zt215 19 48 [some (.ref 19), some (.int p1), some (.int p2), some (.int p3), some (.int b4), some (.int b5)] [.int 0] rfl rfl ?_
      refine z_xP zt215 20 50 [some (.ref 19), some (.int p1), some (.int p2), some (.int p3), some (.int 0), some (.int b5)] [] rfl rfl ?_
      refine z_xN zt215 21 rfl rfl (fun (x26 : Int32) (h27 : x26.toInt = b5.toInt + 1) => ?_) (z_pAdd rfl rfl (by omega) (by omega))
      show z_ev (d + 1) 215 53 [some (.ref 19), some (.int p1), some (.int p2), some (.int p3), some (.int 0), some (.int x26)] [] M _
      refine z_xP zt215 22 6 [some (.ref 19), some (.int p1), some (.int p2), some (.int p3), some (.int 0), some (.int x26)] [] rfl rfl ?_
      have i28 : x26.toInt.toNat = b5.toInt.toNat + 1 := by omega
      have q0 : ((0 : Int32)).toInt = 0 := rfl
      have q0 : ((0 : Int32)).toInt = 0 := rfl
      exact ih M (0) x26 z0 X (by decide) ⟨by omega, by omega⟩ hp0 ⟨by omega, by omega⟩ (by omega) (by rw [i28]; exact y_cbN hI (by omega) (by omega) (S := (fun j => z_Ar M0 30 (1024 * p1.toNatClampNeg + j))) (s := x16) (by rw [show 1024 * p1.toNatClampNeg + b5.toInt.toNat = x14.toNatClampNeg from by unfold Int32.toNatClampNeg; omega]; exact (congrFun (X.2.a f30 (by decide)) _).symm.trans h17) (fun h => absurd h.1 (by rw [← h21]; omega))) (by omega)
    refine z_xP zt216 4 9 [some (.int x16), some (.int p2), some (.int p3)] [.int p3, .int x16] rfl rfl ?_
    refine z_xI zt216 5 rfl rfl (fun (x29 : Int32) (h30 : x29 = x16 &&& p3) => ?_) (rfl)
    refine z_xZ zt216 6 rfl rfl (fun (h31 : x29.toInt ≠ 0) => ?_) (fun (h31 : x29.toInt = 0) => ?_)
    · skip
      refine z_xP zt216 8 18 [some (.int x16), some (.int p2), some (.int p3)] [.int 0] rfl rfl ?_
      refine z_xrz zt216 9 rfl zzr216 (by decide) (by decide) ?_
      show z_ev (d + 1) 215 40 [some (.ref 19), some (.int p1), some (.int p2), some (.int p3), some (.int b4), some (.int b5)] [.int 0] M _
      refine z_xZ zt215 17 rfl rfl (fun (h32 : (0 : Int) = 0) => ?_) (fun (h32 : (0 : Int) ≠ 0) => absurd h32 (by omega))
      refine z_xP zt215 19 48 [some (.ref 19), some (.int p1), some (.int p2), some (.int p3), some (.int b4), some (.int b5)] [.int 0] rfl rfl ?_
      refine z_xP zt215 20 50 [some (.ref 19), some (.int p1), some (.int p2), some (.int p3), some (.int 0), some (.int b5)] [] rfl rfl ?_
      refine z_xN zt215 21 rfl rfl (fun (x33 : Int32) (h34 : x33.toInt = b5.toInt + 1) => ?_) (z_pAdd rfl rfl (by omega) (by omega))
      show z_ev (d + 1) 215 53 [some (.ref 19), some (.int p1), some (.int p2), some (.int p3), some (.int 0), some (.int x33)] [] M _
      refine z_xP zt215 22 6 [some (.ref 19), some (.int p1), some (.int p2), some (.int p3), some (.int 0), some (.int x33)] [] rfl rfl ?_
      have i35 : x33.toInt.toNat = b5.toInt.toNat + 1 := by omega
      have q0 : ((0 : Int32)).toInt = 0 := rfl
      have q0 : ((0 : Int32)).toInt = 0 := rfl
      exact ih M (0) x33 z0 X (by decide) ⟨by omega, by omega⟩ hp0 ⟨by omega, by omega⟩ (by omega) (by rw [i35]; exact y_cbN hI (by omega) (by omega) (S := (fun j => z_Ar M0 30 (1024 * p1.toNatClampNeg + j))) (s := x16) (by rw [show 1024 * p1.toNatClampNeg + b5.toInt.toNat = x14.toNatClampNeg from by unfold Int32.toNatClampNeg; omega]; exact (congrFun (X.2.a f30 (by decide)) _).symm.trans h17) (fun h => absurd h.2 (by rw [← h30]; omega))) (by omega)
    refine z_xP zt216 7 18 [some (.int x16), some (.int p2), some (.int p3)] [.int 1] rfl rfl ?_
    refine z_xrz zt216 9 rfl zzr216 (by decide) (by decide) ?_
    show z_ev (d + 1) 215 40 [some (.ref 19), some (.int p1), some (.int p2), some (.int p3), some (.int b4), some (.int b5)] [.int 1] M _
    refine z_xZ zt215 17 rfl rfl (fun (h36 : (1 : Int) = 0) => absurd h36 (by omega)) (fun (h36 : (1 : Int) ≠ 0) => ?_)
    refine z_xP zt215 18 48 [some (.ref 19), some (.int p1), some (.int p2), some (.int p3), some (.int b4), some (.int b5)] [.int 1] rfl rfl ?_
    refine z_xP zt215 20 50 [some (.ref 19), some (.int p1), some (.int p2), some (.int p3), some (.int 1), some (.int b5)] [] rfl rfl ?_
    refine z_xN zt215 21 rfl rfl (fun (x37 : Int32) (h38 : x37.toInt = b5.toInt + 1) => ?_) (z_pAdd rfl rfl (by omega) (by omega))
    show z_ev (d + 1) 215 53 [some (.ref 19), some (.int p1), some (.int p2), some (.int p3), some (.int 1), some (.int x37)] [] M _
    refine z_xP zt215 22 6 [some (.ref 19), some (.int p1), some (.int p2), some (.int p3), some (.int 1), some (.int x37)] [] rfl rfl ?_
    have i39 : x37.toInt.toNat = b5.toInt.toNat + 1 := by omega
    have q1 : ((1 : Int32)).toInt = 1 := rfl
    have q1 : ((1 : Int32)).toInt = 1 := rfl
    exact ih M (1) x37 z0 X (by decide) ⟨by omega, by omega⟩ hp0 ⟨by omega, by omega⟩ (by omega) (by rw [i39]; exact y_cbY hI (by omega) (S := (fun j => z_Ar M0 30 (1024 * p1.toNatClampNeg + j))) (s := x16) (by rw [show 1024 * p1.toNatClampNeg + b5.toInt.toNat = x14.toNatClampNeg from by unfold Int32.toNatClampNeg; omega]; exact (congrFun (X.2.a f30 (by decide)) _).symm.trans h17) ⟨by rw [← h21]; omega, by rw [← h30]; omega⟩) (by omega)
theorem zUC215 {T : List zK} {d : Nat} {K : Option Value → zH → Prop} {p1 : Int32} {p2 : Int32} {p3 : Int32} {M0 : zH} (hW : z_W M0 T) (u1 : 0 ≤ p1.toInt ∧ p1.toInt ≤ 7) (kk : ∀ (x : Int32) (M1 : zH), z_X T zw215 M0 M1 → 0 ≤ x.toInt → x.toInt ≤ 1 → y_cb (fun j => z_Ar M0 30 (1024 * p1.toNatClampNeg + j)) p2 p3 (z_Ar M0 31 p1.toNatClampNeg).toInt.toNat x.toInt → K (some (.int x)) M1) : z_ev (d + 1) 215 0 [some (.ref 19), some (.int p1), some (.int p2), some (.int p3), none, none] [] M0 K := by
  have X : z_X T zw215 M0 M0 := .refl hW
  refine z_xP zt215 0 6 [some (.ref 19), some (.int p1), some (.int p2), some (.int p3), some (.int 0), some (.int 0)] [] rfl rfl ?_
  have f31 : T[31]? = some (.inr (31, 0, 8, 0, 1024)) := X.1.k rfl (by decide)
  obtain ⟨x1, h2, h3, h4⟩ := z_W.ae (x := p1) X.1 f31 (by decide) (by omega) (by omega)
  have q0 : ((0 : Int32)).toInt = 0 := rfl
  exact (zUB215 u1 kk 2050) M0 (0) (0) x1 X (by decide) (by decide) h2 ⟨by omega, by omega⟩ (by omega) (y_cb0 (x0 := 0) rfl rfl) (by omega)
