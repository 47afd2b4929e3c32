/-! votes, far: weights of answers, distances -/
def z_cc (v : Int32) : Int32 := Int32.ofNat (z_cp v.toInt.toNat 32)
def z_ds (w y n : Nat → Int32) (s : Int32) : Nat → Int32
  | 0 => 0
  | i + 1 => z_ds w y n s i + w i * z_cc ((y i &&& (s ^^^ (-1))) ||| (n i &&& s))
section ZVS
variable {f w f2 w2 y n : Nat → Int32} {k s b x v sh an mu ad xo a1 a2 W c i i2 : Int32}
theorem z_ds0 (h : i.toInt = 0) : (0 : Int32) = z_ds w y n s i.toInt.toNat := by
  rw [h]
  rfl
theorem z_cc32 (h0 : 0 ≤ W.toInt) (h : c.toInt = ((z_cp W.toInt.toNat 32 : Nat) : Int)) : c = z_cc W := by
  have h2 := z_cp_len W.toInt.toNat 32
  have e := z_of32 (x := c) (k := c.toInt.toNat) (by omega) (by omega)
  rw [e]
  unfold z_cc
  rw [show c.toInt.toNat = z_cp W.toInt.toNat 32 by omega]
theorem z_cc31 (h0 : 0 ≤ W.toInt) (h : c.toInt = ((z_cp W.toInt.toNat 31 : Nat) : Int)) : c = z_cc W := by
  refine z_cc32 h0 ?_
  have h1 := Int32.toInt_lt W
  have e : W.toInt.toNat / 2 ^ 31 = 0 := Nat.div_eq_of_lt (by omega)
  rw [show (32 : Nat) = 31 + 1 from rfl, z_cpS, e]
  exact h
theorem z_dsS (h : b = z_ds w y n s i.toInt.toNat) (h0 : 0 ≤ i.toInt) (hi : i2.toInt = i.toInt + 1) {wv yv nv : Int32} (ew : w i.toNatClampNeg = wv) (ey : y i.toNatClampNeg = yv) (en : n i.toNatClampNeg = nv) (h1 : xo = s ^^^ (-1)) (h2 : a1 = yv &&& xo) (h3 : a2 = nv &&& s) (h4 : W = a1 ||| a2) (hc : c = z_cc W) (h5 : mu = wv * c) (h6 : ad = b + mu) : ad = z_ds w y n s i2.toInt.toNat := by
  have e : i2.toInt.toNat = i.toInt.toNat + 1 := by omega
  rw [e, h6, h5, hc, h4, h3, h2, h1, h, ← ew, ← ey, ← en]
  rfl
theorem z_dsC {m : Nat} {w2 y2 n2 : Nat → Int32} (h : ∀ j, j < m → w j = w2 j ∧ y j = y2 j ∧ n j = n2 j) : z_ds w y n s m = z_ds w2 y2 n2 s m := by
  induction m with
  | zero => rfl
  | succ m ih =>
    show z_ds w y n s m + _ = z_ds w2 y2 n2 s m + _
    rw [ih fun j hj => h j (by omega), (h m (by omega)).1, (h m (by omega)).2.1, (h m (by omega)).2.2]
/-- a copy grows -/
theorem z_sitS {f0 f1 g : Nat → Int32} {cc : Nat} (hI : ∀ j, j < i.toInt.toNat → f0 j = g (cc + j)) (h0 : 0 ≤ i.toInt) (hi : i2.toInt = i.toInt + 1) (hu : f1 = upd f0 i.toNatClampNeg v) (hv : g x.toNatClampNeg = v) (hx : x.toNatClampNeg = cc + i.toInt.toNat) : ∀ j, j < i2.toInt.toNat → f1 j = g (cc + j) := fun j hj => by
  rw [hu]
  show (if j = i.toInt.toNat then v else f0 j) = _
  by_cases e : j = i.toInt.toNat
  · rw [if_pos e, e, ← hx]
    exact hv.symm
  · rw [if_neg e]
    exact hI j (by omega)
end ZVS
/-- the seats as sitDown leaves them -/
def z_sit (M0 M1 : zH) (a : Nat) : Prop := z_F M1 19 30 = some (.int (z_Ar M0 35 a)) ∧ ∀ j, j < (z_Ar M0 35 a).toInt.toNat → z_Ar M1 39 j = z_Ar M0 32 (9 * a + j) ∧ z_Ar M1 40 j = z_Ar M0 33 (9 * a + j) ∧ z_Ar M1 41 j = z_Ar M0 34 (9 * a + j)
theorem z_sit.nn {M0 M1 : zH} {a : Nat} (h : z_sit M0 M1 a) (hy : ∀ j, j < (z_Ar M0 35 a).toInt.toNat → 0 ≤ (z_Ar M0 33 (9 * a + j)).toInt ∧ 0 ≤ (z_Ar M0 34 (9 * a + j)).toInt) : ∀ j, j < (z_Ar M0 35 a).toInt.toNat → 0 ≤ (z_Ar M1 40 j).toInt ∧ 0 ≤ (z_Ar M1 41 j).toInt := fun j hj => by
  rw [(h.2 j hj).2.1, (h.2 j hj).2.2]
  exact hy j hj
theorem z_dsit {M0 M1 : zH} {a : Nat} {s x : Int32} (h : z_sit M0 M1 a) (hx : x = z_ds (z_Ar M1 39) (z_Ar M1 40) (z_Ar M1 41) s (z_Ar M0 35 a).toInt.toNat) : x = z_ds (fun j => z_Ar M0 32 (9 * a + j)) (fun j => z_Ar M0 33 (9 * a + j)) (fun j => z_Ar M0 34 (9 * a + j)) s (z_Ar M0 35 a).toInt.toNat := by
  rw [hx]
  exact z_dsC fun j hj => h.2 j hj
theorem z_R7.nn {T : List zK} {M : zH} (h7 : z_R7 T M) {A p jv : Int32} {b q t m : Nat} (hA : z_F M 4 3 = some (.int A)) (hp : 0 ≤ p.toInt ∧ p.toInt < A.toInt) (ob : z_O M 10 p.toNatClampNeg = some b) (kb : T[b]? = some (.inl (3, q, t, m, 9))) (hj : z_F M b 4 = some (.int jv)) : ∀ j, j < jv.toInt.toNat → 0 ≤ (z_Ar M (b + 2) j).toInt ∧ 0 ≤ (z_Ar M (b + 3) j).toInt := fun j hjj => by
  obtain ⟨b2, q2, t2, m2, g1, g2, J, w, yy, n, g3, g4, g5, g6⟩ := (h7.2 A hA).1 p.toNatClampNeg (z_pc hp)
  obtain rfl : b = b2 := Option.some.inj (ob.symm.trans g1)
  obtain ⟨⟨x, e1, e2⟩, g4⟩ := g4
  rw [z_ive hj e1] at hjj
  have hj' : j < J := by omega
  rw [(g4 j hj').2.1, (g4 j hj').2.2]
  exact ⟨(g6 j hj').1.1.1, (g6 j hj').1.2.1.1⟩
theorem z_R7.yn {T : List zK} {M : zH} (h7 : z_R7 T M) {A : Int32} (hA : z_F M 4 3 = some (.int A)) : ∀ a j : Nat, (a : Int) < A.toInt → j < (z_Ar M 35 a).toInt.toNat → 0 ≤ (z_Ar M 33 (9 * a + j)).toInt ∧ 0 ≤ (z_Ar M 34 (9 * a + j)).toInt := fun a j ha hj => by
  obtain ⟨b2, q2, t2, m2, g1, g2, J, w, yy, n, g3, g4, g5, g6⟩ := (h7.2 A hA).1 a ha
  have hj' : j < J := by have := g5.1; omega
  rw [(g5.2 j hj').2.1, (g5.2 j hj').2.2]
  exact ⟨(g6 j hj').1.1.1, (g6 j hj').1.2.1.1⟩
theorem zUB67 {T : List zK} {d : Nat} {K : Option Value → zH → Prop} {a0 : Nat} {q : Nat} {t : Nat} {m : Nat} {J : Nat} {p1 : Int32} {jv : Int32} {M0 : zH} (k0 : T[a0]? = some (.inl (3, q, t, m, J))) (u1 : 0 ≤ p1.toInt ∧ p1.toInt ≤ 1023) (hW0 : z_W M0 T) (hbk : z_blk T M0) (hj4 : z_F M0 a0 4 = some (.int jv)) (hjv : 0 ≤ jv.toInt ∧ jv.toInt ≤ 9) (hnn : ∀ j, j < jv.toInt.toNat → 0 ≤ (z_Ar M0 (a0 + 2) j).toInt ∧ 0 ≤ (z_Ar M0 (a0 + 3) j).toInt) (kk : ∀ (x : Int32) (M1 : zH), z_X T zw67 M0 M1 → x = z_ds (z_Ar M0 (a0 + 1)) (z_Ar M0 (a0 + 2)) (z_Ar M0 (a0 + 3)) p1 jv.toInt.toNat → K (some (.int x)) M1) : ∀ n : Nat, (∀ (M : zH) (b2 : Int32) (b3 : Int32), z_X T zw67 M0 M → 0 ≤ b3.toInt ∧ b3.toInt ≤ 9 → b2 = z_ds (z_Ar M0 (a0 + 1)) (z_Ar M0 (a0 + 2)) (z_Ar M0 (a0 + 3)) p1 b3.toInt.toNat → b3.toInt ≤ jv.toInt → ((0) * 2 + 0) * 10 + (9 - b3.toInt) < (n : Int) → z_ev (d + 1) 67 4 [some (.ref a0), some (.int p1), some (.int b2), some (.int b3)] [] M K) := by
  intro n
  induction n with
  | zero => exact by intros; exfalso; omega
  | succ n ih =>
    intro M b2 b3 X hh0 hI hJ hE
    have g0 := X.1.p3 k0
    refine z_xP zt67 1 6 [some (.ref a0), some (.int p1), some (.int b2), some (.int b3)] [.ref a0, .int b3] rfl rfl ?_
    refine z_xgI zt67 2 rfl zo67 zzf3_53 X k0 (by decide) (by decide) rfl (fun (x2 : Int32) h1 (h3 : 0 ≤ x2.toInt) (h4 : x2.toInt ≤ (J : Int)) => ?_)
    refine z_xJ zt67 3 rfl rfl (fun (h5 : x2.toInt ≤ b3.toInt) => ?_) (fun (h5 : b3.toInt < x2.toInt) => ?_)
    · skip
      refine z_xP zt67 28 51 [some (.ref a0), some (.int p1), some (.int b2), some (.int b3)] [.int b2] rfl rfl ?_
      have ej6 := congrArg Int32.toInt (z_ive h1 (X.2.f k0 (by decide) hj4))
      have i7 : b3.toInt.toNat = jv.toInt.toNat := by omega
      exact z_xri zt67 29 rfl zzr67 (kk b2 M X (by rw [← i7]; exact hI))
    refine z_xP zt67 4 14 [some (.ref a0), some (.int p1), some (.int b2), some (.int b3)] [.ref a0, .int b2] rfl rfl ?_
    refine z_xgR (κ := .inr (201, 0, 9, (-2147483648), 2147483647)) zt67 5 rfl zo67 zzf3_9 X k0 (by decide) (by decide) rfl (fun (a9 : Nat) h8 k10 => ?_)
    refine z_xP zt67 6 18 [some (.ref a0), some (.int p1), some (.int b2), some (.int b3)] [.int b3, .ref a9, .int b2] rfl rfl ?_
    refine z_xil zt67 7 rfl X k10 (by decide) (by omega) (by omega) (fun (x11 : Int32) h12 (h13 : (-2147483648) ≤ x11.toInt) (h14 : x11.toInt ≤ 2147483647) => ?_)
    refine z_xP zt67 8 20 [some (.ref a0), some (.int p1), some (.int b2), some (.int b3)] [.ref a0, .int x11, .int b2] rfl rfl ?_
    refine z_xgR (κ := .inr (202, 0, 9, (-2147483648), 2147483647)) zt67 9 rfl zo67 zzf3_15 X k0 (by decide) (by decide) rfl (fun (a16 : Nat) h15 k17 => ?_)
    refine z_xP zt67 10 24 [some (.ref a0), some (.int p1), some (.int b2), some (.int b3)] [.int b3, .ref a16, .int x11, .int b2] rfl rfl ?_
    refine z_xil zt67 11 rfl X k17 (by decide) (by omega) (by omega) (fun (x18 : Int32) h19 (h20 : (-2147483648) ≤ x18.toInt) (h21 : x18.toInt ≤ 2147483647) => ?_)
    have ej22 := congrArg Int32.toInt (z_ive h1 (X.2.f k0 (by decide) hj4))
    have hn23 := hnn b3.toNatClampNeg (by unfold Int32.toNatClampNeg; omega)
    have ia24 := z_rfe h15 (X.2.f k0 (by decide) (hbk _ _ _ _ _ k0).2.1)
    rw [ia24] at h19
    have h025 : 0 ≤ x18.toInt := by rw [← ((congrFun (X.2.a (hbk.k2 hW0 k0) (by decide)) _).symm.trans h19)]; exact hn23.1
    refine z_xP zt67 12 27 [some (.ref a0), some (.int p1), some (.int b2), some (.int b3)] [.int (-1), .int p1, .int x18, .int x11, .int b2] rfl rfl ?_
    refine z_xI zt67 13 rfl rfl (fun (x26 : Int32) (h27 : x26 = p1 ^^^ ((-1) : Int32)) => ?_) (rfl)
    refine z_xI zt67 14 rfl rfl (fun (x28 : Int32) (h29 : x28 = x18 &&& x26 ∧ 0 ≤ x28.toInt ∧ x28.toInt ≤ x18.toInt) => ?_) (⟨rfl, z_pAndL rfl (by omega)⟩)
    refine z_xP zt67 15 30 [some (.ref a0), some (.int p1), some (.int b2), some (.int b3)] [.ref a0, .int x28, .int x11, .int b2] rfl rfl ?_
    refine z_xgR (κ := .inr (203, 0, 9, (-2147483648), 2147483647)) zt67 16 rfl zo67 zzf3_18 X k0 (by decide) (by decide) rfl (fun (a31 : Nat) h30 k32 => ?_)
    refine z_xP zt67 17 34 [some (.ref a0), some (.int p1), some (.int b2), some (.int b3)] [.int b3, .ref a31, .int x28, .int x11, .int b2] rfl rfl ?_
    refine z_xil zt67 18 rfl X k32 (by decide) (by omega) (by omega) (fun (x33 : Int32) h34 (h35 : (-2147483648) ≤ x33.toInt) (h36 : x33.toInt ≤ 2147483647) => ?_)
    have ia37 := z_rfe h30 (X.2.f k0 (by decide) (hbk _ _ _ _ _ k0).2.2.1)
    rw [ia37] at h34
    have h038 : 0 ≤ x33.toInt := by rw [← ((congrFun (X.2.a (hbk.k3 hW0 k0) (by decide)) _).symm.trans h34)]; exact hn23.2
    refine z_xP zt67 19 36 [some (.ref a0), some (.int p1), some (.int b2), some (.int b3)] [.int p1, .int x33, .int x28, .int x11, .int b2] rfl rfl ?_
    refine z_xI zt67 20 rfl rfl (fun (x39 : Int32) (h40 : x39 = x33 &&& p1 ∧ 0 ≤ x39.toInt ∧ x39.toInt ≤ x33.toInt ∧ x39.toInt ≤ p1.toInt) => ?_) (⟨rfl, z_pAnd2 rfl rfl (by omega) (by omega)⟩)
    refine z_xI zt67 21 rfl rfl (fun (x41 : Int32) (h42 : x41 = x28 ||| x39 ∧ 0 ≤ x41.toInt ∧ x41.toInt < 2147483648 ∧ x28.toInt ≤ x41.toInt ∧ x39.toInt ≤ x41.toInt) => ?_) (⟨rfl, z_pOr 31 rfl rfl (by omega) (by omega) (by decide) (by omega) (by omega) (by decide)⟩)
    refine z_xcS (vs := [.int x41]) (r := [.int x11, .int b2]) (L2 := [some (.int x41)]) zt67 22 rfl zo67 zzcS3_72 (Or.inl rfl) (Nat.le_of_ble_eq_true rfl) rfl rfl (Nat.le_of_ble_eq_true rfl) zzm31 (Nat.le_of_ble_eq_true rfl) rfl ?_
    refine zUC31 X.1 (by omega) (fun x46 M43 X44 h47 h48 h45 => ?_)
    have X49 := X.go X44 (z_sb (by decide))
    show z_ev (d + 1) 67 41 [some (.ref a0), some (.int p1), some (.int b2), some (.int b3)] [.int x46, .int x11, .int b2] M43 _
    have h51 := z_b32 x11
    refine z_xI zt67 23 rfl rfl (fun (x52 : Int32) (h53 : x52 = x11 * x46) => ?_) (rfl)
    have h54 := z_b32 b2
    have h55 := z_b32 x52
    refine z_xI zt67 24 rfl rfl (fun (x56 : Int32) (h57 : x56 = b2 + x52) => ?_) (rfl)
    refine z_xP zt67 25 44 [some (.ref a0), some (.int p1), some (.int x56), some (.int b3)] [] rfl rfl ?_
    refine z_xN zt67 26 rfl rfl (fun (x58 : Int32) (h59 : x58.toInt = b3.toInt + 1) => ?_) (z_pAdd rfl rfl (by omega) (by omega))
    show z_ev (d + 1) 67 47 [some (.ref a0), some (.int p1), some (.int x56), some (.int x58)] [] M43 _
    refine z_xP zt67 27 4 [some (.ref a0), some (.int p1), some (.int x56), some (.int x58)] [] rfl rfl ?_
    have h60 := (X44.2.f k0 (by decide) h8)
    have ia61 := z_rfe h60 (X49.2.f k0 (by decide) (hbk _ _ _ _ _ k0).1)
    rw [ia61] at h12
    have h62 := (X44.2.f k0 (by decide) h1)
    have ej63 := congrArg Int32.toInt (z_ive h62 (X49.2.f k0 (by decide) hj4))
    exact ih M43 x56 x58 X49 ⟨by omega, by omega⟩ (z_dsS hI (by omega) (by omega) ((congrFun (X.2.a (hbk.k1 hW0 k0) (by decide)) _).symm.trans h12) ((congrFun (X.2.a (hbk.k2 hW0 k0) (by decide)) _).symm.trans h19) ((congrFun (X.2.a (hbk.k3 hW0 k0) (by decide)) _).symm.trans h34) h27 h29.1 h40.1 h42.1 (z_cc32 (by omega) h45) h53 h57) (by omega) (by omega)
theorem zUC67 {T : List zK} {d : Nat} {K : Option Value → zH → Prop} {a0 : Nat} {q : Nat} {t : Nat} {m : Nat} {J : Nat} {p1 : Int32} {jv : Int32} {M0 : zH} (hW : z_W M0 T) (k0 : T[a0]? = some (.inl (3, q, t, m, J))) (u1 : 0 ≤ p1.toInt ∧ p1.toInt ≤ 1023) (hW0 : z_W M0 T) (hbk : z_blk T M0) (hj4 : z_F M0 a0 4 = some (.int jv)) (hjv : 0 ≤ jv.toInt ∧ jv.toInt ≤ 9) (hnn : ∀ j, j < jv.toInt.toNat → 0 ≤ (z_Ar M0 (a0 + 2) j).toInt ∧ 0 ≤ (z_Ar M0 (a0 + 3) j).toInt) (kk : ∀ (x : Int32) (M1 : zH), z_X T zw67 M0 M1 → x = z_ds (z_Ar M0 (a0 + 1)) (z_Ar M0 (a0 + 2)) (z_Ar M0 (a0 + 3)) p1 jv.toInt.toNat → K (some (.int x)) M1) : z_ev (d + 1) 67 0 [some (.ref a0), some (.int p1), none, none] [] M0 K := by
  have X : z_X T zw67 M0 M0 := .refl hW
  have g0 := X.1.p3 k0
  refine z_xP zt67 0 4 [some (.ref a0), some (.int p1), some (.int 0), some (.int 0)] [] rfl rfl ?_
  have q0 : ((0 : Int32)).toInt = 0 := rfl
  exact (zUB67 k0 u1 hW0 hbk hj4 hjv hnn kk 20) M0 (0) (0) X (by decide) (z_ds0 rfl) (by omega) (by omega)
theorem zUC66 {T : List zK} {d : Nat} {K : Option Value → zH → Prop} {p1 : Int32} {p2 : Int32} {M0 : zH} (hW : z_W M0 T) (hW0 : z_W M0 T) (hbk : z_blk T M0) (hR6 : z_R6 T M0) (hR7 : z_R7 T M0) (hG : z_GG T M0) (kk : ∀ (x : Int32) (M1 : zH), z_X T zw66 M0 M1 → z_qB T M0 p1 x.toInt True (fun b q B => (x.toInt = -1 ∧ ¬ (0 ≤ p2.toInt ∧ p2.toInt < ((2 ^ q : Nat) : Int))) ∨ ((0 ≤ p2.toInt ∧ p2.toInt < ((2 ^ q : Nat) : Int)) ∧ ∃ jv : Int32, z_F M0 b 4 = some (.int jv) ∧ x = z_ds (z_Ar M0 (b + 1)) (z_Ar M0 (b + 2)) (z_Ar M0 (b + 3)) p2 jv.toInt.toNat)) → K (some (.int x)) M1) : z_ev (d + 2) 66 0 [some (.ref 4), some (.int p1), some (.int p2), none] [] M0 K := by
  have X : z_X T zw66 M0 M0 := .refl hW
  refine z_xP zt66 0 2 [some (.ref 4), some (.int p1), some (.int p2), none] [.int p1, .ref 4] rfl rfl ?_
  have f4 : T[4]? = some (.inl (0, 0, 0, 0, 0)) := X.1.k rfl (by decide)
  refine z_xcV (vs := [.ref 4, .int p1]) (r := []) (L2 := [some (.ref 4), some (.int p1)]) zt66 1 rfl zo66 zzcV0_85 (Or.inl rfl) rfl X f4 rfl rfl rfl (Nat.le_of_ble_eq_true rfl) zzm35 (Nat.le_of_ble_eq_true rfl) rfl ?_
  refine z_xP zt35 0 1 [some (.ref 4), some (.int p1)] [.int p1] rfl rfl ?_
  refine z_xZ zt35 1 rfl rfl (fun (h1 : p1.toInt < 0) => ?_) (fun (h1 : 0 ≤ p1.toInt) => ?_)
  · skip
    refine z_xP zt35 5 22 [some (.ref 4), some (.int p1)] [.null] rfl rfl ?_
    refine z_xrn zt35 10 rfl zzr35 ?_
    show z_ev (d + 2) 66 5 [some (.ref 4), some (.int p1), some (.int p2), none] [.null] M0 _
    refine z_xP zt66 2 21 [some (.ref 4), some (.int p1), some (.int p2), some (.null)] [] rfl rfl ?_
    refine z_xP zt66 8 22 [some (.ref 4), some (.int p1), some (.int p2), some (.null)] [.int (-1)] rfl rfl ?_
    have qm1 : (((-1) : Int32)).toInt = (-1) := rfl
    obtain ⟨x2, h3, h4, h5⟩ := z_W.fi X.1 f4 (k := 3) (lo := 0) (hi := 8) (by decide) rfl
    have qm1 : (((-1) : Int32)).toInt = (-1) := rfl
    exact z_xri zt66 9 rfl zzr66 (kk (-1) M0 X (z_qB0 h3 (by omega) (by omega) trivial))
  refine z_xP zt35 2 6 [some (.ref 4), some (.int p1)] [.ref 4, .int p1] rfl rfl ?_
  refine z_xgI zt35 3 rfl zo35 zzf0_59 X f4 (by decide) (by decide) rfl (fun (x7 : Int32) h6 (h8 : 0 ≤ x7.toInt) (h9 : x7.toInt ≤ 8) => ?_)
  have h10 := z_b32 p1
  refine z_xJ zt35 4 rfl rfl (fun (h11 : p1.toInt < x7.toInt) => ?_) (fun (h11 : x7.toInt ≤ p1.toInt) => ?_)
  · skip
    refine z_xP zt35 6 17 [some (.ref 4), some (.int p1)] [.ref 4] rfl rfl ?_
    refine z_xgX (b := 10) zt35 7 rfl zo35 zzf0_18 X f4 (by decide) (by decide) rfl ?_
    refine z_xP zt35 8 21 [some (.ref 4), some (.int p1)] [.int p1, .ref 10] rfl rfl ?_
    have f10 : T[10]? = some (.inr (10, 2, 8, 9, 0)) := X.1.k rfl (by decide)
    refine z_xal zt35 9 rfl X f10 (by decide) (by decide) (by decide) (by omega) (by omega) (fun (a12 : Nat) h13 h14 => ?_) (fun h15 => absurd h15 (z_Gs (hG.go X (by decide)).2.1 h6 (by omega) (by omega)))
    obtain ⟨q16, t17, m18, k19⟩ : ∃ q t m, T[a12]? = some (.inl (3, q, t, m, 9)) := h14
    have g20 := X.1.p3 k19
    refine z_xra zt35 10 rfl zzr35 ?_
    show z_ev (d + 2) 66 5 [some (.ref 4), some (.int p1), some (.int p2), none] [.ref a12] M0 _
    refine z_xP zt66 2 10 [some (.ref 4), some (.int p1), some (.int p2), some (.ref a12)] [] rfl rfl ?_
    refine z_xP zt66 3 11 [some (.ref 4), some (.int p1), some (.int p2), some (.ref a12)] [.ref a12] rfl rfl ?_
    refine z_xgR (κ := .inl (2, q16, t17, m18, 0)) zt66 4 rfl zo66 zzf0_89 X k19 (by decide) (by decide) rfl (fun (a22 : Nat) h21 k23 => ?_)
    have g24 := X.1.p2 k23
    refine z_xP zt66 5 15 [some (.ref 4), some (.int p1), some (.int p2), some (.ref a12)] [.int p2, .ref a22] rfl rfl ?_
    refine z_xcV (vs := [.ref a22, .int p2]) (r := []) (L2 := [some (.ref a22), some (.int p2)]) zt66 6 rfl zo66 zzcV0_112 (Or.inl rfl) rfl X k23 rfl rfl rfl (Nat.le_of_ble_eq_true rfl) zzm28 (Nat.le_of_ble_eq_true rfl) rfl ?_
    refine z_xP zt28 0 1 [some (.ref a22), some (.int p2)] [.int p2] rfl rfl ?_
    refine z_xZ zt28 1 rfl rfl (fun (h25 : p2.toInt < 0) => ?_) (fun (h25 : 0 ≤ p2.toInt) => ?_)
    · skip
      refine z_xP zt28 6 17 [some (.ref a22), some (.int p2)] [.int 0] rfl rfl ?_
      refine z_xrz zt28 7 rfl zzr28 (by decide) (by decide) ?_
      show z_ev (d + 2) 66 18 [some (.ref 4), some (.int p1), some (.int p2), some (.ref a12)] [.int 0] M0 _
      refine z_xZ zt66 7 rfl rfl (fun (h26 : (0 : Int) ≠ 0) => absurd h26 (by omega)) (fun (h26 : (0 : Int) = 0) => ?_)
      refine z_xP zt66 8 22 [some (.ref 4), some (.int p1), some (.int p2), some (.ref a12)] [.int (-1)] rfl rfl ?_
      have qm1 : (((-1) : Int32)).toInt = (-1) := rfl
      obtain ⟨pr27, en28, B29, hAB30⟩ := hR6.at h6 (by omega) (by omega) h13 k19 h21
      have qm1 : (((-1) : Int32)).toInt = (-1) := rfl
      exact z_xri zt66 9 rfl zzr66 (kk (-1) M0 X (z_qB1 h6 ⟨by omega, by omega⟩ hAB30 (Or.inl ⟨by omega, by unfold z_po at *; omega⟩)))
    refine z_xP zt28 2 6 [some (.ref a22), some (.int p2)] [.ref a22, .int p2] rfl rfl ?_
    refine z_xgI zt28 3 rfl zo28 zzf2_32 X k23 (by decide) (by decide) rfl (fun (x32 : Int32) h31 (h33 : ((z_po q16 : Nat) : Int) - 1 ≤ x32.toInt) (h34 : x32.toInt ≤ ((z_po q16 : Nat) : Int) - 1) => ?_)
    have h35 := z_b32 p2
    refine z_xJ zt28 4 rfl rfl (fun (h36 : x32.toInt < p2.toInt) => ?_) (fun (h36 : p2.toInt ≤ x32.toInt) => ?_)
    · skip
      refine z_xP zt28 6 17 [some (.ref a22), some (.int p2)] [.int 0] rfl rfl ?_
      refine z_xrz zt28 7 rfl zzr28 (by decide) (by decide) ?_
      show z_ev (d + 2) 66 18 [some (.ref 4), some (.int p1), some (.int p2), some (.ref a12)] [.int 0] M0 _
      refine z_xZ zt66 7 rfl rfl (fun (h37 : (0 : Int) ≠ 0) => absurd h37 (by omega)) (fun (h37 : (0 : Int) = 0) => ?_)
      refine z_xP zt66 8 22 [some (.ref 4), some (.int p1), some (.int p2), some (.ref a12)] [.int (-1)] rfl rfl ?_
      have qm1 : (((-1) : Int32)).toInt = (-1) := rfl
      obtain ⟨pr38, en39, B40, hAB41⟩ := hR6.at h6 (by omega) (by omega) h13 k19 h21
      have qm1 : (((-1) : Int32)).toInt = (-1) := rfl
      exact z_xri zt66 9 rfl zzr66 (kk (-1) M0 X (z_qB1 h6 ⟨by omega, by omega⟩ hAB41 (Or.inl ⟨by omega, by unfold z_po at *; omega⟩)))
    refine z_xP zt28 5 17 [some (.ref a22), some (.int p2)] [.int 1] rfl rfl ?_
    refine z_xrz zt28 7 rfl zzr28 (by decide) (by decide) ?_
    show z_ev (d + 2) 66 18 [some (.ref 4), some (.int p1), some (.int p2), some (.ref a12)] [.int 1] M0 _
    refine z_xZ zt66 7 rfl rfl (fun (h42 : (1 : Int) ≠ 0) => ?_) (fun (h42 : (1 : Int) = 0) => absurd h42 (by omega))
    refine z_xP zt66 10 25 [some (.ref 4), some (.int p1), some (.int p2), some (.ref a12)] [.int p2, .ref a12] rfl rfl ?_
    refine z_xcV (vs := [.ref a12, .int p2]) (r := []) (L2 := [some (.ref a12), some (.int p2), none, none]) zt66 11 rfl zo66 zzcV0_179 (Or.inl rfl) rfl X k19 rfl rfl rfl (Nat.le_of_ble_eq_true rfl) zzm67 (Nat.le_of_ble_eq_true rfl) rfl ?_
    obtain ⟨pr43, en44, B45, hAB46⟩ := hR6.at h6 (by omega) (by omega) h13 k19 h21
    obtain ⟨x47, h48, h49, h50⟩ := z_W.fi X.1 k19 (k := 4) (lo := 0) (hi := (9 : Int)) (by decide) rfl
    refine zUC67 X.1 k19 (by omega) X.1 (hbk.ke X.2 (by decide)) h48 ⟨by omega, by omega⟩ (hR7.nn h6 ⟨by omega, by omega⟩ hAB46.1 k19 h48) (fun x54 M51 X52 h53 => ?_)
    have X55 := X.go X52 (z_sb (by decide))
    show z_ev (d + 2) 66 28 [some (.ref 4), some (.int p1), some (.int p2), some (.ref a12)] [.int x54] M51 _
    exact z_xri zt66 12 rfl zzr66 (kk x54 M51 X55 (z_qB1 h6 ⟨by omega, by omega⟩ hAB46 (Or.inr ⟨by unfold z_po at *; omega, _, h48, h53⟩)))
  refine z_xP zt35 5 22 [some (.ref 4), some (.int p1)] [.null] rfl rfl ?_
  refine z_xrn zt35 10 rfl zzr35 ?_
  show z_ev (d + 2) 66 5 [some (.ref 4), some (.int p1), some (.int p2), none] [.null] M0 _
  refine z_xP zt66 2 21 [some (.ref 4), some (.int p1), some (.int p2), some (.null)] [] rfl rfl ?_
  refine z_xP zt66 8 22 [some (.ref 4), some (.int p1), some (.int p2), some (.null)] [.int (-1)] rfl rfl ?_
  have qm1 : (((-1) : Int32)).toInt = (-1) := rfl
  have qm1 : (((-1) : Int32)).toInt = (-1) := rfl
  exact z_xri zt66 9 rfl zzr66 (kk (-1) M0 X (z_qB0 h6 (by omega) (by omega) trivial))
theorem zUB229 {T : List zK} {d : Nat} {K : Option Value → zH → Prop} {p1 : Int32} {zp0 : Int32} {M0 : zH} (u1 : 0 ≤ p1.toInt ∧ p1.toInt ≤ 7) (hz0 : z_F M0 19 29 = some (.int zp0)) (bz0 : 0 ≤ zp0.toInt ∧ zp0.toInt ≤ 7) (kk : ∀ (M1 : zH), z_X T zw229 M0 M1 → z_sit M0 M1 p1.toNatClampNeg → ∀ (w0 : Int32), z_F M1 19 29 = some (.int w0) → 0 ≤ w0.toInt ∧ w0.toInt ≤ 7 → w0.toInt = p1.toInt → K none M1) : ∀ n : Nat, (∀ (M : zH) (b2 : Int32) (z0 : Int32), z_X T zw229 M0 M → 0 ≤ b2.toInt ∧ b2.toInt ≤ 9 → z_F M 19 29 = some (.int z0) → 0 ≤ z0.toInt ∧ z0.toInt ≤ 7 → z0.toInt = p1.toInt → (∀ j, j < b2.toInt.toNat → z_Ar M 39 j = z_Ar M0 32 (9 * p1.toNatClampNeg + j)) → (∀ j, j < b2.toInt.toNat → z_Ar M 40 j = z_Ar M0 33 (9 * p1.toNatClampNeg + j)) → (∀ j, j < b2.toInt.toNat → z_Ar M 41 j = z_Ar M0 34 (9 * p1.toNatClampNeg + j)) → z_F M 19 30 = some (.int (z_Ar M0 35 p1.toNatClampNeg)) → ((0) * 2 + 0) * 10 + (9 - b2.toInt) < (n : Int) → z_ev d 229 17 [some (.ref 19), some (.int p1), some (.int b2)] [] M K) := by
  intro n
  induction n with
  | zero => exact by intros; exfalso; omega
  | succ n ih =>
    intro M b2 z0 X hh0 hp0 hh2 hh3 hI0 hI1 hI2 hS hE
    refine z_xP zt229 8 19 [some (.ref 19), some (.int p1), some (.int b2)] [.ref 19, .int b2] rfl rfl ?_
    have f19 : T[19]? = some (.inl (12, 0, 0, 0, 0)) := X.1.k rfl (by decide)
    refine z_xgI zt229 9 rfl zo229 zzf12_245 X f19 (by decide) (by decide) rfl (fun (x2 : Int32) h1 (h3 : 0 ≤ x2.toInt) (h4 : x2.toInt ≤ 9) => ?_)
    refine z_xJ zt229 10 rfl rfl (fun (h5 : x2.toInt ≤ b2.toInt) => ?_) (fun (h5 : b2.toInt < x2.toInt) => ?_)
    · skip
      have ez6 := congrArg Int32.toInt (z_ive h1 hS)
      exact z_xrv zt229 43 rfl zzr229 (kk M X ⟨hS, fun j hj => ⟨hI0 j (by omega), hI1 j (by omega), hI2 j (by omega)⟩⟩ z0 hp0 ⟨by omega, by omega⟩ (by omega))
    refine z_xP zt229 11 26 [some (.ref 19), some (.int p1), some (.int b2)] [.ref 19] rfl rfl ?_
    refine z_xgX (b := 39) zt229 12 rfl zo229 zzf12_67 X f19 (by decide) (by decide) rfl ?_
    refine z_xP zt229 13 31 [some (.ref 19), some (.int p1), some (.int b2)] [.ref 19, .int b2, .ref 39] rfl rfl ?_
    refine z_xgX (b := 32) zt229 14 rfl zo229 zzf12_46 X f19 (by decide) (by decide) rfl ?_
    refine z_xP zt229 15 37 [some (.ref 19), some (.int p1), some (.int b2)] [.int p1, .int 9, .ref 32, .int b2, .ref 39] rfl rfl ?_
    refine z_xI zt229 16 rfl rfl (fun (x7 : Int32) (h8 : x7.toInt = 9 * p1.toInt) => ?_) (z_pMul rfl rfl (by omega) (by omega))
    refine z_xP zt229 17 39 [some (.ref 19), some (.int p1), some (.int b2)] [.int b2, .int x7, .ref 32, .int b2, .ref 39] rfl rfl ?_
    refine z_xI zt229 18 rfl rfl (fun (x9 : Int32) (h10 : x9.toInt = x7.toInt + b2.toInt) => ?_) (z_pAdd rfl rfl (by omega) (by omega))
    have f32 : T[32]? = some (.inr (32, 0, 72, (-2147483648), 2147483647)) := X.1.k rfl (by decide)
    refine z_xil zt229 19 rfl X f32 (by decide) (by omega) (by omega) (fun (x11 : Int32) h12 (h13 : (-2147483648) ≤ x11.toInt) (h14 : x11.toInt ≤ 2147483647) => ?_)
    have f39 : T[39]? = some (.inr (39, 0, 9, (-2147483648), 2147483647)) := X.1.k rfl (by decide)
    refine z_xis zt229 20 rfl X f39 (by decide) (by decide) (by omega) (by omega) (Int32.le_toInt _) (Int32.toInt_le _) (by decide) (fun M15 X16 e17 h18 => ?_)
    refine z_xP zt229 21 43 [some (.ref 19), some (.int p1), some (.int b2)] [.ref 19] rfl rfl ?_
    refine z_xgX (b := 40) zt229 22 rfl zo229 zzf12_70 X16 f19 (by decide) (by decide) rfl ?_
    refine z_xP zt229 23 48 [some (.ref 19), some (.int p1), some (.int b2)] [.ref 19, .int b2, .ref 40] rfl rfl ?_
    refine z_xgX (b := 33) zt229 24 rfl zo229 zzf12_49 X16 f19 (by decide) (by decide) rfl ?_
    refine z_xP zt229 25 54 [some (.ref 19), some (.int p1), some (.int b2)] [.int p1, .int 9, .ref 33, .int b2, .ref 40] rfl rfl ?_
    refine z_xI zt229 26 rfl rfl (fun (x19 : Int32) (h20 : x19.toInt = 9 * p1.toInt) => ?_) (z_pMul rfl rfl (by omega) (by omega))
    refine z_xP zt229 27 56 [some (.ref 19), some (.int p1), some (.int b2)] [.int b2, .int x19, .ref 33, .int b2, .ref 40] rfl rfl ?_
    refine z_xI zt229 28 rfl rfl (fun (x21 : Int32) (h22 : x21.toInt = x19.toInt + b2.toInt) => ?_) (z_pAdd rfl rfl (by omega) (by omega))
    have f33 : T[33]? = some (.inr (33, 0, 72, (-2147483648), 2147483647)) := X16.1.k rfl (by decide)
    refine z_xil zt229 29 rfl X16 f33 (by decide) (by omega) (by omega) (fun (x23 : Int32) h24 (h25 : (-2147483648) ≤ x23.toInt) (h26 : x23.toInt ≤ 2147483647) => ?_)
    have f40 : T[40]? = some (.inr (40, 0, 9, (-2147483648), 2147483647)) := X16.1.k rfl (by decide)
    refine z_xis zt229 30 rfl X16 f40 (by decide) (by decide) (by omega) (by omega) (Int32.le_toInt _) (Int32.toInt_le _) (by decide) (fun M27 X28 e29 h30 => ?_)
    refine z_xP zt229 31 60 [some (.ref 19), some (.int p1), some (.int b2)] [.ref 19] rfl rfl ?_
    refine z_xgX (b := 41) zt229 32 rfl zo229 zzf12_73 X28 f19 (by decide) (by decide) rfl ?_
    refine z_xP zt229 33 65 [some (.ref 19), some (.int p1), some (.int b2)] [.ref 19, .int b2, .ref 41] rfl rfl ?_
    refine z_xgX (b := 34) zt229 34 rfl zo229 zzf12_52 X28 f19 (by decide) (by decide) rfl ?_
    refine z_xP zt229 35 71 [some (.ref 19), some (.int p1), some (.int b2)] [.int p1, .int 9, .ref 34, .int b2, .ref 41] rfl rfl ?_
    refine z_xI zt229 36 rfl rfl (fun (x31 : Int32) (h32 : x31.toInt = 9 * p1.toInt) => ?_) (z_pMul rfl rfl (by omega) (by omega))
    refine z_xP zt229 37 73 [some (.ref 19), some (.int p1), some (.int b2)] [.int b2, .int x31, .ref 34, .int b2, .ref 41] rfl rfl ?_
    refine z_xI zt229 38 rfl rfl (fun (x33 : Int32) (h34 : x33.toInt = x31.toInt + b2.toInt) => ?_) (z_pAdd rfl rfl (by omega) (by omega))
    have f34 : T[34]? = some (.inr (34, 0, 72, (-2147483648), 2147483647)) := X28.1.k rfl (by decide)
    refine z_xil zt229 39 rfl X28 f34 (by decide) (by omega) (by omega) (fun (x35 : Int32) h36 (h37 : (-2147483648) ≤ x35.toInt) (h38 : x35.toInt ≤ 2147483647) => ?_)
    have f41 : T[41]? = some (.inr (41, 0, 9, (-2147483648), 2147483647)) := X28.1.k rfl (by decide)
    refine z_xis zt229 40 rfl X28 f41 (by decide) (by decide) (by omega) (by omega) (Int32.le_toInt _) (Int32.toInt_le _) (by decide) (fun M39 X40 e41 h42 => ?_)
    refine z_xN zt229 41 rfl rfl (fun (x43 : Int32) (h44 : x43.toInt = b2.toInt + 1) => ?_) (z_pAdd rfl rfl (by omega) (by omega))
    show z_ev d 229 79 [some (.ref 19), some (.int p1), some (.int x43)] [] M39 _
    refine z_xP zt229 42 17 [some (.ref 19), some (.int p1), some (.int x43)] [] rfl rfl ?_
    have h45 := (e41.f f19 (by decide) (e29.f f19 (by decide) (e17.f f19 (by decide) hp0)))
    exact ih M39 x43 z0 X40 ⟨by omega, by omega⟩ h45 ⟨by omega, by omega⟩ (by omega) (z_sitS hI0 (by omega) (by omega) ((e41.a f39 (by decide)).trans ((e29.a f39 (by decide)).trans (h18.trans (congrArg (fun f => upd f b2.toNatClampNeg x11) rfl)))) ((congrFun (X.2.a f32 (by decide)) _).symm.trans h12) (by unfold Int32.toNatClampNeg; omega)) (z_sitS hI1 (by omega) (by omega) ((e41.a f40 (by decide)).trans (h30.trans (congrArg (fun f => upd f b2.toNatClampNeg x23) ((e17.a f40 (by decide)).trans rfl)))) ((congrFun (X.2.a f33 (by decide)) _).symm.trans ((congrFun (e17.a f33 (by decide)) _).symm.trans h24)) (by unfold Int32.toNatClampNeg; omega)) (z_sitS hI2 (by omega) (by omega) (h42.trans (congrArg (fun f => upd f b2.toNatClampNeg x35) ((e29.a f41 (by decide)).trans ((e17.a f41 (by decide)).trans rfl)))) ((congrFun (X.2.a f34 (by decide)) _).symm.trans ((congrFun (e17.a f34 (by decide)) _).symm.trans ((congrFun (e29.a f34 (by decide)) _).symm.trans h36))) (by unfold Int32.toNatClampNeg; omega)) (e41.f f19 (by decide) (e29.f f19 (by decide) (e17.f f19 (by decide) hS))) (by omega)
theorem zUC229 {T : List zK} {d : Nat} {K : Option Value → zH → Prop} {p1 : Int32} {zp0 : Int32} {M0 : zH} (hW : z_W M0 T) (u1 : 0 ≤ p1.toInt ∧ p1.toInt ≤ 7) (hz0 : z_F M0 19 29 = some (.int zp0)) (bz0 : 0 ≤ zp0.toInt ∧ zp0.toInt ≤ 7) (kk : ∀ (M1 : zH), z_X T zw229 M0 M1 → z_sit M0 M1 p1.toNatClampNeg → ∀ (w0 : Int32), z_F M1 19 29 = some (.int w0) → 0 ≤ w0.toInt ∧ w0.toInt ≤ 7 → w0.toInt = p1.toInt → K none M1) : z_ev d 229 0 [some (.ref 19), some (.int p1), none] [] M0 K := by
  have X : z_X T zw229 M0 M0 := .refl hW
  refine z_xP zt229 0 2 [some (.ref 19), some (.int p1), none] [.int p1, .ref 19] rfl rfl ?_
  have f19 : T[19]? = some (.inl (12, 0, 0, 0, 0)) := X.1.k rfl (by decide)
  refine z_xpf zt229 1 rfl zo229 zzf12_242 X f19 (by decide) (by decide) ⟨by omega, by omega⟩ rfl (by decide) zw12_29 (fun M1 X2 e3 h4 => ?_)
  refine z_xP zt229 2 7 [some (.ref 19), some (.int p1), none] [.ref 19, .ref 19] rfl rfl ?_
  refine z_xgX (b := 35) zt229 3 rfl zo229 zzf12_55 X2 f19 (by decide) (by decide) rfl ?_
  refine z_xP zt229 4 11 [some (.ref 19), some (.int p1), none] [.int p1, .ref 35, .ref 19] rfl rfl ?_
  have f35 : T[35]? = some (.inr (35, 0, 8, 0, 9)) := X2.1.k rfl (by decide)
  refine z_xil zt229 5 rfl X2 f35 (by decide) (by omega) (by omega) (fun (x5 : Int32) h6 (h7 : 0 ≤ x5.toInt) (h8 : x5.toInt ≤ 9) => ?_)
  refine z_xpf zt229 6 rfl zo229 zzf12_245 X2 f19 (by decide) (by decide) ⟨by omega, by omega⟩ rfl (by decide) zw12_30 (fun M9 X10 e11 h12 => ?_)
  refine z_xP zt229 7 17 [some (.ref 19), some (.int p1), some (.int 0)] [] rfl rfl ?_
  have h13 := (e11.f f19 (by decide) h4)
  have q0 : ((0 : Int32)).toInt = 0 := rfl
  exact (zUB229 u1 hz0 bz0 kk 20) M9 (0) p1 X10 (by decide) h13 ⟨by omega, by omega⟩ (by omega) (fun j hj => absurd hj (Nat.not_lt_zero j)) (fun j hj => absurd hj (Nat.not_lt_zero j)) (fun j hj => absurd hj (Nat.not_lt_zero j)) (by rw [((congrFun (e3.a f35 (by decide)) _).symm.trans h6)]; exact h12) (by omega)
theorem zUB232 {T : List zK} {d : Nat} {K : Option Value → zH → Prop} {p1 : Int32} {sv : Int32} {M0 : zH} (u1 : (-1) ≤ p1.toInt ∧ p1.toInt ≤ 1023) (hs : z_F M0 19 30 = some (.int sv)) (hsv : 0 ≤ sv.toInt ∧ sv.toInt ≤ 9) (hnn : ∀ j, j < sv.toInt.toNat → 0 ≤ (z_Ar M0 40 j).toInt ∧ 0 ≤ (z_Ar M0 41 j).toInt) (kk : ∀ (x : Int32) (M1 : zH), z_X T zw232 M0 M1 → x = z_ds (z_Ar M0 39) (z_Ar M0 40) (z_Ar M0 41) p1 sv.toInt.toNat → K (some (.int x)) M1) : ∀ n : Nat, (∀ (M : zH) (b2 : Int32) (b3 : Int32), z_X T zw232 M0 M → 0 ≤ b3.toInt ∧ b3.toInt ≤ 9 → b2 = z_ds (z_Ar M0 39) (z_Ar M0 40) (z_Ar M0 41) p1 b3.toInt.toNat → b3.toInt ≤ sv.toInt → ((0) * 2 + 0) * 10 + (9 - b3.toInt) < (n : Int) → z_ev (d + 1) 232 4 [some (.ref 19), some (.int p1), some (.int b2), some (.int b3)] [] M K) := by
  intro n
  induction n with
  | zero => exact by intros; exfalso; omega
  | succ n ih =>
    intro M b2 b3 X hh0 hI hJ hE
    refine z_xP zt232 1 6 [some (.ref 19), some (.int p1), some (.int b2), some (.int b3)] [.ref 19, .int b3] rfl rfl ?_
    have f19 : T[19]? = some (.inl (12, 0, 0, 0, 0)) := X.1.k rfl (by decide)
    refine z_xgI zt232 2 rfl zo232 zzf12_245 X f19 (by decide) (by decide) rfl (fun (x2 : Int32) h1 (h3 : 0 ≤ x2.toInt) (h4 : x2.toInt ≤ 9) => ?_)
    refine z_xJ zt232 3 rfl rfl (fun (h5 : x2.toInt ≤ b3.toInt) => ?_) (fun (h5 : b3.toInt < x2.toInt) => ?_)
    · skip
      refine z_xP zt232 28 51 [some (.ref 19), some (.int p1), some (.int b2), some (.int b3)] [.int b2] rfl rfl ?_
      have ej6 := congrArg Int32.toInt (z_ive h1 (X.2.f f19 (by decide) hs))
      have i7 : b3.toInt.toNat = sv.toInt.toNat := by omega
      exact z_xri zt232 29 rfl zzr232 (kk b2 M X (by rw [← i7]; exact hI))
    refine z_xP zt232 4 14 [some (.ref 19), some (.int p1), some (.int b2), some (.int b3)] [.ref 19, .int b2] rfl rfl ?_
    refine z_xgX (b := 39) zt232 5 rfl zo232 zzf12_67 X f19 (by decide) (by decide) rfl ?_
    refine z_xP zt232 6 18 [some (.ref 19), some (.int p1), some (.int b2), some (.int b3)] [.int b3, .ref 39, .int b2] rfl rfl ?_
    have f39 : T[39]? = some (.inr (39, 0, 9, (-2147483648), 2147483647)) := X.1.k rfl (by decide)
    refine z_xil zt232 7 rfl X f39 (by decide) (by omega) (by omega) (fun (x8 : Int32) h9 (h10 : (-2147483648) ≤ x8.toInt) (h11 : x8.toInt ≤ 2147483647) => ?_)
    refine z_xP zt232 8 20 [some (.ref 19), some (.int p1), some (.int b2), some (.int b3)] [.ref 19, .int x8, .int b2] rfl rfl ?_
    refine z_xgX (b := 40) zt232 9 rfl zo232 zzf12_70 X f19 (by decide) (by decide) rfl ?_
    refine z_xP zt232 10 24 [some (.ref 19), some (.int p1), some (.int b2), some (.int b3)] [.int b3, .ref 40, .int x8, .int b2] rfl rfl ?_
    have f40 : T[40]? = some (.inr (40, 0, 9, (-2147483648), 2147483647)) := X.1.k rfl (by decide)
    refine z_xil zt232 11 rfl X f40 (by decide) (by omega) (by omega) (fun (x12 : Int32) h13 (h14 : (-2147483648) ≤ x12.toInt) (h15 : x12.toInt ≤ 2147483647) => ?_)
    have ej16 := congrArg Int32.toInt (z_ive h1 (X.2.f f19 (by decide) hs))
    have hn17 := hnn b3.toNatClampNeg (by unfold Int32.toNatClampNeg; omega)
    have h018 : 0 ≤ x12.toInt := by rw [← ((congrFun (X.2.a f40 (by decide)) _).symm.trans h13)]; exact hn17.1
    refine z_xP zt232 12 27 [some (.ref 19), some (.int p1), some (.int b2), some (.int b3)] [.int (-1), .int p1, .int x12, .int x8, .int b2] rfl rfl ?_
    refine z_xI zt232 13 rfl rfl (fun (x19 : Int32) (h20 : x19 = p1 ^^^ ((-1) : Int32)) => ?_) (rfl)
    refine z_xI zt232 14 rfl rfl (fun (x21 : Int32) (h22 : x21 = x12 &&& x19 ∧ 0 ≤ x21.toInt ∧ x21.toInt ≤ x12.toInt) => ?_) (⟨rfl, z_pAndL rfl (by omega)⟩)
    refine z_xP zt232 15 30 [some (.ref 19), some (.int p1), some (.int b2), some (.int b3)] [.ref 19, .int x21, .int x8, .int b2] rfl rfl ?_
    refine z_xgX (b := 41) zt232 16 rfl zo232 zzf12_73 X f19 (by decide) (by decide) rfl ?_
    refine z_xP zt232 17 34 [some (.ref 19), some (.int p1), some (.int b2), some (.int b3)] [.int b3, .ref 41, .int x21, .int x8, .int b2] rfl rfl ?_
    have f41 : T[41]? = some (.inr (41, 0, 9, (-2147483648), 2147483647)) := X.1.k rfl (by decide)
    refine z_xil zt232 18 rfl X f41 (by decide) (by omega) (by omega) (fun (x23 : Int32) h24 (h25 : (-2147483648) ≤ x23.toInt) (h26 : x23.toInt ≤ 2147483647) => ?_)
    have h027 : 0 ≤ x23.toInt := by rw [← ((congrFun (X.2.a f41 (by decide)) _).symm.trans h24)]; exact hn17.2
    refine z_xP zt232 19 36 [some (.ref 19), some (.int p1), some (.int b2), some (.int b3)] [.int p1, .int x23, .int x21, .int x8, .int b2] rfl rfl ?_
    refine z_xI zt232 20 rfl rfl (fun (x28 : Int32) (h29 : x28 = x23 &&& p1 ∧ 0 ≤ x28.toInt ∧ x28.toInt ≤ x23.toInt) => ?_) (⟨rfl, z_pAndL rfl (by omega)⟩)
    refine z_xI zt232 21 rfl rfl (fun (x30 : Int32) (h31 : x30 = x21 ||| x28 ∧ 0 ≤ x30.toInt ∧ x30.toInt < 2147483648 ∧ x21.toInt ≤ x30.toInt ∧ x28.toInt ≤ x30.toInt) => ?_) (⟨rfl, z_pOr 31 rfl rfl (by omega) (by omega) (by decide) (by omega) (by omega) (by decide)⟩)
    refine z_xcS (vs := [.int x30]) (r := [.int x8, .int b2]) (L2 := [some (.int x30), none, none]) zt232 22 rfl zo232 zzcS12_193 (Or.inl rfl) (Nat.le_of_ble_eq_true rfl) rfl rfl (Nat.le_of_ble_eq_true rfl) zzm207 (Nat.le_of_ble_eq_true rfl) rfl ?_
    refine zUC207 X.1 (by omega) (fun x35 M32 X33 h34 => ?_)
    have X36 := X.go X33 (z_sb (by decide))
    show z_ev (d + 1) 232 41 [some (.ref 19), some (.int p1), some (.int b2), some (.int b3)] [.int x35, .int x8, .int b2] M32 _
    have h38 := z_b32 x8
    have h39 := z_b32 x35
    refine z_xI zt232 23 rfl rfl (fun (x40 : Int32) (h41 : x40 = x8 * x35) => ?_) (rfl)
    have h42 := z_b32 b2
    have h43 := z_b32 x40
    refine z_xI zt232 24 rfl rfl (fun (x44 : Int32) (h45 : x44 = b2 + x40) => ?_) (rfl)
    refine z_xP zt232 25 44 [some (.ref 19), some (.int p1), some (.int x44), some (.int b3)] [] rfl rfl ?_
    refine z_xN zt232 26 rfl rfl (fun (x46 : Int32) (h47 : x46.toInt = b3.toInt + 1) => ?_) (z_pAdd rfl rfl (by omega) (by omega))
    show z_ev (d + 1) 232 47 [some (.ref 19), some (.int p1), some (.int x44), some (.int x46)] [] M32 _
    refine z_xP zt232 27 4 [some (.ref 19), some (.int p1), some (.int x44), some (.int x46)] [] rfl rfl ?_
    have h48 := (X33.2.f f19 (by decide) h1)
    have ej49 := congrArg Int32.toInt (z_ive h48 (X36.2.f f19 (by decide) hs))
    exact ih M32 x44 x46 X36 ⟨by omega, by omega⟩ (z_dsS hI (by omega) (by omega) ((congrFun (X.2.a f39 (by decide)) _).symm.trans h9) ((congrFun (X.2.a f40 (by decide)) _).symm.trans h13) ((congrFun (X.2.a f41 (by decide)) _).symm.trans h24) h20 h22.1 h29.1 h31.1 (z_cc31 (by omega) h34) h41 h45) (by omega) (by omega)
theorem zUC232 {T : List zK} {d : Nat} {K : Option Value → zH → Prop} {p1 : Int32} {sv : Int32} {M0 : zH} (hW : z_W M0 T) (u1 : (-1) ≤ p1.toInt ∧ p1.toInt ≤ 1023) (hs : z_F M0 19 30 = some (.int sv)) (hsv : 0 ≤ sv.toInt ∧ sv.toInt ≤ 9) (hnn : ∀ j, j < sv.toInt.toNat → 0 ≤ (z_Ar M0 40 j).toInt ∧ 0 ≤ (z_Ar M0 41 j).toInt) (kk : ∀ (x : Int32) (M1 : zH), z_X T zw232 M0 M1 → x = z_ds (z_Ar M0 39) (z_Ar M0 40) (z_Ar M0 41) p1 sv.toInt.toNat → K (some (.int x)) M1) : z_ev (d + 1) 232 0 [some (.ref 19), some (.int p1), none, none] [] M0 K := by
  have X : z_X T zw232 M0 M0 := .refl hW
  refine z_xP zt232 0 4 [some (.ref 19), some (.int p1), some (.int 0), some (.int 0)] [] rfl rfl ?_
  have q0 : ((0 : Int32)).toInt = 0 := rfl
  exact (zUB232 u1 hs hsv hnn kk 20) M0 (0) (0) X (by decide) (z_ds0 rfl) (by omega) (by omega)
theorem zUC231 {T : List zK} {d : Nat} {K : Option Value → zH → Prop} {p1 : Int32} {p2 : Int32} {M0 : zH} (hW : z_W M0 T) (hj9 : ∀ a : Nat, a < 8 → 0 ≤ (z_Ar M0 35 a).toInt ∧ (z_Ar M0 35 a).toInt ≤ 9) (hyn : ∀ a j : Nat, (a : Int) < (z_Fv M0 19 13).toInt → j < (z_Ar M0 35 a).toInt.toNat → 0 ≤ (z_Ar M0 33 (9 * a + j)).toInt ∧ 0 ≤ (z_Ar M0 34 (9 * a + j)).toInt) (kk : ∀ (x : Int32) (M1 : zH), z_X T zw231 M0 M1 → y_qB M0 p1 x.toInt True ((x.toInt = -1 ∧ ¬ (0 ≤ p2.toInt ∧ p2.toInt < ((2 ^ (z_Ar M0 24 p1.toNatClampNeg).toInt.toNat : Nat) : Int))) ∨ ((0 ≤ p2.toInt ∧ p2.toInt < ((2 ^ (z_Ar M0 24 p1.toNatClampNeg).toInt.toNat : Nat) : Int)) ∧ x = z_ds (fun j => z_Ar M0 32 (9 * p1.toNatClampNeg + j)) (fun j => z_Ar M0 33 (9 * p1.toNatClampNeg + j)) (fun j => z_Ar M0 34 (9 * p1.toNatClampNeg + j)) p2 (z_Ar M0 35 p1.toNatClampNeg).toInt.toNat)) → K (some (.int x)) M1) : z_ev (d + 2) 231 0 [some (.ref 19), some (.int p1), some (.int p2)] [] M0 K := by
  have X : z_X T zw231 M0 M0 := .refl hW
  refine z_xP zt231 0 2 [some (.ref 19), some (.int p1), some (.int p2)] [.int p1, .ref 19] rfl rfl ?_
  have f19 : T[19]? = some (.inl (12, 0, 0, 0, 0)) := X.1.k rfl (by decide)
  refine z_xcV (vs := [.ref 19, .int p1]) (r := []) (L2 := [some (.ref 19), some (.int p1)]) zt231 1 rfl zo231 zzcV12_209 (Or.inl rfl) rfl X f19 rfl rfl rfl (Nat.le_of_ble_eq_true rfl) zzm209 (Nat.le_of_ble_eq_true rfl) rfl ?_
  refine z_xP zt209 0 1 [some (.ref 19), some (.int p1)] [.int p1] rfl rfl ?_
  refine z_xZ zt209 1 rfl rfl (fun (h1 : p1.toInt < 0) => ?_) (fun (h1 : 0 ≤ p1.toInt) => ?_)
  · skip
    refine z_xP zt209 6 17 [some (.ref 19), some (.int p1)] [.int 0] rfl rfl ?_
    refine z_xrz zt209 7 rfl zzr209 (by decide) (by decide) ?_
    show z_ev (d + 2) 231 5 [some (.ref 19), some (.int p1), some (.int p2)] [.int 0] M0 _
    refine z_xZ zt231 2 rfl rfl (fun (h2 : (0 : Int) = 0) => ?_) (fun (h2 : (0 : Int) ≠ 0) => absurd h2 (by omega))
    refine z_xP zt231 6 18 [some (.ref 19), some (.int p1), some (.int p2)] [.int (-1)] rfl rfl ?_
    have qm1 : (((-1) : Int32)).toInt = (-1) := rfl
    obtain ⟨x3, h4, h5, h6⟩ := z_W.fi X.1 f19 (k := 13) (lo := 0) (hi := 8) (by decide) rfl
    have qm1 : (((-1) : Int32)).toInt = (-1) := rfl
    exact z_xri zt231 7 rfl zzr231 (kk (-1) M0 X (y_qB0 h4 (by omega) (by omega) trivial))
  refine z_xP zt209 2 6 [some (.ref 19), some (.int p1)] [.ref 19, .int p1] rfl rfl ?_
  refine z_xgI zt209 3 rfl zo209 zzf12_110 X f19 (by decide) (by decide) rfl (fun (x8 : Int32) h7 (h9 : 0 ≤ x8.toInt) (h10 : x8.toInt ≤ 8) => ?_)
  have h11 := z_b32 p1
  refine z_xJ zt209 4 rfl rfl (fun (h12 : x8.toInt ≤ p1.toInt) => ?_) (fun (h12 : p1.toInt < x8.toInt) => ?_)
  · skip
    refine z_xP zt209 6 17 [some (.ref 19), some (.int p1)] [.int 0] rfl rfl ?_
    refine z_xrz zt209 7 rfl zzr209 (by decide) (by decide) ?_
    show z_ev (d + 2) 231 5 [some (.ref 19), some (.int p1), some (.int p2)] [.int 0] M0 _
    refine z_xZ zt231 2 rfl rfl (fun (h13 : (0 : Int) = 0) => ?_) (fun (h13 : (0 : Int) ≠ 0) => absurd h13 (by omega))
    refine z_xP zt231 6 18 [some (.ref 19), some (.int p1), some (.int p2)] [.int (-1)] rfl rfl ?_
    have qm1 : (((-1) : Int32)).toInt = (-1) := rfl
    have qm1 : (((-1) : Int32)).toInt = (-1) := rfl
    exact z_xri zt231 7 rfl zzr231 (kk (-1) M0 X (y_qB0 h7 (by omega) (by omega) trivial))
  refine z_xP zt209 5 17 [some (.ref 19), some (.int p1)] [.int 1] rfl rfl ?_
  refine z_xrz zt209 7 rfl zzr209 (by decide) (by decide) ?_
  show z_ev (d + 2) 231 5 [some (.ref 19), some (.int p1), some (.int p2)] [.int 1] M0 _
  refine z_xZ zt231 2 rfl rfl (fun (h14 : (1 : Int) = 0) => absurd h14 (by omega)) (fun (h14 : (1 : Int) ≠ 0) => ?_)
  refine z_xP zt231 3 11 [some (.ref 19), some (.int p1), some (.int p2)] [.int p2, .int p1, .ref 19] rfl rfl ?_
  refine z_xcV (vs := [.ref 19, .int p1, .int p2]) (r := []) (L2 := [some (.ref 19), some (.int p1), some (.int p2)]) zt231 4 rfl zo231 zzcV12_212 (Or.inl rfl) rfl X f19 rfl rfl rfl (Nat.le_of_ble_eq_true rfl) zzm212 (Nat.le_of_ble_eq_true rfl) rfl ?_
  refine z_xP zt212 0 1 [some (.ref 19), some (.int p1), some (.int p2)] [.int p2] rfl rfl ?_
  refine z_xZ zt212 1 rfl rfl (fun (h15 : p2.toInt < 0) => ?_) (fun (h15 : 0 ≤ p2.toInt) => ?_)
  · skip
    refine z_xP zt212 9 21 [some (.ref 19), some (.int p1), some (.int p2)] [.int 0] rfl rfl ?_
    refine z_xrz zt212 10 rfl zzr212 (by decide) (by decide) ?_
    show z_ev (d + 2) 231 14 [some (.ref 19), some (.int p1), some (.int p2)] [.int 0] M0 _
    refine z_xZ zt231 5 rfl rfl (fun (h16 : (0 : Int) ≠ 0) => absurd h16 (by omega)) (fun (h16 : (0 : Int) = 0) => ?_)
    refine z_xP zt231 6 18 [some (.ref 19), some (.int p1), some (.int p2)] [.int (-1)] rfl rfl ?_
    have qm1 : (((-1) : Int32)).toInt = (-1) := rfl
    have qm1 : (((-1) : Int32)).toInt = (-1) := rfl
    exact z_xri zt231 7 rfl zzr231 (kk (-1) M0 X (y_qB1 h7 ⟨by omega, by omega⟩ (Or.inl ⟨by omega, by omega⟩)))
  refine z_xP zt212 2 7 [some (.ref 19), some (.int p1), some (.int p2)] [.ref 19, .int 1, .int p2] rfl rfl ?_
  refine z_xgX (b := 24) zt212 3 rfl zo212 zzf12_22 X f19 (by decide) (by decide) rfl ?_
  refine z_xP zt212 4 11 [some (.ref 19), some (.int p1), some (.int p2)] [.int p1, .ref 24, .int 1, .int p2] rfl rfl ?_
  have f24 : T[24]? = some (.inr (24, 0, 8, 0, 10)) := X.1.k rfl (by decide)
  refine z_xil zt212 5 rfl X f24 (by decide) (by omega) (by omega) (fun (x17 : Int32) h18 (h19 : 0 ≤ x17.toInt) (h20 : x17.toInt ≤ 10) => ?_)
  refine z_xI zt212 6 rfl rfl (fun (x21 : Int32) (h22 : x21 = (1 : Int32) <<< (x17 &&& 31) ∧ 1 ≤ x21.toInt ∧ x21.toInt ≤ 1024) => ?_) (⟨rfl, z_pShlB (a := 1) (b := 10) (c := 1024) (r := 1024) rfl rfl (by omega) (by omega) (by omega) (by omega) (by decide) (by decide) (by decide) (by decide)⟩)
  have h23 := z_b32 p2
  refine z_xJ zt212 7 rfl rfl (fun (h24 : x21.toInt ≤ p2.toInt) => ?_) (fun (h24 : p2.toInt < x21.toInt) => ?_)
  · skip
    refine z_xP zt212 9 21 [some (.ref 19), some (.int p1), some (.int p2)] [.int 0] rfl rfl ?_
    refine z_xrz zt212 10 rfl zzr212 (by decide) (by decide) ?_
    show z_ev (d + 2) 231 14 [some (.ref 19), some (.int p1), some (.int p2)] [.int 0] M0 _
    refine z_xZ zt231 5 rfl rfl (fun (h25 : (0 : Int) ≠ 0) => absurd h25 (by omega)) (fun (h25 : (0 : Int) = 0) => ?_)
    refine z_xP zt231 6 18 [some (.ref 19), some (.int p1), some (.int p2)] [.int (-1)] rfl rfl ?_
    have qm1 : (((-1) : Int32)).toInt = (-1) := rfl
    have i26 := z_2q1 (x := x17) (by omega) (by omega) h22.1
    have qm1 : (((-1) : Int32)).toInt = (-1) := rfl
    exact z_xri zt231 7 rfl zzr231 (kk (-1) M0 X (y_qB1 h7 ⟨by omega, by omega⟩ (Or.inl ⟨by omega, by rw [h18]; omega⟩)))
  refine z_xP zt212 8 21 [some (.ref 19), some (.int p1), some (.int p2)] [.int 1] rfl rfl ?_
  refine z_xrz zt212 10 rfl zzr212 (by decide) (by decide) ?_
  show z_ev (d + 2) 231 14 [some (.ref 19), some (.int p1), some (.int p2)] [.int 1] M0 _
  refine z_xZ zt231 5 rfl rfl (fun (h27 : (1 : Int) ≠ 0) => ?_) (fun (h27 : (1 : Int) = 0) => absurd h27 (by omega))
  refine z_xP zt231 8 21 [some (.ref 19), some (.int p1), some (.int p2)] [.int p1, .ref 19] rfl rfl ?_
  refine z_xcV (vs := [.ref 19, .int p1]) (r := []) (L2 := [some (.ref 19), some (.int p1), none]) zt231 9 rfl zo231 zzcV12_255 (Or.inl rfl) rfl X f19 rfl rfl rfl (Nat.le_of_ble_eq_true rfl) zzm229 (Nat.le_of_ble_eq_true rfl) rfl ?_
  obtain ⟨x28, h29, h30, h31⟩ := z_W.fi X.1 f19 (k := 29) (lo := 0) (hi := 7) (by decide) rfl
  refine zUC229 X.1 (by omega) h29 ⟨by omega, by omega⟩ (fun M32 X33 h34 z35 h36 h37 h38 => ?_)
  have X39 := X.go X33 (z_sb (by decide))
  show z_ev (d + 2) 231 24 [some (.ref 19), some (.int p1), some (.int p2)] [] M32 _
  have h41 : z35 = p1 := z_sub (c := p1.toInt) (by omega) rfl
  have h42 := h36
  rw [h41] at h42
  refine z_xP zt231 10 26 [some (.ref 19), some (.int p1), some (.int p2)] [.int p2, .ref 19] rfl rfl ?_
  refine z_xcV (vs := [.ref 19, .int p2]) (r := []) (L2 := [some (.ref 19), some (.int p2), none, none]) zt231 11 rfl zo231 zzcV12_259 (Or.inl rfl) rfl X39 f19 rfl rfl rfl (Nat.le_of_ble_eq_true rfl) zzm232 (Nat.le_of_ble_eq_true rfl) rfl ?_
  refine zUC232 X39.1 (by omega) h34.1 (hj9 _ (by unfold Int32.toNatClampNeg; omega)) (z_sit.nn h34 (fun j hj => hyn _ j (by rw [z_Fv.of h7]; unfold Int32.toNatClampNeg; omega) hj)) (fun x46 M43 X44 h45 => ?_)
  have X47 := X39.go X44 (z_sb (by decide))
  show z_ev (d + 2) 231 29 [some (.ref 19), some (.int p1), some (.int p2)] [.int x46] M43 _
  have i49 := z_2q1 (x := x17) (by omega) (by omega) h22.1
  exact z_xri zt231 12 rfl zzr231 (kk x46 M43 X47 (y_qB1 h7 ⟨by omega, by omega⟩ (Or.inr ⟨by rw [h18]; omega, z_dsit h34 h45⟩)))
def z_Q14 (I : zH → Prop) : Prop := ∀ (x1 : Int32) (x2 : Int32) (M : zH), I M → z_ev 2046 66 0 (z_ent [.ref 4, .int x1, .int x2] (z_ml 66)) [] M fun v M1 => (∃ y, v = some (.int y)) ∧ z_ev 2046 231 0 (z_ent [.ref 19, .int x1, .int x2] (z_ml 231)) [] M1 fun v2 M2 => (∃ y, v2 = some (.int y)) ∧ v = v2 ∧ I M2 ∧ M2.length ≤ M.length + 1171 ∧ z_szr M2 ≤ z_szr M + 14000
theorem zS14 : z_Q14 z_J := by
  intro x1 x2 M ⟨T, hA, hR⟩
  have hW := hA.1.1
  refine z_J.two (r1 := zw66) (r2 := zw231) (C := fun v v2 => v = v2) hA hR rfl rfl ?_
  rw [zzm66]
  show z_ev 2046 66 0 [some (.ref 4), some (.int x1), some (.int x2), none] [] M _
  refine zUC66 (d := 2044) hW hW hR.2.2.1 hR.2.1 hR.2.2 hA.1 fun y M1 X1  h1 => ?_
  have hB := z_kee hA X1 (by decide)
  have k19 : T[19]? = some (.inl (12, 0, 0, 0, 0)) := hW.k rfl (by decide)
  have hN : (z_Fv M1 19 13).toInt = (z_Fv M 4 3).toInt := (congrArg Int32.toInt (z_FvK (X1.2.1 19 12 0 0 0 0 13 k19 (by decide)))).trans (z_R5.v hR.1).2.1
  have hJ9 : ∀ a : Nat, a < 8 → 0 ≤ (z_Ar M1 35 a).toInt ∧ (z_Ar M1 35 a).toInt ≤ 9 := fun a ha => by
    obtain ⟨f, _, e, h⟩ := hB.1.1.ai (hB.1.1.k (k := 35) (κ := z_ai 35 8 0 9) rfl (by decide)) (by decide)
    rw [e]
    exact h a ha
  have k4 : T[4]? = some (.inl (0, 0, 0, 0, 0)) := hW.k rfl (by decide)
  obtain ⟨A0, hA0, _, _⟩ := hW.fi k4 (k := 3) (lo := 0) (hi := 8) (by decide) rfl
  have h71 : z_R7 T M1 := hR.2.2.ke hW (fun _ _ h => h) (hR.2.2.1.ke X1.2 rfl) X1.2 rfl
  have hYN : ∀ a j : Nat, (a : Int) < (z_Fv M1 19 13).toInt → j < (z_Ar M1 35 a).toInt.toNat → 0 ≤ (z_Ar M1 33 (9 * a + j)).toInt ∧ 0 ≤ (z_Ar M1 34 (9 * a + j)).toInt := fun a j ha hj => h71.yn (X1.2.f k4 (by decide) hA0) a j (by rw [hN, z_Fv.of hA0] at ha; exact ha) hj
  refine ⟨⟨y, rfl⟩, X1, ?_⟩
  rw [zzm231]
  show z_ev 2046 231 0 [some (.ref 19), some (.int x1), some (.int x2)] [] M1 _
  refine zUC231 (d := 2044) hB.1.1 hJ9 hYN fun z M2 X2  h2 => ?_
  have key : y = z := by
    rcases z_qBs hR.2.2 hW X1.2 rfl rfl hN h1 h2 with ⟨e1, e2, _, _⟩ | ⟨A, b, q, t, m, pr, en, J, B, w, yy, n, hAe, hp, ob, kb, hY, q10, hm, J9, c1, c2, hj, r1, r2⟩
    · exact Int32.toInt_inj.mp (e1.trans e2.symm)
    · obtain ⟨⟨xj, f4, ej⟩, c1⟩ := c1
      obtain ⟨eJ, c2⟩ := c2
      have e24 := hY.1
      have eq : (z_Ar M1 24 x1.toNatClampNeg).toInt.toNat = q := by omega
      rw [eq] at r2
      rcases r1 with ⟨a1, a2⟩ | ⟨a1, jv, fj, r1⟩
      · rcases r2 with ⟨b1, _⟩ | ⟨b1, _⟩
        · exact Int32.toInt_inj.mp (a1.trans b1.symm)
        · exact absurd b1 a2
      · rcases r2 with ⟨_, b1⟩ | ⟨_, r2⟩
        · exact absurd a1 b1
        · rw [r1, r2, z_ive fj f4, ej, eJ, Int.toNat_natCast]
          refine z_dsC fun j hj9 => ?_
          obtain ⟨u1, u2, u3⟩ := c1 j hj9
          obtain ⟨v1, v2, v3⟩ := c2 j hj9
          exact ⟨u1.trans v1.symm, u2.trans v2.symm, u3.trans v3.symm⟩
  exact ⟨⟨z, rfl⟩, by rw [key], X2⟩
