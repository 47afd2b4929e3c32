/-! votes, far: weights of answers, distances -/
def z_vs (f w : Nat → Int32) (k : Int32) : Nat → Int32
  | 0 => 0
  | n + 1 => z_vs f w k n + ((f n >>> (k &&& 31)) &&& 1) * w n
def z_cc (v : Int32) : Int32 := Int32.ofNat (z_cp v.toInt.toNat 32)
def z_ds (w y n : Nat → Int32) (s : Int32) : Nat → Int32
  | 0 => 0
  | i + 1 => z_ds w y n s i + w i * z_cc ((y i &&& (s ^^^ (-1))) ||| (n i &&& s))
section ZVS
variable {f w f2 w2 y n : Nat → Int32} {k s b x v sh an mu ad xo a1 a2 W c i i2 : Int32}
theorem z_vs0 (h : i.toInt = 0) : (0 : Int32) = z_vs f w k i.toInt.toNat := by
  rw [h]
  rfl
theorem z_ds0 (h : i.toInt = 0) : (0 : Int32) = z_ds w y n s i.toInt.toNat := by
  rw [h]
  rfl
theorem z_vsS (h : b = z_vs f w k i.toInt.toNat) (h0 : 0 ≤ i.toInt) (hi : i2.toInt = i.toInt + 1) (ex : f i.toNatClampNeg = x) (ew : w i.toNatClampNeg = v) (h1 : sh = x >>> (k &&& 31)) (h2 : an = sh &&& 1) (h3 : mu = an * v) (h4 : ad = b + mu) : ad = z_vs f w k i2.toInt.toNat := by
  have e : i2.toInt.toNat = i.toInt.toNat + 1 := by omega
  rw [e, h4, h3, h2, h1, h, ← ex, ← ew]
  rfl
theorem z_vsA (h : b = z_vs f w k i.toInt.toNat) (h0 : 0 ≤ i.toInt) (hi : i2.toInt = i.toInt + 1) (ex : f i.toNatClampNeg = x) (ew : w i.toNatClampNeg = v) (h1 : sh = x >>> (k &&& 31)) (h2 : an = sh &&& 1) (h3 : an.toInt = 1) (h4 : ad = b + v) : ad = z_vs f w k i2.toInt.toNat :=
  z_vsS h h0 hi ex ew h1 h2 (mu := v) (by
    rw [show an = 1 from Int32.toInt_inj.mp h3]
    exact (Int32.one_mul v).symm) h4
theorem z_vsB (h : b = z_vs f w k i.toInt.toNat) (h0 : 0 ≤ i.toInt) (hi : i2.toInt = i.toInt + 1) (ex : f i.toNatClampNeg = x) (h1 : sh = x >>> (k &&& 31)) (h2 : an = sh &&& 1) (ha : 0 ≤ an.toInt ∧ an.toInt ≤ 1) (h3 : an.toInt ≠ 1) (h4 : ad = b + 0) : ad = z_vs f w k i2.toInt.toNat :=
  z_vsS h h0 hi ex rfl h1 h2 (mu := 0) (by
    rw [show an = 0 from Int32.toInt_inj.mp (show an.toInt = 0 by omega)]
    exact (Int32.zero_mul).symm) h4
theorem z_vsC {m : Nat} (h : ∀ j, j < m → f j = f2 j ∧ w j = w2 j) : z_vs f w k m = z_vs f2 w2 k m := by
  induction m with
  | zero => rfl
  | succ m ih =>
    show z_vs f w k m + _ = z_vs f2 w2 k m + _
    rw [ih fun j hj => h j (by omega), (h m (by omega)).1, (h m (by omega)).2]
theorem z_cc32 (h0 : 0 ≤ W.toInt) (h : c.toInt = ((z_cp W.toInt.toNat 32 : Nat) : Int)) : c = z_cc W := by
  have h2 := z_cp_len W.toInt.toNat 32
  have e := z_of32 (x := c) (k := c.toInt.toNat) (by omega) (by omega)
  rw [e]
  unfold z_cc
  rw [show c.toInt.toNat = z_cp W.toInt.toNat 32 by omega]
theorem z_cc31 (h0 : 0 ≤ W.toInt) (h : c.toInt = ((z_cp W.toInt.toNat 31 : Nat) : Int)) : c = z_cc W := by
  refine z_cc32 h0 ?_
  have h1 := Int32.toInt_lt W
  have e : W.toInt.toNat / 2 ^ 31 = 0 := Nat.div_eq_of_lt (by omega)
  rw [show (32 : Nat) = 31 + 1 from rfl, z_cpS, e]
  exact h
theorem z_dsS (h : b = z_ds w y n s i.toInt.toNat) (h0 : 0 ≤ i.toInt) (hi : i2.toInt = i.toInt + 1) {wv yv nv : Int32} (ew : w i.toNatClampNeg = wv) (ey : y i.toNatClampNeg = yv) (en : n i.toNatClampNeg = nv) (h1 : xo = s ^^^ (-1)) (h2 : a1 = yv &&& xo) (h3 : a2 = nv &&& s) (h4 : W = a1 ||| a2) (hc : c = z_cc W) (h5 : mu = wv * c) (h6 : ad = b + mu) : ad = z_ds w y n s i2.toInt.toNat := by
  have e : i2.toInt.toNat = i.toInt.toNat + 1 := by omega
  rw [e, h6, h5, hc, h4, h3, h2, h1, h, ← ew, ← ey, ← en]
  rfl
theorem z_dsC {m : Nat} {w2 y2 n2 : Nat → Int32} (h : ∀ j, j < m → w j = w2 j ∧ y j = y2 j ∧ n j = n2 j) : z_ds w y n s m = z_ds w2 y2 n2 s m := by
  induction m with
  | zero => rfl
  | succ m ih =>
    show z_ds w y n s m + _ = z_ds w2 y2 n2 s m + _
    rw [ih fun j hj => h j (by omega), (h m (by omega)).1, (h m (by omega)).2.1, (h m (by omega)).2.2]
/-- a copy grows -/
theorem z_sitS {f0 f1 g : Nat → Int32} {cc : Nat} (hI : ∀ j, j < i.toInt.toNat → f0 j = g (cc + j)) (h0 : 0 ≤ i.toInt) (hi : i2.toInt = i.toInt + 1) (hu : f1 = upd f0 i.toNatClampNeg v) (hv : g x.toNatClampNeg = v) (hx : x.toNatClampNeg = cc + i.toInt.toNat) : ∀ j, j < i2.toInt.toNat → f1 j = g (cc + j) := fun j hj => by
  rw [hu]
  show (if j = i.toInt.toNat then v else f0 j) = _
  by_cases e : j = i.toInt.toNat
  · rw [if_pos e, e, ← hx]
    exact hv.symm
  · rw [if_neg e]
    exact hI j (by omega)
end ZVS
/-- the seats as sitDown leaves them -/
def z_sit (M0 M1 : zH) (a : Nat) : Prop := z_F M1 19 30 = some (.int (z_Ar M0 35 a)) ∧ ∀ j, j < (z_Ar M0 35 a).toInt.toNat → z_Ar M1 39 j = z_Ar M0 32 (9 * a + j) ∧ z_Ar M1 40 j = z_Ar M0 33 (9 * a + j) ∧ z_Ar M1 41 j = z_Ar M0 34 (9 * a + j)
theorem z_sit.nn {M0 M1 : zH} {a : Nat} (h : z_sit M0 M1 a) (hy : ∀ j, j < (z_Ar M0 35 a).toInt.toNat → 0 ≤ (z_Ar M0 33 (9 * a + j)).toInt ∧ 0 ≤ (z_Ar M0 34 (9 * a + j)).toInt) : ∀ j, j < (z_Ar M0 35 a).toInt.toNat → 0 ≤ (z_Ar M1 40 j).toInt ∧ 0 ≤ (z_Ar M1 41 j).toInt := fun j hj => by
  rw [(h.2 j hj).2.1, (h.2 j hj).2.2]
  exact hy j hj
theorem z_dsit {M0 M1 : zH} {a : Nat} {s x : Int32} (h : z_sit M0 M1 a) (hx : x = z_ds (z_Ar M1 39) (z_Ar M1 40) (z_Ar M1 41) s (z_Ar M0 35 a).toInt.toNat) : x = z_ds (fun j => z_Ar M0 32 (9 * a + j)) (fun j => z_Ar M0 33 (9 * a + j)) (fun j => z_Ar M0 34 (9 * a + j)) s (z_Ar M0 35 a).toInt.toNat := by
  rw [hx]
  exact z_dsC fun j hj => h.2 j hj
theorem z_R7.nn {T : List zK} {M : zH} (h7 : z_R7 T M) {A p jv : Int32} {b q t m : Nat} (hA : z_F M 4 3 = some (.int A)) (hp : 0 ≤ p.toInt ∧ p.toInt < A.toInt) (ob : z_O M 10 p.toNatClampNeg = some b) (kb : T[b]? = some (.inl (3, q, t, m, 9))) (hj : z_F M b 4 = some (.int jv)) : ∀ j, j < jv.toInt.toNat → 0 ≤ (z_Ar M (b + 2) j).toInt ∧ 0 ≤ (z_Ar M (b + 3) j).toInt := fun j hjj => by
  obtain ⟨b2, q2, t2, m2, g1, g2, J, w, yy, n, g3, g4, g5, g6⟩ := (h7.2 A hA).1 p.toNatClampNeg (z_pc hp)
  obtain rfl : b = b2 := Option.some.inj (ob.symm.trans g1)
  obtain ⟨⟨x, e1, e2⟩, g4⟩ := g4
  rw [z_ive hj e1] at hjj
  have hj' : j < J := by omega
  rw [(g4 j hj').2.1, (g4 j hj').2.2]
  exact ⟨(g6 j hj').1.1.1, (g6 j hj').1.2.1.1⟩
theorem z_R7.yn {T : List zK} {M : zH} (h7 : z_R7 T M) {A : Int32} (hA : z_F M 4 3 = some (.int A)) : ∀ a j : Nat, (a : Int) < A.toInt → j < (z_Ar M 35 a).toInt.toNat → 0 ≤ (z_Ar M 33 (9 * a + j)).toInt ∧ 0 ≤ (z_Ar M 34 (9 * a + j)).toInt := fun a j ha hj => by
  obtain ⟨b2, q2, t2, m2, g1, g2, J, w, yy, n, g3, g4, g5, g6⟩ := (h7.2 A hA).1 a ha
  have hj' : j < J := by have := g5.1; omega
  rw [(g5.2 j hj').2.1, (g5.2 j hj').2.2]
  exact ⟨(g6 j hj').1.1.1, (g6 j hj').1.2.1.1⟩
theorem zUB229 {T : List zK} {d : Nat} {K : Option Value → zH → Prop} {p1 : Int32} {zp0 : Int32} {M0 : zH} (u1 : 0 ≤ p1.toInt ∧ p1.toInt ≤ 7) (hz0 : z_F M0 19 29 = some (.int zp0)) (bz0 : 0 ≤ zp0.toInt ∧ zp0.toInt ≤ 7) (kk : ∀ (M1 : zH), z_X T zw229 M0 M1 → z_sit M0 M1 p1.toNatClampNeg → ∀ (w0 : Int32), z_F M1 19 29 = some (.int w0) → 0 ≤ w0.toInt ∧ w0.toInt ≤ 7 → w0.toInt = p1.toInt → K none M1) : ∀ n : Nat, (∀ (M : zH) (b2 : Int32) (z0 : Int32), z_X T zw229 M0 M → 0 ≤ b2.toInt ∧ b2.toInt ≤ 9 → z_F M 19 29 = some (.int z0) → 0 ≤ z0.toInt ∧ z0.toInt ≤ 7 → z0.toInt = p1.toInt → (∀ j, j < b2.toInt.toNat → z_Ar M 39 j = z_Ar M0 32 (9 * p1.toNatClampNeg + j)) → (∀ j, j < b2.toInt.toNat → z_Ar M 40 j = z_Ar M0 33 (9 * p1.toNatClampNeg + j)) → (∀ j, j < b2.toInt.toNat → z_Ar M 41 j = z_Ar M0 34 (9 * p1.toNatClampNeg + j)) → z_F M 19 30 = some (.int (z_Ar M0 35 p1.toNatClampNeg)) → ((0) * 2 + 0) * 10 + (9 - b2.toInt) < (n : Int) → z_ev d 229 17 [some (.ref 19), some (.int p1), some (.int b2)] [] M K) := by
  intro n
  induction n with
  | zero => exact by intros; exfalso; omega
  | succ n ih =>
    intro M b2 z0 X hh0 hp0 hh2 hh3 hI0 hI1 hI2 hS hE
    refine z_xP zt229 8 19 [some (.ref 19), some (.int p1), some (.int b2)] [.ref 19, .int b2] rfl rfl ?_
    have f19 : T[19]? = some (.inl (12, 0, 0, 0, 0)) := X.1.k rfl (by decide)
    refine z_xgI zt229 9 rfl zo229 zzf12_245 X f19 (by decide) (by decide) rfl (fun (x2 : Int32) h1 (h3 : 0 ≤ x2.toInt) (h4 : x2.toInt ≤ 9) => ?_)
    refine z_xJ zt229 10 rfl rfl (fun (h5 : x2.toInt ≤ b2.toInt) => ?_) (fun (h5 : b2.toInt < x2.toInt) => ?_)
    · skip
      have ez6 := congrArg Int32.toInt (z_ive h1 hS)
      exact z_xrv zt229 43 rfl zzr229 (kk M X ⟨hS, fun j hj => ⟨hI0 j (by omega), hI1 j (by omega), hI2 j (by omega)⟩⟩ z0 hp0 ⟨by omega, by omega⟩ (by omega))
    refine z_xP zt229 11 26 [some (.ref 19), some (.int p1), some (.int b2)] [.ref 19] rfl rfl ?_
    refine z_xgX (b := 39) zt229 12 rfl zo229 zzf12_67 X f19 (by decide) (by decide) rfl ?_
    refine z_xP zt229 13 31 [some (.ref 19), some (.int p1), some (.int b2)] [.ref 19, .int b2, .ref 39] rfl rfl ?_
    refine z_xgX (b := 32) zt229 14 rfl zo229 zzf12_46 X f19 (by decide) (by decide) rfl ?_
    refine z_xP zt229 15 37 [some (.ref 19), some (.int p1), some (.int b2)] [.int p1, .int 9, .ref 32, .int b2, .ref 39] rfl rfl ?_
    refine z_xI zt229 16 rfl rfl (fun (x7 : Int32) (h8 : x7.toInt = 9 * p1.toInt) => ?_) (z_pMul rfl rfl (by omega) (by omega))
    refine z_xP zt229 17 39 [some (.ref 19), some (.int p1), some (.int b2)] [.int b2, .int x7, .ref 32, .int b2, .ref 39] rfl rfl ?_
    refine z_xI zt229 18 rfl rfl (fun (x9 : Int32) (h10 : x9.toInt = x7.toInt + b2.toInt) => ?_) (z_pAdd rfl rfl (by omega) (by omega))
    have f32 : T[32]? = some (.inr (32, 0, 72, (-2147483648), 2147483647)) := X.1.k rfl (by decide)
    refine z_xil zt229 19 rfl X f32 (by decide) (by omega) (by omega) (fun (x11 : Int32) h12 (h13 : (-2147483648) ≤ x11.toInt) (h14 : x11.toInt ≤ 2147483647) => ?_)
    have f39 : T[39]? = some (.inr (39, 0, 9, (-2147483648), 2147483647)) := X.1.k rfl (by decide)
    refine z_xis zt229 20 rfl X f39 (by decide) (by decide) (by omega) (by omega) (Int32.le_toInt _) (Int32.toInt_le _) (by decide) (fun M15 X16 e17 h18 => ?_)
    refine z_xP zt229 21 43 [some (.ref 19), some (.int p1), some (.int b2)] [.ref 19] rfl rfl ?_
    refine z_xgX (b := 40) zt229 22 rfl zo229 zzf12_70 X16 f19 (by decide) (by decide) rfl ?_
    refine z_xP zt229 23 48 [some (.ref 19), some (.int p1), some (.int b2)] [.ref 19, .int b2, .ref 40] rfl rfl ?_
    refine z_xgX (b := 33) zt229 24 rfl zo229 zzf12_49 X16 f19 (by decide) (by decide) rfl ?_
    refine z_xP zt229 25 54 [some (.ref 19), some (.int p1), some (.int b2)] [.int p1, .int 9, .ref 33, .int b2, .ref 40] rfl rfl ?_
    refine z_xI zt229 26 rfl rfl (fun (x19 : Int32) (h20 : x19.toInt = 9 * p1.toInt) => ?_) (z_pMul rfl rfl (by omega) (by omega))
    refine z_xP zt229 27 56 [some (.ref 19), some (.int p1), some (.int b2)] [.int b2, .int x19, .ref 33, .int b2, .ref 40] rfl rfl ?_
    refine z_xI zt229 28 rfl rfl (fun (x21 : Int32) (h22 : x21.toInt = x19.toInt + b2.toInt) => ?_) (z_pAdd rfl rfl (by omega) (by omega))
    have f33 : T[33]? = some (.inr (33, 0, 72, (-2147483648), 2147483647)) := X16.1.k rfl (by decide)
    refine z_xil zt229 29 rfl X16 f33 (by decide) (by omega) (by omega) (fun (x23 : Int32) h24 (h25 : (-2147483648) ≤ x23.toInt) (h26 : x23.toInt ≤ 2147483647) => ?_)
    have f40 : T[40]? = some (.inr (40, 0, 9, (-2147483648), 2147483647)) := X16.1.k rfl (by decide)
    refine z_xis zt229 30 rfl X16 f40 (by decide) (by decide) (by omega) (by omega) (Int32.le_toInt _) (Int32.toInt_le _) (by decide) (fun M27 X28 e29 h30 => ?_)
    refine z_xP zt229 31 60 [some (.ref 19), some (.int p1), some (.int b2)] [.ref 19] rfl rfl ?_
    refine z_xgX (b := 41) zt229 32 rfl zo229 zzf12_73 X28 f19 (by decide) (by decide) rfl ?_
    refine z_xP zt229 33 65 [some (.ref 19), some (.int p1), some (.int b2)] [.ref 19, .int b2, .ref 41] rfl rfl ?_
    refine z_xgX (b := 34) zt229 34 rfl zo229 zzf12_52 X28 f19 (by decide) (by decide) rfl ?_
    refine z_xP zt229 35 71 [some (.ref 19), some (.int p1), some (.int b2)] [.int p1, .int 9, .ref 34, .int b2, .ref 41] rfl rfl ?_
    refine z_xI zt229 36 rfl rfl (fun (x31 : Int32) (h32 : x31.toInt = 9 * p1.toInt) => ?_) (z_pMul rfl rfl (by omega) (by omega))
    refine z_xP zt229 37 73 [some (.ref 19), some (.int p1), some (.int b2)] [.int b2, .int x31, .ref 34, .int b2, .ref 41] rfl rfl ?_
    refine z_xI zt229 38 rfl rfl (fun (x33 : Int32) (h34 : x33.toInt = x31.toInt + b2.toInt) => ?_) (z_pAdd rfl rfl (by omega) (by omega))
    have f34 : T[34]? = some (.inr (34, 0, 72, (-2147483648), 2147483647)) := X28.1.k rfl (by decide)
    refine z_xil zt229 39 rfl X28 f34 (by decide) (by omega) (by omega) (fun (x35 : Int32) h36 (h37 : (-2147483648) ≤ x35.toInt) (h38 : x35.toInt ≤ 2147483647) => ?_)
    have f41 : T[41]? = some (.inr (41, 0, 9, (-2147483648), 2147483647)) := X28.1.k rfl (by decide)
    refine z_xis zt229 40 rfl X28 f41 (by decide) (by decide) (by omega) (by omega) (Int32.le_toInt _) (Int32.toInt_le _) (by decide) (fun M39 X40 e41 h42 => ?_)
    refine z_xN zt229 41 rfl rfl (fun (x43 : Int32) (h44 : x43.toInt = b2.toInt + 1) => ?_) (z_pAdd rfl rfl (by omega) (by omega))
    show z_ev d 229 79 [some (.ref 19), some (.int p1), some (.int x43)] [] M39 _
    refine z_xP zt229 42 17 [some (.ref 19), some (.int p1), some (.int x43)] [] rfl rfl ?_
    have h45 := (e41.f f19 (by decide) (e29.f f19 (by decide) (e17.f f19 (by decide) hp0)))
    exact ih M39 x43 z0 X40 ⟨by omega, by omega⟩ h45 ⟨by omega, by omega⟩ (by omega) (z_sitS hI0 (by omega) (by omega) ((e41.a f39 (by decide)).trans ((e29.a f39 (by decide)).trans (h18.trans (congrArg (fun f => upd f b2.toNatClampNeg x11) rfl)))) ((congrFun (X.2.a f32 (by decide)) _).symm.trans h12) (by unfold Int32.toNatClampNeg; omega)) (z_sitS hI1 (by omega) (by omega) ((e41.a f40 (by decide)).trans (h30.trans (congrArg (fun f => upd f b2.toNatClampNeg x23) ((e17.a f40 (by decide)).trans rfl)))) ((congrFun (X.2.a f33 (by decide)) _).symm.trans ((congrFun (e17.a f33 (by decide)) _).symm.trans h24)) (by unfold Int32.toNatClampNeg; omega)) (z_sitS hI2 (by omega) (by omega) (h42.trans (congrArg (fun f => upd f b2.toNatClampNeg x35) ((e29.a f41 (by decide)).trans ((e17.a f41 (by decide)).trans rfl)))) ((congrFun (X.2.a f34 (by decide)) _).symm.trans ((congrFun (e17.a f34 (by decide)) _).symm.trans ((congrFun (e29.a f34 (by decide)) _).symm.trans h36))) (by unfold Int32.toNatClampNeg; omega)) (e41.f f19 (by decide) (e29.f f19 (by decide) (e17.f f19 (by decide) hS))) (by omega)
theorem zUC229 {T : List zK} {d : Nat} {K : Option Value → zH → Prop} {p1 : Int32} {zp0 : Int32} {M0 : zH} (hW : z_W M0 T) (u1 : 0 ≤ p1.toInt ∧ p1.toInt ≤ 7) (hz0 : z_F M0 19 29 = some (.int zp0)) (bz0 : 0 ≤ zp0.toInt ∧ zp0.toInt ≤ 7) (kk : ∀ (M1 : zH), z_X T zw229 M0 M1 → z_sit M0 M1 p1.toNatClampNeg → ∀ (w0 : Int32), z_F M1 19 29 = some (.int w0) → 0 ≤ w0.toInt ∧ w0.toInt ≤ 7 → w0.toInt = p1.toInt → K none M1) : z_ev d 229 0 [some (.ref 19), some (.int p1), none] [] M0 K := by
  have X : z_X T zw229 M0 M0 := .refl hW
  refine z_xP zt229 0 2 [some (.ref 19), some (.int p1), none] [.int p1, .ref 19] rfl rfl ?_
  have f19 : T[19]? = some (.inl (12, 0, 0, 0, 0)) := X.1.k rfl (by decide)
  refine z_xpf zt229 1 rfl zo229 zzf12_242 X f19 (by decide) (by decide) ⟨by omega, by omega⟩ rfl (by decide) zw12_29 (fun M1 X2 e3 h4 => ?_)
  refine z_xP zt229 2 7 [some (.ref 19), some (.int p1), none] [.ref 19, .ref 19] rfl rfl ?_
  refine z_xgX (b := 35) zt229 3 rfl zo229 zzf12_55 X2 f19 (by decide) (by decide) rfl ?_
  refine z_xP zt229 4 11 [some (.ref 19), some (.int p1), none] [.int p1, .ref 35, .ref 19] rfl rfl ?_
  have f35 : T[35]? = some (.inr (35, 0, 8, 0, 9)) := X2.1.k rfl (by decide)
  refine z_xil zt229 5 rfl X2 f35 (by decide) (by omega) (by omega) (fun (x5 : Int32) h6 (h7 : 0 ≤ x5.toInt) (h8 : x5.toInt ≤ 9) => ?_)
  refine z_xpf zt229 6 rfl zo229 zzf12_245 X2 f19 (by decide) (by decide) ⟨by omega, by omega⟩ rfl (by decide) zw12_30 (fun M9 X10 e11 h12 => ?_)
  refine z_xP zt229 7 17 [some (.ref 19), some (.int p1), some (.int 0)] [] rfl rfl ?_
  have h13 := (e11.f f19 (by decide) h4)
  have q0 : ((0 : Int32)).toInt = 0 := rfl
  exact (zUB229 u1 hz0 bz0 kk 20) M9 (0) p1 X10 (by decide) h13 ⟨by omega, by omega⟩ (by omega) (fun j hj => absurd hj (Nat.not_lt_zero j)) (fun j hj => absurd hj (Nat.not_lt_zero j)) (fun j hj => absurd hj (Nat.not_lt_zero j)) (by rw [((congrFun (e3.a f35 (by decide)) _).symm.trans h6)]; exact h12) (by omega)
theorem zUB230 {T : List zK} {d : Nat} {K : Option Value → zH → Prop} {p1 : Int32} {p2 : Int32} {sv : Int32} {M0 : zH} (u2 : 0 ≤ p2.toInt ∧ p2.toInt ≤ 1) (hs : z_F M0 19 30 = some (.int sv)) (hsv : 0 ≤ sv.toInt ∧ sv.toInt ≤ 9) (kk : ∀ (x : Int32) (M1 : zH), z_X T zw230 M0 M1 → x = z_vs (if p2.toInt = 0 then z_Ar M0 40 else z_Ar M0 41) (z_Ar M0 39) p1 sv.toInt.toNat → K (some (.int x)) M1) : ∀ n : Nat, (∀ (M : zH) (b3 : Int32) (b4 : Int32), z_X T zw230 M0 M → 0 ≤ b4.toInt ∧ b4.toInt ≤ 9 → b3 = z_vs (if p2.toInt = 0 then z_Ar M0 40 else z_Ar M0 41) (z_Ar M0 39) p1 b4.toInt.toNat → b4.toInt ≤ sv.toInt → ((0) * 2 + 0) * 10 + (9 - b4.toInt) < (n : Int) → z_ev d 230 5 [some (.ref 19), some (.int p1), some (.int p2), some (.int b3), some (.int b4)] [] M K) := by
  intro n
  induction n with
  | zero => exact by intros; exfalso; omega
  | succ n ih =>
    intro M b3 b4 X hh0 hI hJ hE
    refine z_xP zt230 1 8 [some (.ref 19), some (.int p1), some (.int p2), some (.int b3), some (.int b4)] [.ref 19, .int b4] rfl rfl ?_
    have f19 : T[19]? = some (.inl (12, 0, 0, 0, 0)) := X.1.k rfl (by decide)
    refine z_xgI zt230 2 rfl zo230 zzf12_245 X f19 (by decide) (by decide) rfl (fun (x2 : Int32) h1 (h3 : 0 ≤ x2.toInt) (h4 : x2.toInt ≤ 9) => ?_)
    refine z_xJ zt230 3 rfl rfl (fun (h5 : x2.toInt ≤ b4.toInt) => ?_) (fun (h5 : b4.toInt < x2.toInt) => ?_)
    · skip
      refine z_xP zt230 31 64 [some (.ref 19), some (.int p1), some (.int p2), some (.int b3), some (.int b4)] [.int b3] rfl rfl ?_
      have ej6 := congrArg Int32.toInt (z_ive h1 (X.2.f f19 (by decide) hs))
      have i7 : b4.toInt.toNat = sv.toInt.toNat := by omega
      exact z_xri zt230 32 rfl zzr230 (kk b3 M X (by rw [← i7]; exact hI))
    refine z_xP zt230 4 16 [some (.ref 19), some (.int p1), some (.int p2), some (.int b3), some (.int b4)] [.int p2, .int b3] rfl rfl ?_
    refine z_xZ zt230 5 rfl rfl (fun (h8 : p2.toInt ≠ 0) => ?_) (fun (h8 : p2.toInt = 0) => ?_)
    · skip
      refine z_xP zt230 11 30 [some (.ref 19), some (.int p1), some (.int p2), some (.int b3), some (.int b4)] [.ref 19, .int b3] rfl rfl ?_
      refine z_xgX (b := 41) zt230 12 rfl zo230 zzf12_73 X f19 (by decide) (by decide) rfl ?_
      refine z_xP zt230 13 35 [some (.ref 19), some (.int p1), some (.int p2), some (.int b3), some (.int b4)] [.int b4, .ref 41, .int b3] rfl rfl ?_
      have f41 : T[41]? = some (.inr (41, 0, 9, (-2147483648), 2147483647)) := X.1.k rfl (by decide)
      refine z_xil zt230 14 rfl X f41 (by decide) (by omega) (by omega) (fun (x9 : Int32) h10 (h11 : (-2147483648) ≤ x9.toInt) (h12 : x9.toInt ≤ 2147483647) => ?_)
      refine z_xP zt230 15 37 [some (.ref 19), some (.int p1), some (.int p2), some (.int b3), some (.int b4)] [.int p1, .int x9, .int b3] rfl rfl ?_
      have h13 := z_b32 x9
      have h14 := z_b32 p1
      refine z_xI zt230 16 rfl rfl (fun (x15 : Int32) (h16 : x15 = x9 >>> (p1 &&& 31)) => ?_) (rfl)
      refine z_xP zt230 17 39 [some (.ref 19), some (.int p1), some (.int p2), some (.int b3), some (.int b4)] [.int 1, .int x15, .int b3] rfl rfl ?_
      refine z_xI zt230 18 rfl rfl (fun (x17 : Int32) (h18 : x17 = x15 &&& (1 : Int32) ∧ 0 ≤ x17.toInt ∧ x17.toInt ≤ 1) => ?_) (⟨rfl, z_pAnd rfl (by omega)⟩)
      refine z_xP zt230 19 41 [some (.ref 19), some (.int p1), some (.int p2), some (.int b3), some (.int b4)] [.int 1, .int x17, .int b3] rfl rfl ?_
      refine z_xJ zt230 20 rfl rfl (fun (h19 : x17.toInt ≠ 1) => ?_) (fun (h19 : x17.toInt = 1) => ?_)
      · skip
        refine z_xP zt230 26 55 [some (.ref 19), some (.int p1), some (.int p2), some (.int b3), some (.int b4)] [.int 0, .int b3] rfl rfl ?_
        have h20 := z_b32 b3
        refine z_xI zt230 27 rfl rfl (fun (x21 : Int32) (h22 : x21 = b3 + (0 : Int32)) => ?_) (rfl)
        refine z_xP zt230 28 57 [some (.ref 19), some (.int p1), some (.int p2), some (.int x21), some (.int b4)] [] rfl rfl ?_
        refine z_xN zt230 29 rfl rfl (fun (x23 : Int32) (h24 : x23.toInt = b4.toInt + 1) => ?_) (z_pAdd rfl rfl (by omega) (by omega))
        show z_ev d 230 60 [some (.ref 19), some (.int p1), some (.int p2), some (.int x21), some (.int x23)] [] M _
        refine z_xP zt230 30 5 [some (.ref 19), some (.int p1), some (.int p2), some (.int x21), some (.int x23)] [] rfl rfl ?_
        have ex25 : (if p2.toInt = 0 then z_Ar M0 40 else z_Ar M0 41) b4.toNatClampNeg = x9 := by rw [if_neg (by omega)]; exact ((congrFun (X.2.a f41 (by decide)) _).symm.trans h10)
        have ej26 := congrArg Int32.toInt (z_ive h1 (X.2.f f19 (by decide) hs))
        exact ih M x21 x23 X ⟨by omega, by omega⟩ (z_vsB hI (by omega) (by omega) ex25 h16 h18.1 (by omega) (by omega) h22) (by omega) (by omega)
      refine z_xP zt230 21 45 [some (.ref 19), some (.int p1), some (.int p2), some (.int b3), some (.int b4)] [.ref 19, .int b3] rfl rfl ?_
      refine z_xgX (b := 39) zt230 22 rfl zo230 zzf12_67 X f19 (by decide) (by decide) rfl ?_
      refine z_xP zt230 23 50 [some (.ref 19), some (.int p1), some (.int p2), some (.int b3), some (.int b4)] [.int b4, .ref 39, .int b3] rfl rfl ?_
      have f39 : T[39]? = some (.inr (39, 0, 9, (-2147483648), 2147483647)) := X.1.k rfl (by decide)
      refine z_xil zt230 24 rfl X f39 (by decide) (by omega) (by omega) (fun (x27 : Int32) h28 (h29 : (-2147483648) ≤ x27.toInt) (h30 : x27.toInt ≤ 2147483647) => ?_)
      refine z_xP zt230 25 55 [some (.ref 19), some (.int p1), some (.int p2), some (.int b3), some (.int b4)] [.int x27, .int b3] rfl rfl ?_
      have h31 := z_b32 b3
      have h32 := z_b32 x27
      refine z_xI zt230 27 rfl rfl (fun (x33 : Int32) (h34 : x33 = b3 + x27) => ?_) (rfl)
      refine z_xP zt230 28 57 [some (.ref 19), some (.int p1), some (.int p2), some (.int x33), some (.int b4)] [] rfl rfl ?_
      refine z_xN zt230 29 rfl rfl (fun (x35 : Int32) (h36 : x35.toInt = b4.toInt + 1) => ?_) (z_pAdd rfl rfl (by omega) (by omega))
      show z_ev d 230 60 [some (.ref 19), some (.int p1), some (.int p2), some (.int x33), some (.int x35)] [] M _
      refine z_xP zt230 30 5 [some (.ref 19), some (.int p1), some (.int p2), some (.int x33), some (.int x35)] [] rfl rfl ?_
      have ex37 : (if p2.toInt = 0 then z_Ar M0 40 else z_Ar M0 41) b4.toNatClampNeg = x9 := by rw [if_neg (by omega)]; exact ((congrFun (X.2.a f41 (by decide)) _).symm.trans h10)
      have ej38 := congrArg Int32.toInt (z_ive h1 (X.2.f f19 (by decide) hs))
      exact ih M x33 x35 X ⟨by omega, by omega⟩ (z_vsA hI (by omega) (by omega) ex37 ((congrFun (X.2.a f39 (by decide)) _).symm.trans h28) h16 h18.1 (by omega) h34) (by omega) (by omega)
    refine z_xP zt230 6 20 [some (.ref 19), some (.int p1), some (.int p2), some (.int b3), some (.int b4)] [.ref 19, .int b3] rfl rfl ?_
    refine z_xgX (b := 40) zt230 7 rfl zo230 zzf12_70 X f19 (by decide) (by decide) rfl ?_
    refine z_xP zt230 8 25 [some (.ref 19), some (.int p1), some (.int p2), some (.int b3), some (.int b4)] [.int b4, .ref 40, .int b3] rfl rfl ?_
    have f40 : T[40]? = some (.inr (40, 0, 9, (-2147483648), 2147483647)) := X.1.k rfl (by decide)
    refine z_xil zt230 9 rfl X f40 (by decide) (by omega) (by omega) (fun (x39 : Int32) h40 (h41 : (-2147483648) ≤ x39.toInt) (h42 : x39.toInt ≤ 2147483647) => ?_)
    refine z_xP zt230 10 36 [some (.ref 19), some (.int p1), some (.int p2), some (.int b3), some (.int b4)] [.int x39, .int b3] rfl rfl ?_
    refine z_xP zt230 15 37 [some (.ref 19), some (.int p1), some (.int p2), some (.int b3), some (.int b4)] [.int p1, .int x39, .int b3] rfl rfl ?_
    have h43 := z_b32 x39
    have h44 := z_b32 p1
    refine z_xI zt230 16 rfl rfl (fun (x45 : Int32) (h46 : x45 = x39 >>> (p1 &&& 31)) => ?_) (rfl)
    refine z_xP zt230 17 39 [some (.ref 19), some (.int p1), some (.int p2), some (.int b3), some (.int b4)] [.int 1, .int x45, .int b3] rfl rfl ?_
    refine z_xI zt230 18 rfl rfl (fun (x47 : Int32) (h48 : x47 = x45 &&& (1 : Int32) ∧ 0 ≤ x47.toInt ∧ x47.toInt ≤ 1) => ?_) (⟨rfl, z_pAnd rfl (by omega)⟩)
    refine z_xP zt230 19 41 [some (.ref 19), some (.int p1), some (.int p2), some (.int b3), some (.int b4)] [.int 1, .int x47, .int b3] rfl rfl ?_
    refine z_xJ zt230 20 rfl rfl (fun (h49 : x47.toInt ≠ 1) => ?_) (fun (h49 : x47.toInt = 1) => ?_)
    · skip
      refine z_xP zt230 26 55 [some (.ref 19), some (.int p1), some (.int p2), some (.int b3), some (.int b4)] [.int 0, .int b3] rfl rfl ?_
      have h50 := z_b32 b3
      refine z_xI zt230 27 rfl rfl (fun (x51 : Int32) (h52 : x51 = b3 + (0 : Int32)) => ?_) (rfl)
      refine z_xP zt230 28 57 [some (.ref 19), some (.int p1), some (.int p2), some (.int x51), some (.int b4)] [] rfl rfl ?_
      refine z_xN zt230 29 rfl rfl (fun (x53 : Int32) (h54 : x53.toInt = b4.toInt + 1) => ?_) (z_pAdd rfl rfl (by omega) (by omega))
      show z_ev d 230 60 [some (.ref 19), some (.int p1), some (.int p2), some (.int x51), some (.int x53)] [] M _
      refine z_xP zt230 30 5 [some (.ref 19), some (.int p1), some (.int p2), some (.int x51), some (.int x53)] [] rfl rfl ?_
      have ex55 : (if p2.toInt = 0 then z_Ar M0 40 else z_Ar M0 41) b4.toNatClampNeg = x39 := by rw [if_pos (by omega)]; exact ((congrFun (X.2.a f40 (by decide)) _).symm.trans h40)
      have ej56 := congrArg Int32.toInt (z_ive h1 (X.2.f f19 (by decide) hs))
      exact ih M x51 x53 X ⟨by omega, by omega⟩ (z_vsB hI (by omega) (by omega) ex55 h46 h48.1 (by omega) (by omega) h52) (by omega) (by omega)
    refine z_xP zt230 21 45 [some (.ref 19), some (.int p1), some (.int p2), some (.int b3), some (.int b4)] [.ref 19, .int b3] rfl rfl ?_
    refine z_xgX (b := 39) zt230 22 rfl zo230 zzf12_67 X f19 (by decide) (by decide) rfl ?_
    refine z_xP zt230 23 50 [some (.ref 19), some (.int p1), some (.int p2), some (.int b3), some (.int b4)] [.int b4, .ref 39, .int b3] rfl rfl ?_
    have f39 : T[39]? = some (.inr (39, 0, 9, (-2147483648), 2147483647)) := X.1.k rfl (by decide)
    refine z_xil zt230 24 rfl X f39 (by decide) (by omega) (by omega) (fun (x57 : Int32) h58 (h59 : (-2147483648) ≤ x57.toInt) (h60 : x57.toInt ≤ 2147483647) => ?_)
    refine z_xP zt230 25 55 [some (.ref 19), some (.int p1), some (.int p2), some (.int b3), some (.int b4)] [.int x57, .int b3] rfl rfl ?_
    have h61 := z_b32 b3
    have h62 := z_b32 x57
    refine z_xI zt230 27 rfl rfl (fun (x63 : Int32) (h64 : x63 = b3 + x57) => ?_) (rfl)
    refine z_xP zt230 28 57 [some (.ref 19), some (.int p1), some (.int p2), some (.int x63), some (.int b4)] [] rfl rfl ?_
    refine z_xN zt230 29 rfl rfl (fun (x65 : Int32) (h66 : x65.toInt = b4.toInt + 1) => ?_) (z_pAdd rfl rfl (by omega) (by omega))
    show z_ev d 230 60 [some (.ref 19), some (.int p1), some (.int p2), some (.int x63), some (.int x65)] [] M _
    refine z_xP zt230 30 5 [some (.ref 19), some (.int p1), some (.int p2), some (.int x63), some (.int x65)] [] rfl rfl ?_
    have ex67 : (if p2.toInt = 0 then z_Ar M0 40 else z_Ar M0 41) b4.toNatClampNeg = x39 := by rw [if_pos (by omega)]; exact ((congrFun (X.2.a f40 (by decide)) _).symm.trans h40)
    have ej68 := congrArg Int32.toInt (z_ive h1 (X.2.f f19 (by decide) hs))
    exact ih M x63 x65 X ⟨by omega, by omega⟩ (z_vsA hI (by omega) (by omega) ex67 ((congrFun (X.2.a f39 (by decide)) _).symm.trans h58) h46 h48.1 (by omega) h64) (by omega) (by omega)
theorem zUC230 {T : List zK} {d : Nat} {K : Option Value → zH → Prop} {p1 : Int32} {p2 : Int32} {sv : Int32} {M0 : zH} (hW : z_W M0 T) (u2 : 0 ≤ p2.toInt ∧ p2.toInt ≤ 1) (hs : z_F M0 19 30 = some (.int sv)) (hsv : 0 ≤ sv.toInt ∧ sv.toInt ≤ 9) (kk : ∀ (x : Int32) (M1 : zH), z_X T zw230 M0 M1 → x = z_vs (if p2.toInt = 0 then z_Ar M0 40 else z_Ar M0 41) (z_Ar M0 39) p1 sv.toInt.toNat → K (some (.int x)) M1) : z_ev d 230 0 [some (.ref 19), some (.int p1), some (.int p2), none, none] [] M0 K := by
  have X : z_X T zw230 M0 M0 := .refl hW
  refine z_xP zt230 0 5 [some (.ref 19), some (.int p1), some (.int p2), some (.int 0), some (.int 0)] [] rfl rfl ?_
  have q0 : ((0 : Int32)).toInt = 0 := rfl
  exact (zUB230 u2 hs hsv kk 20) M0 (0) (0) X (by decide) (z_vs0 rfl) (by omega) (by omega)
theorem zUB232 {T : List zK} {d : Nat} {K : Option Value → zH → Prop} {p1 : Int32} {sv : Int32} {M0 : zH} (u1 : (-1) ≤ p1.toInt ∧ p1.toInt ≤ 1023) (hs : z_F M0 19 30 = some (.int sv)) (hsv : 0 ≤ sv.toInt ∧ sv.toInt ≤ 9) (hnn : ∀ j, j < sv.toInt.toNat → 0 ≤ (z_Ar M0 40 j).toInt ∧ 0 ≤ (z_Ar M0 41 j).toInt) (kk : ∀ (x : Int32) (M1 : zH), z_X T zw232 M0 M1 → x = z_ds (z_Ar M0 39) (z_Ar M0 40) (z_Ar M0 41) p1 sv.toInt.toNat → K (some (.int x)) M1) : ∀ n : Nat, (∀ (M : zH) (b2 : Int32) (b3 : Int32), z_X T zw232 M0 M → 0 ≤ b3.toInt ∧ b3.toInt ≤ 9 → b2 = z_ds (z_Ar M0 39) (z_Ar M0 40) (z_Ar M0 41) p1 b3.toInt.toNat → b3.toInt ≤ sv.toInt → ((0) * 2 + 0) * 10 + (9 - b3.toInt) < (n : Int) → z_ev (d + 1) 232 4 [some (.ref 19), some (.int p1), some (.int b2), some (.int b3)] [] M K) := by
  intro n
  induction n with
  | zero => exact by intros; exfalso; omega
  | succ n ih =>
    intro M b2 b3 X hh0 hI hJ hE
    refine z_xP zt232 1 6 [some (.ref 19), some (.int p1), some (.int b2), some (.int b3)] [.ref 19, .int b3] rfl rfl ?_
    have f19 : T[19]? = some (.inl (12, 0, 0, 0, 0)) := X.1.k rfl (by decide)
    refine z_xgI zt232 2 rfl zo232 zzf12_245 X f19 (by decide) (by decide) rfl (fun (x2 : Int32) h1 (h3 : 0 ≤ x2.toInt) (h4 : x2.toInt ≤ 9) => ?_)
    refine z_xJ zt232 3 rfl rfl (fun (h5 : x2.toInt ≤ b3.toInt) => ?_) (fun (h5 : b3.toInt < x2.toInt) => ?_)
    · skip
      refine z_xP zt232 28 51 [some (.ref 19), some (.int p1), some (.int b2), some (.int b3)] [.int b2] rfl rfl ?_
      have ej6 := congrArg Int32.toInt (z_ive h1 (X.2.f f19 (by decide) hs))
      have i7 : b3.toInt.toNat = sv.toInt.toNat := by omega
      exact z_xri zt232 29 rfl zzr232 (kk b2 M X (by rw [← i7]; exact hI))
    refine z_xP zt232 4 14 [some (.ref 19), some (.int p1), some (.int b2), some (.int b3)] [.ref 19, .int b2] rfl rfl ?_
    refine z_xgX (b := 39) zt232 5 rfl zo232 zzf12_67 X f19 (by decide) (by decide) rfl ?_
    refine z_xP zt232 6 18 [some (.ref 19), some (.int p1), some (.int b2), some (.int b3)] [.int b3, .ref 39, .int b2] rfl rfl ?_
    have f39 : T[39]? = some (.inr (39, 0, 9, (-2147483648), 2147483647)) := X.1.k rfl (by decide)
    refine z_xil zt232 7 rfl X f39 (by decide) (by omega) (by omega) (fun (x8 : Int32) h9 (h10 : (-2147483648) ≤ x8.toInt) (h11 : x8.toInt ≤ 2147483647) => ?_)
    refine z_xP zt232 8 20 [some (.ref 19), some (.int p1), some (.int b2), some (.int b3)] [.ref 19, .int x8, .int b2] rfl rfl ?_
    refine z_xgX (b := 40) zt232 9 rfl zo232 zzf12_70 X f19 (by decide) (by decide) rfl ?_
    refine z_xP zt232 10 24 [some (.ref 19), some (.int p1), some (.int b2), some (.int b3)] [.int b3, .ref 40, .int x8, .int b2] rfl rfl ?_
    have f40 : T[40]? = some (.inr (40, 0, 9, (-2147483648), 2147483647)) := X.1.k rfl (by decide)
    refine z_xil zt232 11 rfl X f40 (by decide) (by omega) (by omega) (fun (x12 : Int32) h13 (h14 : (-2147483648) ≤ x12.toInt) (h15 : x12.toInt ≤ 2147483647) => ?_)
    have ej16 := congrArg Int32.toInt (z_ive h1 (X.2.f f19 (by decide) hs))
    have hn17 := hnn b3.toNatClampNeg (by unfold Int32.toNatClampNeg; omega)
    have h018 : 0 ≤ x12.toInt := by rw [← ((congrFun (X.2.a f40 (by decide)) _).symm.trans h13)]; exact hn17.1
    refine z_xP zt232 12 27 [some (.ref 19), some (.int p1), some (.int b2), some (.int b3)] [.int (-1), .int p1, .int x12, .int x8, .int b2] rfl rfl ?_
    refine z_xI zt232 13 rfl rfl (fun (x19 : Int32) (h20 : x19 = p1 ^^^ ((-1) : Int32)) => ?_) (rfl)
    refine z_xI zt232 14 rfl rfl (fun (x21 : Int32) (h22 : x21 = x12 &&& x19 ∧ 0 ≤ x21.toInt ∧ x21.toInt ≤ x12.toInt) => ?_) (⟨rfl, z_pAndL rfl (by omega)⟩)
    refine z_xP zt232 15 30 [some (.ref 19), some (.int p1), some (.int b2), some (.int b3)] [.ref 19, .int x21, .int x8, .int b2] rfl rfl ?_
    refine z_xgX (b := 41) zt232 16 rfl zo232 zzf12_73 X f19 (by decide) (by decide) rfl ?_
    refine z_xP zt232 17 34 [some (.ref 19), some (.int p1), some (.int b2), some (.int b3)] [.int b3, .ref 41, .int x21, .int x8, .int b2] rfl rfl ?_
    have f41 : T[41]? = some (.inr (41, 0, 9, (-2147483648), 2147483647)) := X.1.k rfl (by decide)
    refine z_xil zt232 18 rfl X f41 (by decide) (by omega) (by omega) (fun (x23 : Int32) h24 (h25 : (-2147483648) ≤ x23.toInt) (h26 : x23.toInt ≤ 2147483647) => ?_)
    have h027 : 0 ≤ x23.toInt := by rw [← ((congrFun (X.2.a f41 (by decide)) _).symm.trans h24)]; exact hn17.2
    refine z_xP zt232 19 36 [some (.ref 19), some (.int p1), some (.int b2), some (.int b3)] [.int p1, .int x23, .int x21, .int x8, .int b2] rfl rfl ?_
    refine z_xI zt232 20 rfl rfl (fun (x28 : Int32) (h29 : x28 = x23 &&& p1 ∧ 0 ≤ x28.toInt ∧ x28.toInt ≤ x23.toInt) => ?_) (⟨rfl, z_pAndL rfl (by omega)⟩)
    refine z_xI zt232 21 rfl rfl (fun (x30 : Int32) (h31 : x30 = x21 ||| x28 ∧ 0 ≤ x30.toInt ∧ x30.toInt < 2147483648 ∧ x21.toInt ≤ x30.toInt ∧ x28.toInt ≤ x30.toInt) => ?_) (⟨rfl, z_pOr 31 rfl rfl (by omega) (by omega) (by decide) (by omega) (by omega) (by decide)⟩)
    refine z_xcS (vs := [.int x30]) (r := [.int x8, .int b2]) (L2 := [some (.int x30), none, none]) zt232 22 rfl zo232 zzcS12_193 (Or.inl rfl) (Nat.le_of_ble_eq_true rfl) rfl rfl (Nat.le_of_ble_eq_true rfl) zzm207 (Nat.le_of_ble_eq_true rfl) rfl ?_
    refine zUC207 X.1 (by omega) (fun x35 M32 X33 h34 => ?_)
    have X36 := X.go X33 (z_sb (by decide))
    show z_ev (d + 1) 232 41 [some (.ref 19), some (.int p1), some (.int b2), some (.int b3)] [.int x35, .int x8, .int b2] M32 _
    have h38 := z_b32 x8
    have h39 := z_b32 x35
    refine z_xI zt232 23 rfl rfl (fun (x40 : Int32) (h41 : x40 = x8 * x35) => ?_) (rfl)
    have h42 := z_b32 b2
    have h43 := z_b32 x40
    refine z_xI zt232 24 rfl rfl (fun (x44 : Int32) (h45 : x44 = b2 + x40) => ?_) (rfl)
    refine z_xP zt232 25 44 [some (.ref 19), some (.int p1), some (.int x44), some (.int b3)] [] rfl rfl ?_
    refine z_xN zt232 26 rfl rfl (fun (x46 : Int32) (h47 : x46.toInt = b3.toInt + 1) => ?_) (z_pAdd rfl rfl (by omega) (by omega))
    show z_ev (d + 1) 232 47 [some (.ref 19), some (.int p1), some (.int x44), some (.int x46)] [] M32 _
    refine z_xP zt232 27 4 [some (.ref 19), some (.int p1), some (.int x44), some (.int x46)] [] rfl rfl ?_
    have h48 := (X33.2.f f19 (by decide) h1)
    have ej49 := congrArg Int32.toInt (z_ive h48 (X36.2.f f19 (by decide) hs))
    exact ih M32 x44 x46 X36 ⟨by omega, by omega⟩ (z_dsS hI (by omega) (by omega) ((congrFun (X.2.a f39 (by decide)) _).symm.trans h9) ((congrFun (X.2.a f40 (by decide)) _).symm.trans h13) ((congrFun (X.2.a f41 (by decide)) _).symm.trans h24) h20 h22.1 h29.1 h31.1 (z_cc31 (by omega) h34) h41 h45) (by omega) (by omega)
theorem zUC232 {T : List zK} {d : Nat} {K : Option Value → zH → Prop} {p1 : Int32} {sv : Int32} {M0 : zH} (hW : z_W M0 T) (u1 : (-1) ≤ p1.toInt ∧ p1.toInt ≤ 1023) (hs : z_F M0 19 30 = some (.int sv)) (hsv : 0 ≤ sv.toInt ∧ sv.toInt ≤ 9) (hnn : ∀ j, j < sv.toInt.toNat → 0 ≤ (z_Ar M0 40 j).toInt ∧ 0 ≤ (z_Ar M0 41 j).toInt) (kk : ∀ (x : Int32) (M1 : zH), z_X T zw232 M0 M1 → x = z_ds (z_Ar M0 39) (z_Ar M0 40) (z_Ar M0 41) p1 sv.toInt.toNat → K (some (.int x)) M1) : z_ev (d + 1) 232 0 [some (.ref 19), some (.int p1), none, none] [] M0 K := by
  have X : z_X T zw232 M0 M0 := .refl hW
  refine z_xP zt232 0 4 [some (.ref 19), some (.int p1), some (.int 0), some (.int 0)] [] rfl rfl ?_
  have q0 : ((0 : Int32)).toInt = 0 := rfl
  exact (zUB232 u1 hs hsv hnn kk 20) M0 (0) (0) X (by decide) (z_ds0 rfl) (by omega) (by omega)
