/-! heads of the reference, told -/
theorem z_iv9 {o : Option Value} {a b : Int32} (h : o = some (.int a)) (h2 : o = some (.int b)) : a = b := by
  rw [h] at h2
  cases h2
  rfl
def z_hdR (F G x : Int) : Prop := (x = 1 ∧ G < F) ∨ (x = 0 ∧ F < G) ∨ (x = -1 ∧ F = G)
theorem z_hdE {F G F2 G2 x : Int} (hF : F2 = F) (hG : G2 = G) (h : (x = 1 ∧ G2 < F2) ∨ (x = 0 ∧ F2 < G2) ∨ (x = -1 ∧ F2 = G2)) : z_hdR F G x := by
  rw [hF, hG] at h
  exact h
def z_hdP (s : Nat) (G F : Nat → Int) (k : Nat) : Prop := s / 2 ^ k % 2 = 1 ∧ G k < F k
theorem z_b01h {x : Int32} {v : Nat} (h : x.toInt = ((v % 2 : Nat) : Int)) : x.toInt = 1 ↔ v % 2 = 1 := by omega
theorem z_vsK {f w : Nat → Int32} {k : Int32} {n : Nat} (h : 0 ≤ k.toInt) : z_vs f w k n = z_vs f w (Int32.ofNat k.toInt.toNat) n := by
  rw [← z_ofI h rfl]
/-- a word below 1024 whose bits below x tell P -/
def z_wy (P : Nat → Prop) (x : Nat) (w : Int) : Prop := (0 ≤ w ∧ w < 1024) ∧ ∀ k : Nat, k < 10 → (w.toNat / 2 ^ k % 2 = 1 ↔ k < x ∧ P k)
theorem z_1sH : ∀ x, x < 10 → ∀ i, i < 32 → ((1 : Int32) <<< ((Int32.ofNat x) &&& 31)).toBitVec.getLsbD i = decide (i = x) := by decide +kernel
section ZWY
variable {P : Nat → Prop} {x : Nat} {v c e x6 : Int32}
theorem z_wy0 {x0 w0 : Int32} (hx : x0.toInt = 0) (hw : w0.toInt = 0) : z_wy P x0.toInt.toNat w0.toInt := by
  rw [hx, hw]
  refine ⟨⟨by decide, by decide⟩, fun k hk => ⟨fun h => ?_, fun h => absurd h.1 (Nat.not_lt_zero k)⟩⟩
  rw [show ((0 : Int).toNat) = 0 from rfl, Nat.zero_div] at h
  exact absurd h (by decide)
theorem z_wyN {w : Int} (h : z_wy P x w) (hP : ¬ P x) : z_wy P (x + 1) w := by
  obtain ⟨h1, h2⟩ := h
  refine ⟨h1, fun k hk => ?_⟩
  rw [h2 k hk]
  refine ⟨fun a => ⟨by omega, a.2⟩, fun ⟨a1, a2⟩ => ?_⟩
  by_cases d : k = x
  · rw [d] at a2
    exact absurd a2 hP
  · exact ⟨by omega, a2⟩
theorem z_wyZ (h : z_wy P x v.toInt) (he : e = v ||| 0) (hP : ¬ P x) : z_wy P (x + 1) e.toInt := by
  rw [he, Int32.or_zero]
  exact z_wyN h hP
theorem z_wyP (h : z_wy P x v.toInt) (hx : x < 10) (hP : P x) (h6 : x6.toInt = (x : Int)) (hc : c = (1 : Int32) <<< (x6 &&& 31)) (he : e = v ||| c) : z_wy P (x + 1) e.toInt := by
  obtain ⟨h1, h2⟩ := h
  have e6 : x6 = Int32.ofNat x := z_ofI (by omega) (by omega)
  have hb : ∀ i, i < 32 → e.toBitVec.getLsbD i = (v.toBitVec.getLsbD i || decide (i = x)) := fun i hi => by
    rw [he, Int32.toBitVec_or, BitVec.getLsbD_or, hc, e6, z_1sH x hx i hi]
  have hv := z_nn h1.1
  have h3 : e.toBitVec.toNat < 2 ^ 10 := by
    refine Nat.lt_pow_two_of_testBit _ fun i hi => ?_
    by_cases c : i < 32
    · have h4 := hb i c
      have h5 : v.toBitVec.getLsbD i = false := Nat.testBit_lt_two_pow (Nat.lt_of_lt_of_le (show v.toBitVec.toNat < 2 ^ 10 by omega) (Nat.pow_le_pow_right (by decide) hi))
      rw [h5, decide_eq_false (by omega)] at h4
      exact h4
    · exact Nat.testBit_lt_two_pow (Nat.lt_of_lt_of_le e.toBitVec.isLt (Nat.pow_le_pow_right (by decide) (by omega)))
  have h4 : e.toInt = (e.toBitVec.toNat : Int) := BitVec.toInt_eq_toNat_of_lt (by omega)
  refine ⟨⟨by omega, by omega⟩, fun k hk => ?_⟩
  rw [← z_bt32 (x := e) (by omega) k, hb k (by omega), Bool.or_eq_true, z_bt32 h1.1, h2 k hk, decide_eq_true_eq]
  refine ⟨fun a => ?_, fun ⟨a1, a2⟩ => ?_⟩
  · rcases a with a | a
    · exact ⟨by omega, a.2⟩
    · rw [a]
      exact ⟨Nat.lt_succ_self x, hP⟩
  · by_cases d : k = x
    · exact Or.inr d
    · exact Or.inl ⟨by omega, a2⟩
end ZWY
def zw242 : List Nat := []
theorem zUC242 {T : List zK} {d : Nat} {K : Option Value → zH → Prop} {p1 : Int32} {sv : Int32} {M0 : zH} (hW : z_W M0 T) (hs : z_F M0 19 30 = some (.int sv)) (hsv : 0 ≤ sv.toInt ∧ sv.toInt ≤ 9) (kk : ∀ (x : Int32) (M1 : zH), z_X T zw242 M0 M1 → (-1) ≤ x.toInt → x.toInt ≤ 1 → z_hdR (z_vs (z_Ar M0 40) (z_Ar M0 39) p1 sv.toInt.toNat).toInt (z_vs (z_Ar M0 41) (z_Ar M0 39) p1 sv.toInt.toNat).toInt x.toInt → K (some (.int x)) M1) : z_ev (d + 1) 242 0 [some (.ref 19), some (.int p1), none, none] [] M0 K := by
  have X : z_X T zw242 M0 M0 := .refl hW
  refine z_xP zt242 0 3 [some (.ref 19), some (.int p1), none, none] [.int 0, .int p1, .ref 19] rfl rfl ?_
  have f19 : T[19]? = some (.inl (12, 0, 0, 0, 0)) := X.1.k rfl (by decide)
  refine z_xcV (vs := [.ref 19, .int p1, .int 0]) (r := []) (L2 := [some (.ref 19), some (.int p1), some (.int 0), none, none]) zt242 1 rfl zo242 zzcV12_251 (Or.inl rfl) rfl X f19 rfl rfl rfl (Nat.le_of_ble_eq_true rfl) zzm230 (Nat.le_of_ble_eq_true rfl) rfl ?_
  have q0 : ((0 : Int32)).toInt = 0 := rfl
  have q0 : ((0 : Int32)).toInt = 0 := rfl
  refine zUC230 X.1 (by decide) (X.2.f f19 (by decide) hs) hsv (fun x4 M1 X2 h3 => ?_)
  have X5 := X.go X2 (z_sb (by decide))
  show z_ev (d + 1) 242 6 [some (.ref 19), some (.int p1), none, none] [.int x4] M1 _
  refine z_xP zt242 2 10 [some (.ref 19), some (.int p1), some (.int x4), none] [.int 1, .int p1, .ref 19] rfl rfl ?_
  refine z_xcV (vs := [.ref 19, .int p1, .int 1]) (r := []) (L2 := [some (.ref 19), some (.int p1), some (.int 1), none, none]) zt242 3 rfl zo242 zzcV12_251 (Or.inl rfl) rfl X5 f19 rfl rfl rfl (Nat.le_of_ble_eq_true rfl) zzm230 (Nat.le_of_ble_eq_true rfl) rfl ?_
  have q1 : ((1 : Int32)).toInt = 1 := rfl
  have q1 : ((1 : Int32)).toInt = 1 := rfl
  refine zUC230 X5.1 (by decide) (X5.2.f f19 (by decide) hs) hsv (fun x10 M7 X8 h9 => ?_)
  have X11 := X5.go X8 (z_sb (by decide))
  show z_ev (d + 1) 242 13 [some (.ref 19), some (.int p1), some (.int x4), none] [.int x10] M7 _
  refine z_xP zt242 4 16 [some (.ref 19), some (.int p1), some (.int x4), some (.int x10)] [.int x10, .int x4] rfl rfl ?_
  have h13 := z_b32 x4
  have h14 := z_b32 x10
  refine z_xJ zt242 5 rfl rfl (fun (h15 : x4.toInt ≤ x10.toInt) => ?_) (fun (h15 : x10.toInt < x4.toInt) => ?_)
  · skip
    refine z_xP zt242 7 25 [some (.ref 19), some (.int p1), some (.int x4), some (.int x10)] [.int x10, .int x4] rfl rfl ?_
    refine z_xJ zt242 8 rfl rfl (fun (h16 : x10.toInt ≤ x4.toInt) => ?_) (fun (h16 : x4.toInt < x10.toInt) => ?_)
    · skip
      refine z_xP zt242 10 33 [some (.ref 19), some (.int p1), some (.int x4), some (.int x10)] [.int (-1)] rfl rfl ?_
      have qm1 : (((-1) : Int32)).toInt = (-1) := rfl
      rw [if_pos (show ((0 : Int32)).toInt = 0 from rfl)] at h3
      have f41 : T[41]? = some (.inr (41, 0, 9, (-2147483648), 2147483647)) := X11.1.k rfl (by decide)
      have f39 : T[39]? = some (.inr (39, 0, 9, (-2147483648), 2147483647)) := X11.1.k rfl (by decide)
      rw [if_neg (show ¬ ((1 : Int32)).toInt = 0 from by decide), X5.2.a f41 (by decide), X5.2.a f39 (by decide)] at h9
      have qm1 : (((-1) : Int32)).toInt = (-1) := rfl
      exact z_xri zt242 11 rfl zzr242 (kk (-1) M7 X11 (by omega) (by omega) (z_hdE (congrArg Int32.toInt h3) (congrArg Int32.toInt h9) (by omega)))
    refine z_xP zt242 9 33 [some (.ref 19), some (.int p1), some (.int x4), some (.int x10)] [.int 0] rfl rfl ?_
    have q0 : ((0 : Int32)).toInt = 0 := rfl
    rw [if_pos (show ((0 : Int32)).toInt = 0 from rfl)] at h3
    have f41 : T[41]? = some (.inr (41, 0, 9, (-2147483648), 2147483647)) := X11.1.k rfl (by decide)
    have f39 : T[39]? = some (.inr (39, 0, 9, (-2147483648), 2147483647)) := X11.1.k rfl (by decide)
    rw [if_neg (show ¬ ((1 : Int32)).toInt = 0 from by decide), X5.2.a f41 (by decide), X5.2.a f39 (by decide)] at h9
    have q0 : ((0 : Int32)).toInt = 0 := rfl
    exact z_xri zt242 11 rfl zzr242 (kk 0 M7 X11 (by omega) (by omega) (z_hdE (congrArg Int32.toInt h3) (congrArg Int32.toInt h9) (by omega)))
  refine z_xP zt242 6 33 [some (.ref 19), some (.int p1), some (.int x4), some (.int x10)] [.int 1] rfl rfl ?_
  have q1 : ((1 : Int32)).toInt = 1 := rfl
  rw [if_pos (show ((0 : Int32)).toInt = 0 from rfl)] at h3
  have f41 : T[41]? = some (.inr (41, 0, 9, (-2147483648), 2147483647)) := X11.1.k rfl (by decide)
  have f39 : T[39]? = some (.inr (39, 0, 9, (-2147483648), 2147483647)) := X11.1.k rfl (by decide)
  rw [if_neg (show ¬ ((1 : Int32)).toInt = 0 from by decide), X5.2.a f41 (by decide), X5.2.a f39 (by decide)] at h9
  have q1 : ((1 : Int32)).toInt = 1 := rfl
  exact z_xri zt242 11 rfl zzr242 (kk 1 M7 X11 (by omega) (by omega) (z_hdE (congrArg Int32.toInt h3) (congrArg Int32.toInt h9) (by omega)))
theorem zUB241 {T : List zK} {d : Nat} {K : Option Value → zH → Prop} {p1 : Int32} {sv bv : Int32} {q : Nat} {M0 : zH} (hs : z_F M0 19 30 = some (.int sv)) (hsv : 0 ≤ sv.toInt ∧ sv.toInt ≤ 9) (hb9 : z_F M0 19 29 = some (.int bv)) (hbv : 0 ≤ bv.toInt ∧ bv.toInt ≤ 7) (hq4 : (z_Ar M0 24 bv.toNatClampNeg).toInt = (q : Int)) (hpn : 0 ≤ p1.toInt) (hy0 : z_F M0 19 34 = some (.int 0)) (hn0 : z_F M0 19 35 = some (.int 0)) (kk : ∀ (M1 : zH), z_X T zw241 M0 M1 → (∃ y n : Int32, z_F M1 19 34 = some (.int y) ∧ z_F M1 19 35 = some (.int n) ∧ z_wy (z_hdP p1.toInt.toNat (fun k => (z_vs (z_Ar M0 41) (z_Ar M0 39) (Int32.ofNat k) sv.toInt.toNat).toInt) (fun k => (z_vs (z_Ar M0 40) (z_Ar M0 39) (Int32.ofNat k) sv.toInt.toNat).toInt)) q y.toInt ∧ z_wy (z_hdP p1.toInt.toNat (fun k => (z_vs (z_Ar M0 40) (z_Ar M0 39) (Int32.ofNat k) sv.toInt.toNat).toInt) (fun k => (z_vs (z_Ar M0 41) (z_Ar M0 39) (Int32.ofNat k) sv.toInt.toNat).toInt)) q n.toInt) → K none M1) : ∀ n : Nat, (∀ (M : zH) (b2 : Int32) (z0 : Int32) (z1 : Int32), z_X T zw241 M0 M → 0 ≤ b2.toInt ∧ b2.toInt ≤ 10 → z_F M 19 34 = some (.int z0) → z_F M 19 35 = some (.int z1) → z_wy (z_hdP p1.toInt.toNat (fun k => (z_vs (z_Ar M0 41) (z_Ar M0 39) (Int32.ofNat k) sv.toInt.toNat).toInt) (fun k => (z_vs (z_Ar M0 40) (z_Ar M0 39) (Int32.ofNat k) sv.toInt.toNat).toInt)) b2.toInt.toNat z0.toInt → z_wy (z_hdP p1.toInt.toNat (fun k => (z_vs (z_Ar M0 40) (z_Ar M0 39) (Int32.ofNat k) sv.toInt.toNat).toInt) (fun k => (z_vs (z_Ar M0 41) (z_Ar M0 39) (Int32.ofNat k) sv.toInt.toNat).toInt)) b2.toInt.toNat z1.toInt → b2.toInt ≤ (q : Int) → ((0) * 2 + 0) * 11 + (10 - b2.toInt) < (n : Int) → z_ev (d + 2) 241 2 [some (.ref 19), some (.int p1), some (.int b2)] [] M K) := by
  intro n
  induction n with
  | zero => exact by intros; exfalso; omega
  | succ n ih =>
    intro M b2 z0 z1 X hh0 hp0 hp1 hY hN hQ hE
    refine z_xP zt241 1 4 [some (.ref 19), some (.int p1), some (.int b2)] [.ref 19, .int b2] rfl rfl ?_
    have f19 : T[19]? = some (.inl (12, 0, 0, 0, 0)) := X.1.k rfl (by decide)
    refine z_xgX (b := 24) zt241 2 rfl zo241 zzf12_22 X f19 (by decide) (by decide) rfl ?_
    refine z_xP zt241 3 8 [some (.ref 19), some (.int p1), some (.int b2)] [.ref 19, .ref 24, .int b2] rfl rfl ?_
    refine z_xgI zt241 4 rfl zo241 zzf12_242 X f19 (by decide) (by decide) rfl (fun (x2 : Int32) h1 (h3 : 0 ≤ x2.toInt) (h4 : x2.toInt ≤ 7) => ?_)
    have f24 : T[24]? = some (.inr (24, 0, 8, 0, 10)) := X.1.k rfl (by decide)
    refine z_xil zt241 5 rfl X f24 (by decide) (by omega) (by omega) (fun (x5 : Int32) h6 (h7 : 0 ≤ x5.toInt) (h8 : x5.toInt ≤ 10) => ?_)
    refine z_xJ zt241 6 rfl rfl (fun (h9 : x5.toInt ≤ b2.toInt) => ?_) (fun (h9 : b2.toInt < x5.toInt) => ?_)
    · skip
      have eb10 := z_iv9 h1 (X.2.f f19 (by decide) hb9)
      have eq11 := congrArg Int32.toInt ((congrFun (X.2.a f24 (by decide)) _).symm.trans h6)
      rw [eb10, hq4] at eq11
      have i12 : b2.toInt.toNat = q := by omega
      rw [i12] at hY hN
      exact z_xrv zt241 18 rfl zzr241 (kk M X ⟨z0, z1, hp0, hp1, hY, hN⟩)
    refine z_xP zt241 7 17 [some (.ref 19), some (.int p1), some (.int b2)] [.int b2, .int p1] rfl rfl ?_
    have h13 := z_b32 p1
    refine z_xI zt241 8 rfl rfl (fun (x14 : Int32) (h15 : x14 = p1 >>> (b2 &&& 31)) => ?_) (rfl)
    refine z_xP zt241 9 19 [some (.ref 19), some (.int p1), some (.int b2)] [.int 1, .int x14] rfl rfl ?_
    refine z_xI zt241 10 rfl rfl (fun (x16 : Int32) (h17 : x16 = x14 &&& (1 : Int32) ∧ 0 ≤ x16.toInt ∧ x16.toInt ≤ 1) => ?_) (⟨rfl, z_pAnd rfl (by omega)⟩)
    refine z_xP zt241 11 21 [some (.ref 19), some (.int p1), some (.int b2)] [.int 1, .int x16] rfl rfl ?_
    refine z_xJ zt241 12 rfl rfl (fun (h18 : x16.toInt ≠ 1) => ?_) (fun (h18 : x16.toInt = 1) => ?_)
    · skip
      refine z_xN zt241 16 rfl rfl (fun (x19 : Int32) (h20 : x19.toInt = b2.toInt + 1) => ?_) (z_pAdd rfl rfl (by omega) (by omega))
      show z_ev (d + 2) 241 37 [some (.ref 19), some (.int p1), some (.int x19)] [] M _
      refine z_xP zt241 17 2 [some (.ref 19), some (.int p1), some (.int x19)] [] rfl rfl ?_
      have eb21 := z_iv9 h1 (X.2.f f19 (by decide) hb9)
      have eq22 := congrArg Int32.toInt ((congrFun (X.2.a f24 (by decide)) _).symm.trans h6)
      rw [eb21, hq4] at eq22
      have i23 : x19.toInt.toNat = b2.toInt.toNat + 1 := by omega
      have i24 : x19.toInt.toNat = b2.toInt.toNat + 1 := by omega
      exact ih M x19 z0 z1 X ⟨by omega, by omega⟩ hp0 hp1 (by rw [i23]; exact z_wyN hY (fun hk => absurd ((z_b01h (z_sbit h15 h17.1 hpn ⟨by omega, by omega⟩)).mpr hk.1) (by omega))) (by rw [i24]; exact z_wyN hN (fun hk => absurd ((z_b01h (z_sbit h15 h17.1 hpn ⟨by omega, by omega⟩)).mpr hk.1) (by omega))) (by omega) (by omega)
    refine z_xP zt241 13 28 [some (.ref 19), some (.int p1), some (.int b2)] [.int b2, .ref 19, .int b2, .ref 19] rfl rfl ?_
    refine z_xcV (vs := [.ref 19, .int b2]) (r := [.int b2, .ref 19]) (L2 := [some (.ref 19), some (.int b2), none, none]) zt241 14 rfl zo241 zzcV12_281 (Or.inl rfl) rfl X f19 rfl rfl rfl (Nat.le_of_ble_eq_true rfl) zzm242 (Nat.le_of_ble_eq_true rfl) rfl ?_
    refine zUC242 X.1 (X.2.f f19 (by decide) hs) hsv (fun x28 M25 X26 h29 h30 h27 => ?_)
    have X31 := X.go X26 (z_sb (by decide))
    show z_ev (d + 2) 241 31 [some (.ref 19), some (.int p1), some (.int b2)] [.int x28, .int b2, .ref 19] M25 _
    refine z_xcV (vs := [.ref 19, .int b2, .int x28]) (r := []) (L2 := [some (.ref 19), some (.int b2), some (.int x28)]) zt241 15 rfl zo241 zzcV12_284 (Or.inl rfl) rfl X31 f19 rfl rfl rfl (Nat.le_of_ble_eq_true rfl) zzm243 (Nat.le_of_ble_eq_true rfl) rfl ?_
    refine z_xP zt243 0 2 [some (.ref 19), some (.int b2), some (.int x28)] [.ref 19, .ref 19] rfl rfl ?_
    have h33 := (X26.2.f f19 (by decide) hp0)
    refine z_xgv zt243 1 rfl zo243 zzf12_275 X31 f19 (by decide) h33 ?_
    refine z_xP zt243 2 7 [some (.ref 19), some (.int b2), some (.int x28)] [.int 1, .int x28, .int z0, .ref 19] rfl rfl ?_
    refine z_xJ zt243 3 rfl rfl (fun (h34 : x28.toInt ≠ 1) => ?_) (fun (h34 : x28.toInt = 1) => ?_)
    · skip
      refine z_xP zt243 7 17 [some (.ref 19), some (.int b2), some (.int x28)] [.int 0, .int z0, .ref 19] rfl rfl ?_
      refine z_xI zt243 8 rfl rfl (fun (x35 : Int32) (h36 : x35 = z0 ||| (0 : Int32)) => ?_) (rfl)
      refine z_xpf zt243 9 rfl zo243 zzf12_275 X31 f19 (by decide) (by decide) ⟨Int32.le_toInt _, Int32.toInt_le _⟩ rfl (by decide) zw12_34 (fun M37 X38 e39 h40 => ?_)
      refine z_xP zt243 10 23 [some (.ref 19), some (.int b2), some (.int x28)] [.ref 19, .ref 19] rfl rfl ?_
      have h41 := (e39.f f19 (by decide) (X26.2.f f19 (by decide) hp1))
      refine z_xgv zt243 11 rfl zo243 zzf12_278 X38 f19 (by decide) h41 ?_
      refine z_xP zt243 12 27 [some (.ref 19), some (.int b2), some (.int x28)] [.int x28, .int z1, .ref 19] rfl rfl ?_
      refine z_xZ zt243 13 rfl rfl (fun (h42 : x28.toInt ≠ 0) => ?_) (fun (h42 : x28.toInt = 0) => ?_)
      · skip
        refine z_xP zt243 17 37 [some (.ref 19), some (.int b2), some (.int x28)] [.int 0, .int z1, .ref 19] rfl rfl ?_
        refine z_xI zt243 18 rfl rfl (fun (x43 : Int32) (h44 : x43 = z1 ||| (0 : Int32)) => ?_) (rfl)
        refine z_xpf zt243 19 rfl zo243 zzf12_278 X38 f19 (by decide) (by decide) ⟨Int32.le_toInt _, Int32.toInt_le _⟩ rfl (by decide) zw12_35 (fun M45 X46 e47 h48 => ?_)
        refine z_xrv zt243 20 rfl zzr243 ?_
        show z_ev (d + 2) 241 34 [some (.ref 19), some (.int p1), some (.int b2)] [] M45 _
        refine z_xN zt241 16 rfl rfl (fun (x49 : Int32) (h50 : x49.toInt = b2.toInt + 1) => ?_) (z_pAdd rfl rfl (by omega) (by omega))
        show z_ev (d + 2) 241 37 [some (.ref 19), some (.int p1), some (.int x49)] [] M45 _
        refine z_xP zt241 17 2 [some (.ref 19), some (.int p1), some (.int x49)] [] rfl rfl ?_
        have h51 := (e47.f f19 (by decide) h40)
        have eb52 := z_iv9 h1 (X.2.f f19 (by decide) hb9)
        have eq53 := congrArg Int32.toInt ((congrFun (X.2.a f24 (by decide)) _).symm.trans h6)
        rw [eb52, hq4] at eq53
        have i54 : x49.toInt.toNat = b2.toInt.toNat + 1 := by omega
        have f40 : T[40]? = some (.inr (40, 0, 9, (-2147483648), 2147483647)) := X46.1.k rfl (by decide)
        have f39 : T[39]? = some (.inr (39, 0, 9, (-2147483648), 2147483647)) := X46.1.k rfl (by decide)
        have f41 : T[41]? = some (.inr (41, 0, 9, (-2147483648), 2147483647)) := X46.1.k rfl (by decide)
        rw [X.2.a f40 (by decide), X.2.a f39 (by decide), X.2.a f41 (by decide), z_vsK (k := b2) (by omega), z_vsK (k := b2) (by omega)] at h27
        have i55 : x49.toInt.toNat = b2.toInt.toNat + 1 := by omega
        exact ih M45 x49 x35 x43 X46 ⟨by omega, by omega⟩ h51 h48 (by rw [i54]; exact z_wyZ hY h36 (fun hk => absurd hk.2 (by have := h27; unfold z_hdR at this; (try dsimp only); omega))) (by rw [i55]; exact z_wyZ hN h44 (fun hk => absurd hk.2 (by have := h27; unfold z_hdR at this; (try dsimp only); omega))) (by omega) (by omega)
      refine z_xP zt243 14 32 [some (.ref 19), some (.int b2), some (.int x28)] [.int b2, .int 1, .int z1, .ref 19] rfl rfl ?_
      refine z_xI zt243 15 rfl rfl (fun (x56 : Int32) (h57 : x56 = (1 : Int32) <<< (b2 &&& 31)) => ?_) (rfl)
      refine z_xP zt243 16 37 [some (.ref 19), some (.int b2), some (.int x28)] [.int x56, .int z1, .ref 19] rfl rfl ?_
      refine z_xI zt243 18 rfl rfl (fun (x58 : Int32) (h59 : x58 = z1 ||| x56) => ?_) (rfl)
      refine z_xpf zt243 19 rfl zo243 zzf12_278 X38 f19 (by decide) (by decide) ⟨Int32.le_toInt _, Int32.toInt_le _⟩ rfl (by decide) zw12_35 (fun M60 X61 e62 h63 => ?_)
      refine z_xrv zt243 20 rfl zzr243 ?_
      show z_ev (d + 2) 241 34 [some (.ref 19), some (.int p1), some (.int b2)] [] M60 _
      refine z_xN zt241 16 rfl rfl (fun (x64 : Int32) (h65 : x64.toInt = b2.toInt + 1) => ?_) (z_pAdd rfl rfl (by omega) (by omega))
      show z_ev (d + 2) 241 37 [some (.ref 19), some (.int p1), some (.int x64)] [] M60 _
      refine z_xP zt241 17 2 [some (.ref 19), some (.int p1), some (.int x64)] [] rfl rfl ?_
      have h66 := (e62.f f19 (by decide) h40)
      have eb67 := z_iv9 h1 (X.2.f f19 (by decide) hb9)
      have eq68 := congrArg Int32.toInt ((congrFun (X.2.a f24 (by decide)) _).symm.trans h6)
      rw [eb67, hq4] at eq68
      have i69 : x64.toInt.toNat = b2.toInt.toNat + 1 := by omega
      have f40 : T[40]? = some (.inr (40, 0, 9, (-2147483648), 2147483647)) := X61.1.k rfl (by decide)
      have f39 : T[39]? = some (.inr (39, 0, 9, (-2147483648), 2147483647)) := X61.1.k rfl (by decide)
      have f41 : T[41]? = some (.inr (41, 0, 9, (-2147483648), 2147483647)) := X61.1.k rfl (by decide)
      rw [X.2.a f40 (by decide), X.2.a f39 (by decide), X.2.a f41 (by decide), z_vsK (k := b2) (by omega), z_vsK (k := b2) (by omega)] at h27
      have i70 : x64.toInt.toNat = b2.toInt.toNat + 1 := by omega
      exact ih M60 x64 x35 x58 X61 ⟨by omega, by omega⟩ h66 h63 (by rw [i69]; exact z_wyZ hY h36 (fun hk => absurd hk.2 (by have := h27; unfold z_hdR at this; (try dsimp only); omega))) (by rw [i70]; exact z_wyP hN (by omega) ⟨(z_b01h (z_sbit h15 h17.1 hpn ⟨by omega, by omega⟩)).mp (by omega), by have := h27; unfold z_hdR at this; (try dsimp only); omega⟩ (x6 := b2) (by omega) h57 h59) (by omega) (by omega)
    refine z_xP zt243 4 12 [some (.ref 19), some (.int b2), some (.int x28)] [.int b2, .int 1, .int z0, .ref 19] rfl rfl ?_
    refine z_xI zt243 5 rfl rfl (fun (x71 : Int32) (h72 : x71 = (1 : Int32) <<< (b2 &&& 31)) => ?_) (rfl)
    refine z_xP zt243 6 17 [some (.ref 19), some (.int b2), some (.int x28)] [.int x71, .int z0, .ref 19] rfl rfl ?_
    refine z_xI zt243 8 rfl rfl (fun (x73 : Int32) (h74 : x73 = z0 ||| x71) => ?_) (rfl)
    refine z_xpf zt243 9 rfl zo243 zzf12_275 X31 f19 (by decide) (by decide) ⟨Int32.le_toInt _, Int32.toInt_le _⟩ rfl (by decide) zw12_34 (fun M75 X76 e77 h78 => ?_)
    refine z_xP zt243 10 23 [some (.ref 19), some (.int b2), some (.int x28)] [.ref 19, .ref 19] rfl rfl ?_
    have h79 := (e77.f f19 (by decide) (X26.2.f f19 (by decide) hp1))
    refine z_xgv zt243 11 rfl zo243 zzf12_278 X76 f19 (by decide) h79 ?_
    refine z_xP zt243 12 27 [some (.ref 19), some (.int b2), some (.int x28)] [.int x28, .int z1, .ref 19] rfl rfl ?_
    refine z_xZ zt243 13 rfl rfl (fun (h80 : x28.toInt ≠ 0) => ?_) (fun (h80 : x28.toInt = 0) => absurd h80 (by omega))
    refine z_xP zt243 17 37 [some (.ref 19), some (.int b2), some (.int x28)] [.int 0, .int z1, .ref 19] rfl rfl ?_
    refine z_xI zt243 18 rfl rfl (fun (x81 : Int32) (h82 : x81 = z1 ||| (0 : Int32)) => ?_) (rfl)
    refine z_xpf zt243 19 rfl zo243 zzf12_278 X76 f19 (by decide) (by decide) ⟨Int32.le_toInt _, Int32.toInt_le _⟩ rfl (by decide) zw12_35 (fun M83 X84 e85 h86 => ?_)
    refine z_xrv zt243 20 rfl zzr243 ?_
    show z_ev (d + 2) 241 34 [some (.ref 19), some (.int p1), some (.int b2)] [] M83 _
    refine z_xN zt241 16 rfl rfl (fun (x87 : Int32) (h88 : x87.toInt = b2.toInt + 1) => ?_) (z_pAdd rfl rfl (by omega) (by omega))
    show z_ev (d + 2) 241 37 [some (.ref 19), some (.int p1), some (.int x87)] [] M83 _
    refine z_xP zt241 17 2 [some (.ref 19), some (.int p1), some (.int x87)] [] rfl rfl ?_
    have h89 := (e85.f f19 (by decide) h78)
    have eb90 := z_iv9 h1 (X.2.f f19 (by decide) hb9)
    have eq91 := congrArg Int32.toInt ((congrFun (X.2.a f24 (by decide)) _).symm.trans h6)
    rw [eb90, hq4] at eq91
    have i92 : x87.toInt.toNat = b2.toInt.toNat + 1 := by omega
    have f40 : T[40]? = some (.inr (40, 0, 9, (-2147483648), 2147483647)) := X84.1.k rfl (by decide)
    have f39 : T[39]? = some (.inr (39, 0, 9, (-2147483648), 2147483647)) := X84.1.k rfl (by decide)
    have f41 : T[41]? = some (.inr (41, 0, 9, (-2147483648), 2147483647)) := X84.1.k rfl (by decide)
    rw [X.2.a f40 (by decide), X.2.a f39 (by decide), X.2.a f41 (by decide), z_vsK (k := b2) (by omega), z_vsK (k := b2) (by omega)] at h27
    have i93 : x87.toInt.toNat = b2.toInt.toNat + 1 := by omega
    exact ih M83 x87 x73 x81 X84 ⟨by omega, by omega⟩ h89 h86 (by rw [i92]; exact z_wyP hY (by omega) ⟨(z_b01h (z_sbit h15 h17.1 hpn ⟨by omega, by omega⟩)).mp (by omega), by have := h27; unfold z_hdR at this; (try dsimp only); omega⟩ (x6 := b2) (by omega) h72 h74) (by rw [i93]; exact z_wyZ hN h82 (fun hk => absurd hk.2 (by have := h27; unfold z_hdR at this; (try dsimp only); omega))) (by omega) (by omega)
theorem zUC241 {T : List zK} {d : Nat} {K : Option Value → zH → Prop} {p1 : Int32} {sv bv : Int32} {q : Nat} {M0 : zH} (hW : z_W M0 T) (hs : z_F M0 19 30 = some (.int sv)) (hsv : 0 ≤ sv.toInt ∧ sv.toInt ≤ 9) (hb9 : z_F M0 19 29 = some (.int bv)) (hbv : 0 ≤ bv.toInt ∧ bv.toInt ≤ 7) (hq4 : (z_Ar M0 24 bv.toNatClampNeg).toInt = (q : Int)) (hpn : 0 ≤ p1.toInt) (hy0 : z_F M0 19 34 = some (.int 0)) (hn0 : z_F M0 19 35 = some (.int 0)) (kk : ∀ (M1 : zH), z_X T zw241 M0 M1 → (∃ y n : Int32, z_F M1 19 34 = some (.int y) ∧ z_F M1 19 35 = some (.int n) ∧ z_wy (z_hdP p1.toInt.toNat (fun k => (z_vs (z_Ar M0 41) (z_Ar M0 39) (Int32.ofNat k) sv.toInt.toNat).toInt) (fun k => (z_vs (z_Ar M0 40) (z_Ar M0 39) (Int32.ofNat k) sv.toInt.toNat).toInt)) q y.toInt ∧ z_wy (z_hdP p1.toInt.toNat (fun k => (z_vs (z_Ar M0 40) (z_Ar M0 39) (Int32.ofNat k) sv.toInt.toNat).toInt) (fun k => (z_vs (z_Ar M0 41) (z_Ar M0 39) (Int32.ofNat k) sv.toInt.toNat).toInt)) q n.toInt) → K none M1) : z_ev (d + 2) 241 0 [some (.ref 19), some (.int p1), none] [] M0 K := by
  have X : z_X T zw241 M0 M0 := .refl hW
  refine z_xP zt241 0 2 [some (.ref 19), some (.int p1), some (.int 0)] [] rfl rfl ?_
  have f19 : T[19]? = some (.inl (12, 0, 0, 0, 0)) := X.1.k rfl (by decide)
  have q0 : ((0 : Int32)).toInt = 0 := rfl
  exact (zUB241 hs hsv hb9 hbv hq4 hpn hy0 hn0 kk 22) M0 (0) (0) (0) X (by decide) hy0 hn0 (z_wy0 rfl rfl) (z_wy0 rfl rfl) (by omega) (by omega)
