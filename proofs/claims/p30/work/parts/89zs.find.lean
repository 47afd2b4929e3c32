/-! the leader, told -/
theorem zUB247 {T : List zK} {d : Nat} {K : Option Value → zH → Prop} {a q m pr en : Nat} {B : Nat → Nat} {av sv p1 yc nc : Int32} {M0 : zH} (hR : z_RP T M0 a q m pr en B av sv) (u1 : 0 ≤ p1.toInt ∧ p1.toInt ≤ 8) (hc : p1.toInt < sv.toInt) (hyc : z_Ar M0 40 p1.toInt.toNat = yc) (hnc : z_Ar M0 41 p1.toInt.toNat = nc) (kk : ∀ (M1 : zH) (y n : Int32), z_X T zw247 M0 M1 → z_F M1 19 34 = some (.int y) → z_F M1 19 35 = some (.int n) → z_wy (z_ldP yc.toInt.toNat nc.toInt.toNat q q (z_F1 B q yc.toInt.toNat nc.toInt.toNat) yc.toInt.toNat) q y.toInt → z_wy (z_ldP yc.toInt.toNat nc.toInt.toNat q q (z_F0 B q yc.toInt.toNat nc.toInt.toNat) nc.toInt.toNat) q n.toInt → K none M1) : ∀ n : Nat, (∀ (M : zH) (b2 y0 n0 : Int32), z_X T zw247 M0 M → 0 ≤ b2.toInt ∧ b2.toInt ≤ 10 → b2.toInt ≤ (q : Int) → z_F M 19 34 = some (.int y0) → z_F M 19 35 = some (.int n0) → z_wy (z_ldP yc.toInt.toNat nc.toInt.toNat q b2.toInt.toNat (z_F1 B q yc.toInt.toNat nc.toInt.toNat) yc.toInt.toNat) q y0.toInt → z_wy (z_ldP yc.toInt.toNat nc.toInt.toNat q b2.toInt.toNat (z_F0 B q yc.toInt.toNat nc.toInt.toNat) nc.toInt.toNat) q n0.toInt → ((0) * 2 + 0) * 11 + (10 - b2.toInt) < (n : Int) → z_ev (d + 2) 247 31 [some (.ref 19), some (.int p1), some (.int b2)] [] M K) := by
  intro n
  induction n with
  | zero => exact by intros; exfalso; omega
  | succ n ih =>
    intro M b2 y0 n0 X hh0 hq0 hy hn hY hN hE
    obtain ⟨hW, ⟨hb9, ea, a8⟩, ⟨hs, hsv⟩, ⟨q1, q10⟩, ⟨t, hG⟩, hm, hans, hok⟩ := hR.ke X (by decide)
    have e24 := hG.1
    have e31 := hG.2.2.2.2.1
    have hLS := hG.2.2.2.2.2.2
    have hW0 := hR.1
    have h40 : z_Ar M 40 = z_Ar M0 40 := X.2.a (hW0.k (k := 40) (κ := z_af 40 9) rfl (by decide)) (by decide)
    have h41 : z_Ar M 41 = z_Ar M0 41 := X.2.a (hW0.k (k := 41) (κ := z_af 41 9) rfl (by decide)) (by decide)
    have hac := hans p1.toInt.toNat (by omega)
    rw [h40, h41, hyc, hnc] at hac
    have hlt := hac.lt q10
    refine z_xP zt247 15 33 [some (.ref 19), some (.int p1), some (.int b2)] [.ref 19, .int b2] rfl rfl ?_
    have f19 : T[19]? = some (.inl (12, 0, 0, 0, 0)) := X.1.k rfl (by decide)
    refine z_xgX (b := 24) zt247 16 rfl zo247 zzf12_22 X f19 (by decide) (by decide) rfl ?_
    refine z_xP zt247 17 37 [some (.ref 19), some (.int p1), some (.int b2)] [.ref 19, .ref 24, .int b2] rfl rfl ?_
    refine z_xgv zt247 18 rfl zo247 zzf12_242 X f19 (by decide) hb9 ?_
    have f24 : T[24]? = some (.inr (24, 0, 8, 0, 10)) := X.1.k rfl (by decide)
    refine z_xil zt247 19 rfl X f24 (by decide) (by omega) (by omega) (fun (x5 : Int32) h6 (h7 : 0 ≤ x5.toInt) (h8 : x5.toInt ≤ 10) => ?_)
    have e5 : x5.toInt = (q : Int) := by rw [← h6, z_tnA ea]; exact e24
    refine z_xJ zt247 20 rfl rfl (fun (h9 : x5.toInt ≤ b2.toInt) => ?_) (fun (h9 : b2.toInt < x5.toInt) => ?_)
    · skip
      rw [show b2.toInt.toNat = q by omega] at hY hN
      exact z_xrv zt247 50 rfl zzr247 (kk M y0 n0 X hy hn hY hN)
    refine z_xP zt247 21 45 [some (.ref 19), some (.int p1), some (.int b2)] [.ref 19] rfl rfl ?_
    refine z_xgX (b := 40) zt247 22 rfl zo247 zzf12_70 X f19 (by decide) (by decide) rfl ?_
    refine z_xP zt247 23 49 [some (.ref 19), some (.int p1), some (.int b2)] [.int p1, .ref 40] rfl rfl ?_
    have f40 : T[40]? = some (.inr (40, 0, 9, (-2147483648), 2147483647)) := X.1.k rfl (by decide)
    refine z_xil zt247 24 rfl X f40 (by decide) (by omega) (by omega) (fun (x10 : Int32) h11 (h12 : (-2147483648) ≤ x10.toInt) (h13 : x10.toInt ≤ 2147483647) => ?_)
    obtain rfl : x10 = yc := h11.symm.trans (by rw [h40]; exact hyc)
    refine z_xP zt247 25 51 [some (.ref 19), some (.int p1), some (.int b2)] [.ref 19, .int x10] rfl rfl ?_
    refine z_xgX (b := 41) zt247 26 rfl zo247 zzf12_73 X f19 (by decide) (by decide) rfl ?_
    refine z_xP zt247 27 55 [some (.ref 19), some (.int p1), some (.int b2)] [.int p1, .ref 41, .int x10] rfl rfl ?_
    have f41 : T[41]? = some (.inr (41, 0, 9, (-2147483648), 2147483647)) := X.1.k rfl (by decide)
    refine z_xil zt247 28 rfl X f41 (by decide) (by omega) (by omega) (fun (x14 : Int32) h15 (h16 : (-2147483648) ≤ x14.toInt) (h17 : x14.toInt ≤ 2147483647) => ?_)
    obtain rfl : x14 = nc := h15.symm.trans (by rw [h41]; exact hnc)
    refine z_xI zt247 29 rfl rfl (fun (x18 : Int32) (h18 : x18 = x10 ||| x14) => ?_) rfl
    obtain ⟨o1, o2⟩ := z_ib_or h18 hac.1.1 hac.2.1.1
    refine z_xP zt247 30 58 [some (.ref 19), some (.int p1), some (.int b2)] [.int b2, .int x18] rfl rfl ?_
    refine z_xI zt247 31 rfl rfl (fun (x21 : Int32) (h21 : x21 = x18 >>> (b2 &&& 31)) => ?_) rfl
    refine z_xP zt247 32 60 [some (.ref 19), some (.int p1), some (.int b2)] [.int 1, .int x21] rfl rfl ?_
    refine z_xI zt247 33 rfl rfl (fun (x23 : Int32) (h23 : x23 = x21 &&& 1) => ?_) rfl
    have hbit := z_sbit h21 h23 o1 ⟨by omega, by omega⟩
    have ho := o2 b2.toInt.toNat
    unfold z_ib at ho
    refine z_xZ zt247 34 rfl rfl (fun (h25 : x23.toInt ≠ 0) => ?_) (fun (h25 : x23.toInt = 0) => ?_)
    · skip
      refine z_xN zt247 48 rfl rfl (fun (x26 : Int32) (h27 : x26.toInt = b2.toInt + 1) => ?_) (z_pAdd rfl rfl (by omega) (by omega))
      show z_ev (d + 2) 247 93 [some (.ref 19), some (.int p1), some (.int x26)] [] M _
      refine z_xP zt247 49 31 [some (.ref 19), some (.int p1), some (.int x26)] [] rfl rfl ?_
      have h2 := z_ldS hY hN (ho.mp (by omega))
      rw [show b2.toInt.toNat + 1 = x26.toInt.toNat by omega] at h2
      exact ih M x26 y0 n0 X ⟨by omega, by omega⟩ (by omega) hy hn h2.1 h2.2 (by omega)
    refine z_xP zt247 35 68 [some (.ref 19), some (.int p1), some (.int b2)] [.ref 19, .ref 19, .int b2, .ref 19] rfl rfl ?_
    refine z_xgv zt247 36 rfl zo247 zzf12_242 X f19 (by decide) hb9 ?_
    refine z_xP zt247 37 72 [some (.ref 19), some (.int p1), some (.int b2)] [.ref 19, .int av, .ref 19, .int b2, .ref 19] rfl rfl ?_
    refine z_xgX (b := 40) zt247 38 rfl zo247 zzf12_70 X f19 (by decide) (by decide) rfl ?_
    refine z_xP zt247 39 76 [some (.ref 19), some (.int p1), some (.int b2)] [.int p1, .ref 40, .int av, .ref 19, .int b2, .ref 19] rfl rfl ?_
    refine z_xil zt247 40 rfl X f40 (by decide) (by omega) (by omega) (fun (x28 : Int32) h29 (h30 : (-2147483648) ≤ x28.toInt) (h31 : x28.toInt ≤ 2147483647) => ?_)
    obtain rfl : x28 = x10 := h29.symm.trans h11
    refine z_xP zt247 41 78 [some (.ref 19), some (.int p1), some (.int b2)] [.ref 19, .int x28, .int av, .ref 19, .int b2, .ref 19] rfl rfl ?_
    refine z_xgX (b := 41) zt247 42 rfl zo247 zzf12_73 X f19 (by decide) (by decide) rfl ?_
    refine z_xP zt247 43 82 [some (.ref 19), some (.int p1), some (.int b2)] [.int p1, .ref 41, .int x28, .int av, .ref 19, .int b2, .ref 19] rfl rfl ?_
    refine z_xil zt247 44 rfl X f41 (by decide) (by omega) (by omega) (fun (x33 : Int32) h34 (h35 : (-2147483648) ≤ x33.toInt) (h36 : x33.toInt ≤ 2147483647) => ?_)
    obtain rfl : x33 = x14 := h34.symm.trans h15
    refine z_xP zt247 45 84 [some (.ref 19), some (.int p1), some (.int b2)] [.int b2, .int x33, .int x28, .int av, .ref 19, .int b2, .ref 19] rfl rfl ?_
    refine z_xcV (vs := [.ref 19, .int av, .int x28, .int x33, .int b2]) (r := [.int b2, .ref 19]) (L2 := [some (.ref 19), some (.int av), some (.int x28), some (.int x33), some (.int b2), none, none, none, none]) zt247 46 rfl zo247 zzcV12_228 (Or.inl rfl) rfl X f19 rfl rfl rfl (Nat.le_of_ble_eq_true rfl) zzm219 (Nat.le_of_ble_eq_true rfl) rfl ?_
    refine zUC219 X.1 ⟨by omega, by omega⟩ ⟨by omega, by omega⟩ (fun x40 M38 X39 h41b h42 h40b => ?_)
    rw [z_tnA ea] at h40b
    have hf := z_foF hLS (by omega) q10 ⟨hlt.1.1, hlt.1.2.1⟩ ⟨hlt.2.1, hlt.2.2.1⟩ h40b
    have X43 := X.go X39 (z_sb (by decide))
    show z_ev (d + 2) 247 87 [some (.ref 19), some (.int p1), some (.int b2)] [.int x40, .int b2, .ref 19] M38 _
    refine z_xcV (vs := [.ref 19, .int b2, .int x40]) (r := []) (L2 := [some (.ref 19), some (.int b2), some (.int x40)]) zt247 47 rfl zo247 zzcV12_284 (Or.inl rfl) rfl X43 f19 rfl rfl rfl (Nat.le_of_ble_eq_true rfl) zzm243 (Nat.le_of_ble_eq_true rfl) rfl ?_
    refine zUC243 X43.1 (X39.2.f f19 (by decide) hy) (X39.2.f f19 (by decide) hn) (fun M45 y3 n3 X46 hy3 hn3 ha => ?_)
    have X47 := X43.go X46 (z_sb (by decide))
    show z_ev (d + 2) 247 90 [some (.ref 19), some (.int p1), some (.int b2)] [] M45 _
    refine z_xN zt247 48 rfl rfl (fun (x49 : Int32) (h50 : x49.toInt = b2.toInt + 1) => ?_) (z_pAdd rfl rfl (by omega) (by omega))
    show z_ev (d + 2) 247 93 [some (.ref 19), some (.int p1), some (.int x49)] [] M45 _
    refine z_xP zt247 49 31 [some (.ref 19), some (.int p1), some (.int x49)] [] rfl rfl ?_
    have nh : ¬ x18.toInt.toNat / 2 ^ b2.toInt.toNat % 2 = 1 := by omega
    have h2 := z_ldA hY hN ⟨fun c => nh (ho.mpr (Or.inl c)), fun c => nh (ho.mpr (Or.inr c))⟩ (by omega) q10 (by omega) hf ha
    rw [show b2.toInt.toNat + 1 = x49.toInt.toNat by omega] at h2
    exact ih M45 x49 y3 n3 X47 ⟨by omega, by omega⟩ (by omega) hy3 hn3 h2.1 h2.2 (by omega)
/-- a judge's answers as a word of the reference -/
theorem z_ld0 {q : Nat} {Y N : Nat} {F : Nat → Prop} {W : Int32} (h0 : 0 ≤ W.toInt) (h1 : W.toInt < ((2 ^ q : Nat) : Int)) (q10 : q ≤ 10) : z_wy (z_ldP Y N q (0 : Int32).toInt.toNat F W.toInt.toNat) q W.toInt := by
  have hP : 2 ^ q ≤ 1024 := Nat.pow_le_pow_right (n := 2) (by decide) q10
  refine ⟨⟨h0, by omega⟩, fun k _ => ⟨fun a => ⟨z_q2b (s := W.toInt.toNat) (by omega) a, Or.inl a⟩, fun ⟨_, a⟩ => a.elim id fun c => ?_⟩⟩
  exact absurd c.1 (Nat.not_lt_zero k)
theorem zUC247 {T : List zK} {d : Nat} {K : Option Value → zH → Prop} {a q m pr en : Nat} {B : Nat → Nat} {av sv p1 : Int32} {M0 : zH} (hR : z_RP T M0 a q m pr en B av sv) (u1 : 0 ≤ p1.toInt ∧ p1.toInt ≤ 8) (hy0 : z_F M0 19 34 = some (.int 0)) (hn0 : z_F M0 19 35 = some (.int 0)) (kk : ∀ (M1 : zH) (y n : Int32), z_X T zw247 M0 M1 → z_F M1 19 34 = some (.int y) → z_F M1 19 35 = some (.int n) → ((0 ≤ y.toInt ∧ y.toInt < 1024) ∧ (0 ≤ n.toInt ∧ n.toInt < 1024)) → z_oL B q sv.toInt.toNat p1.toInt.toNat (fun j => (z_Ar M0 40 j).toInt.toNat) (fun j => (z_Ar M0 41 j).toInt.toNat) y.toInt.toNat n.toInt.toNat → K none M1) : z_ev (d + 2) 247 0 [some (.ref 19), some (.int p1), none] [] M0 K := by
  obtain ⟨hW, ⟨hb9, ea, a8⟩, ⟨hs, hsv⟩, ⟨q1, q10⟩, ⟨t, hG⟩, hm, hans, hok⟩ := id hR
  have X : z_X T zw247 M0 M0 := .refl hW
  refine z_xP zt247 0 2 [some (.ref 19), some (.int p1), none] [.ref 19, .int p1] rfl rfl ?_
  have f19 : T[19]? = some (.inl (12, 0, 0, 0, 0)) := X.1.k rfl (by decide)
  refine z_xgv zt247 1 rfl zo247 zzf12_245 X f19 (by decide) hs ?_
  refine z_xJ zt247 2 rfl rfl (fun (h5 : p1.toInt < sv.toInt) => ?_) (fun (h5 : sv.toInt ≤ p1.toInt) => ?_)
  · skip
    have hac := hans p1.toInt.toNat (by omega)
    refine z_xP zt247 4 11 [some (.ref 19), some (.int p1), none] [.ref 19, .ref 19] rfl rfl ?_
    refine z_xgX (b := 40) zt247 5 rfl zo247 zzf12_70 X f19 (by decide) (by decide) rfl ?_
    refine z_xP zt247 6 15 [some (.ref 19), some (.int p1), none] [.int p1, .ref 40, .ref 19] rfl rfl ?_
    have f40 : T[40]? = some (.inr (40, 0, 9, (-2147483648), 2147483647)) := X.1.k rfl (by decide)
    refine z_xil zt247 7 rfl X f40 (by decide) (by omega) (by omega) (fun (x6 : Int32) h7 (h8 : (-2147483648) ≤ x6.toInt) (h9 : x6.toInt ≤ 2147483647) => ?_)
    refine z_xpf zt247 8 rfl zo247 zzf12_275 X f19 (by decide) (by decide) ⟨Int32.le_toInt _, Int32.toInt_le _⟩ rfl (by decide) zw12_34 (fun M10 X11 e12 h13 => ?_)
    refine z_xP zt247 9 21 [some (.ref 19), some (.int p1), none] [.ref 19, .ref 19] rfl rfl ?_
    refine z_xgX (b := 41) zt247 10 rfl zo247 zzf12_73 X11 f19 (by decide) (by decide) rfl ?_
    refine z_xP zt247 11 25 [some (.ref 19), some (.int p1), none] [.int p1, .ref 41, .ref 19] rfl rfl ?_
    have f41 : T[41]? = some (.inr (41, 0, 9, (-2147483648), 2147483647)) := X11.1.k rfl (by decide)
    refine z_xil zt247 12 rfl X11 f41 (by decide) (by omega) (by omega) (fun (x14 : Int32) h15 (h16 : (-2147483648) ≤ x14.toInt) (h17 : x14.toInt ≤ 2147483647) => ?_)
    refine z_xpf zt247 13 rfl zo247 zzf12_278 X11 f19 (by decide) (by decide) ⟨Int32.le_toInt _, Int32.toInt_le _⟩ rfl (by decide) zw12_35 (fun M18 X19 e20 h21 => ?_)
    have h7n : z_Ar M0 40 p1.toInt.toNat = x6 := h7
    have h15n : z_Ar M0 41 p1.toInt.toNat = x14 := (congrFun (e12.a f41 (by decide)) _).symm.trans h15
    rw [h7n, h15n] at hac
    obtain ⟨⟨y0, y1⟩, ⟨n0, n1⟩, _⟩ := hac
    refine z_xP zt247 14 31 [some (.ref 19), some (.int p1), some (.int 0)] [] rfl rfl ?_
    have q0 : ((0 : Int32)).toInt = 0 := rfl
    refine (zUB247 hR u1 h5 h7n h15n (fun M1 y n X1 hy hn hY hN => ?_) 22) M18 (0) x6 x14 X19 (by decide) (by omega) (e20.f f19 (by decide) h13) h21 (z_ld0 y0 y1 q10) (z_ld0 n0 n1 q10) (by omega)
    refine kk M1 y n X1 hy hn ⟨hY.1, hN.1⟩ (Or.inl ⟨by omega, z_boC (z_wyB hY hN) fun k hk => ?_⟩)
    show (z_ldP _ _ _ _ _ _ k ↔ ((z_Ar M0 40 p1.toInt.toNat).toInt.toNat / 2 ^ k % 2 = 1 ∨ (¬ (z_Ar M0 40 p1.toInt.toNat).toInt.toNat / 2 ^ k % 2 = 1 ∧ ¬ (z_Ar M0 41 p1.toInt.toNat).toInt.toNat / 2 ^ k % 2 = 1 ∧ z_F1 B q (z_Ar M0 40 p1.toInt.toNat).toInt.toNat (z_Ar M0 41 p1.toInt.toNat).toInt.toNat k))) ∧ (z_ldP _ _ _ _ _ _ k ↔ ((z_Ar M0 41 p1.toInt.toNat).toInt.toNat / 2 ^ k % 2 = 1 ∨ (¬ (z_Ar M0 40 p1.toInt.toNat).toInt.toNat / 2 ^ k % 2 = 1 ∧ ¬ (z_Ar M0 41 p1.toInt.toNat).toInt.toNat / 2 ^ k % 2 = 1 ∧ z_F0 B q (z_Ar M0 40 p1.toInt.toNat).toInt.toNat (z_Ar M0 41 p1.toInt.toNat).toInt.toNat k)))
    rw [h7n, h15n]
    exact ⟨⟨fun a => a.imp id fun c => c.2, fun a => a.imp id fun c => ⟨hk, c⟩⟩, ⟨fun a => a.imp id fun c => c.2, fun a => a.imp id fun c => ⟨hk, c⟩⟩⟩
  exact z_xrv zt247 3 rfl zzr247 (kk M0 0 0 X hy0 hn0 ⟨⟨by decide, by decide⟩, ⟨by decide, by decide⟩⟩ (Or.inr ⟨by omega, rfl, rfl⟩))
