/-! premises and the leader of the reference, told -/
theorem z_pmE {B : Nat → Nat} {q pr y1 n1 i : Nat} {L : Nat → Int} {y n : Int32} (h1 : z_wbo q (fun k => pr / 2 ^ k % 2 = 1 ∧ 0 < L k) (fun k => pr / 2 ^ k % 2 = 1 ∧ L k < 0) y1 n1) (hY : z_wy (z_pmY B q pr L y1 n1 i) q y.toInt) (hN : z_wy (z_pmN B q pr L y1 n1 i) q n.toInt) (hi : q ≤ i) : z_oP B q pr L y.toInt.toNat n.toInt.toNat := by
  refine ⟨y1, n1, h1, z_boC (z_wyB hY hN) fun k hk => ⟨?_, ?_⟩⟩
  · exact ⟨fun a => a.imp id fun ⟨_, b⟩ => b, fun a => a.imp id fun b => ⟨by omega, b⟩⟩
  · exact ⟨fun a => a.imp id fun ⟨_, b⟩ => b, fun a => a.imp id fun b => ⟨by omega, b⟩⟩
theorem z_pm0 {B : Nat → Nat} {q pr y1 n1 : Nat} {L : Nat → Int} {y n b : Int32} (hb : b.toInt = 0) (hY : z_wy (fun k => pr / 2 ^ k % 2 = 1 ∧ 0 < L k) q y.toInt) (hN : z_wy (fun k => pr / 2 ^ k % 2 = 1 ∧ L k < 0) q n.toInt) : z_wy (z_pmY B q pr L y1 n1 b.toInt.toNat) q y.toInt ∧ z_wy (z_pmN B q pr L y1 n1 b.toInt.toNat) q n.toInt := by
  rw [hb]
  exact ⟨z_wyC hY fun k _ => ⟨Or.inl, fun a => a.elim id fun c => absurd c.1 (Nat.not_lt_zero k)⟩, z_wyC hN fun k _ => ⟨Or.inl, fun a => a.elim id fun c => absurd c.1 (Nat.not_lt_zero k)⟩⟩
theorem z_tnA {x : Int32} {a : Nat} (h : x.toInt = (a : Int)) : x.toNatClampNeg = a := by
  show x.toInt.toNat = a
  omega
theorem zUB244 {T : List zK} {d : Nat} {K : Option Value → zH → Prop} {a q m pr en : Nat} {B : Nat → Nat} {av sv b1 b2 : Int32} {M0 : zH} (hR : z_RP T M0 a q m pr en B av sv) (hb1 : 0 ≤ b1.toInt ∧ b1.toInt < 1024) (hb2 : 0 ≤ b2.toInt ∧ b2.toInt < 1024) (h1 : z_wbo q (fun k => pr / 2 ^ k % 2 = 1 ∧ 0 < z_LV M0 sv k) (fun k => pr / 2 ^ k % 2 = 1 ∧ z_LV M0 sv k < 0) b1.toInt.toNat b2.toInt.toNat) (kk : ∀ (M1 : zH) (y n : Int32), z_X T zw244 M0 M1 → z_F M1 19 34 = some (.int y) → z_F M1 19 35 = some (.int n) → ((0 ≤ y.toInt ∧ y.toInt < 1024) ∧ (0 ≤ n.toInt ∧ n.toInt < 1024)) → z_oP B q pr (z_LV M0 sv) y.toInt.toNat n.toInt.toNat → K none M1) : ∀ n : Nat, (∀ (M : zH) (b3 y0 n0 : Int32), z_X T zw244 M0 M → 0 ≤ b3.toInt ∧ b3.toInt ≤ 10 → z_F M 19 34 = some (.int y0) → z_F M 19 35 = some (.int n0) → z_wy (z_pmY B q pr (z_LV M0 sv) b1.toInt.toNat b2.toInt.toNat b3.toInt.toNat) q y0.toInt → z_wy (z_pmN B q pr (z_LV M0 sv) b1.toInt.toNat b2.toInt.toNat b3.toInt.toNat) q n0.toInt → ((0) * 2 + 0) * 11 + (10 - b3.toInt) < (n : Int) → z_ev (d + 3) 244 25 [some (.ref 19), some (.int b1), some (.int b2), some (.int b3)] [] M K) := by
  intro n
  induction n with
  | zero => exact by intros; exfalso; omega
  | succ n ih =>
    intro M b3 y0 n0 X hh0 hy hn hY hN hE
    obtain ⟨hW, ⟨hb9, ea, a8⟩, ⟨hs, hsv⟩, ⟨q1, q10⟩, ⟨t, hG⟩, hm, hans, hok⟩ := hR.ke X (by decide)
    have e24 := hG.1
    have e27 := hG.2.2.1
    have e31 := hG.2.2.2.2.1
    have hLS := hG.2.2.2.2.2.2
    refine z_xP zt244 11 27 [some (.ref 19), some (.int b1), some (.int b2), some (.int b3)] [.ref 19, .int b3] rfl rfl ?_
    have f19 : T[19]? = some (.inl (12, 0, 0, 0, 0)) := X.1.k rfl (by decide)
    refine z_xgX (b := 24) zt244 12 rfl zo244 zzf12_22 X f19 (by decide) (by decide) rfl ?_
    refine z_xP zt244 13 31 [some (.ref 19), some (.int b1), some (.int b2), some (.int b3)] [.ref 19, .ref 24, .int b3] rfl rfl ?_
    refine z_xgv zt244 14 rfl zo244 zzf12_242 X f19 (by decide) hb9 ?_
    have f24 : T[24]? = some (.inr (24, 0, 8, 0, 10)) := X.1.k rfl (by decide)
    refine z_xil zt244 15 rfl X f24 (by decide) (by omega) (by omega) (fun (x5 : Int32) h6 (h7 : 0 ≤ x5.toInt) (h8 : x5.toInt ≤ 10) => ?_)
    have e5 : x5.toInt = (q : Int) := by rw [← h6, z_tnA ea]; exact e24
    refine z_xJ zt244 16 rfl rfl (fun (h9 : x5.toInt ≤ b3.toInt) => ?_) (fun (h9 : b3.toInt < x5.toInt) => ?_)
    · skip
      exact z_xrv zt244 34 rfl zzr244 (kk M y0 n0 X hy hn ⟨hY.1, hN.1⟩ (z_pmE h1 hY hN (by omega)))
    refine z_xP zt244 17 39 [some (.ref 19), some (.int b1), some (.int b2), some (.int b3)] [.ref 19] rfl rfl ?_
    refine z_xgX (b := 27) zt244 18 rfl zo244 zzf12_31 X f19 (by decide) (by decide) rfl ?_
    refine z_xP zt244 19 43 [some (.ref 19), some (.int b1), some (.int b2), some (.int b3)] [.ref 19, .ref 27] rfl rfl ?_
    refine z_xgv zt244 20 rfl zo244 zzf12_242 X f19 (by decide) hb9 ?_
    have f27 : T[27]? = some (.inr (27, 0, 8, (-2147483648), 2147483647)) := X.1.k rfl (by decide)
    refine z_xil zt244 21 rfl X f27 (by decide) (by omega) (by omega) (fun (x10 : Int32) h11 (h12 : (-2147483648) ≤ x10.toInt) (h13 : x10.toInt ≤ 2147483647) => ?_)
    have e10 : x10.toInt = (pr : Int) := by rw [← h11, z_tnA ea]; exact e27.1
    refine z_xP zt244 22 48 [some (.ref 19), some (.int b1), some (.int b2), some (.int b3)] [.int b3, .int x10] rfl rfl ?_
    refine z_xI zt244 23 rfl rfl (fun (x15 : Int32) (h15 : x15 = x10 >>> (b3 &&& 31)) => ?_) rfl
    refine z_xP zt244 24 50 [some (.ref 19), some (.int b1), some (.int b2), some (.int b3)] [.int 1, .int x15] rfl rfl ?_
    refine z_xI zt244 25 rfl rfl (fun (x17 : Int32) (h17 : x17 = x15 &&& 1) => ?_) rfl
    have hbit := z_sbit h15 h17 (by omega) ⟨by omega, by omega⟩
    rw [show x10.toInt.toNat = pr by omega] at hbit
    refine z_xZ zt244 26 rfl rfl (fun (h19 : x17.toInt ≠ 0) => ?_) (fun (h19 : x17.toInt = 0) => ?_)
    · skip
      refine z_xN zt244 32 rfl rfl (fun (x20 : Int32) (h21 : x20.toInt = b3.toInt + 1) => ?_) (z_pAdd rfl rfl (by omega) (by omega))
      show z_ev (d + 3) 244 73 [some (.ref 19), some (.int b1), some (.int b2), some (.int x20)] [] M _
      refine z_xP zt244 33 25 [some (.ref 19), some (.int b1), some (.int b2), some (.int x20)] [] rfl rfl ?_
      have h2 := z_pmS hY hN (by omega)
      rw [show b3.toInt.toNat + 1 = x20.toInt.toNat by omega] at h2
      exact ih M x20 y0 n0 X ⟨by omega, by omega⟩ hy hn h2.1 h2.2 (by omega)
    refine z_xP zt244 27 58 [some (.ref 19), some (.int b1), some (.int b2), some (.int b3)] [.ref 19, .ref 19, .int b3, .ref 19] rfl rfl ?_
    refine z_xgv zt244 28 rfl zo244 zzf12_242 X f19 (by decide) hb9 ?_
    refine z_xP zt244 29 64 [some (.ref 19), some (.int b1), some (.int b2), some (.int b3)] [.int b3, .int b2, .int b1, .int av, .ref 19, .int b3, .ref 19] rfl rfl ?_
    refine z_xcV (vs := [.ref 19, .int av, .int b1, .int b2, .int b3]) (r := [.int b3, .ref 19]) (L2 := [some (.ref 19), some (.int av), some (.int b1), some (.int b2), some (.int b3), none, none, none, none]) zt244 30 rfl zo244 zzcV12_228 (Or.inl rfl) rfl X f19 rfl rfl rfl (Nat.le_of_ble_eq_true rfl) zzm219 (Nat.le_of_ble_eq_true rfl) rfl ?_
    refine zUC219 X.1 ⟨by omega, by omega⟩ ⟨by omega, by omega⟩ (fun x24 M22 X23 h25 h26 h24 => ?_)
    rw [z_tnA ea] at h24
    have hf := z_foF hLS (by omega) q10 hb1 hb2 h24
    have X27 := X.go X23 (z_sb (by decide))
    show z_ev (d + 3) 244 67 [some (.ref 19), some (.int b1), some (.int b2), some (.int b3)] [.int x24, .int b3, .ref 19] M22 _
    refine z_xcV (vs := [.ref 19, .int b3, .int x24]) (r := []) (L2 := [some (.ref 19), some (.int b3), some (.int x24)]) zt244 31 rfl zo244 zzcV12_284 (Or.inl rfl) rfl X27 f19 rfl rfl rfl (Nat.le_of_ble_eq_true rfl) zzm243 (Nat.le_of_ble_eq_true rfl) rfl ?_
    refine zUC243 X27.1 (X23.2.f f19 (by decide) hy) (X23.2.f f19 (by decide) hn) (fun M29 y3 n3 X30 hy3 hn3 ha => ?_)
    have X31 := X27.go X30 (z_sb (by decide))
    show z_ev (d + 3) 244 70 [some (.ref 19), some (.int b1), some (.int b2), some (.int b3)] [] M29 _
    refine z_xN zt244 32 rfl rfl (fun (x33 : Int32) (h34 : x33.toInt = b3.toInt + 1) => ?_) (z_pAdd rfl rfl (by omega) (by omega))
    show z_ev (d + 3) 244 73 [some (.ref 19), some (.int b1), some (.int b2), some (.int x33)] [] M29 _
    refine z_xP zt244 33 25 [some (.ref 19), some (.int b1), some (.int b2), some (.int x33)] [] rfl rfl ?_
    have h2 := z_pmA hY hN (by omega) (by omega) q10 (by omega) hf ha
    rw [show b3.toInt.toNat + 1 = x33.toInt.toNat by omega] at h2
    exact ih M29 x33 y3 n3 X31 ⟨by omega, by omega⟩ hy3 hn3 h2.1 h2.2 (by omega)
/-- heads among some, as words -/
theorem z_hdW {M : zH} {sv y n : Int32} {s q : Nat} (hy : z_wy (z_hdP s (fun k => (z_vs (z_Ar M 41) (z_Ar M 39) (Int32.ofNat k) sv.toInt.toNat).toInt) (fun k => (z_vs (z_Ar M 40) (z_Ar M 39) (Int32.ofNat k) sv.toInt.toNat).toInt)) q y.toInt) (hn : z_wy (z_hdP s (fun k => (z_vs (z_Ar M 40) (z_Ar M 39) (Int32.ofNat k) sv.toInt.toNat).toInt) (fun k => (z_vs (z_Ar M 41) (z_Ar M 39) (Int32.ofNat k) sv.toInt.toNat).toInt)) q n.toInt) : z_wy (fun k => s / 2 ^ k % 2 = 1 ∧ 0 < z_LV M sv k) q y.toInt ∧ z_wy (fun k => s / 2 ^ k % 2 = 1 ∧ z_LV M sv k < 0) q n.toInt := by
  refine ⟨z_wyC hy fun k _ => ?_, z_wyC hn fun k _ => ?_⟩
  · unfold z_hdP z_LV
    dsimp only
    exact ⟨fun ⟨a, b⟩ => ⟨a, by omega⟩, fun ⟨a, b⟩ => ⟨a, by omega⟩⟩
  · unfold z_hdP z_LV
    dsimp only
    exact ⟨fun ⟨a, b⟩ => ⟨a, by omega⟩, fun ⟨a, b⟩ => ⟨a, by omega⟩⟩
theorem zUC244 {T : List zK} {d : Nat} {K : Option Value → zH → Prop} {a q m pr en : Nat} {B : Nat → Nat} {av sv : Int32} {M0 : zH} (hR : z_RP T M0 a q m pr en B av sv) (hy0 : z_F M0 19 34 = some (.int 0)) (hn0 : z_F M0 19 35 = some (.int 0)) (kk : ∀ (M1 : zH) (y n : Int32), z_X T zw244 M0 M1 → z_F M1 19 34 = some (.int y) → z_F M1 19 35 = some (.int n) → ((0 ≤ y.toInt ∧ y.toInt < 1024) ∧ (0 ≤ n.toInt ∧ n.toInt < 1024)) → z_oP B q pr (z_LV M0 sv) y.toInt.toNat n.toInt.toNat → K none M1) : z_ev (d + 3) 244 0 [some (.ref 19), none, none, none] [] M0 K := by
  obtain ⟨hW, ⟨hb9, ea, a8⟩, ⟨hs, hsv⟩, ⟨q1, q10⟩, ⟨t, hG⟩, hm, hans, hok⟩ := id hR
  have X : z_X T zw244 M0 M0 := .refl hW
  refine z_xP zt244 0 2 [some (.ref 19), none, none, none] [.ref 19, .ref 19] rfl rfl ?_
  have f19 : T[19]? = some (.inl (12, 0, 0, 0, 0)) := X.1.k rfl (by decide)
  refine z_xgX (b := 27) zt244 1 rfl zo244 zzf12_31 X f19 (by decide) (by decide) rfl ?_
  refine z_xP zt244 2 6 [some (.ref 19), none, none, none] [.ref 19, .ref 27, .ref 19] rfl rfl ?_
  refine z_xgv zt244 3 rfl zo244 zzf12_242 X f19 (by decide) hb9 ?_
  have f27 : T[27]? = some (.inr (27, 0, 8, (-2147483648), 2147483647)) := X.1.k rfl (by decide)
  refine z_xil zt244 4 rfl X f27 (by decide) (by omega) (by omega) (fun (x5 : Int32) h6 (h7 : (-2147483648) ≤ x5.toInt) (h8 : x5.toInt ≤ 2147483647) => ?_)
  have e5 : x5.toInt = (pr : Int) := by rw [← h6, z_tnA ea]; exact hG.2.2.1.1
  refine z_xcV (vs := [.ref 19, .int x5]) (r := []) (L2 := [some (.ref 19), some (.int x5), none]) zt244 5 rfl zo244 zzcV12_288 (Or.inl rfl) rfl X f19 rfl rfl rfl (Nat.le_of_ble_eq_true rfl) zzm241 (Nat.le_of_ble_eq_true rfl) rfl ?_
  refine zUC241 (q := q) X.1 hs hsv hb9 ⟨by omega, by omega⟩ (by rw [z_tnA ea]; exact hG.1) (by omega) hy0 hn0 (fun M9 X10 ⟨y, n, h34, h35, hy, hn⟩ => ?_)
  rw [show x5.toInt.toNat = pr by omega] at hy hn
  obtain ⟨hy, hn⟩ := z_hdW hy hn
  have X11 := X.go X10 (z_sb (by decide))
  show z_ev (d + 3) 244 13 [some (.ref 19), none, none, none] [] M9 _
  refine z_xP zt244 6 14 [some (.ref 19), none, none, none] [.ref 19] rfl rfl ?_
  refine z_xgv zt244 7 rfl zo244 zzf12_275 X11 f19 (by decide) h34 ?_
  refine z_xP zt244 8 19 [some (.ref 19), some (.int y), none, none] [.ref 19] rfl rfl ?_
  refine z_xgv zt244 9 rfl zo244 zzf12_278 X11 f19 (by decide) h35 ?_
  refine z_xP zt244 10 25 [some (.ref 19), some (.int y), some (.int n), some (.int 0)] [] rfl rfl ?_
  have q0 : ((0 : Int32)).toInt = 0 := rfl
  have h2 := z_pm0 (B := B) (y1 := y.toInt.toNat) (n1 := n.toInt.toNat) (b := 0) rfl hy hn
  exact (zUB244 hR hy.1 hn.1 (z_wyB hy hn) kk 22) M9 0 y n X11 (by decide) h34 h35 h2.1 h2.2 (by omega)
/-- the loop of the leader -/
def z_ldP (Y N q i : Nat) (F : Nat → Prop) (W : Nat) (k : Nat) : Prop := W / 2 ^ k % 2 = 1 ∨ (k < i ∧ ¬ Y / 2 ^ k % 2 = 1 ∧ ¬ N / 2 ^ k % 2 = 1 ∧ F k)
section ZLD
variable {B : Nat → Nat} {q i Y N : Nat} {k v y0 n0 y n : Int32}
theorem z_ldS (hY : z_wy (z_ldP Y N q i (z_F1 B q Y N) Y) q y0.toInt) (hN : z_wy (z_ldP Y N q i (z_F0 B q Y N) N) q n0.toInt) (hp : Y / 2 ^ i % 2 = 1 ∨ N / 2 ^ i % 2 = 1) : z_wy (z_ldP Y N q (i + 1) (z_F1 B q Y N) Y) q y0.toInt ∧ z_wy (z_ldP Y N q (i + 1) (z_F0 B q Y N) N) q n0.toInt := by
  have key : ∀ {F : Nat → Prop} {W : Nat} {w : Int}, z_wy (z_ldP Y N q i F W) q w → z_wy (z_ldP Y N q (i + 1) F W) q w := fun h => z_wyC h fun k _ => by
    refine ⟨fun a => a.imp id fun ⟨b1, b2⟩ => ⟨by omega, b2⟩, fun a => a.imp id fun ⟨b1, b2, b3, b4⟩ => ⟨?_, b2, b3, b4⟩⟩
    by_cases c : k = i
    · rw [c] at b2 b3
      exact (hp.elim b2 b3).elim
    · omega
  exact ⟨key hY, key hN⟩
theorem z_ldA (hY : z_wy (z_ldP Y N q i (z_F1 B q Y N) Y) q y0.toInt) (hN : z_wy (z_ldP Y N q i (z_F0 B q Y N) N) q n0.toInt) (hp : ¬ Y / 2 ^ i % 2 = 1 ∧ ¬ N / 2 ^ i % 2 = 1) (hi : i < q) (q10 : q ≤ 10) (hk : k.toInt = (i : Int)) (hf : (v.toInt = 1 ∧ z_F1 B q Y N i) ∨ (v.toInt = 0 ∧ z_F0 B q Y N i) ∨ (v.toInt < 0 ∧ (z_ef B q Y N i 1 ↔ z_ef B q Y N i 0))) (ha : z_anw k v y0 n0 y n) : z_wy (z_ldP Y N q (i + 1) (z_F1 B q Y N) Y) q y.toInt ∧ z_wy (z_ldP Y N q (i + 1) (z_F0 B q Y N) N) q n.toInt := by
  have stay : ∀ {F : Nat → Prop} {W : Nat} {w : Int}, z_wy (z_ldP Y N q i F W) q w → ¬ F i → z_wy (z_ldP Y N q (i + 1) F W) q w := fun h hn => z_wyC h fun k _ => by
    refine ⟨fun a => a.imp id fun ⟨b1, b2⟩ => ⟨by omega, b2⟩, fun a => a.imp id fun ⟨b1, b2, b3, b4⟩ => ⟨?_, b2, b3, b4⟩⟩
    by_cases c : k = i
    · rw [c] at b4
      exact absurd b4 hn
    · omega
  have put : ∀ {F : Nat → Prop} {W : Nat} {w e : Int32}, z_wy (z_ldP Y N q i F W) q w.toInt → F i → e = w ||| ((1 : Int32) <<< (k &&& 31)) → z_wy (z_ldP Y N q (i + 1) F W) q e.toInt := fun h hF he => z_wyC (z_wyU h hi q10 hk he) fun j _ => by
    refine ⟨fun a => ?_, fun a => ?_⟩
    · rcases a with (a | ⟨a1, a2⟩) | a
      · exact Or.inl a
      · exact Or.inr ⟨by omega, a2⟩
      · rw [a]
        exact Or.inr ⟨by omega, hp.1, hp.2, hF⟩
    · rcases a with a | ⟨a1, a2⟩
      · exact Or.inl (Or.inl a)
      · by_cases c : j = i
        · exact Or.inr c
        · exact Or.inl (Or.inr ⟨by omega, a2⟩)
  rcases hf with ⟨f1, f2⟩ | ⟨f1, f2⟩ | ⟨f1, f2⟩
  · rcases ha with ⟨a1, a2, a3⟩ | ⟨a1, _⟩ | ⟨a1, _⟩
    · rw [a3]
      exact ⟨put hY f2 a2, stay hN fun c => f2.2 c.1⟩
    · omega
    · exact absurd f1 a1
  · rcases ha with ⟨a1, _⟩ | ⟨a1, a2, a3⟩ | ⟨_, a1, _⟩
    · omega
    · rw [a2]
      exact ⟨stay hY fun c => f2.2 c.1, put hN f2 a3⟩
    · exact absurd f1 a1
  · rcases ha with ⟨a1, _⟩ | ⟨a1, _⟩ | ⟨_, _, a2, a3⟩
    · omega
    · omega
    · rw [a2, a3]
      exact ⟨stay hY fun c => c.2 (f2.mp c.1), stay hN fun c => c.2 (f2.mpr c.1)⟩
end ZLD
