/-! twisted: all benches, the class -/
/-- to the next bench, whatever sets its judges were given last -/
theorem zVB110 {T : List zK} {d : Nat} {K : Option Value → zH → Prop} {a0 : Nat} {q : Nat} {t : Nat} {m : Nat} {M0 : zH} (k0 : T[a0]? = some (.inl (3, q, t, m, 5))) {N pr en sa n : Nat} {B F G : Nat → Nat} {S : Nat → Int32} {A : Int32} (hS0 : z_TSG T M0 a0 N q t m pr en sa n B F G S A) (hF : ∀ j, j < n → F j < m) (n1 : 1 ≤ n) (kk : ∀ (M1 : zH) (G2 : Nat → Nat), z_X T zw110 M0 M1 → z_TSG T M1 a0 N q t m pr en sa n B (z_nxb m n F) G2 S A → K none M1) : ∀ nn : Nat, (∀ (M : zH) (b1 : Int32) (b2 : Int32), z_X T zw110 M0 M → (-1) ≤ b1.toInt ∧ b1.toInt ≤ 1023 → (-1) ≤ b2.toInt ∧ b2.toInt ≤ 4 → b1.toInt = ((m : Nat) : Int) - 1 → b1.toInt = (m : Int) - 1 → b2.toInt < (n : Int) → M = M0 → (∀ i : Nat, b2.toInt < (i : Int) → i < n → ¬ F i + 1 < m) → ((0) * 3 + 1) * 6 + (b2.toInt - (-1)) < (nn : Int) → z_ev (d + 2) 110 18 [some (.ref a0), some (.int b1), some (.int b2), none, none] [] M K) ∧ (∀ (M : zH) (b1 : Int32) (b2 : Int32) (b3 : Int32) (b4 : Int32), z_X T zw110 M0 M → 1 ≤ b1.toInt ∧ b1.toInt ≤ 1023 → 0 ≤ b2.toInt ∧ b2.toInt ≤ 4 → 1 ≤ b3.toInt ∧ b3.toInt ≤ 1023 → 0 ≤ b4.toInt ∧ b4.toInt ≤ 5 → b3.toInt < ((m : Nat) : Int) → (0 ≤ b2.toInt ∧ b2.toInt ≤ b4.toInt ∧ b4.toInt ≤ (n : Int)) → z_rz m F n = b2.toInt.toNat + 1 → b3.toInt = (F b2.toInt.toNat : Int) + 1 → z_TSG T M a0 N q t m pr en sa n B (fun j => if b2.toInt.toNat ≤ j ∧ j < b4.toInt.toNat then F b2.toInt.toNat + 1 else F j) G S A → ((0) * 3 + 0) * 6 + (5 - b4.toInt) < (nn : Int) → z_ev (d + 2) 110 55 [some (.ref a0), some (.int b1), some (.int b2), some (.int b3), some (.int b4)] [] M K) := by
  intro nn
  induction nn with
  | zero => exact ⟨(by intros; exfalso; omega), (by intros; exfalso; omega)⟩
  | succ nn ih =>
    refine ⟨?_, ?_⟩
    · skip
      intro M b1 b2 X hh0 hh1 hh2 hb1 hb2 hM hr hE
      have hS := hS0
      rw [← hM] at hS
      obtain ⟨⟨hWM, hbk⟩, kb, ⟨hN0, hag⟩, ⟨hsa, ksa, hSS⟩, hA, ⟨n5, jv, hj4, ejv⟩, hnu, har, hln, hlz⟩ := id hS
      have g0 := X.1.p3 k0
      refine z_xP zt110 11 19 [some (.ref a0), some (.int b1), some (.int b2), none, none] [.int b2] rfl rfl ?_
      refine z_xZ zt110 12 rfl rfl (fun (h1 : b2.toInt < 0) => ?_) (fun (h1 : 0 ≤ b2.toInt) => ?_)
      · skip
        refine z_xP zt110 21 39 [some (.ref a0), some (.int b1), some (.int b2), none, none] [.int b2] rfl rfl ?_
        refine z_xZ zt110 22 rfl rfl (fun (h2 : 0 ≤ b2.toInt) => absurd h2 (by omega)) (fun (h2 : b2.toInt < 0) => ?_)
        exact z_xrv zt110 23 rfl zzr110 (kk M G X (by
          have e0 : z_rz m F n = 0 := z_rz0 fun i hi => hr i (by omega) hi
          have e : z_nxb m n F = F := by
            funext i
            show (if z_rz m F n = 0 then F i else _) = F i
            rw [if_pos e0]
          rw [e]
          exact hS))
      refine z_xP zt110 13 23 [some (.ref a0), some (.int b1), some (.int b2), none, none] [.ref a0] rfl rfl ?_
      refine z_xgR (κ := .inr (210, 0, 5, 0, ((m : Nat) : Int) - 1)) zt110 14 rfl zo110 zzf3_33 X k0 (by decide) (by decide) rfl (fun (a4 : Nat) h3 k5 => ?_)
      refine z_xP zt110 15 27 [some (.ref a0), some (.int b1), some (.int b2), none, none] [.int b2, .ref a4] rfl rfl ?_
      refine z_xil zt110 16 rfl X k5 (by decide) (by omega) (by omega) (fun (x6 : Int32) h7 (h8 : 0 ≤ x6.toInt) (h9 : x6.toInt ≤ ((m : Nat) : Int) - 1) => ?_)
      have ia := z_rfe h3 (hbk _ _ _ _ _ k0).2.2.2.2.2.2.2.1
      have h7b := h7
      rw [ia] at h7b
      have e6 : x6.toInt = (F b2.toInt.toNat : Int) := (congrArg Int32.toInt h7b).symm.trans (hnu b2.toInt.toNat (by omega))
      refine z_xP zt110 17 29 [some (.ref a0), some (.int b1), some (.int b2), none, none] [.int b1, .int x6] rfl rfl ?_
      refine z_xJ zt110 18 rfl rfl (fun (h10 : x6.toInt < b1.toInt) => ?_) (fun (h10 : b1.toInt ≤ x6.toInt) => ?_)
      · skip
        refine z_xP zt110 21 39 [some (.ref a0), some (.int b1), some (.int b2), none, none] [.int b2] rfl rfl ?_
        refine z_xZ zt110 22 rfl rfl (fun (h11 : 0 ≤ b2.toInt) => ?_) (fun (h11 : b2.toInt < 0) => absurd h11 (by omega))
        refine z_xP zt110 24 44 [some (.ref a0), some (.int b1), some (.int b2), none, none] [.ref a0] rfl rfl ?_
        refine z_xgv zt110 25 rfl zo110 zzf3_33 X k0 (by decide) h3 ?_
        refine z_xP zt110 26 48 [some (.ref a0), some (.int b1), some (.int b2), none, none] [.int b2, .ref a4] rfl rfl ?_
        refine z_xil zt110 27 rfl X k5 (by decide) (by omega) (by omega) (fun (x12 : Int32) h13 (h14 : 0 ≤ x12.toInt) (h15 : x12.toInt ≤ ((m : Nat) : Int) - 1) => ?_)
        have h16 := congrArg Int32.toInt (h13.symm.trans h7)
        refine z_xP zt110 28 50 [some (.ref a0), some (.int b1), some (.int b2), none, none] [.int 1, .int x12] rfl rfl ?_
        refine z_xI zt110 29 rfl rfl (fun (x17 : Int32) (h18 : x17.toInt = x12.toInt + 1) => ?_) (z_pAdd rfl rfl (by omega) (by omega))
        refine z_xP zt110 30 55 [some (.ref a0), some (.int b1), some (.int b2), some (.int x17), some (.int b2)] [] rfl rfl ?_
        refine ih.2 M b1 b2 x17 b2 X ⟨by omega, by omega⟩ ⟨by omega, by omega⟩ ⟨by omega, by omega⟩ ⟨by omega, by omega⟩ (by omega) ⟨by omega, by omega, by omega⟩ (z_rzE (by omega) (by omega) fun i g1 g2 => hr i (by omega) g2) (by omega) (hS.C (fun j hj => ?_) fun _ _ => rfl) (by omega)
        (try dsimp only)
        rw [if_neg (by omega)]
      refine z_xN zt110 19 rfl rfl (fun (x19 : Int32) (h20 : x19.toInt = b2.toInt + (-1)) => ?_) (z_pAdd rfl rfl (by omega) (by omega))
      show z_ev (d + 2) 110 35 [some (.ref a0), some (.int b1), some (.int x19), none, none] [] M _
      refine z_xP zt110 20 18 [some (.ref a0), some (.int b1), some (.int x19), none, none] [] rfl rfl ?_
      refine ih.1 M b1 x19 X ⟨by omega, by omega⟩ ⟨by omega, by omega⟩ (by omega) hb1 (by omega) hM (fun i g1 g2 => ?_) (by omega)
      by_cases ci : i = b2.toInt.toNat
      · rw [ci]
        omega
      · exact hr i (by omega) g2
    · skip
      intro M b1 b2 b3 b4 X hh0 hh1 hh2 hh3 hh4 hb hz hv hS hE
      obtain ⟨⟨hWM, hbk⟩, kb, ⟨hN0, hag⟩, ⟨hsa, ksa, hSS⟩, hA, ⟨n5, jv, hj4, ejv⟩, hnu, har, hln, hlz⟩ := id hS
      have hrm := z_nxbR (m := m) (f := F) n (by omega)
      rw [hz, Nat.add_sub_cancel] at hrm
      have g0 := X.1.p3 k0
      refine z_xP zt110 31 58 [some (.ref a0), some (.int b1), some (.int b2), some (.int b3), some (.int b4)] [.ref a0, .int b4] rfl rfl ?_
      refine z_xgI zt110 32 rfl zo110 zzf3_53 X k0 (by decide) (by decide) rfl (fun (x2 : Int32) h1 (h3 : 0 ≤ x2.toInt) (h4 : x2.toInt ≤ (5 : Int)) => ?_)
      have e2 : x2.toInt = (n : Int) := by
        rw [z_ive h1 hj4]
        exact ejv
      refine z_xJ zt110 33 rfl rfl (fun (h5 : x2.toInt ≤ b4.toInt) => ?_) (fun (h5 : b4.toInt < x2.toInt) => ?_)
      · skip
        refine z_xP zt110 40 79 [some (.ref a0), some (.int b1), some (.int b2), some (.int b3), some (.int b4)] [.ref a0] rfl rfl ?_
        refine z_xcV (vs := [.ref a0]) (r := []) (L2 := [some (.ref a0), none, none]) zt110 41 rfl zo110 zzcV3_148 (Or.inl rfl) rfl X k0 rfl rfl rfl (Nat.le_of_ble_eq_true rfl) zzm111 (Nat.le_of_ble_eq_true rfl) rfl ?_
        have hS2 : z_TSG T M a0 N q t m pr en sa n B (z_nxb m n F) G S A := hS.C (fun j hj => by
          (try dsimp only)
          show _ = (if z_rz m F n = 0 then F j else if j + 1 < z_rz m F n then F j else F (z_rz m F n - 1) + 1)
          rw [hz, if_neg (Nat.succ_ne_zero _), Nat.add_sub_cancel]
          by_cases cj : j + 1 < b2.toInt.toNat + 1
          · rw [if_pos cj, if_neg (by omega)]
          · rw [if_neg cj, if_pos (by omega)]) fun _ _ => rfl
        refine zUC111 X.1 k0 hS2 (fun j hj => ?_) (fun M6 X7 hS6 => ?_)
        · show (if z_rz m F n = 0 then F j else if j + 1 < z_rz m F n then F j else F (z_rz m F n - 1) + 1) < m
          rw [hz, if_neg (Nat.succ_ne_zero _), Nat.add_sub_cancel]
          split
          · exact hF j hj
          · exact hrm
        have X8 := X.go X7 (z_sb (by decide))
        show z_ev (d + 2) 110 82 [some (.ref a0), some (.int b1), some (.int b2), some (.int b3), some (.int b4)] [] M6 _
        exact z_xrv zt110 42 rfl zzr110 (kk M6 _ X8 hS6)
      refine z_xP zt110 34 65 [some (.ref a0), some (.int b1), some (.int b2), some (.int b3), some (.int b4)] [.ref a0] rfl rfl ?_
      refine z_xgR (κ := .inr (210, 0, 5, 0, ((m : Nat) : Int) - 1)) zt110 35 rfl zo110 zzf3_33 X k0 (by decide) (by decide) rfl (fun (a11 : Nat) h10 k12 => ?_)
      refine z_xP zt110 36 71 [some (.ref a0), some (.int b1), some (.int b2), some (.int b3), some (.int b4)] [.int b3, .int b4, .ref a11] rfl rfl ?_
      refine z_xis zt110 37 rfl X k12 (by decide) (X.1.g4 k12 (by decide)) (by omega) (by omega) (by omega) (by omega) (by decide) (fun M13 X14 e15 h16 => ?_)
      refine z_xN zt110 38 rfl rfl (fun (x17 : Int32) (h18 : x17.toInt = b4.toInt + 1) => ?_) (z_pAdd rfl rfl (by omega) (by omega))
      show z_ev (d + 2) 110 75 [some (.ref a0), some (.int b1), some (.int b2), some (.int b3), some (.int x17)] [] M13 _
      refine z_xP zt110 39 55 [some (.ref a0), some (.int b1), some (.int b2), some (.int b3), some (.int x17)] [] rfl rfl ?_
      have ia := z_rfe h10 (hbk _ _ _ _ _ k0).2.2.2.2.2.2.2.1
      rw [ia] at h16
      have es : x17.toInt.toNat = b4.toInt.toNat + 1 := by omega
      refine ih.2 M13 b1 b2 b3 x17 X14 ⟨by omega, by omega⟩ ⟨by omega, by omega⟩ ⟨by omega, by omega⟩ ⟨by omega, by omega⟩ (by omega) ⟨by omega, by omega, by omega⟩ hz hv (hS.nu X14.1 e15 fun j hj => ?_) (by omega)
      (try dsimp only)
      rw [h16, es]
      show (if j = b4.toInt.toNat then b3 else z_Ar M (a0 + 8) j).toInt = _
      by_cases cj : j = b4.toInt.toNat
      · rw [if_pos cj, if_pos (by omega), hv]
        rfl
      · rw [if_neg cj, hnu j hj]
        (try dsimp only)
        by_cases cj2 : b2.toInt.toNat ≤ j ∧ j < b4.toInt.toNat
        · rw [if_pos cj2, if_pos (by omega)]
        · rw [if_neg cj2, if_neg (by omega)]
theorem zVC110 {T : List zK} {d : Nat} {K : Option Value → zH → Prop} {a0 : Nat} {q : Nat} {t : Nat} {m : Nat} {M0 : zH} (hW : z_W M0 T) (k0 : T[a0]? = some (.inl (3, q, t, m, 5))) {N pr en sa n : Nat} {B F G : Nat → Nat} {S : Nat → Int32} {A : Int32} (hS : z_TSG T M0 a0 N q t m pr en sa n B F G S A) (hF : ∀ j, j < n → F j < m) (n1 : 1 ≤ n) (kk : ∀ (M1 : zH) (G2 : Nat → Nat), z_X T zw110 M0 M1 → z_TSG T M1 a0 N q t m pr en sa n B (z_nxb m n F) G2 S A → K none M1) : z_ev (d + 2) 110 0 [some (.ref a0), none, none, none, none] [] M0 K := by
  have X : z_X T zw110 M0 M0 := .refl hW
  have g0 := X.1.p3 k0
  obtain ⟨⟨hWM, hbk⟩, kb, ⟨hN0, hag⟩, ⟨hsa, ksa, hSS⟩, hA, ⟨n5, jv, hj4, ejv⟩, hnu, har, hln, hlz⟩ := id hS
  refine z_xP zt110 0 1 [some (.ref a0), none, none, none, none] [.ref a0] rfl rfl ?_
  refine z_xgR (κ := .inl (2, q, t, m, 0)) zt110 1 rfl zo110 zzf3_39 X k0 (by decide) (by decide) rfl (fun (a2 : Nat) h1 k3 => ?_)
  have g4 := X.1.p2 k3
  refine z_xgR (κ := .inr (102, 0, m, 0, 1023)) zt110 2 rfl zo110 zzf3_101 X k3 (by decide) (by decide) rfl (fun (a6 : Nat) h5 k7 => ?_)
  refine z_xln zt110 3 rfl X k7 (by decide) (by omega) (fun (x8 : Int32) (h9 : x8.toInt = ((m : Nat) : Int)) => ?_)
  refine z_xP zt110 4 9 [some (.ref a0), none, none, none, none] [.int 1, .int x8] rfl rfl ?_
  refine z_xI zt110 5 rfl rfl (fun (x10 : Int32) (h11 : x10.toInt = x8.toInt - 1) => ?_) (z_pSub rfl rfl (by omega) (by omega))
  refine z_xP zt110 6 12 [some (.ref a0), some (.int x10), none, none, none] [.ref a0] rfl rfl ?_
  refine z_xgI zt110 7 rfl zo110 zzf3_53 X k0 (by decide) (by decide) rfl (fun (x13 : Int32) h12 (h14 : 0 ≤ x13.toInt) (h15 : x13.toInt ≤ (5 : Int)) => ?_)
  refine z_xP zt110 8 16 [some (.ref a0), some (.int x10), none, none, none] [.int 1, .int x13] rfl rfl ?_
  refine z_xI zt110 9 rfl rfl (fun (x16 : Int32) (h17 : x16.toInt = x13.toInt - 1) => ?_) (z_pSub rfl rfl (by omega) (by omega))
  refine z_xP zt110 10 18 [some (.ref a0), some (.int x10), some (.int x16), none, none] [] rfl rfl ?_
  have e13 : x13.toInt = (n : Int) := by
    rw [z_ive h12 hj4]
    exact ejv
  exact (zVB110 k0 hS hF n1 kk 18).1 M0 x10 x16 X ⟨by omega, by omega⟩ ⟨by omega, by omega⟩ (by omega) (by omega) (by omega) rfl (fun i g1 g2 => by omega) (by omega)
/-- some judge would have a liker outcome with another set -/
def z_pTw (c : Nat) (B : Nat → Nat) (q pr en sh ch m n : Nat) (S : Nat → Int32) (A : Int32) (k : Nat) : Prop := ∃ y u, z_oF c B q pr en sh ch m n S A k y u ∧ ∃ i, i < n ∧ ∃ w, w < m ∧ z_twBe c B q pr en sh ch n S A (z_bk m n k) i (z_lke (S (z_bk m n k i)).toInt.toNat y u 10) w
theorem zN120 {T : List zK} {d : Nat} {K : Option Value → zH → Prop} {a0 ci a1 a3 N q1 t1 m1 pr en sa : Nat} {B : Nat → Nat} {S : Nat → Int32} {A sh ch p2 : Int32} {M0 : zH} (w0 : 4 ≤ ci ∧ ci ≤ 11) (k0 : T[a0]? = some (.inl (ci, 0, 0, 0, 0))) (k1 : T[a1]? = some (.inl (3, q1, t1, m1, 5))) (u2 : 1 ≤ p2.toInt ∧ p2.toInt ≤ 5) (k3 : T[a3]? = some (.inr (300, 0, 16380, (-2147483648), 2147483647))) (hSA : z_SA q1 m1 S A) (hpe : pr < 1024 ∧ en < 1024) (fs : z_F M0 a0 1 = some (.int sh)) (fc : z_F M0 a0 2 = some (.int ch)) (m12 : 1 ≤ m1 ∧ m1 ≤ 12) (hcA : z_cA M0) (hWM0 : z_W M0 T) {b4 b5 b6 : Int32} {M : zH} {o7 o8 o9 : Option Value} (X : z_X T zw120 M0 M) (hS : (∃ G : Nat → Nat, z_TSG T M a1 N q1 t1 m1 pr en sa p2.toInt.toNat B (z_bk m1 p2.toInt.toNat b6.toInt.toNat) G S A)) (hRM : z_RM M a3 ci B q1 pr en sh.toInt.toNat ch.toInt.toNat m1 p2.toInt.toNat S A) (hh5 : 0 ≤ b5.toInt ∧ b5.toInt ≤ 4368) (hh6 : 0 ≤ b6.toInt ∧ b6.toInt < b5.toInt) (kk : ∀ (M1 : zH) (x : Int32), z_X T zw120 M0 M1 → (∃ G : Nat → Nat, z_TSG T M1 a1 N q1 t1 m1 pr en sa p2.toInt.toNat B (z_bk m1 p2.toInt.toNat x.toInt.toNat) G S A) → z_RM M1 a3 ci B q1 pr en sh.toInt.toNat ch.toInt.toNat m1 p2.toInt.toNat S A → x.toInt = b6.toInt + 1 → z_ev (d + 6) 120 18 [some (.ref a0), some (.ref a1), some (.int p2), some (.ref a3), some (.int b4), some (.int b5), some (.int x), o7, o8, o9] [] M1 K) : z_ev (d + 6) 120 83 [some (.ref a0), some (.ref a1), some (.int p2), some (.ref a3), some (.int b4), some (.int b5), some (.int b6), o7, o8, o9] [] M K := by
  have hFb : ∀ j, j < p2.toInt.toNat → z_bk m1 p2.toInt.toNat b6.toInt.toNat j < m1 := fun j _ => z_bkB m12.1 _ j
  obtain ⟨G, hS⟩ := hS
  refine z_xP zt120 25 84 [some (.ref a0), some (.ref a1), some (.int p2), some (.ref a3), some (.int b4), some (.int b5), some (.int b6), o7, o8, o9] [.ref a1] rfl rfl ?_
  refine z_xcV (vs := [.ref a1]) (r := []) (L2 := [some (.ref a1), none, none, none, none]) zt120 26 rfl zo120 zzcV4_68 (Or.inl rfl) rfl X k1 rfl rfl rfl (Nat.le_of_ble_eq_true rfl) zzm110 (Nat.le_of_ble_eq_true rfl) rfl ?_
  refine zVC110 X.1 k1 hS hFb (by omega) (fun M7 G2 X8 hS7 => ?_)
  have X9 := X.go X8 (z_sb (by decide))
  show z_ev (d + 6) 120 87 [some (.ref a0), some (.ref a1), some (.int p2), some (.ref a3), some (.int b4), some (.int b5), some (.int b6), o7, o8, o9] [] M7 _
  refine z_xN zt120 27 rfl rfl (fun (x11 : Int32) (h12 : x11.toInt = b6.toInt + 1) => ?_) (z_pAdd rfl rfl (by omega) (by omega))
  show z_ev (d + 6) 120 90 [some (.ref a0), some (.ref a1), some (.int p2), some (.ref a3), some (.int b4), some (.int b5), some (.int x11), o7, o8, o9] [] M7 _
  refine z_xP zt120 28 18 [some (.ref a0), some (.ref a1), some (.int p2), some (.ref a3), some (.int b4), some (.int b5), some (.int x11), o7, o8, o9] [] rfl rfl ?_
  have es : x11.toInt.toNat = b6.toInt.toNat + 1 := by omega
  exact kk M7 x11 X9 ⟨G2, by rw [es]; exact hS7⟩ (hRM.eq (X8.2.a k3 (by decide))) h12
theorem zV120 {T : List zK} {d : Nat} {K : Option Value → zH → Prop} {a0 ci a1 a3 N q1 t1 m1 pr en sa : Nat} {B : Nat → Nat} {S : Nat → Int32} {A sh ch p2 : Int32} {M0 : zH} (w0 : 4 ≤ ci ∧ ci ≤ 11) (k0 : T[a0]? = some (.inl (ci, 0, 0, 0, 0))) (k1 : T[a1]? = some (.inl (3, q1, t1, m1, 5))) (u2 : 1 ≤ p2.toInt ∧ p2.toInt ≤ 5) (k3 : T[a3]? = some (.inr (300, 0, 16380, (-2147483648), 2147483647))) (hSA : z_SA q1 m1 S A) (hpe : pr < 1024 ∧ en < 1024) (fs : z_F M0 a0 1 = some (.int sh)) (fc : z_F M0 a0 2 = some (.int ch)) (m12 : 1 ≤ m1 ∧ m1 ≤ 12) (hcA : z_cA M0) (hWM0 : z_W M0 T) {b4 b5 b6 : Int32} {M : zH} {b7 b8 b9 : Int32} (X : z_X T zw120 M0 M) (hS : (∃ G : Nat → Nat, z_TSG T M a1 N q1 t1 m1 pr en sa p2.toInt.toNat B (z_bk m1 p2.toInt.toNat b6.toInt.toNat) G S A)) (hRM : z_RM M a3 ci B q1 pr en sh.toInt.toNat ch.toInt.toNat m1 p2.toInt.toNat S A) (hh5 : 0 ≤ b5.toInt ∧ b5.toInt ≤ 4368) (hh6 : 0 ≤ b6.toInt ∧ b6.toInt < b5.toInt) (h4 : 0 ≤ b4.toInt ∧ b4.toInt ≤ b6.toInt) (h8 : (b8.toInt = 0 ∧ ¬ z_pTw ci B q1 pr en sh.toInt.toNat ch.toInt.toNat m1 p2.toInt.toNat S A b6.toInt.toNat) ∨ (b8.toInt = 1 ∧ z_pTw ci B q1 pr en sh.toInt.toNat ch.toInt.toNat m1 p2.toInt.toNat S A b6.toInt.toNat)) (kk : ∀ (M1 : zH) (y x : Int32) (o7 o8 o9 : Option Value), z_X T zw120 M0 M1 → (∃ G : Nat → Nat, z_TSG T M1 a1 N q1 t1 m1 pr en sa p2.toInt.toNat B (z_bk m1 p2.toInt.toNat x.toInt.toNat) G S A) → z_RM M1 a3 ci B q1 pr en sh.toInt.toNat ch.toInt.toNat m1 p2.toInt.toNat S A → x.toInt = b6.toInt + 1 → ((y.toInt = b4.toInt ∧ ¬ z_pTw ci B q1 pr en sh.toInt.toNat ch.toInt.toNat m1 p2.toInt.toNat S A b6.toInt.toNat) ∨ (y.toInt = b4.toInt + 1 ∧ z_pTw ci B q1 pr en sh.toInt.toNat ch.toInt.toNat m1 p2.toInt.toNat S A b6.toInt.toNat)) → z_ev (d + 6) 120 18 [some (.ref a0), some (.ref a1), some (.int p2), some (.ref a3), some (.int y), some (.int b5), some (.int x), o7, o8, o9] [] M1 K) : z_ev (d + 6) 120 75 [some (.ref a0), some (.ref a1), some (.int p2), some (.ref a3), some (.int b4), some (.int b5), some (.int b6), (some (.int b7)), (some (.int b8)), (some (.int b9))] [] M K := by
  refine z_xP zt120 22 77 [some (.ref a0), some (.ref a1), some (.int p2), some (.ref a3), some (.int b4), some (.int b5), some (.int b6), (some (.int b7)), (some (.int b8)), (some (.int b9))] [.int b8] rfl rfl ?_
  refine z_xZ zt120 23 rfl rfl (fun (h6 : b8.toInt = 0) => ?_) (fun (h6 : b8.toInt ≠ 0) => ?_)
  · skip
    refine zN120 w0 k0 k1 u2 k3 hSA hpe fs fc m12 hcA hWM0 X hS hRM hh5 hh6 (fun M1 x X1 g1 g2 g3 => kk M1 b4 x _ _ _ X1 g1 g2 g3 ?_)
    rcases h8 with ⟨_, h8⟩ | ⟨g, _⟩
    · exact Or.inl ⟨rfl, h8⟩
    · omega
  have h13 := z_b32 b4
  refine z_xN zt120 24 rfl rfl (fun (x14 : Int32) (h15 : x14.toInt = b4.toInt + 1) => ?_) (z_pAdd rfl rfl (by omega) (by omega))
  show z_ev (d + 6) 120 83 [some (.ref a0), some (.ref a1), some (.int p2), some (.ref a3), some (.int x14), some (.int b5), some (.int b6), (some (.int b7)), (some (.int b8)), (some (.int b9))] [] M _
  refine zN120 (b4 := x14) w0 k0 k1 u2 k3 hSA hpe fs fc m12 hcA hWM0 X hS hRM hh5 hh6 (fun M1 x X1 g1 g2 g3 => kk M1 x14 x _ _ _ X1 g1 g2 g3 ?_)
  rcases h8 with ⟨g, _⟩ | ⟨_, h8⟩
  · omega
  · exact Or.inr ⟨h15, h8⟩
theorem zUB120 {T : List zK} {d : Nat} {K : Option Value → zH → Prop} {a0 ci a1 a3 N q1 t1 m1 pr en sa : Nat} {B : Nat → Nat} {S : Nat → Int32} {A sh ch p2 : Int32} {M0 : zH} (w0 : 4 ≤ ci ∧ ci ≤ 11) (k0 : T[a0]? = some (.inl (ci, 0, 0, 0, 0))) (k1 : T[a1]? = some (.inl (3, q1, t1, m1, 5))) (u2 : 1 ≤ p2.toInt ∧ p2.toInt ≤ 5) (k3 : T[a3]? = some (.inr (300, 0, 16380, (-2147483648), 2147483647))) (hSA : z_SA q1 m1 S A) (hpe : pr < 1024 ∧ en < 1024) (fs : z_F M0 a0 1 = some (.int sh)) (fc : z_F M0 a0 2 = some (.int ch)) (m12 : 1 ≤ m1 ∧ m1 ≤ 12) (hcA : z_cA M0) (hWM0 : z_W M0 T) (kk : ∀ (x : Int32) (M1 : zH), z_X T zw120 M0 M1 → z_kA (z_pTw ci B q1 pr en sh.toInt.toNat ch.toInt.toNat m1 p2.toInt.toNat S A) (fun _ => 0) (z_T m1 p2.toInt.toNat) 0 x.toInt → z_lz M1 a1 → K (some (.int x)) M1) : ∀ nn : Nat, (∀ (M : zH) (b4 : Int32) (b5 : Int32) (b6 : Int32) (o7 : Option Value) (o8 : Option Value) (o9 : Option Value), z_X T zw120 M0 M → (∃ G : Nat → Nat, z_TSG T M a1 N q1 t1 m1 pr en sa p2.toInt.toNat B (z_bk m1 p2.toInt.toNat b6.toInt.toNat) G S A) → z_RM M a3 ci B q1 pr en sh.toInt.toNat ch.toInt.toNat m1 p2.toInt.toNat S A → (0 ≤ b5.toInt ∧ b5.toInt ≤ 4368) → b5.toInt = (z_T m1 p2.toInt.toNat : Int) → (0 ≤ b6.toInt ∧ b6.toInt ≤ b5.toInt) → (∃ (c : Nat) (y : Int), z_kr (z_pTw ci B q1 pr en sh.toInt.toNat ch.toInt.toNat m1 p2.toInt.toNat S A) (fun _ => 0) b6.toInt.toNat c y ∧ b4.toInt = (c : Int)) → (8192 - b6.toInt) * 20 + 10 < (nn : Int) → z_ev (d + 6) 120 18 [some (.ref a0), some (.ref a1), some (.int p2), some (.ref a3), some (.int b4), some (.int b5), some (.int b6), o7, o8, o9] [] M K) ∧ (∀ (M : zH) (b4 : Int32) (b5 : Int32) (b6 : Int32) (b7 : Int32) (b8 : Int32) (b9 : Int32), z_X T zw120 M0 M → (∃ G : Nat → Nat, z_TSG T M a1 N q1 t1 m1 pr en sa p2.toInt.toNat B (z_bk m1 p2.toInt.toNat b6.toInt.toNat) G S A) → z_RM M a3 ci B q1 pr en sh.toInt.toNat ch.toInt.toNat m1 p2.toInt.toNat S A → (0 ≤ b5.toInt ∧ b5.toInt ≤ 4368) → b5.toInt = (z_T m1 p2.toInt.toNat : Int) → (0 ≤ b6.toInt ∧ b6.toInt < b5.toInt) → (∃ (c : Nat) (y : Int), z_kr (z_pTw ci B q1 pr en sh.toInt.toNat ch.toInt.toNat m1 p2.toInt.toNat S A) (fun _ => 0) b6.toInt.toNat c y ∧ b4.toInt = (c : Int)) → z_oW ci B q1 pr en sh.toInt.toNat ch.toInt.toNat p2.toInt.toNat S A (z_bk m1 p2.toInt.toNat b6.toInt.toNat) b7.toInt → (0 ≤ b9.toInt ∧ b9.toInt ≤ p2.toInt) → ((b8.toInt = 0 ∧ ∀ i, i < b9.toInt.toNat → ¬ ∃ w, w < m1 ∧ z_twBe ci B q1 pr en sh.toInt.toNat ch.toInt.toNat p2.toInt.toNat S A (z_bk m1 p2.toInt.toNat b6.toInt.toNat) i (z_lke (S (z_bk m1 p2.toInt.toNat b6.toInt.toNat i)).toInt.toNat (b7.toInt.toNat % 1024) (b7.toInt.toNat / 1024) 10) w) ∨ (b8.toInt = 1 ∧ ∃ i, i < p2.toInt.toNat ∧ ∃ w, w < m1 ∧ z_twBe ci B q1 pr en sh.toInt.toNat ch.toInt.toNat p2.toInt.toNat S A (z_bk m1 p2.toInt.toNat b6.toInt.toNat) i (z_lke (S (z_bk m1 p2.toInt.toNat b6.toInt.toNat i)).toInt.toNat (b7.toInt.toNat % 1024) (b7.toInt.toNat / 1024) 10) w)) → (8192 - b6.toInt) * 20 + (5 - b9.toInt) < (nn : Int) → z_ev (d + 6) 120 43 [some (.ref a0), some (.ref a1), some (.int p2), some (.ref a3), some (.int b4), some (.int b5), some (.int b6), (some (.int b7)), (some (.int b8)), (some (.int b9))] [] M K) := by
  intro nn
  induction nn with
  | zero => exact ⟨(by intros; exfalso; omega), (by intros; exfalso; omega)⟩
  | succ nn ih =>
    have hw : ∀ k, k < 4 → ¬ (1000 + 100 * ci + k) ∈ zw120 := fun k hk hm => by
      have h : ∀ x ∈ zw120, x < 1400 := by decide
      have := h _ hm
      omega
    refine ⟨?_, ?_⟩
    · skip
      intro M b4 b5 b6 o7 o8 o9 X hSx hRM hh5 hb5 hh6 hC hE
      obtain ⟨G, hS⟩ := id hSx
      obtain ⟨⟨hWM, hbk⟩, kb, ⟨hN0, hag⟩, ⟨hsa, ksa, hSS⟩, hA, ⟨_, jv4, hj4, ejv4⟩, hnu, har, hln, hlz⟩ := id hS
      have hFb : ∀ j, j < p2.toInt.toNat → z_bk m1 p2.toInt.toNat b6.toInt.toNat j < m1 := fun j _ => z_bkB m12.1 _ j
      have hRk := z_RkU (H := z_bk m1 p2.toInt.toNat b6.toInt.toNat) p2.toInt.toNat (by omega) (fun i hi => by have := hFb i hi; omega)
      have g1 := X.1.p3 k1
      refine z_xP zt120 5 22 [some (.ref a0), some (.ref a1), some (.int p2), some (.ref a3), some (.int b4), some (.int b5), some (.int b6), o7, o8, o9] [.int b5, .int b6] rfl rfl ?_
      refine z_xJ zt120 6 rfl rfl (fun (h1 : b5.toInt ≤ b6.toInt) => ?_) (fun (h1 : b6.toInt < b5.toInt) => ?_)
      · skip
        refine z_xP zt120 29 95 [some (.ref a0), some (.ref a1), some (.int p2), some (.ref a3), some (.int b4), some (.int b5), some (.int b6), o7, o8, o9] [.int b4] rfl rfl ?_
        obtain ⟨c, y, hk, e4⟩ := hC
        exact z_xri zt120 30 rfl zzr120 (kk b4 M X ⟨c, y, by rw [show z_T m1 p2.toInt.toNat = b6.toInt.toNat by omega]; exact hk, Or.inl ⟨rfl, e4⟩⟩ hlz)
      refine z_xP zt120 7 28 [some (.ref a0), some (.ref a1), some (.int p2), some (.ref a3), some (.int b4), some (.int b5), some (.int b6), o7, o8, o9] [.ref a1, .ref a1, .ref a0] rfl rfl ?_
      refine z_xcV (vs := [.ref a1]) (r := [.ref a1, .ref a0]) (L2 := [some (.ref a1), none, none]) zt120 8 rfl zo120 zzcV4_101 (Or.inl rfl) rfl X k1 rfl rfl rfl (Nat.le_of_ble_eq_true rfl) zzm121 (Nat.le_of_ble_eq_true rfl) rfl ?_
      refine zUC121 hS (fun i hi => by have := hFb i hi; omega) (hcA.ke hWM0 X.2 (by decide)) (fun x4 M2 X3 h4 => ?_)
      have X5 := X.go X3 (z_sb (by decide))
      show z_ev (d + 6) 120 31 [some (.ref a0), some (.ref a1), some (.int p2), some (.ref a3), some (.int b4), some (.int b5), some (.int b6), o7, o8, o9] [.int x4, .ref a1, .ref a0] M2 _
      refine z_xP zt120 9 32 [some (.ref a0), some (.ref a1), some (.int p2), some (.ref a3), some (.int b4), some (.int b5), some (.int b6), o7, o8, o9] [.ref a3, .int x4, .ref a1, .ref a0] rfl rfl ?_
      refine z_xcV (vs := [.ref a0, .ref a1, .int x4, .ref a3]) (r := []) (L2 := [some (.ref a0), some (.ref a1), some (.int x4), some (.ref a3), none]) zt120 10 rfl zo120 zzcV4_104 (Or.inr rfl) rfl X5 k0 (z_w8 (fun c => (([(4, 122), (5, 122), (6, 122), (7, 122), (8, 122), (9, 122), (10, 122), (11, 122)] : List (Nat × Nat)).find? fun t => t.1 == c) = some (c, 122)) rfl rfl rfl rfl rfl rfl rfl rfl w0) rfl rfl (Nat.le_of_ble_eq_true rfl) zzm122 (Nat.le_of_ble_eq_true rfl) rfl ?_
      refine zUC122 w0 k0 k3 (hS.ke X3 (by decide)) hFb (z_bkSr b6.toInt.toNat) z_eqm.refl h4 (by omega) m12.2 hSA hpe (X5.2.f k0 (hw 1 (by decide)) fs) (X5.2.f k0 (hw 2 (by decide)) fc) (hRM.eq (X3.2.a k3 (by decide))) (fun x9 M7 G2 X8 hS7 hRM7 hoW => ?_)
      have X10 := X5.go X8 (z_sb (by decide))
      show z_ev (d + 6) 120 35 [some (.ref a0), some (.ref a1), some (.int p2), some (.ref a3), some (.int b4), some (.int b5), some (.int b6), o7, o8, o9] [.int x9] M7 _
      refine z_xP zt120 11 43 [some (.ref a0), some (.ref a1), some (.int p2), some (.ref a3), some (.int b4), some (.int b5), some (.int b6), (some (.int x9)), (some (.int 0)), (some (.int 0))] [] rfl rfl ?_
      have q0 : ((0 : Int32)).toInt = 0 := rfl
      exact ih.2 M7 b4 b5 b6 x9 (0) (0) X10 ⟨G2, hS7⟩ hRM7 hh5 hb5 ⟨by omega, by omega⟩ hC hoW ⟨by omega, by omega⟩ (Or.inl ⟨rfl, fun i hi => absurd hi (Nat.not_lt_zero i)⟩) (by omega)
    · skip
      intro M b4 b5 b6 b7 b8 b9 X hSx hRM hh5 hb5 hh6 hC hoW hh9 h8 hE
      obtain ⟨G, hS⟩ := id hSx
      obtain ⟨⟨hWM, hbk⟩, kb, ⟨hN0, hag⟩, ⟨hsa, ksa, hSS⟩, hA, ⟨_, jv4, hj4, ejv4⟩, hnu, har, hln, hlz⟩ := id hS
      have hFb : ∀ j, j < p2.toInt.toNat → z_bk m1 p2.toInt.toNat b6.toInt.toNat j < m1 := fun j _ => z_bkB m12.1 _ j
      have g1 := X.1.p3 k1
      have hc4 : 0 ≤ b4.toInt ∧ b4.toInt ≤ b6.toInt := by
        obtain ⟨c, y, hk, e4⟩ := hC
        have := z_krM hk
        omega
      have kT : ∀ (M1 : zH) (y x : Int32) (o7 o8 o9 : Option Value), z_X T zw120 M0 M1 → (∃ G : Nat → Nat, z_TSG T M1 a1 N q1 t1 m1 pr en sa p2.toInt.toNat B (z_bk m1 p2.toInt.toNat x.toInt.toNat) G S A) → z_RM M1 a3 ci B q1 pr en sh.toInt.toNat ch.toInt.toNat m1 p2.toInt.toNat S A → x.toInt = b6.toInt + 1 → ((y.toInt = b4.toInt ∧ ¬ z_pTw ci B q1 pr en sh.toInt.toNat ch.toInt.toNat m1 p2.toInt.toNat S A b6.toInt.toNat) ∨ (y.toInt = b4.toInt + 1 ∧ z_pTw ci B q1 pr en sh.toInt.toNat ch.toInt.toNat m1 p2.toInt.toNat S A b6.toInt.toNat)) → z_ev (d + 6) 120 18 [some (.ref a0), some (.ref a1), some (.int p2), some (.ref a3), some (.int y), some (.int b5), some (.int x), o7, o8, o9] [] M1 K := fun M1 y x o7 o8 o9 X1 g1 g2 ex hy => by
        have es : x.toInt.toNat = b6.toInt.toNat + 1 := by omega
        refine ih.1 M1 y b5 x o7 o8 o9 X1 g1 g2 hh5 hb5 ⟨by omega, by omega⟩ ?_ (by omega)
        obtain ⟨c, z, hk, e4⟩ := hC
        rw [es]
        rcases hy with ⟨e, hp⟩ | ⟨e, hp⟩
        · exact ⟨c, z, z_krN hk hp, by omega⟩
        · exact ⟨c + 1, _, z_krS hk hp, by omega⟩
      have hno : (∀ i, i < p2.toInt.toNat → ¬ ∃ w, w < m1 ∧ z_twBe ci B q1 pr en sh.toInt.toNat ch.toInt.toNat p2.toInt.toNat S A (z_bk m1 p2.toInt.toNat b6.toInt.toNat) i (z_lke (S (z_bk m1 p2.toInt.toNat b6.toInt.toNat i)).toInt.toNat (b7.toInt.toNat % 1024) (b7.toInt.toNat / 1024) 10) w) → ¬ z_pTw ci B q1 pr en sh.toInt.toNat ch.toInt.toNat m1 p2.toInt.toNat S A b6.toInt.toNat := fun h ⟨y, u, g1, i, hi, w, hw, g2⟩ => by
        obtain ⟨rfl, rfl⟩ := z_oJU g1 hoW.2 hSA.1.1
        exact h i hi ⟨w, hw, g2⟩
      have hye : (∃ i, i < p2.toInt.toNat ∧ ∃ w, w < m1 ∧ z_twBe ci B q1 pr en sh.toInt.toNat ch.toInt.toNat p2.toInt.toNat S A (z_bk m1 p2.toInt.toNat b6.toInt.toNat) i (z_lke (S (z_bk m1 p2.toInt.toNat b6.toInt.toNat i)).toInt.toNat (b7.toInt.toNat % 1024) (b7.toInt.toNat / 1024) 10) w) → z_pTw ci B q1 pr en sh.toInt.toNat ch.toInt.toNat m1 p2.toInt.toNat S A b6.toInt.toNat := fun ⟨i, hi, w, hw, g2⟩ => ⟨_, _, hoW.2, i, hi, w, hw, g2⟩
      refine z_xP zt120 12 46 [some (.ref a0), some (.ref a1), some (.int p2), some (.ref a3), some (.int b4), some (.int b5), some (.int b6), (some (.int b7)), (some (.int b8)), (some (.int b9))] [.ref a1, .int b9] rfl rfl ?_
      refine z_xgI zt120 13 rfl zo120 zzf4_108 X k1 (by decide) (by decide) rfl (fun (x2 : Int32) h1 (h3 : 0 ≤ x2.toInt) (h4 : x2.toInt ≤ (5 : Int)) => ?_)
      have e2 : x2.toInt = (p2.toInt.toNat : Int) := by
        rw [z_ive h1 hj4]
        exact ejv4
      refine z_xJ zt120 14 rfl rfl (fun (h5 : x2.toInt ≤ b9.toInt) => ?_) (fun (h5 : b9.toInt < x2.toInt) => ?_)
      · skip
        refine zV120 w0 k0 k1 u2 k3 hSA hpe fs fc m12 hcA hWM0 X hSx hRM hh5 hh6 hc4 ?_ kT
        rcases h8 with ⟨g, h8⟩ | ⟨g, h8⟩
        · exact Or.inl ⟨g, hno fun i hi => h8 i (by omega)⟩
        · exact Or.inr ⟨g, hye h8⟩
      refine z_xP zt120 15 54 [some (.ref a0), some (.ref a1), some (.int p2), some (.ref a3), some (.int b4), some (.int b5), some (.int b6), (some (.int b7)), (some (.int b8)), (some (.int b9))] [.int b8] rfl rfl ?_
      refine z_xZ zt120 16 rfl rfl (fun (h22 : b8.toInt ≠ 0) => ?_) (fun (h22 : b8.toInt = 0) => ?_)
      · skip
        refine zV120 w0 k0 k1 u2 k3 hSA hpe fs fc m12 hcA hWM0 X hSx hRM hh5 hh6 hc4 ?_ kT
        rcases h8 with ⟨g, h8⟩ | ⟨g, h8⟩
        · exact absurd g h22
        · exact Or.inr ⟨g, hye h8⟩
      have h80 : ∀ i, i < b9.toInt.toNat → ¬ ∃ w, w < m1 ∧ z_twBe ci B q1 pr en sh.toInt.toNat ch.toInt.toNat p2.toInt.toNat S A (z_bk m1 p2.toInt.toNat b6.toInt.toNat) i (z_lke (S (z_bk m1 p2.toInt.toNat b6.toInt.toNat i)).toInt.toNat (b7.toInt.toNat % 1024) (b7.toInt.toNat / 1024) 10) w := by
        rcases h8 with ⟨g, h8⟩ | ⟨g, h8⟩
        · exact h8
        · omega
      refine z_xP zt120 17 64 [some (.ref a0), some (.ref a1), some (.int p2), some (.ref a3), some (.int b4), some (.int b5), some (.int b6), (some (.int b7)), (some (.int b8)), (some (.int b9))] [.ref a3, .int b7, .int b9, .ref a1, .ref a0] rfl rfl ?_
      refine z_xcV (vs := [.ref a0, .ref a1, .int b9, .int b7, .ref a3]) (r := []) (L2 := [some (.ref a0), some (.ref a1), some (.int b9), some (.int b7), some (.ref a3), none, none, none, none, none, none, none, none]) zt120 18 rfl zo120 zzcV4_111 (Or.inr rfl) rfl X k0 (z_w8 (fun c => (([(4, 126), (5, 126), (6, 126), (7, 126), (8, 126), (9, 126), (10, 126), (11, 126)] : List (Nat × Nat)).find? fun t => t.1 == c) = some (c, 126)) rfl rfl rfl rfl rfl rfl rfl rfl w0) rfl rfl (Nat.le_of_ble_eq_true rfl) zzm126 (Nat.le_of_ble_eq_true rfl) rfl ?_
      refine zUC126 w0 k0 k1 k3 ⟨by omega, by omega⟩ (by omega) hFb (z_bkSr b6.toInt.toNat) m12.2 hSA hpe (X.2.f k0 (hw 1 (by decide)) fs) (X.2.f k0 (hw 2 (by decide)) fc) (hcA.ke hWM0 X.2 (by decide)) X.1 hS hRM hoW (fun x35 M33 G2 X34 hS33 hRM33 hx => ?_)
      have X38 := X.go X34 (z_sb (by decide))
      show z_ev (d + 6) 120 67 [some (.ref a0), some (.ref a1), some (.int p2), some (.ref a3), some (.int b4), some (.int b5), some (.int b6), (some (.int b7)), (some (.int b8)), (some (.int b9))] [.int x35] M33 _
      refine z_xP zt120 19 69 [some (.ref a0), some (.ref a1), some (.int p2), some (.ref a3), some (.int b4), some (.int b5), some (.int b6), (some (.int b7)), (some (.int x35)), (some (.int b9))] [] rfl rfl ?_
      refine z_xN zt120 20 rfl rfl (fun (x40 : Int32) (h41 : x40.toInt = b9.toInt + 1) => ?_) (z_pAdd rfl rfl (by omega) (by omega))
      show z_ev (d + 6) 120 72 [some (.ref a0), some (.ref a1), some (.int p2), some (.ref a3), some (.int b4), some (.int b5), some (.int b6), (some (.int b7)), (some (.int x35)), (some (.int x40))] [] M33 _
      refine z_xP zt120 21 43 [some (.ref a0), some (.ref a1), some (.int p2), some (.ref a3), some (.int b4), some (.int b5), some (.int b6), (some (.int b7)), (some (.int x35)), (some (.int x40))] [] rfl rfl ?_
      refine ih.2 M33 b4 b5 b6 b7 x35 x40 X38 ⟨G2, hS33⟩ hRM33 hh5 hb5 hh6 hC hoW ⟨by omega, by omega⟩ ?_ (by omega)
      rcases hx with ⟨g, hx⟩ | ⟨g, w, hw2, hx⟩
      · refine Or.inl ⟨g, fun i hi => ?_⟩
        by_cases c : i = b9.toInt.toNat
        · rw [c]
          exact fun ⟨w, hw2, g2⟩ => hx w hw2 g2
        · exact h80 i (by omega)
      · exact Or.inr ⟨g, b9.toInt.toNat, by omega, w, hw2, hx⟩
theorem zUC120 {T : List zK} {d : Nat} {K : Option Value → zH → Prop} {a0 ci a1 a3 N q1 t1 m1 pr en sa : Nat} {B : Nat → Nat} {S : Nat → Int32} {A sh ch p2 : Int32} {M0 : zH} (hW : z_W M0 T) (w0 : 4 ≤ ci ∧ ci ≤ 11) (k0 : T[a0]? = some (.inl (ci, 0, 0, 0, 0))) (k1 : T[a1]? = some (.inl (3, q1, t1, m1, 5))) (u2 : 1 ≤ p2.toInt ∧ p2.toInt ≤ 5) (k3 : T[a3]? = some (.inr (300, 0, 16380, (-2147483648), 2147483647))) (hbk : z_blk T M0) (hN0 : z_F M0 a1 0 = some (.ref N)) (hag : z_AGO T M0 N q1 t1 m1 pr en B) (hsa : z_F M0 N 5 = some (.ref sa)) (ksa : T[sa]? = some (.inr (102, 0, m1, 0, 1023))) (hSS : ∀ k, k < m1 → z_Ar M0 sa k = S k) (hA : A.toInt = ((2 ^ q1 : Nat) : Int) - 1) (hlz : z_lz M0 a1) (hch : z_chO M0) (hpe : pr < 1024 ∧ en < 1024) (fs : z_F M0 a0 1 = some (.int sh)) (fc : z_F M0 a0 2 = some (.int ch)) (m12 : 1 ≤ m1 ∧ m1 ≤ 12) (kk : ∀ (x : Int32) (M1 : zH), z_X T zw120 M0 M1 → z_kA (z_pTw ci B q1 pr en sh.toInt.toNat ch.toInt.toNat m1 p2.toInt.toNat S A) (fun _ => 0) (z_T m1 p2.toInt.toNat) 0 x.toInt → z_lz M1 a1 → K (some (.int x)) M1) : z_ev (d + 6) 120 0 [some (.ref a0), some (.ref a1), some (.int p2), some (.ref a3), none, none, none, none, none, none] [] M0 K := by
  have X : z_X T zw120 M0 M0 := .refl hW
  have g1 := X.1.p3 k1
  have hSA : z_SA q1 m1 S A := ⟨⟨by omega, by omega⟩, hA, fun v hv => by
    have h1 := z_LSlt hag hsa hv
    rw [hSS v hv] at h1
    exact h1⟩
  refine z_xP zt120 0 5 [some (.ref a0), some (.ref a1), some (.int p2), some (.ref a3), some (.int 0), none, none, none, none, none] [.int p2, .ref a1] rfl rfl ?_
  refine z_xcV (vs := [.ref a1, .int p2]) (r := []) (L2 := [some (.ref a1), some (.int p2), none]) zt120 1 rfl zo120 zzcV4_45 (Or.inl rfl) rfl X k1 rfl rfl rfl (Nat.le_of_ble_eq_true rfl) zzm108 (Nat.le_of_ble_eq_true rfl) rfl ?_
  refine zUC108 X.1 k1 (by omega) hbk hN0 hag hsa ksa hSS hA hlz hch m12 (fun x11 M5 X6 h12 hS5 => ?_)
  have hTb := z_Tb m1 (by omega) p2.toInt.toNat (by omega)
  have X14 := X.go X6 (z_sb (by decide))
  show z_ev (d + 6) 120 8 [some (.ref a0), some (.ref a1), some (.int p2), some (.ref a3), some (.int 0), none, none, none, none, none] [.int x11] M5 _
  refine z_xP zt120 2 12 [some (.ref a0), some (.ref a1), some (.int p2), some (.ref a3), some (.int 0), some (.int x11), none, none, none, none] [.int (-1), .ref a3] rfl rfl ?_
  refine z_xcS (vs := [.ref a3, .int (-1)]) (r := []) (L2 := [some (.ref a3), some (.int (-1)), none, none]) zt120 3 rfl zo120 zzcS4_95 (Or.inl rfl) (Nat.le_of_ble_eq_true rfl) rfl rfl (Nat.le_of_ble_eq_true rfl) zzm7 (Nat.le_of_ble_eq_true rfl) rfl ?_
  refine zUC7 X14.1 ⟨(by decide), (X14.1.g4 k3 (by decide))⟩ k3 (by decide) (by decide) (fun M16 X17 hfl => ?_)
  have X18 := X14.go X17 (z_sb (by decide))
  have hRM16 : z_RM M16 a3 ci B q1 pr en sh.toInt.toNat ch.toInt.toNat m1 p2.toInt.toNat S A := fun p hp => Or.inl (by rw [hfl p hp]; decide)
  show z_ev (d + 6) 120 15 [some (.ref a0), some (.ref a1), some (.int p2), some (.ref a3), some (.int 0), some (.int x11), none, none, none, none] [] M16 _
  refine z_xP zt120 4 18 [some (.ref a0), some (.ref a1), some (.int p2), some (.ref a3), some (.int 0), some (.int x11), some (.int 0), none, none, none] [] rfl rfl ?_
  have q0 : ((0 : Int32)).toInt = 0 := rfl
  exact (zUB120 w0 k0 k1 u2 k3 hSA hpe fs fc m12 hch.cA hW kk 163900).1 M16 (0) x11 (0) none none none X18 ⟨_, hS5.ke X17 (by decide)⟩ hRM16 ⟨by omega, by omega⟩ h12 ⟨by omega, by omega⟩ ⟨0, -2, ⟨rfl, rfl⟩, rfl⟩ (by omega)
theorem zUC119 {T : List zK} {d : Nat} {K : Option Value → zH → Prop} {p1 : Int32} {p2 : Int32} {p3 : Int32} {M0 : zH} (hW : z_W M0 T) (hG : z_GG T M0) (hch : z_chO M0) {w cw b b2 NN sa q t m pr en : Nat} {B : Nat → Nat} {S : Nat → Int32} {A sh ch : Int32} (hD : z_vW M0 p1 p2 → z_wyK T M0 p1 w cw sh ch ∧ z_ag T M0 p2 b b2 NN sa q t m pr en B S A) (hT : z_vW M0 p1 p2 → (1 ≤ p3.toInt ∧ p3.toInt ≤ 5) → m ≤ 12 → z_F M0 4 12 = some .null → z_ev (d + 7) 119 37 [some (.ref 4), some (.int p1), some (.int p2), some (.int p3), some (.ref w), some (.int 0)] [] M0 K) (kk : ∀ (x : Int32) (M1 : zH), z_X T zw119 M0 M1 → z_aA (z_vW M0 p1 p2) (1 ≤ p3.toInt ∧ p3.toInt ≤ 5) m (z_kA (z_pTw cw B q pr en sh.toInt.toNat ch.toInt.toNat m p3.toInt.toNat S A) (fun _ => 0) (z_T m p3.toInt.toNat) 0 x.toInt) x.toInt → K (some (.int x)) M1) : z_ev (d + 7) 119 0 [some (.ref 4), some (.int p1), some (.int p2), some (.int p3), none, none] [] M0 K := by
  have X : z_X T zw119 M0 M0 := .refl hW
  refine z_xP zt119 0 2 [some (.ref 4), some (.int p1), some (.int p2), some (.int p3), none, none] [.int p1, .ref 4] rfl rfl ?_
  have f4 : T[4]? = some (.inl (0, 0, 0, 0, 0)) := X.1.k rfl (by decide)
  refine z_xcV (vs := [.ref 4, .int p1]) (r := []) (L2 := [some (.ref 4), some (.int p1)]) zt119 1 rfl zo119 zzcV0_221 (Or.inl rfl) rfl X f4 rfl rfl rfl (Nat.le_of_ble_eq_true rfl) zzm84 (Nat.le_of_ble_eq_true rfl) rfl ?_
  refine z_xP zt84 0 1 [some (.ref 4), some (.int p1)] [.int p1] rfl rfl ?_
  refine z_xZ zt84 1 rfl rfl (fun (h1 : p1.toInt < 0) => ?_) (fun (h1 : 0 ≤ p1.toInt) => ?_)
  · skip
    refine z_xP zt84 5 22 [some (.ref 4), some (.int p1)] [.null] rfl rfl ?_
    refine z_xrn zt84 10 rfl zzr84 ?_
    show z_ev (d + 7) 119 5 [some (.ref 4), some (.int p1), some (.int p2), some (.int p3), none, none] [.null] M0 _
    refine z_xP zt119 2 12 [some (.ref 4), some (.int p1), some (.int p2), some (.int p3), some (.null), none] [] rfl rfl ?_
    refine z_xP zt119 3 13 [some (.ref 4), some (.int p1), some (.int p2), some (.int p3), some (.null), none] [.int (-1)] rfl rfl ?_
    have qm1 : (((-1) : Int32)).toInt = (-1) := rfl
    exact z_xri zt119 4 rfl zzr119 (kk (-1) M0 X (Or.inl ⟨rfl, by unfold z_vW; omega⟩))
  refine z_xP zt84 2 6 [some (.ref 4), some (.int p1)] [.ref 4, .int p1] rfl rfl ?_
  refine z_xgI zt84 3 rfl zo84 zzf0_188 X f4 (by decide) (by decide) rfl (fun (x3 : Int32) h2 (h4 : 0 ≤ x3.toInt) (h5 : x3.toInt ≤ 20) => ?_)
  have ex3 : (z_Fv M0 4 5).toInt = x3.toInt := by rw [z_Fv.of h2]
  have h6 := z_b32 p1
  refine z_xJ zt84 4 rfl rfl (fun (h7 : p1.toInt < x3.toInt) => ?_) (fun (h7 : x3.toInt ≤ p1.toInt) => ?_)
  · skip
    refine z_xP zt84 6 17 [some (.ref 4), some (.int p1)] [.ref 4] rfl rfl ?_
    refine z_xgX (b := 12) zt84 7 rfl zo84 zzf0_27 X f4 (by decide) (by decide) rfl ?_
    refine z_xP zt84 8 21 [some (.ref 4), some (.int p1)] [.int p1, .ref 12] rfl rfl ?_
    have f12 : T[12]? = some (.inr (12, 3, 20, 0, 0)) := X.1.k rfl (by decide)
    refine z_xal zt84 9 rfl X f12 (by decide) (by decide) (by decide) (by omega) (by omega) (fun (a8 : Nat) h9 h10 => ?_) (fun h11 => absurd h11 (z_Gb (hG.go X (by decide)).2.1 h2 (by omega) (by omega)))
    obtain ⟨c12, w13l, w13u, k14⟩ : ∃ ci, 4 ≤ ci ∧ ci ≤ 11 ∧ T[a8]? = some (.inl (ci, 0, 0, 0, 0)) := h10
    have w13 := And.intro w13l w13u
    refine z_xra zt84 10 rfl zzr84 ?_
    show z_ev (d + 7) 119 5 [some (.ref 4), some (.int p1), some (.int p2), some (.int p3), none, none] [.ref a8] M0 _
    refine z_xP zt119 2 14 [some (.ref 4), some (.int p1), some (.int p2), some (.int p3), some (.ref a8), none] [] rfl rfl ?_
    refine z_xP zt119 5 17 [some (.ref 4), some (.int p1), some (.int p2), some (.int p3), some (.ref a8), none] [.int p3, .int p2, .ref 4] rfl rfl ?_
    refine z_xcV (vs := [.ref 4, .int p2, .int p3]) (r := []) (L2 := [some (.ref 4), some (.int p2), some (.int p3), none]) zt119 6 rfl zo119 zzcV0_241 (Or.inl rfl) rfl X f4 rfl rfl rfl (Nat.le_of_ble_eq_true rfl) zzm103 (Nat.le_of_ble_eq_true rfl) rfl ?_
    refine z_xP zt103 0 2 [some (.ref 4), some (.int p2), some (.int p3), none] [.int p2, .ref 4] rfl rfl ?_
    refine z_xcV (vs := [.ref 4, .int p2]) (r := []) (L2 := [some (.ref 4), some (.int p2)]) zt103 1 rfl zo103 zzcV0_108 (Or.inl rfl) rfl X f4 rfl rfl rfl (Nat.le_of_ble_eq_true rfl) zzm37 (Nat.le_of_ble_eq_true rfl) rfl ?_
    refine z_xP zt37 0 1 [some (.ref 4), some (.int p2)] [.int p2] rfl rfl ?_
    refine z_xZ zt37 1 rfl rfl (fun (h15 : p2.toInt < 0) => ?_) (fun (h15 : 0 ≤ p2.toInt) => ?_)
    · skip
      refine z_xP zt37 5 25 [some (.ref 4), some (.int p2)] [.null] rfl rfl ?_
      refine z_xrn zt37 11 rfl zzr37 ?_
      show z_ev (d + 6) 103 5 [some (.ref 4), some (.int p2), some (.int p3), none] [.null] M0 _
      refine z_xP zt103 2 20 [some (.ref 4), some (.int p2), some (.int p3), some (.null)] [] rfl rfl ?_
      refine z_xP zt103 7 21 [some (.ref 4), some (.int p2), some (.int p3), some (.null)] [.int (-1)] rfl rfl ?_
      refine z_xri zt103 8 rfl zzr103 ?_
      show z_ev (d + 7) 119 20 [some (.ref 4), some (.int p1), some (.int p2), some (.int p3), some (.ref a8), none] [.int (-1)] M0 _
      refine z_xP zt119 7 24 [some (.ref 4), some (.int p1), some (.int p2), some (.int p3), some (.ref a8), some (.int (-1))] [.int (-1)] rfl rfl ?_
      refine z_xZ zt119 8 rfl rfl (fun (h16 : ((-1) : Int) = 0) => absurd h16 (by omega)) (fun (h16 : ((-1) : Int) ≠ 0) => ?_)
      refine z_xP zt119 9 29 [some (.ref 4), some (.int p1), some (.int p2), some (.int p3), some (.ref a8), some (.int (-1))] [.int (-1)] rfl rfl ?_
      have qm1 : (((-1) : Int32)).toInt = (-1) := rfl
      exact z_xri zt119 10 rfl zzr119 (kk (-1) M0 X (Or.inl ⟨rfl, by unfold z_vW; omega⟩))
    refine z_xP zt37 2 6 [some (.ref 4), some (.int p2)] [.ref 4, .int p2] rfl rfl ?_
    refine z_xgI zt37 3 rfl zo37 zzf0_59 X f4 (by decide) (by decide) rfl (fun (x18 : Int32) h17 (h19 : 0 ≤ x18.toInt) (h20 : x18.toInt ≤ 8) => ?_)
    have ex18 : (z_Fv M0 4 3).toInt = x18.toInt := by rw [z_Fv.of h17]
    have h21 := z_b32 p2
    refine z_xJ zt37 4 rfl rfl (fun (h22 : p2.toInt < x18.toInt) => ?_) (fun (h22 : x18.toInt ≤ p2.toInt) => ?_)
    · skip
      refine z_xP zt37 6 17 [some (.ref 4), some (.int p2)] [.ref 4] rfl rfl ?_
      refine z_xgX (b := 10) zt37 7 rfl zo37 zzf0_18 X f4 (by decide) (by decide) rfl ?_
      refine z_xP zt37 8 21 [some (.ref 4), some (.int p2)] [.int p2, .ref 10] rfl rfl ?_
      have f10 : T[10]? = some (.inr (10, 2, 8, 9, 0)) := X.1.k rfl (by decide)
      refine z_xal zt37 9 rfl X f10 (by decide) (by decide) (by decide) (by omega) (by omega) (fun (a23 : Nat) h24 h25 => ?_) (fun h26 => absurd h26 (z_Gs (hG.go X (by decide)).2.1 h17 (by omega) (by omega)))
      obtain ⟨q27, t28, m29, k30⟩ : ∃ q t m, T[a23]? = some (.inl (3, q, t, m, 9)) := h25
      have g31 := X.1.p3 k30
      have hv : z_vW M0 p1 p2 := by unfold z_vW; omega
      obtain ⟨⟨hcp1, owp1, kwp1, fsp1, fcp1⟩, hAB, ⟨ob2, kb2, fN, hlz⟩, ⟨hsa, ksa, hSS⟩, hA, hm, hbk⟩ := hD hv
      obtain ⟨eq0, em0⟩ : q27 = q ∧ m29 = m := by
        have e := hAB.2.1
        rw [← show a23 = b from Option.some.inj (h24.symm.trans hAB.1), k30] at e
        cases e
        exact ⟨rfl, rfl⟩
      refine z_xgR (κ := .inl (2, q27, t28, m29, 0)) zt37 10 rfl zo37 zzf0_89 X k30 (by decide) (by decide) rfl (fun (a33 : Nat) h32 k34 => ?_)
      have g35 := X.1.p2 k34
      refine z_xra zt37 11 rfl zzr37 ?_
      show z_ev (d + 6) 103 5 [some (.ref 4), some (.int p2), some (.int p3), none] [.ref a33] M0 _
      refine z_xP zt103 2 10 [some (.ref 4), some (.int p2), some (.int p3), some (.ref a33)] [] rfl rfl ?_
      refine z_xP zt103 3 12 [some (.ref 4), some (.int p2), some (.int p3), some (.ref a33)] [.int 1, .int p3] rfl rfl ?_
      refine z_xJ zt103 4 rfl rfl (fun (h36 : p3.toInt < 1) => ?_) (fun (h36 : 1 ≤ p3.toInt) => ?_)
      · skip
        refine z_xP zt103 7 21 [some (.ref 4), some (.int p2), some (.int p3), some (.ref a33)] [.int (-1)] rfl rfl ?_
        refine z_xri zt103 8 rfl zzr103 ?_
        show z_ev (d + 7) 119 20 [some (.ref 4), some (.int p1), some (.int p2), some (.int p3), some (.ref a8), none] [.int (-1)] M0 _
        refine z_xP zt119 7 24 [some (.ref 4), some (.int p1), some (.int p2), some (.int p3), some (.ref a8), some (.int (-1))] [.int (-1)] rfl rfl ?_
        refine z_xZ zt119 8 rfl rfl (fun (h37 : ((-1) : Int) = 0) => absurd h37 (by omega)) (fun (h37 : ((-1) : Int) ≠ 0) => ?_)
        refine z_xP zt119 9 29 [some (.ref 4), some (.int p1), some (.int p2), some (.int p3), some (.ref a8), some (.int (-1))] [.int (-1)] rfl rfl ?_
        have qm1 : (((-1) : Int32)).toInt = (-1) := rfl
        exact z_xri zt119 10 rfl zzr119 (kk (-1) M0 X (Or.inl ⟨rfl, by unfold z_vW; omega⟩))
      refine z_xP zt103 5 17 [some (.ref 4), some (.int p2), some (.int p3), some (.ref a33)] [.int 5, .int p3] rfl rfl ?_
      refine z_xJ zt103 6 rfl rfl (fun (h38 : p3.toInt ≤ 5) => ?_) (fun (h38 : 5 < p3.toInt) => ?_)
      · skip
        refine z_xP zt103 9 23 [some (.ref 4), some (.int p2), some (.int p3), some (.ref a33)] [.ref a33] rfl rfl ?_
        refine z_xgR (κ := .inr (102, 0, m29, 0, 1023)) zt103 10 rfl zo103 zzf0_74 X k34 (by decide) (by decide) rfl (fun (a40 : Nat) h39 k41 => ?_)
        refine z_xln zt103 11 rfl X k41 (by decide) (by omega) (fun (x42 : Int32) (h43 : x42.toInt = ((m29 : Nat) : Int)) => ?_)
        refine z_xP zt103 12 29 [some (.ref 4), some (.int p2), some (.int p3), some (.ref a33)] [.int 12, .int x42] rfl rfl ?_
        refine z_xJ zt103 13 rfl rfl (fun (h44 : x42.toInt ≤ 12) => ?_) (fun (h44 : 12 < x42.toInt) => ?_)
        · skip
          refine z_xP zt103 15 38 [some (.ref 4), some (.int p2), some (.int p3), some (.ref a33)] [.int 0] rfl rfl ?_
          refine z_xri zt103 16 rfl zzr103 ?_
          show z_ev (d + 7) 119 20 [some (.ref 4), some (.int p1), some (.int p2), some (.int p3), some (.ref a8), none] [.int 0] M0 _
          refine z_xP zt119 7 24 [some (.ref 4), some (.int p1), some (.int p2), some (.int p3), some (.ref a8), some (.int 0)] [.int 0] rfl rfl ?_
          refine z_xZ zt119 8 rfl rfl (fun (h45 : (0 : Int) = 0) => ?_) (fun (h45 : (0 : Int) ≠ 0) => absurd h45 (by omega))
          refine z_xP zt119 11 31 [some (.ref 4), some (.int p1), some (.int p2), some (.int p3), some (.ref a8), some (.int 0)] [.ref 4] rfl rfl ?_
          refine z_xgN (κ := .inr (300, 0, 16380, (-2147483648), 2147483647)) zt119 12 rfl zo119 zzf0_267 X f4 (by decide) (by decide) rfl (fun (a47 : Nat) h46 k48 => ?_) (fun h49 => ?_)
          · skip
            refine z_xP zt119 13 46 [some (.ref 4), some (.int p1), some (.int p2), some (.int p3), some (.ref a8), some (.int 0)] [] rfl rfl ?_
            refine z_xP zt119 17 49 [some (.ref 4), some (.int p1), some (.int p2), some (.int p3), some (.ref a8), some (.int 0)] [.ref 4, .ref a8] rfl rfl ?_
            refine z_xgX (b := 11) zt119 18 rfl zo119 zzf0_22 X f4 (by decide) (by decide) rfl ?_
            refine z_xP zt119 19 53 [some (.ref 4), some (.int p1), some (.int p2), some (.int p3), some (.ref a8), some (.int 0)] [.int p2, .ref 11, .ref a8] rfl rfl ?_
            have f11 : T[11]? = some (.inr (11, 2, 8, 5, 0)) := X.1.k rfl (by decide)
            refine z_xal zt119 20 rfl X f11 (by decide) (by decide) (by decide) (by omega) (by omega) (fun (a50 : Nat) h51 h52 => ?_) (fun h53 => absurd h53 (z_Gt (hG.go X (by decide)).2.1 h17 (by omega) (by omega)))
            obtain ⟨q54, t55, m56, k57⟩ : ∃ q t m, T[a50]? = some (.inl (3, q, t, m, 5)) := h52
            have g58 := X.1.p3 k57
            have h59 := z_Gm (hG.go X (by decide)).2.2 X.1 (z_cll (n := 8) (by omega) (by decide)) h24 h51 k30 k57
            refine z_xP zt119 21 56 [some (.ref 4), some (.int p1), some (.int p2), some (.int p3), some (.ref a8), some (.int 0)] [.ref 4, .int p3, .ref a50, .ref a8] rfl rfl ?_
            refine z_xgv zt119 22 rfl zo119 zzf0_267 X f4 (by decide) h46 ?_
            refine z_xcV (vs := [.ref a8, .ref a50, .int p3, .ref a47]) (r := []) (L2 := [some (.ref a8), some (.ref a50), some (.int p3), some (.ref a47), none, none, none, none, none, none]) zt119 23 rfl zo119 zzcV0_270 (Or.inr rfl) rfl X k14 (z_w8 (fun c => (([(4, 120), (10, 120), (7, 120), (5, 120), (11, 120), (8, 120), (6, 120), (9, 120)] : List (Nat × Nat)).find? fun t => t.1 == c) = some (c, 120)) rfl rfl rfl rfl rfl rfl rfl rfl w13) rfl rfl (Nat.le_of_ble_eq_true rfl) zzm120 (Nat.le_of_ble_eq_true rfl) rfl ?_
            have ea8 : a8 = w := Option.some.inj (h9.symm.trans owp1)
            have ea50 : a50 = b2 := Option.some.inj (h51.symm.trans ob2)
            refine zUC120 X.1 hcp1 (by rw [ea8]; exact kwp1) (by rw [ea50]; exact kb2) (by omega) k48 hbk (by rw [ea50]; exact fN) hAB.2.2.2.1 hsa ksa hSS hA (by rw [ea50]; exact hlz) hch ⟨hAB.2.2.2.2.2.2.1.2, hAB.2.2.2.2.2.2.2.1.2⟩ (by rw [ea8]; exact fsp1) (by rw [ea8]; exact fcp1) ⟨hm.1, by omega⟩ (fun x62 M60 X61 hka _ => ?_)
            have X63 := X.go X61 (z_sb (by decide))
            show z_ev (d + 7) 119 62 [some (.ref 4), some (.int p1), some (.int p2), some (.int p3), some (.ref a8), some (.int 0)] [.int x62] M60 _
            exact z_xri zt119 24 rfl zzr119 (kk x62 M60 X63 (Or.inr ⟨⟨hv, by omega⟩, Or.inr ⟨by omega, hka⟩⟩))
          refine z_xP zt119 13 37 [some (.ref 4), some (.int p1), some (.int p2), some (.int p3), some (.ref a8), some (.int 0)] [] rfl rfl ?_
          have ew : a8 = w := Option.some.inj (h9.symm.trans owp1)
          rw [ew]
          exact hT hv ⟨by omega, by omega⟩ (by omega) h49
        refine z_xP zt103 14 38 [some (.ref 4), some (.int p2), some (.int p3), some (.ref a33)] [.int (-4)] rfl rfl ?_
        refine z_xri zt103 16 rfl zzr103 ?_
        show z_ev (d + 7) 119 20 [some (.ref 4), some (.int p1), some (.int p2), some (.int p3), some (.ref a8), none] [.int (-4)] M0 _
        refine z_xP zt119 7 24 [some (.ref 4), some (.int p1), some (.int p2), some (.int p3), some (.ref a8), some (.int (-4))] [.int (-4)] rfl rfl ?_
        refine z_xZ zt119 8 rfl rfl (fun (h65 : ((-4) : Int) = 0) => absurd h65 (by omega)) (fun (h65 : ((-4) : Int) ≠ 0) => ?_)
        refine z_xP zt119 9 29 [some (.ref 4), some (.int p1), some (.int p2), some (.int p3), some (.ref a8), some (.int (-4))] [.int (-4)] rfl rfl ?_
        have qm4 : (((-4) : Int32)).toInt = (-4) := rfl
        exact z_xri zt119 10 rfl zzr119 (kk (-4) M0 X (Or.inr ⟨⟨hv, by omega⟩, Or.inl ⟨rfl, by omega⟩⟩))
      refine z_xP zt103 7 21 [some (.ref 4), some (.int p2), some (.int p3), some (.ref a33)] [.int (-1)] rfl rfl ?_
      refine z_xri zt103 8 rfl zzr103 ?_
      show z_ev (d + 7) 119 20 [some (.ref 4), some (.int p1), some (.int p2), some (.int p3), some (.ref a8), none] [.int (-1)] M0 _
      refine z_xP zt119 7 24 [some (.ref 4), some (.int p1), some (.int p2), some (.int p3), some (.ref a8), some (.int (-1))] [.int (-1)] rfl rfl ?_
      refine z_xZ zt119 8 rfl rfl (fun (h66 : ((-1) : Int) = 0) => absurd h66 (by omega)) (fun (h66 : ((-1) : Int) ≠ 0) => ?_)
      refine z_xP zt119 9 29 [some (.ref 4), some (.int p1), some (.int p2), some (.int p3), some (.ref a8), some (.int (-1))] [.int (-1)] rfl rfl ?_
      have qm1 : (((-1) : Int32)).toInt = (-1) := rfl
      exact z_xri zt119 10 rfl zzr119 (kk (-1) M0 X (Or.inl ⟨rfl, by unfold z_vW; omega⟩))
    refine z_xP zt37 5 25 [some (.ref 4), some (.int p2)] [.null] rfl rfl ?_
    refine z_xrn zt37 11 rfl zzr37 ?_
    show z_ev (d + 6) 103 5 [some (.ref 4), some (.int p2), some (.int p3), none] [.null] M0 _
    refine z_xP zt103 2 20 [some (.ref 4), some (.int p2), some (.int p3), some (.null)] [] rfl rfl ?_
    refine z_xP zt103 7 21 [some (.ref 4), some (.int p2), some (.int p3), some (.null)] [.int (-1)] rfl rfl ?_
    refine z_xri zt103 8 rfl zzr103 ?_
    show z_ev (d + 7) 119 20 [some (.ref 4), some (.int p1), some (.int p2), some (.int p3), some (.ref a8), none] [.int (-1)] M0 _
    refine z_xP zt119 7 24 [some (.ref 4), some (.int p1), some (.int p2), some (.int p3), some (.ref a8), some (.int (-1))] [.int (-1)] rfl rfl ?_
    refine z_xZ zt119 8 rfl rfl (fun (h67 : ((-1) : Int) = 0) => absurd h67 (by omega)) (fun (h67 : ((-1) : Int) ≠ 0) => ?_)
    refine z_xP zt119 9 29 [some (.ref 4), some (.int p1), some (.int p2), some (.int p3), some (.ref a8), some (.int (-1))] [.int (-1)] rfl rfl ?_
    have qm1 : (((-1) : Int32)).toInt = (-1) := rfl
    exact z_xri zt119 10 rfl zzr119 (kk (-1) M0 X (Or.inl ⟨rfl, by unfold z_vW; omega⟩))
  refine z_xP zt84 5 22 [some (.ref 4), some (.int p1)] [.null] rfl rfl ?_
  refine z_xrn zt84 10 rfl zzr84 ?_
  show z_ev (d + 7) 119 5 [some (.ref 4), some (.int p1), some (.int p2), some (.int p3), none, none] [.null] M0 _
  refine z_xP zt119 2 12 [some (.ref 4), some (.int p1), some (.int p2), some (.int p3), some (.null), none] [] rfl rfl ?_
  refine z_xP zt119 3 13 [some (.ref 4), some (.int p1), some (.int p2), some (.int p3), some (.null), none] [.int (-1)] rfl rfl ?_
  have qm1 : (((-1) : Int32)).toInt = (-1) := rfl
  exact z_xri zt119 4 rfl zzr119 (kk (-1) M0 X (Or.inl ⟨rfl, by unfold z_vW; omega⟩))
/-- the agenda in a grown store -/
theorem z_ag.ke {T T1 : List zK} {M M1 : zH} {p : Int32} {b b2 N sa q t m pr en : Nat} {B : Nat → Nat} {S : Nat → Int32} {A : Int32} {rs : List Nat} (h : z_ag T M p b b2 N sa q t m pr en B S A) (hW : z_W M T) (hp : ∀ (a : Nat) (κ : zK), T[a]? = some κ → T1[a]? = some κ) (hb1 : z_blk T1 M1) (ke : z_ke T rs M M1) (hr : ((z_agf ++ z_agr ++ [10, 11, 1300]).all fun x => !rs.elem x) = true) : z_ag T1 M1 p b b2 N sa q t m pr en B S A := by
  obtain ⟨⟨h1, h2, h3, h4, h5⟩, ⟨o1, o2, o3, o4⟩, ⟨hsa, ksa, hSS⟩, hA, hm, hbk⟩ := h
  have n0 := z_nin hr
  have sub : ∀ l : List Nat, (l.all fun x => (z_agf ++ z_agr ++ [10, 11, 1300]).elem x) = true → (l.all fun x => !rs.elem x) = true := fun l hl => List.all_eq_true.mpr fun x hx => List.all_eq_true.mp hr x (List.elem_iff.mp (List.all_eq_true.mp hl x hx))
  have k10 := hW.k (k := 10) (κ := .inr (10, 2, 8, 9, 0)) rfl (by decide)
  have k11 := hW.k (k := 11) (κ := .inr (11, 2, 8, 5, 0)) rfl (by decide)
  refine ⟨⟨?_, hp _ _ h2, ke.f h2 (n0 _ rfl) h3, h4.ke hp ke (sub _ rfl), h5.ke hW ke (sub _ rfl)⟩, ⟨?_, hp _ _ o2, ke.f o2 (n0 _ rfl) o3, o4.k3 hbk hW o2 ke⟩, ⟨ke.f h4.1 (n0 _ rfl) hsa, hp _ _ ksa, fun k hk => (congrFun (ke.a ksa (n0 _ rfl)) k).trans (hSS k hk)⟩, hA, hm, hb1⟩
  · rw [ke.o k10 (n0 _ rfl)]
    exact h1
  · rw [ke.o k11 (n0 _ rfl)]
    exact o1
theorem z_wyK.ke {T T1 : List zK} {M M1 : zH} {p : Int32} {w c : Nat} {sh ch : Int32} {rs : List Nat} (h : z_wyK T M p w c sh ch) (hW : z_W M T) (hp : ∀ (a : Nat) (κ : zK), T[a]? = some κ → T1[a]? = some κ) (ke : z_ke T rs M M1) (hr : (([12] : List Nat).all fun x => !rs.elem x) = true) (hw : ∀ x ∈ rs, x < 1400) : z_wyK T1 M1 p w c sh ch := by
  obtain ⟨hc, ow, kw, f1, f2⟩ := h
  have n0 := z_nin hr
  have k12 := hW.k (k := 12) (κ := .inr (12, 3, 20, 0, 0)) rfl (by decide)
  have hn : ∀ k, k < 4 → ¬ (1000 + 100 * c + k) ∈ rs := fun k hk hm => by
    have := hw _ hm
    omega
  refine ⟨hc, ?_, hp _ _ kw, ke.f kw (hn 1 (by decide)) f1, ke.f kw (hn 2 (by decide)) f2⟩
  rw [ke.o k12 (n0 _ rfl)]
  exact ow
theorem zUT119 {T : List zK} {d : Nat} {K : Option Value → zH → Prop} {p1 p2 p3 : Int32} {M0 : zH} (hW : z_W M0 T) (hch : z_chO M0) {w cw b b2 NN sa q t m pr en : Nat} {B : Nat → Nat} {S : Nat → Int32} {A sh ch : Int32} (hv : z_vW M0 p1 p2) (hD1 : z_wyK T M0 p1 w cw sh ch) (hD2 : z_ag T M0 p2 b b2 NN sa q t m pr en B S A) (h3 : 1 ≤ p3.toInt ∧ p3.toInt ≤ 5) (m12 : m ≤ 12) (kk : ∀ (x : Int32) (M3 : zH), z_aA (z_vW M0 p1 p2) (1 ≤ p3.toInt ∧ p3.toInt ≤ 5) m (z_kA (z_pTw cw B q pr en sh.toInt.toNat ch.toInt.toNat m p3.toInt.toNat S A) (fun _ => 0) (z_T m p3.toInt.toNat) 0 x.toInt) x.toInt → K (some (.int x)) M3) : z_ev (d + 7) 119 37 [some (.ref 4), some (.int p1), some (.int p2), some (.int p3), some (.ref w), some (.int 0)] [] M0 K := by
  have hW1 : z_W (M0 ++ [.inl (0, 16380, .inl fun _ => 0)]) (T ++ [(.inr (300, 0, 16380, (-2147483648), 2147483647) : zK)]) := hW.push (Or.inr ⟨rfl, rfl, rfl, fun i _ => ⟨(by decide : (-2147483648 : Int) ≤ (0 : Int32).toInt), (by decide : (0 : Int32).toInt ≤ 2147483647)⟩⟩)
  have ke0 : z_ke T [] M0 (M0 ++ [.inl (0, 16380, .inl fun _ => 0)]) := z_ke.block hW
  have hb1 : z_blk (T ++ [(.inr (300, 0, 16380, (-2147483648), 2147483647) : zK)]) (M0 ++ [.inl (0, 16380, .inl fun _ => 0)]) := hD2.2.2.2.2.2.push hW (fun _ _ _ _ h => by cases h)
  have g1 : z_ag (T ++ [(.inr (300, 0, 16380, (-2147483648), 2147483647) : zK)]) (M0 ++ [.inl (0, 16380, .inl fun _ => 0)]) p2 b b2 NN sa q t m pr en B S A := hD2.ke hW z_pfx hb1 ke0 rfl
  have y1 : z_wyK (T ++ [(.inr (300, 0, 16380, (-2147483648), 2147483647) : zK)]) (M0 ++ [.inl (0, 16380, .inl fun _ => 0)]) p1 w cw sh ch := hD1.ke hW z_pfx ke0 rfl (fun x hx => absurd hx List.not_mem_nil)
  have hc1 : z_cA (M0 ++ [.inl (0, 16380, .inl fun _ => 0)]) := hch.cA.ke hW ke0 rfl
  have X : z_X (T ++ [(.inr (300, 0, 16380, (-2147483648), 2147483647) : zK)]) (1012 :: zw119) (M0 ++ [.inl (0, 16380, .inl fun _ => 0)]) (M0 ++ [.inl (0, 16380, .inl fun _ => 0)]) := .refl hW1
  have k4 : T[4]? = some (.inl (0, 0, 0, 0, 0)) := hW.k rfl (by decide)
  obtain ⟨G, hGe, _, G8⟩ := hW.fi k4 (k := 3) (lo := 0) (hi := 8) (by decide) rfl
  have hv2 := hv
  unfold z_vW at hv2
  rw [z_Fv.of hGe] at hv2
  have kN : (T ++ [(.inr (300, 0, 16380, (-2147483648), 2147483647) : zK)])[M0.length]? = some (.inr (300, 0, 16380, (-2147483648), 2147483647)) := by rw [hW.1, List.getElem?_append_right (Nat.le_refl _), Nat.sub_self]; rfl
  have f4 : (T ++ [(.inr (300, 0, 16380, (-2147483648), 2147483647) : zK)])[4]? = some (.inl (0, 0, 0, 0, 0)) := X.1.k rfl (by decide)
  refine z_xP zt119 14 41 [some (.ref 4), some (.int p1), some (.int p2), some (.int p3), some (.ref w), some (.int 0)] [.int 16380, .ref 4] rfl rfl ?_
  refine z_enai (N := M0.length) (k := 16380) (z_dc1 zt119 (n := 15) rfl) (by decide) rfl rfl ?_
  refine z_xpf zt119 16 rfl zo119 zzf0_267 X f4 (by decide) (by decide) kN rfl (by decide) zw0_12 (fun M2 X2 ke h => ?_)
  have g2 : z_ag (T ++ [(.inr (300, 0, 16380, (-2147483648), 2147483647) : zK)]) M2 p2 b b2 NN sa q t m pr en B S A := g1.ke hW1 (fun _ _ h => h) (hb1.ke ke rfl) ke rfl
  have y2 : z_wyK (T ++ [(.inr (300, 0, 16380, (-2147483648), 2147483647) : zK)]) M2 p1 w cw sh ch := y1.ke hW1 (fun _ _ h => h) ke rfl (fun x hx => by rw [List.mem_singleton.mp hx]; decide)
  have hc2 : z_cA M2 := hc1.ke hW1 ke rfl
  obtain ⟨hcw, ow, kw, fs2, fc2⟩ := y2
  obtain ⟨hAB, ⟨ob2, kb2, fN, hlz⟩, ⟨hsa, ksa, hSS⟩, hA, hm, hbk⟩ := g2
  refine z_xP zt119 17 49 [some (.ref 4), some (.int p1), some (.int p2), some (.int p3), some (.ref w), some (.int 0)] [.ref 4, .ref w] rfl rfl ?_
  refine z_xgX (b := 11) zt119 18 rfl zo119 zzf0_22 X2 f4 (by decide) (by decide) rfl ?_
  refine z_xP zt119 19 53 [some (.ref 4), some (.int p1), some (.int p2), some (.int p3), some (.ref w), some (.int 0)] [.int p2, .ref 11, .ref w] rfl rfl ?_
  have f11 : (T ++ [(.inr (300, 0, 16380, (-2147483648), 2147483647) : zK)])[11]? = some (.inr (11, 2, 8, 5, 0)) := X2.1.k rfl (by decide)
  refine z_xal zt119 20 rfl X2 f11 (by decide) (by decide) (by decide) (by omega) (by omega) (fun (a50 : Nat) h51 h52 => ?_) (fun h53 => absurd (h53.symm.trans ob2) (fun h => by cases h))
  have e50 : a50 = b2 := Option.some.inj (h51.symm.trans ob2)
  rw [e50]
  refine z_xP zt119 21 56 [some (.ref 4), some (.int p1), some (.int p2), some (.int p3), some (.ref w), some (.int 0)] [.ref 4, .int p3, .ref b2, .ref w] rfl rfl ?_
  refine z_xgv zt119 22 rfl zo119 zzf0_267 X2 f4 (by decide) h ?_
  refine z_xcV (vs := [.ref w, .ref b2, .int p3, .ref M0.length]) (r := []) (L2 := [some (.ref w), some (.ref b2), some (.int p3), some (.ref M0.length), none, none, none, none, none, none]) zt119 23 rfl zo119 zzcV0_270 (Or.inr rfl) rfl X2 kw (z_w8 (fun c => (([(4, 120), (10, 120), (7, 120), (5, 120), (11, 120), (8, 120), (6, 120), (9, 120)] : List (Nat × Nat)).find? fun t => t.1 == c) = some (c, 120)) rfl rfl rfl rfl rfl rfl rfl rfl hcw) rfl rfl (Nat.le_of_ble_eq_true rfl) zzm120 (Nat.le_of_ble_eq_true rfl) rfl ?_
  refine zUC120 X2.1 hcw kw kb2 h3 kN hbk fN hAB.2.2.2.1 hsa ksa hSS hA hlz (hc2.O X2.1) ⟨hAB.2.2.2.2.2.2.1.2, hAB.2.2.2.2.2.2.2.1.2⟩ fs2 fc2 ⟨hm.1, m12⟩ (fun x62 M60 X61 hka _ => ?_)
  show z_ev (d + 7) 119 62 [some (.ref 4), some (.int p1), some (.int p2), some (.int p3), some (.ref w), some (.int 0)] [.int x62] M60 _
  exact z_xri zt119 24 rfl zzr119 (kk x62 M60 (Or.inr ⟨⟨hv, h3⟩, Or.inr ⟨m12, hka⟩⟩))
