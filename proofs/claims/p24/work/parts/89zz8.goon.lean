/-! the reference goes on to the next bench or row -/
section ZTN
variable {T : List zK} {M M1 : zH} {a q t m pr en n : Nat} {B F F2 : Nat → Nat} {S : Nat → Int32} {A : Int32} {rs : List Nat}
theorem y_TN.C (h : y_TN T M a q t m pr en n B F S A) (e : ∀ j, j < n → F j = F2 j) : y_TN T M a q t m pr en n B F2 S A := by
  obtain ⟨h1, h2, h3, h4, h5, h6, h7, h8⟩ := h
  exact ⟨h1, h2, h3, h4, h5, h6, h7, fun j hj => by rw [← e j hj]; exact h8 j hj⟩
theorem y_ST.C (h : y_ST M n F S A) (e : ∀ j, j < n → F j = F2 j) : y_ST M n F2 S A := fun j hj => by
  obtain ⟨h1, h2, h3⟩ := h j hj
  unfold z_yS at h2 ⊢
  unfold z_nS at h3 ⊢
  rw [← e j hj]
  exact ⟨h1, h2, h3⟩
theorem y_ST.ke (h : y_ST M n F S A) (hW : z_W M T) (ke : z_ke T rs M M1) (hr : (([39, 40, 41] : List Nat).all fun x => !rs.elem x) = true) : y_ST M1 n F S A := by
  have n0 := z_nin hr
  unfold y_ST
  rw [ke.a (hW.k (k := 39) (κ := z_af 39 9) rfl (by decide)) (n0 _ rfl), ke.a (hW.k (k := 40) (κ := z_af 40 9) rfl (by decide)) (n0 _ rfl), ke.a (hW.k (k := 41) (κ := z_af 41 9) rfl (by decide)) (n0 _ rfl)]
  exact h
/-- the numbers are others -/
theorem y_TN.nu (h : y_TN T M a q t m pr en n B F S A) (hW1 : z_W M1 T) (ke : z_ke T [43] M M1) (e : ∀ j, j < n → (z_Ar M1 43 j).toInt = (F2 j : Int) ∧ F2 j < m) : y_TN T M1 a q t m pr en n B F2 S A := by
  obtain ⟨hW, ⟨av, h1, h2⟩, ⟨sv, h3, h4⟩, h5, h6, h7, h8, h9⟩ := h
  have k19 : T[19]? = some (.inl (12, 0, 0, 0, 0)) := hW.k rfl (by decide)
  refine ⟨hW1, ⟨av, ke.f k19 (by decide) h1, h2⟩, ⟨sv, ke.f k19 (by decide) h3, h4⟩, h5.ke hW ke (by decide), ?_, h7, h8, e⟩
  rw [ke.a (hW.k (k := 30) (κ := z_ai 30 8192 0 1023) rfl (by decide)) (by decide)]
  exact h6
end ZTN
theorem zYB255 {T : List zK} {d : Nat} {K : Option Value → zH → Prop} {p1 : Int32} {M0 : zH} {a q t m pr en n : Nat} {B F : Nat → Nat} {S : Nat → Int32} {A : Int32} (u1 : 0 ≤ p1.toInt ∧ p1.toInt ≤ 1) (hT : y_TN T M0 a q t m pr en n B F S A) (n1 : 1 ≤ n) (kk : ∀ (x : Int32) (M1 : zH), z_X T zw255 M0 M1 → ((x.toInt = 0 ∧ z_rz m F n = 0) ∨ (x.toInt = 1 ∧ z_rz m F n ≠ 0 ∧ y_TN T M1 a q t m pr en n B (z_nx p1.toInt.toNat m n F) S A ∧ y_ST M1 n (z_nx p1.toInt.toNat m n F) S A)) → K (some (.int x)) M1) : ∀ nn : Nat, (∀ (M : zH) (b2 : Int32), z_X T zw255 M0 M → M = M0 → (-1) ≤ b2.toInt ∧ b2.toInt ≤ 4 → b2.toInt < (n : Int) → (∀ i : Nat, b2.toInt < (i : Int) → i < n → ¬ F i + 1 < m) → ((0) * 3 + 1) * 6 + (b2.toInt - (-1)) < (nn : Int) → z_ev (d + 3) 255 7 [some (.ref 19), some (.int p1), some (.int b2), none, none] [] M K) ∧ (∀ (M : zH) (b2 : Int32) (b3 : Int32) (b4 : Int32), z_X T zw255 M0 M → 0 ≤ b2.toInt ∧ b2.toInt ≤ 4 → 0 ≤ b3.toInt ∧ b3.toInt ≤ 1023 → 0 ≤ b4.toInt ∧ b4.toInt ≤ 5 → (b2.toInt ≤ b4.toInt ∧ b4.toInt ≤ (n : Int)) → z_rz m F n = b2.toInt.toNat + 1 → b3.toInt = (F b2.toInt.toNat : Int) + 1 → y_TN T M a q t m pr en n B (fun j => if j < b4.toInt.toNat then z_nx p1.toInt.toNat m n F j else F j) S A → ((0) * 3 + 0) * 6 + (5 - b4.toInt) < (nn : Int) → z_ev (d + 3) 255 55 [some (.ref 19), some (.int p1), some (.int b2), some (.int b3), some (.int b4)] [] M K) := by
  intro nn
  induction nn with
  | zero => exact ⟨(by intros; exfalso; omega), (by intros; exfalso; omega)⟩
  | succ nn ih =>
    refine ⟨?_, ?_⟩
    · skip
      intro M b2 X hM hh0 hb2 ht hE
      have hTM := hT
      rw [← hM] at hTM
      obtain ⟨hWM, ⟨z0, hp0, ea, a8⟩, ⟨z1, hp1, esv, n5⟩, hG, hSS, hA, q10, hnu⟩ := id hTM
      refine z_xP zt255 5 8 [some (.ref 19), some (.int p1), some (.int b2), none, none] [.int b2] rfl rfl ?_
      refine z_xZ zt255 6 rfl rfl (fun (h1 : b2.toInt < 0) => ?_) (fun (h1 : 0 ≤ b2.toInt) => ?_)
      · skip
        refine z_xP zt255 21 38 [some (.ref 19), some (.int p1), some (.int b2), none, none] [.int b2] rfl rfl ?_
        refine z_xZ zt255 22 rfl rfl (fun (h2 : 0 ≤ b2.toInt) => absurd h2 (by omega)) (fun (h2 : b2.toInt < 0) => ?_)
        refine z_xP zt255 23 42 [some (.ref 19), some (.int p1), some (.int b2), none, none] [.int 0] rfl rfl ?_
        have f19 : T[19]? = some (.inl (12, 0, 0, 0, 0)) := X.1.k rfl (by decide)
        have q0 : ((0 : Int32)).toInt = 0 := rfl
        exact z_xrz zt255 24 rfl zzr255 (by decide) (by decide) (kk 0 M X (Or.inl ⟨rfl, z_rz0 fun i hi => ht i (by omega) hi⟩))
      refine z_xP zt255 7 12 [some (.ref 19), some (.int p1), some (.int b2), none, none] [.ref 19] rfl rfl ?_
      have f19 : T[19]? = some (.inl (12, 0, 0, 0, 0)) := X.1.k rfl (by decide)
      refine z_xgX (b := 43) zt255 8 rfl zo255 zzf12_79 X f19 (by decide) (by decide) rfl ?_
      refine z_xP zt255 9 16 [some (.ref 19), some (.int p1), some (.int b2), none, none] [.int b2, .ref 43] rfl rfl ?_
      have f43 : T[43]? = some (.inr (43, 0, 9, 0, 1023)) := X.1.k rfl (by decide)
      refine z_xil zt255 10 rfl X f43 (by decide) (by omega) (by omega) (fun (x3 : Int32) h4 (h5 : 0 ≤ x3.toInt) (h6 : x3.toInt ≤ 1023) => ?_)
      have e3 : x3.toInt = (F b2.toInt.toNat : Int) := (congrArg Int32.toInt h4).symm.trans (hnu b2.toInt.toNat (by omega)).1
      have l3 := (hnu b2.toInt.toNat (by omega)).2
      refine z_xP zt255 11 18 [some (.ref 19), some (.int p1), some (.int b2), none, none] [.ref 19, .int x3] rfl rfl ?_
      refine z_xgX (b := 31) zt255 12 rfl zo255 zzf12_43 X f19 (by decide) (by decide) rfl ?_
      refine z_xP zt255 13 22 [some (.ref 19), some (.int p1), some (.int b2), none, none] [.ref 19, .ref 31, .int x3] rfl rfl ?_
      refine z_xgv zt255 14 rfl zo255 zzf12_242 X f19 (by decide) hp0 ?_
      have f31 : T[31]? = some (.inr (31, 0, 8, 0, 1024)) := X.1.k rfl (by decide)
      refine z_xil zt255 15 rfl X f31 (by decide) (by omega) (by omega) (fun (x8 : Int32) h9 (h10 : 0 ≤ x8.toInt) (h11 : x8.toInt ≤ 1024) => ?_)
      have e8 : x8.toInt = (m : Int) := by
        rw [← h9, z_tnA ea]
        exact hG.2.2.2.2.1
      refine z_xP zt255 16 27 [some (.ref 19), some (.int p1), some (.int b2), none, none] [.int 1, .int x8, .int x3] rfl rfl ?_
      refine z_xI zt255 17 rfl rfl (fun (x13 : Int32) (h14 : x13.toInt = x8.toInt - 1) => ?_) (z_pSub rfl rfl (by omega) (by omega))
      refine z_xJ zt255 18 rfl rfl (fun (h15 : x3.toInt ≠ x13.toInt) => ?_) (fun (h15 : x3.toInt = x13.toInt) => ?_)
      · skip
        refine z_xP zt255 21 38 [some (.ref 19), some (.int p1), some (.int b2), none, none] [.int b2] rfl rfl ?_
        refine z_xZ zt255 22 rfl rfl (fun (h16 : 0 ≤ b2.toInt) => ?_) (fun (h16 : b2.toInt < 0) => absurd h16 (by omega))
        refine z_xP zt255 25 44 [some (.ref 19), some (.int p1), some (.int b2), none, none] [.ref 19] rfl rfl ?_
        refine z_xgX (b := 43) zt255 26 rfl zo255 zzf12_79 X f19 (by decide) (by decide) rfl ?_
        refine z_xP zt255 27 48 [some (.ref 19), some (.int p1), some (.int b2), none, none] [.int b2, .ref 43] rfl rfl ?_
        refine z_xil zt255 28 rfl X f43 (by decide) (by omega) (by omega) (fun (x17 : Int32) h18 (h19 : 0 ≤ x17.toInt) (h20 : x17.toInt ≤ 1023) => ?_)
        have h21 := congrArg Int32.toInt (h18.symm.trans h4)
        refine z_xP zt255 29 50 [some (.ref 19), some (.int p1), some (.int b2), none, none] [.int 1, .int x17] rfl rfl ?_
        refine z_xI zt255 30 rfl rfl (fun (x23 : Int32) (h24 : x23.toInt = x17.toInt + 1) => ?_) (z_pAdd rfl rfl (by omega) (by omega))
        refine z_xP zt255 31 55 [some (.ref 19), some (.int p1), some (.int b2), some (.int x23), some (.int b2)] [] rfl rfl ?_
        have hz : z_rz m F n = b2.toInt.toNat + 1 := z_rzE (by omega) (by omega) fun i g1 g2 => ht i (by omega) g2
        refine ih.2 M b2 x23 b2 X ⟨by omega, by omega⟩ ⟨by omega, by omega⟩ ⟨by omega, by omega⟩ ⟨by omega, by omega⟩ hz (by omega) (hTM.C fun j hj => ?_) (by omega)
        (try dsimp only)
        by_cases cj : j < b2.toInt.toNat
        · rw [if_pos cj]
          exact (z_nxL (by omega)).symm
        · rw [if_neg cj]
      refine z_xN zt255 19 rfl rfl (fun (x25 : Int32) (h26 : x25.toInt = b2.toInt + (-1)) => ?_) (z_pAdd rfl rfl (by omega) (by omega))
      show z_ev (d + 3) 255 34 [some (.ref 19), some (.int p1), some (.int x25), none, none] [] M _
      refine z_xP zt255 20 7 [some (.ref 19), some (.int p1), some (.int x25), none, none] [] rfl rfl ?_
      refine ih.1 M x25 X hM ⟨by omega, by omega⟩ (by omega) (fun i g1 g2 => ?_) (by omega)
      by_cases ci : i = b2.toInt.toNat
      · rw [ci]
        omega
      · exact ht i (by omega) g2
    · skip
      intro M b2 b3 b4 X hh0 hh3 hh1 hb hz hv hTM hE
      have hrm := z_nxbR (m := m) (f := F) n (by omega)
      rw [hz, Nat.add_sub_cancel] at hrm
      obtain ⟨hWM, ⟨z0, hp0, ea, a8⟩, ⟨z1, hp1, esv, n5⟩, hG, hSS, hA, q10, hnu⟩ := id hTM
      refine z_xP zt255 32 58 [some (.ref 19), some (.int p1), some (.int b2), some (.int b3), some (.int b4)] [.ref 19, .int b4] rfl rfl ?_
      have f19 : T[19]? = some (.inl (12, 0, 0, 0, 0)) := X.1.k rfl (by decide)
      refine z_xgv zt255 33 rfl zo255 zzf12_245 X f19 (by decide) hp1 ?_
      refine z_xJ zt255 34 rfl rfl (fun (h1 : z1.toInt ≤ b4.toInt) => ?_) (fun (h1 : b4.toInt < z1.toInt) => ?_)
      · skip
        refine z_xP zt255 46 93 [some (.ref 19), some (.int p1), some (.int b2), some (.int b3), some (.int b4)] [.ref 19] rfl rfl ?_
        refine z_xcV (vs := [.ref 19]) (r := []) (L2 := [some (.ref 19), none]) zt255 47 rfl zo255 zzcV12_312 (Or.inl rfl) rfl X f19 rfl rfl rfl (Nat.le_of_ble_eq_true rfl) zzm253 (Nat.le_of_ble_eq_true rfl) rfl ?_
        refine zUC253 X.1 hTM (fun M2 X3 hT2 hS2 => ?_)
        have X4 := X.go X3 (z_sb (by decide))
        show z_ev (d + 3) 255 96 [some (.ref 19), some (.int p1), some (.int b2), some (.int b3), some (.int b4)] [] M2 _
        refine z_xP zt255 48 97 [some (.ref 19), some (.int p1), some (.int b2), some (.int b3), some (.int b4)] [.int 1] rfl rfl ?_
        have q1 : ((1 : Int32)).toInt = 1 := rfl
        have eC : ∀ j, j < n → (fun j => if j < b4.toInt.toNat then z_nx p1.toInt.toNat m n F j else F j) j = z_nx p1.toInt.toNat m n F j := fun j hj => if_pos (by omega)
        exact z_xrz zt255 49 rfl zzr255 (by decide) (by decide) (kk 1 M2 X4 (Or.inr ⟨rfl, by omega, hT2.C eC, hS2.C eC⟩))
      refine z_xP zt255 35 65 [some (.ref 19), some (.int p1), some (.int b2), some (.int b3), some (.int b4)] [.ref 19] rfl rfl ?_
      refine z_xgX (b := 43) zt255 36 rfl zo255 zzf12_79 X f19 (by decide) (by decide) rfl ?_
      refine z_xP zt255 37 71 [some (.ref 19), some (.int p1), some (.int b2), some (.int b3), some (.int b4)] [.int p1, .int b4, .ref 43] rfl rfl ?_
      refine z_xZ zt255 38 rfl rfl (fun (h14 : p1.toInt = 0) => ?_) (fun (h14 : p1.toInt ≠ 0) => ?_)
      · skip
        refine z_xP zt255 42 85 [some (.ref 19), some (.int p1), some (.int b2), some (.int b3), some (.int b4)] [.int b3, .int b4, .ref 43] rfl rfl ?_
        have f43 : T[43]? = some (.inr (43, 0, 9, 0, 1023)) := X.1.k rfl (by decide)
        refine z_xis zt255 43 rfl X f43 (by decide) (by decide) (by omega) (by omega) (by omega) (by omega) (by decide) (fun M15 X16 e17 h18 => ?_)
        refine z_xN zt255 44 rfl rfl (fun (x19 : Int32) (h20 : x19.toInt = b4.toInt + 1) => ?_) (z_pAdd rfl rfl (by omega) (by omega))
        show z_ev (d + 3) 255 89 [some (.ref 19), some (.int p1), some (.int b2), some (.int b3), some (.int x19)] [] M15 _
        refine z_xP zt255 45 55 [some (.ref 19), some (.int p1), some (.int b2), some (.int b3), some (.int x19)] [] rfl rfl ?_
        have f31 : T[31]? = some (.inr (31, 0, 8, 0, 1024)) := X16.1.k rfl (by decide)
        have es : x19.toInt.toNat = b4.toInt.toNat + 1 := by omega
        refine ih.2 M15 b2 b3 x19 X16 ⟨by omega, by omega⟩ hh3 ⟨by omega, by omega⟩ ⟨by omega, by omega⟩ hz hv (hTM.nu X16.1 e17 fun j hj => ?_) (by omega)
        obtain ⟨u1n, u2n⟩ := hnu j hj
        rw [es, h18]
        show (if j = b4.toInt.toNat then b3 else z_Ar M 43 j).toInt = ((if j < b4.toInt.toNat + 1 then z_nx p1.toInt.toNat m n F j else F j : Nat) : Int) ∧ (if j < b4.toInt.toNat + 1 then z_nx p1.toInt.toNat m n F j else F j) < m
        (try dsimp only at u1n u2n)
        by_cases cj : j = b4.toInt.toNat
        · rw [if_pos cj, if_pos (by omega), cj, z_nxU hz (by omega) (Or.inl (by omega))]
          exact ⟨by first | rfl | omega, by omega⟩
        · rw [if_neg cj]
          by_cases cj2 : j < b4.toInt.toNat
          · rw [if_pos cj2] at u1n u2n
            rw [if_pos (by omega)]
            exact ⟨u1n, u2n⟩
          · rw [if_neg cj2] at u1n u2n
            rw [if_neg (by omega)]
            exact ⟨u1n, u2n⟩
      refine z_xP zt255 39 77 [some (.ref 19), some (.int p1), some (.int b2), some (.int b3), some (.int b4)] [.int b2, .int b4, .int b4, .ref 43] rfl rfl ?_
      refine z_xJ zt255 40 rfl rfl (fun (h24 : b4.toInt ≤ b2.toInt) => ?_) (fun (h24 : b2.toInt < b4.toInt) => ?_)
      · skip
        refine z_xP zt255 42 85 [some (.ref 19), some (.int p1), some (.int b2), some (.int b3), some (.int b4)] [.int b3, .int b4, .ref 43] rfl rfl ?_
        have f43 : T[43]? = some (.inr (43, 0, 9, 0, 1023)) := X.1.k rfl (by decide)
        refine z_xis zt255 43 rfl X f43 (by decide) (by decide) (by omega) (by omega) (by omega) (by omega) (by decide) (fun M25 X26 e27 h28 => ?_)
        refine z_xN zt255 44 rfl rfl (fun (x29 : Int32) (h30 : x29.toInt = b4.toInt + 1) => ?_) (z_pAdd rfl rfl (by omega) (by omega))
        show z_ev (d + 3) 255 89 [some (.ref 19), some (.int p1), some (.int b2), some (.int b3), some (.int x29)] [] M25 _
        refine z_xP zt255 45 55 [some (.ref 19), some (.int p1), some (.int b2), some (.int b3), some (.int x29)] [] rfl rfl ?_
        have f31 : T[31]? = some (.inr (31, 0, 8, 0, 1024)) := X26.1.k rfl (by decide)
        have es : x29.toInt.toNat = b4.toInt.toNat + 1 := by omega
        refine ih.2 M25 b2 b3 x29 X26 ⟨by omega, by omega⟩ hh3 ⟨by omega, by omega⟩ ⟨by omega, by omega⟩ hz hv (hTM.nu X26.1 e27 fun j hj => ?_) (by omega)
        obtain ⟨u1n, u2n⟩ := hnu j hj
        rw [es, h28]
        show (if j = b4.toInt.toNat then b3 else z_Ar M 43 j).toInt = ((if j < b4.toInt.toNat + 1 then z_nx p1.toInt.toNat m n F j else F j : Nat) : Int) ∧ (if j < b4.toInt.toNat + 1 then z_nx p1.toInt.toNat m n F j else F j) < m
        (try dsimp only at u1n u2n)
        by_cases cj : j = b4.toInt.toNat
        · rw [if_pos cj, if_pos (by omega), cj, z_nxU hz (by omega) (Or.inr (by omega))]
          exact ⟨by first | rfl | omega, by omega⟩
        · rw [if_neg cj]
          by_cases cj2 : j < b4.toInt.toNat
          · rw [if_pos cj2] at u1n u2n
            rw [if_pos (by omega)]
            exact ⟨u1n, u2n⟩
          · rw [if_neg cj2] at u1n u2n
            rw [if_neg (by omega)]
            exact ⟨u1n, u2n⟩
      refine z_xP zt255 41 85 [some (.ref 19), some (.int p1), some (.int b2), some (.int b3), some (.int b4)] [.int 0, .int b4, .ref 43] rfl rfl ?_
      have f43 : T[43]? = some (.inr (43, 0, 9, 0, 1023)) := X.1.k rfl (by decide)
      have q0 : ((0 : Int32)).toInt = 0 := rfl
      refine z_xis zt255 43 rfl X f43 (by decide) (by decide) (by omega) (by omega) (by omega) (by omega) (by decide) (fun M34 X35 e36 h37 => ?_)
      refine z_xN zt255 44 rfl rfl (fun (x38 : Int32) (h39 : x38.toInt = b4.toInt + 1) => ?_) (z_pAdd rfl rfl (by omega) (by omega))
      show z_ev (d + 3) 255 89 [some (.ref 19), some (.int p1), some (.int b2), some (.int b3), some (.int x38)] [] M34 _
      refine z_xP zt255 45 55 [some (.ref 19), some (.int p1), some (.int b2), some (.int b3), some (.int x38)] [] rfl rfl ?_
      have f31 : T[31]? = some (.inr (31, 0, 8, 0, 1024)) := X35.1.k rfl (by decide)
      have es : x38.toInt.toNat = b4.toInt.toNat + 1 := by omega
      refine ih.2 M34 b2 b3 x38 X35 ⟨by omega, by omega⟩ hh3 ⟨by omega, by omega⟩ ⟨by omega, by omega⟩ hz hv (hTM.nu X35.1 e36 fun j hj => ?_) (by omega)
      obtain ⟨u1n, u2n⟩ := hnu j hj
      rw [es, h37]
      show (if j = b4.toInt.toNat then (0 : Int32) else z_Ar M 43 j).toInt = ((if j < b4.toInt.toNat + 1 then z_nx p1.toInt.toNat m n F j else F j : Nat) : Int) ∧ (if j < b4.toInt.toNat + 1 then z_nx p1.toInt.toNat m n F j else F j) < m
      (try dsimp only at u1n u2n)
      by_cases cj : j = b4.toInt.toNat
      · rw [if_pos cj, if_pos (by omega), cj, z_nxZ hz (by omega) (by omega)]
        exact ⟨by first | rfl | omega, by omega⟩
      · rw [if_neg cj]
        by_cases cj2 : j < b4.toInt.toNat
        · rw [if_pos cj2] at u1n u2n
          rw [if_pos (by omega)]
          exact ⟨u1n, u2n⟩
        · rw [if_neg cj2] at u1n u2n
          rw [if_neg (by omega)]
          exact ⟨u1n, u2n⟩
theorem zYC255 {T : List zK} {d : Nat} {K : Option Value → zH → Prop} {p1 : Int32} {M0 : zH} {a q t m pr en n : Nat} {B F : Nat → Nat} {S : Nat → Int32} {A : Int32} (u1 : 0 ≤ p1.toInt ∧ p1.toInt ≤ 1) (hT : y_TN T M0 a q t m pr en n B F S A) (n1 : 1 ≤ n) (kk : ∀ (x : Int32) (M1 : zH), z_X T zw255 M0 M1 → ((x.toInt = 0 ∧ z_rz m F n = 0) ∨ (x.toInt = 1 ∧ z_rz m F n ≠ 0 ∧ y_TN T M1 a q t m pr en n B (z_nx p1.toInt.toNat m n F) S A ∧ y_ST M1 n (z_nx p1.toInt.toNat m n F) S A)) → K (some (.int x)) M1) : z_ev (d + 3) 255 0 [some (.ref 19), some (.int p1), none, none, none] [] M0 K := by
  obtain ⟨hW, ⟨zp0, hz0, ea, a8⟩, ⟨zp1, hz1, esv, n5⟩, hG, hSS, hA, q10, hnu⟩ := id hT
  have X : z_X T zw255 M0 M0 := .refl hW
  refine z_xP zt255 0 1 [some (.ref 19), some (.int p1), none, none, none] [.ref 19] rfl rfl ?_
  have f19 : T[19]? = some (.inl (12, 0, 0, 0, 0)) := X.1.k rfl (by decide)
  refine z_xgv zt255 1 rfl zo255 zzf12_245 X f19 (by decide) hz1 ?_
  refine z_xP zt255 2 5 [some (.ref 19), some (.int p1), none, none, none] [.int 1, .int zp1] rfl rfl ?_
  refine z_xI zt255 3 rfl rfl (fun (x1 : Int32) (h2 : x1.toInt = zp1.toInt - 1) => ?_) (z_pSub rfl rfl (by omega) (by omega))
  refine z_xP zt255 4 7 [some (.ref 19), some (.int p1), some (.int x1), none, none] [] rfl rfl ?_
  have f31 : T[31]? = some (.inr (31, 0, 8, 0, 1024)) := X.1.k rfl (by decide)
  exact (zYB255 u1 hT n1 kk 18).1 M0 x1 X rfl ⟨by omega, by omega⟩ (by omega) (fun i h1 h2 => by omega) (by omega)
/-- over all benches -/
theorem zYD255 {T : List zK} {d : Nat} {K : Option Value → zH → Prop} {p1 : Int32} {M0 : zH} {a q t m pr en n k : Nat} {B : Nat → Nat} {S : Nat → Int32} {A : Int32} (u1 : p1.toInt = 0) (hT : y_TN T M0 a q t m pr en n B (z_bk m n k) S A) (n1 : 1 ≤ n) (m12 : 1 ≤ m ∧ m ≤ 12) (hk : k < z_T m n) (kk : ∀ (x : Int32) (M1 : zH), z_X T zw255 M0 M1 → ((x.toInt = 0 ∧ k + 1 = z_T m n) ∨ (x.toInt = 1 ∧ k + 1 < z_T m n ∧ y_TN T M1 a q t m pr en n B (z_bk m n (k + 1)) S A ∧ y_ST M1 n (z_bk m n (k + 1)) S A)) → K (some (.int x)) M1) : z_ev (d + 3) 255 0 [some (.ref 19), some (.int p1), none, none, none] [] M0 K := by
  have n5 : n ≤ 5 := by
    obtain ⟨_, _, ⟨_, _, _, n5⟩, _⟩ := hT
    exact n5
  have hE := z_bkE (n := n) m12.1 m12.2 n1 n5 hk
  refine zYC255 ⟨by omega, by omega⟩ hT n1 (fun x M1 X h => kk x M1 X ?_)
  have e : z_nx p1.toInt.toNat m n (z_bk m n k) = z_bk m n (k + 1) := by
    rw [show p1.toInt.toNat = 0 by omega]
    exact z_nx0
  rw [e] at h
  rcases h with ⟨h1, h2⟩ | ⟨h1, h2, h3⟩
  · exact Or.inl ⟨h1, hE.mp h2⟩
  · refine Or.inr ⟨h1, ?_, h3⟩
    have h4 : k + 1 ≠ z_T m n := fun h => h2 (hE.mpr h)
    omega
