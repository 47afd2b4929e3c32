/-! the reference at one of all benches -/
def y_TN (T : List zK) (M : zH) (a q t m pr en n : Nat) (B F : Nat → Nat) (S : Nat → Int32) (A : Int32) : Prop := z_W M T ∧ (∃ av : Int32, z_F M 19 29 = some (.int av) ∧ av.toInt = (a : Int) ∧ a < 8) ∧ (∃ sv : Int32, z_F M 19 30 = some (.int sv) ∧ sv.toInt = (n : Int) ∧ n ≤ 5) ∧ y_AGO M a q t m pr en B ∧ (∀ k, k < m → z_Ar M 30 (1024 * a + k) = S k) ∧ A.toInt = ((2 ^ q : Nat) : Int) - 1 ∧ (1 ≤ q ∧ q ≤ 10) ∧ ∀ j, j < n → (z_Ar M 43 j).toInt = (F j : Int) ∧ F j < m
def y_ST (M : zH) (n : Nat) (F : Nat → Nat) (S : Nat → Int32) (A : Int32) : Prop := ∀ j, j < n → z_Ar M 39 j = z_w1 j ∧ z_Ar M 40 j = z_yS S F j ∧ z_Ar M 41 j = z_nS S A F j
theorem y_TN.ke {T : List zK} {M M1 : zH} {a q t m pr en n : Nat} {B F : Nat → Nat} {S : Nat → Int32} {A : Int32} {rs : List Nat} (h : y_TN T M a q t m pr en n B F S A) (X : z_X T rs M M1) (hr : ((z_agr ++ [2229, 2230, 30, 43]).all fun x => !rs.elem x) = true) : y_TN T M1 a q t m pr en n B F S A := by
  obtain ⟨hW, ⟨av, h1, h2⟩, ⟨sv, h3, h4⟩, h5, h6, h7, h8, h9⟩ := h
  have n0 := z_nin hr
  have k19 : T[19]? = some (.inl (12, 0, 0, 0, 0)) := hW.k rfl (by decide)
  have e30 : z_Ar M1 30 = z_Ar M 30 := X.2.a (hW.k (k := 30) rfl (by decide)) (n0 _ rfl)
  have e43 : z_Ar M1 43 = z_Ar M 43 := X.2.a (hW.k (k := 43) rfl (by decide)) (n0 _ rfl)
  refine ⟨X.1, ⟨av, X.2.f k19 (n0 _ rfl) h1, h2⟩, ⟨sv, X.2.f k19 (n0 _ rfl) h3, h4⟩, h5.ke hW X.2 (List.all_eq_true.mpr fun x hx => List.all_eq_true.mp hr x (List.mem_append_left _ hx)), ?_, h7, h8, ?_⟩
  · rw [e30]
    exact h6
  · rw [e43]
    exact h9
theorem zUB253 {T : List zK} {d : Nat} {K : Option Value → zH → Prop}  {M0 : zH}  {a q t m pr en n : Nat} {B F : Nat → Nat} {S : Nat → Int32} {A : Int32} (hT : y_TN T M0 a q t m pr en n B F S A) (kk : ∀ (M1 : zH), z_X T zw253 M0 M1 → y_TN T M1 a q t m pr en n B F S A → y_ST M1 n F S A → K none M1) : ∀ nn : Nat, (∀ (M : zH) (b1 : Int32), z_X T zw253 M0 M → 0 ≤ b1.toInt ∧ b1.toInt ≤ 9 → b1.toInt ≤ (n : Int) → (∀ j, j < b1.toInt.toNat → z_Ar M 39 j = z_w1 j ∧ z_Ar M 40 j = z_yS S F j ∧ z_Ar M 41 j = z_nS S A F j) → ((0) * 2 + 0) * 10 + (9 - b1.toInt) < (nn : Int) → z_ev (d + 2) 253 2 [some (.ref 19), some (.int b1)] [] M K) := by
  intro nn
  induction nn with
  | zero => exact by intros; exfalso; omega
  | succ nn ih =>
    intro M b1 X hh0 hb1 hI hE
    have hTM := hT.ke X (by decide)
    obtain ⟨hW, ⟨av, hb9, ea, a8⟩, ⟨sv, hs, esv, n5⟩, hG, hSS, hA, q10, hnu⟩ := id hTM
    refine z_xP zt253 1 4 [some (.ref 19), some (.int b1)] [.ref 19, .int b1] rfl rfl ?_
    have f19 : T[19]? = some (.inl (12, 0, 0, 0, 0)) := X.1.k rfl (by decide)
    refine z_xgv zt253 2 rfl zo253 zzf12_245 X f19 (by decide) hs ?_
    refine z_xJ zt253 3 rfl rfl (fun (h5 : sv.toInt ≤ b1.toInt) => ?_) (fun (h5 : b1.toInt < sv.toInt) => ?_)
    · skip
      exact z_xrv zt253 18 rfl zzr253 (kk M X hTM fun j hj => hI j (by omega))
    refine z_xP zt253 4 13 [some (.ref 19), some (.int b1)] [.ref 19, .int b1, .ref 19] rfl rfl ?_
    refine z_xgX (b := 30) zt253 5 rfl zo253 zzf12_40 X f19 (by decide) (by decide) rfl ?_
    refine z_xP zt253 6 20 [some (.ref 19), some (.int b1)] [.ref 19, .int 1024, .ref 30, .int b1, .ref 19] rfl rfl ?_
    refine z_xgv zt253 7 rfl zo253 zzf12_242 X f19 (by decide) hb9 ?_
    refine z_xI zt253 8 rfl rfl (fun (x10 : Int32) (h11 : x10.toInt = 1024 * av.toInt) => ?_) (z_pMul rfl rfl (by omega) (by omega))
    refine z_xP zt253 9 25 [some (.ref 19), some (.int b1)] [.ref 19, .int x10, .ref 30, .int b1, .ref 19] rfl rfl ?_
    refine z_xgX (b := 43) zt253 10 rfl zo253 zzf12_79 X f19 (by decide) (by decide) rfl ?_
    refine z_xP zt253 11 29 [some (.ref 19), some (.int b1)] [.int b1, .ref 43, .int x10, .ref 30, .int b1, .ref 19] rfl rfl ?_
    have f43 : T[43]? = some (.inr (43, 0, 9, 0, 1023)) := X.1.k rfl (by decide)
    refine z_xil zt253 12 rfl X f43 (by decide) (by omega) (by omega) (fun (x12 : Int32) h13 (h14 : 0 ≤ x12.toInt) (h15 : x12.toInt ≤ 1023) => ?_)
    refine z_xI zt253 13 rfl rfl (fun (x16 : Int32) (h17 : x16.toInt = x10.toInt + x12.toInt) => ?_) (z_pAdd rfl rfl (by omega) (by omega))
    have f30 : T[30]? = some (.inr (30, 0, 8192, 0, 1023)) := X.1.k rfl (by decide)
    refine z_xil zt253 14 rfl X f30 (by decide) (by omega) (by omega) (fun (x18 : Int32) h19 (h20 : 0 ≤ x18.toInt) (h21 : x18.toInt ≤ 1023) => ?_)
    have hn12 := hnu b1.toInt.toNat (by omega)
    have e12 : x12.toInt = (F b1.toInt.toNat : Int) := (congrArg Int32.toInt h13).symm.trans hn12.1
    have e18 : x18 = S (F b1.toInt.toNat) := by
      rw [← hSS _ hn12.2, ← h19]
      refine congrArg _ ?_
      show x16.toInt.toNat = _
      omega
    refine z_xcV (vs := [.ref 19, .int b1, .int x18]) (r := []) (L2 := [some (.ref 19), some (.int b1), some (.int x18)]) zt253 15 rfl zo253 zzcV12_315 (Or.inl rfl) rfl X f19 rfl rfl rfl (Nat.le_of_ble_eq_true rfl) zzm254 (Nat.le_of_ble_eq_true rfl) rfl ?_
    refine z_xP zt254 0 1 [some (.ref 19), some (.int b1), some (.int x18)] [.ref 19] rfl rfl ?_
    refine z_xgX (b := 39) zt254 1 rfl zo254 zzf12_67 X f19 (by decide) (by decide) rfl ?_
    refine z_xP zt254 2 6 [some (.ref 19), some (.int b1), some (.int x18)] [.int 1, .int b1, .ref 39] rfl rfl ?_
    have f39 : T[39]? = some (.inr (39, 0, 9, (-2147483648), 2147483647)) := X.1.k rfl (by decide)
    have q1 : ((1 : Int32)).toInt = 1 := rfl
    refine z_xis zt254 3 rfl X f39 (by decide) (by decide) (by omega) (by omega) (by omega) (by omega) (by decide) (fun M22 X23 e24 h25 => ?_)
    refine z_xP zt254 4 8 [some (.ref 19), some (.int b1), some (.int x18)] [.ref 19] rfl rfl ?_
    refine z_xgX (b := 40) zt254 5 rfl zo254 zzf12_70 X23 f19 (by decide) (by decide) rfl ?_
    refine z_xP zt254 6 13 [some (.ref 19), some (.int b1), some (.int x18)] [.int x18, .int b1, .ref 40] rfl rfl ?_
    have f40 : T[40]? = some (.inr (40, 0, 9, (-2147483648), 2147483647)) := X23.1.k rfl (by decide)
    refine z_xis zt254 7 rfl X23 f40 (by decide) (by decide) (by omega) (by omega) (Int32.le_toInt _) (Int32.toInt_le _) (by decide) (fun M26 X27 e28 h29 => ?_)
    refine z_xP zt254 8 15 [some (.ref 19), some (.int b1), some (.int x18)] [.ref 19] rfl rfl ?_
    refine z_xgX (b := 41) zt254 9 rfl zo254 zzf12_73 X27 f19 (by decide) (by decide) rfl ?_
    refine z_xP zt254 10 20 [some (.ref 19), some (.int b1), some (.int x18)] [.ref 19, .int b1, .ref 41] rfl rfl ?_
    refine z_xcV (vs := [.ref 19]) (r := [.int b1, .ref 41]) (L2 := [some (.ref 19)]) zt254 11 rfl zo254 zzcV12_248 (Or.inl rfl) rfl X27 f19 rfl rfl rfl (Nat.le_of_ble_eq_true rfl) zzm240 (Nat.le_of_ble_eq_true rfl) rfl ?_
    refine z_xP zt240 0 2 [some (.ref 19)] [.ref 19, .int 1] rfl rfl ?_
    refine z_xgX (b := 24) zt240 1 rfl zo240 zzf12_22 X27 f19 (by decide) (by decide) rfl ?_
    refine z_xP zt240 2 6 [some (.ref 19)] [.ref 19, .ref 24, .int 1] rfl rfl ?_
    have h30 := (e28.f f19 (by decide) (e24.f f19 (by decide) hb9))
    refine z_xgv zt240 3 rfl zo240 zzf12_242 X27 f19 (by decide) h30 ?_
    have f24 : T[24]? = some (.inr (24, 0, 8, 0, 10)) := X27.1.k rfl (by decide)
    refine z_xil zt240 4 rfl X27 f24 (by decide) (by omega) (by omega) (fun (x31 : Int32) h32 (h33 : 0 ≤ x31.toInt) (h34 : x31.toInt ≤ 10) => ?_)
    refine z_xI zt240 5 rfl rfl (fun (x35 : Int32) (h36 : x35 = (1 : Int32) <<< (x31 &&& 31) ∧ 1 ≤ x35.toInt ∧ x35.toInt ≤ 1024) => ?_) (⟨rfl, z_pShlB (a := 1) (b := 10) (c := 1024) (r := 1024) rfl rfl (by omega) (by omega) (by omega) (by omega) (by decide) (by decide) (by decide) (by decide)⟩)
    have e31 : x31.toInt = (q : Int) := by
      rw [← h32, e28.a f24 (by decide), e24.a f24 (by decide), z_tnA ea]
      exact hG.1
    refine z_xP zt240 6 12 [some (.ref 19)] [.int 1, .int x35] rfl rfl ?_
    refine z_xI zt240 7 rfl rfl (fun (x37 : Int32) (h38 : x37.toInt = x35.toInt - 1) => ?_) (z_pSub rfl rfl (by omega) (by omega))
    have eA : x37 = A := Int32.toInt_inj.mp ((z_all2 e31 q10.2 h36.1 h38).trans hA.symm)
    refine z_xri zt240 8 rfl zzr240 ?_
    show z_ev (d + 1) 254 23 [some (.ref 19), some (.int b1), some (.int x18)] [.int x37, .int b1, .ref 41] M26 _
    refine z_xP zt254 12 25 [some (.ref 19), some (.int b1), some (.int x18)] [.int (-1), .int x18, .int x37, .int b1, .ref 41] rfl rfl ?_
    refine z_xI zt254 13 rfl rfl (fun (x39 : Int32) (h39 : x39 = x18 ^^^ (-1 : Int32)) => ?_) rfl
    refine z_xI zt254 14 rfl rfl (fun (x41 : Int32) (h42 : x41 = x37 &&& x39) => ?_) rfl
    have f41 : T[41]? = some (.inr (41, 0, 9, (-2147483648), 2147483647)) := X27.1.k rfl (by decide)
    refine z_xis zt254 15 rfl X27 f41 (by decide) (by decide) (by omega) (by omega) (Int32.le_toInt _) (Int32.toInt_le _) (by decide) (fun M43 X44 e45 h46 => ?_)
    refine z_xrv zt254 16 rfl zzr254 ?_
    show z_ev (d + 2) 253 35 [some (.ref 19), some (.int b1)] [] M43 _
    refine z_xN zt253 16 rfl rfl (fun (x47 : Int32) (h48 : x47.toInt = b1.toInt + 1) => ?_) (z_pAdd rfl rfl (by omega) (by omega))
    show z_ev (d + 2) 253 38 [some (.ref 19), some (.int x47)] [] M43 _
    refine z_xP zt253 17 2 [some (.ref 19), some (.int x47)] [] rfl rfl ?_
    have es : x47.toInt.toNat = b1.toInt.toNat + 1 := by omega
    refine ih M43 x47 X44 ⟨by omega, by omega⟩ (by omega) (fun j hj => ?_) (by omega)
    rw [e45.a f39 (by decide), e28.a f39 (by decide), h25, e45.a f40 (by decide), h29, h46, e24.a f40 (by decide), e28.a f41 (by decide), e24.a f41 (by decide)]
    show (if j = b1.toInt.toNat then (1 : Int32) else z_Ar M 39 j) = _ ∧ (if j = b1.toInt.toNat then x18 else z_Ar M 40 j) = _ ∧ (if j = b1.toInt.toNat then x41 else z_Ar M 41 j) = _
    by_cases cj : j = b1.toInt.toNat
    · rw [if_pos cj, if_pos cj, if_pos cj, cj, h42, h39, eA, e18]
      exact ⟨rfl, rfl, rfl⟩
    · rw [if_neg cj, if_neg cj, if_neg cj]
      exact hI j (by omega)
theorem zUC253 {T : List zK} {d : Nat} {K : Option Value → zH → Prop}  {M0 : zH} (hW : z_W M0 T)  {a q t m pr en n : Nat} {B F : Nat → Nat} {S : Nat → Int32} {A : Int32} (hT : y_TN T M0 a q t m pr en n B F S A) (kk : ∀ (M1 : zH), z_X T zw253 M0 M1 → y_TN T M1 a q t m pr en n B F S A → y_ST M1 n F S A → K none M1) : z_ev (d + 2) 253 0 [some (.ref 19), none] [] M0 K := by
  have X : z_X T zw253 M0 M0 := .refl hW
  refine z_xP zt253 0 2 [some (.ref 19), some (.int 0)] [] rfl rfl ?_
  have q0 : ((0 : Int32)).toInt = 0 := rfl
  exact (zUB253 hT kk 20) M0 (0) X (by decide) (by omega) (fun j hj => absurd hj (Nat.not_lt_zero j)) (by omega)
