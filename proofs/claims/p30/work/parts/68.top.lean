/-! the class reads the whole tape -/
theorem zTB7 {T : List zK} {d : Nat} {K : Option Value → zH → Prop} {a0 : Nat} {rr : Nat} {len : Nat} {lo : Int} {hi : Int} {p1 : Int32} {M0 : zH} (r0 : rr ≠ 99 ∧ 4 ≤ a0) (k0 : T[a0]? = some (.inr (rr, 0, len, lo, hi))) (hv : lo ≤ p1.toInt ∧ p1.toInt ≤ hi) (hl : len < 2147483648) (kk : ∀ (M1 : zH), z_X T [rr] M0 M1 → (∀ k : Nat, k < len → z_Ar M1 a0 k = p1) → K none M1) : ∀ n : Nat, (∀ (M : zH) (b2 : Int32) (b3 : Int32), z_X T [rr] M0 M → 0 ≤ b2.toInt ∧ b2.toInt ≤ 2147483647 → 0 ≤ b3.toInt ∧ b3.toInt ≤ 2147483647 → b3.toInt = (len : Int) → (∀ k : Nat, (k : Int) < b2.toInt → z_Ar M a0 k = p1) → ((0) * 2 + 0) * 2147483648 + (2147483647 - b2.toInt) < (n : Int) → z_ev d 7 5 [some (.ref a0), some (.int p1), some (.int b2), some (.int b3)] [] M K) := by
  intro n
  induction n with
  | zero => exact by intros; exfalso; omega
  | succ n ih =>
    intro M b2 b3 X hh0 hh1 hh2 hf7 hE
    refine z_xP zt7 3 7 [some (.ref a0), some (.int p1), some (.int b2), some (.int b3)] [.int b3, .int b2] rfl rfl ?_
    have h1 := z_b32 b2
    have h2 := z_b32 b3
    refine z_xJ zt7 4 rfl rfl (fun (h3 : b3.toInt ≤ b2.toInt) => ?_) (fun (h3 : b2.toInt < b3.toInt) => ?_)
    · skip
      exact z_xrv zt7 9 rfl zzr7 (kk M X (fun k hk => hf7 k (by omega)))
    refine z_xP zt7 5 13 [some (.ref a0), some (.int p1), some (.int b2), some (.int b3)] [.int p1, .int b2, .ref a0] rfl rfl ?_
    refine z_xis zt7 6 rfl X k0 r0.1 r0.2 (by omega) (by omega) (by omega) (by omega) (List.mem_singleton.mpr rfl) (fun M4 X5 e6 h7 => ?_)
    refine z_xN zt7 7 rfl rfl (fun (x8 : Int32) (h9 : x8.toInt = b2.toInt + 1) => ?_) (z_pAdd rfl rfl (by omega) (by omega))
    show z_ev d 7 17 [some (.ref a0), some (.int p1), some (.int x8), some (.int b3)] [] M4 _
    refine z_xP zt7 8 5 [some (.ref a0), some (.int p1), some (.int x8), some (.int b3)] [] rfl rfl ?_
    have h10 := z_b32 x8
    exact ih M4 x8 b3 X5 ⟨by omega, by omega⟩ ⟨by omega, by omega⟩ (by omega) (z_fl7 hf7 h7 (by unfold Int32.toNatClampNeg <;> omega) ⟨by omega, by omega⟩) (by omega)
theorem zTC7 {T : List zK} {d : Nat} {K : Option Value → zH → Prop} {a0 : Nat} {rr : Nat} {len : Nat} {lo : Int} {hi : Int} {p1 : Int32} {M0 : zH} (hW : z_W M0 T) (r0 : rr ≠ 99 ∧ 4 ≤ a0) (k0 : T[a0]? = some (.inr (rr, 0, len, lo, hi))) (hv : lo ≤ p1.toInt ∧ p1.toInt ≤ hi) (hl : len < 2147483648) (kk : ∀ (M1 : zH), z_X T [rr] M0 M1 → (∀ k : Nat, k < len → z_Ar M1 a0 k = p1) → K none M1) : z_ev d 7 0 [some (.ref a0), some (.int p1), none, none] [] M0 K := by
  have X : z_X T [rr] M0 M0 := .refl hW
  refine z_xP zt7 0 3 [some (.ref a0), some (.int p1), some (.int 0), none] [.ref a0] rfl rfl ?_
  refine z_xln zt7 1 rfl X k0 r0.1 (by omega) (fun (x1 : Int32) (h2 : x1.toInt = ((len : Nat) : Int)) => ?_)
  refine z_xP zt7 2 5 [some (.ref a0), some (.int p1), some (.int 0), some (.int x1)] [] rfl rfl ?_
  have q0 : ((0 : Int32)).toInt = 0 := rfl
  have h3 := z_b32 x1
  exact (zTB7 r0 k0 hv hl kk 4294967296) M0 (0) x1 X (by decide) ⟨by omega, by omega⟩ (by omega) (fun k hk => absurd hk (by omega)) (by omega)
theorem zTB13 {T : List zK} {d : Nat} {K : Option Value → zH → Prop} {bb : Nat → Int} {nn : Nat} {nu : Int → Int} {BB : Nat} {M0 : zH} (hT : z_TP M0 bb nn nu BB) (kk : ∀ (x : Int32) (M1 : zH), z_X T zw13 M0 M1 → z_SQ bb nn nu M0 M1 x.toInt → K (some (.int x)) M1) : ∀ n : Nat, (∀ (M : zH) (b1 : Int32) (b2 : Int32) (o3 : Option Value), z_X T zw13 M0 M → 0 ≤ b2.toInt ∧ b2.toInt ≤ 10 → z_SI bb nn nu M0 M b1.toInt b2.toInt → ((0) * 2 + 0) * 11 + (10 - b2.toInt) < (n : Int) → z_ev (d + 1) 13 10 [some (.ref 5), some (.int b1), some (.int b2), o3] [] M K) := by
  intro n
  induction n with
  | zero => exact by intros; exfalso; omega
  | succ n ih =>
    intro M b1 b2 o3 X hh0 hI hE
    refine z_xP zt13 3 13 [some (.ref 5), some (.int b1), some (.int b2), o3] [.int 10, .int b2] rfl rfl ?_
    refine z_xJ zt13 4 rfl rfl (fun (h1 : 10 ≤ b2.toInt) => ?_) (fun (h1 : b2.toInt < 10) => ?_)
    · skip
      refine z_xP zt13 25 59 [some (.ref 5), some (.int b1), some (.int b2), o3] [.int b1] rfl rfl ?_
      refine z_xZ zt13 26 rfl rfl (fun (h2 : b1.toInt ≠ 0) => ?_) (fun (h2 : b1.toInt = 0) => ?_)
      · skip
        refine z_xP zt13 29 67 [some (.ref 5), some (.int b1), some (.int b2), o3] [.int b1] rfl rfl ?_
        exact z_xri zt13 30 rfl zzr13 (kk b1 M X (z_SQa hI (z_stopC hI (by omega) ((hT.go X.1 X rfl).nu9 X.1)) (by omega)))
      refine z_xP zt13 27 63 [some (.ref 5), some (.int b1), some (.int b2), o3] [.ref 5] rfl rfl ?_
      have f5 : T[5]? = some (.inl (1, 0, 0, 0, 0)) := X.1.k rfl (by decide)
      refine z_xcV (vs := [.ref 5]) (r := []) (L2 := [some (.ref 5)]) zt13 28 rfl zo13 zzcV1_66 (Or.inl rfl) rfl X f5 rfl rfl rfl (Nat.le_of_ble_eq_true rfl) zzm10 (Nat.le_of_ble_eq_true rfl) rfl ?_
      refine zTC10 X.1 (hT.go X.1 X rfl) (fun M3 X4 h5 => ?_)
      have X6 := X.go X4 (z_sb (by decide))
      show z_ev (d + 1) 13 66 [some (.ref 5), some (.int b1), some (.int b2), o3] [] M3 _
      refine z_xP zt13 29 67 [some (.ref 5), some (.int b1), some (.int b2), o3] [.int b1] rfl rfl ?_
      exact z_xri zt13 30 rfl zzr13 (kk b1 M3 X6 (z_SQf hI (z_stopC hI (by omega) ((hT.go X.1 X rfl).nu9 X.1)) (by omega) h5))
    refine z_xP zt13 5 17 [some (.ref 5), some (.int b1), some (.int b2), o3] [.ref 5] rfl rfl ?_
    have f5 : T[5]? = some (.inl (1, 0, 0, 0, 0)) := X.1.k rfl (by decide)
    refine z_xcV (vs := [.ref 5]) (r := []) (L2 := [some (.ref 5), none]) zt13 6 rfl zo13 zzcV1_81 (Or.inl rfl) rfl X f5 rfl rfl rfl (Nat.le_of_ble_eq_true rfl) zzm14 (Nat.le_of_ble_eq_true rfl) rfl ?_
    refine zTC14 X.1 (hT.go X.1 X rfl) (fun x12 M8 X9 h13 h14 h10 h11 => ?_)
    have X15 := X.go X9 (z_sb (by decide))
    show z_ev (d + 1) 13 20 [some (.ref 5), some (.int b1), some (.int b2), o3] [.int x12] M8 _
    have h17 := h11.symm
    subst h17
    refine z_xP zt13 7 22 [some (.ref 5), some (.int b1), some (.int b2), some (.int x12)] [.int x12] rfl rfl ?_
    refine z_xZ zt13 8 rfl rfl (fun (h18 : x12.toInt < 0) => ?_) (fun (h18 : 0 ≤ x12.toInt) => ?_)
    · skip
      refine z_xP zt13 25 59 [some (.ref 5), some (.int b1), some (.int b2), some (.int x12)] [.int b1] rfl rfl ?_
      refine z_xZ zt13 26 rfl rfl (fun (h19 : b1.toInt ≠ 0) => ?_) (fun (h19 : b1.toInt = 0) => ?_)
      · skip
        refine z_xP zt13 29 67 [some (.ref 5), some (.int b1), some (.int b2), some (.int x12)] [.int b1] rfl rfl ?_
        exact z_xri zt13 30 rfl zzr13 (kk b1 M X15 (z_SQa hI (z_stopA h10 (by omega)) (by omega)))
      refine z_xP zt13 27 63 [some (.ref 5), some (.int b1), some (.int b2), some (.int x12)] [.ref 5] rfl rfl ?_
      refine z_xcV (vs := [.ref 5]) (r := []) (L2 := [some (.ref 5)]) zt13 28 rfl zo13 zzcV1_66 (Or.inl rfl) rfl X15 f5 rfl rfl rfl (Nat.le_of_ble_eq_true rfl) zzm10 (Nat.le_of_ble_eq_true rfl) rfl ?_
      refine zTC10 X15.1 (hT.go X15.1 X15 rfl) (fun M20 X21 h22 => ?_)
      have X23 := X15.go X21 (z_sb (by decide))
      show z_ev (d + 1) 13 66 [some (.ref 5), some (.int b1), some (.int b2), some (.int x12)] [] M20 _
      refine z_xP zt13 29 67 [some (.ref 5), some (.int b1), some (.int b2), some (.int x12)] [.int b1] rfl rfl ?_
      exact z_xri zt13 30 rfl zzr13 (kk b1 M20 X23 (z_SQf hI (z_stopA h10 (by omega)) (by omega) h22))
    refine z_xP zt13 9 27 [some (.ref 5), some (.int b1), some (.int b2), some (.int x12)] [.int x12, .int b1] rfl rfl ?_
    have h25 := z_b32 b1
    refine z_xI zt13 10 rfl rfl (fun (x26 : Int32) (h27 : x26 = b1 >>> (x12 &&& 31)) => ?_) (rfl)
    refine z_xP zt13 11 29 [some (.ref 5), some (.int b1), some (.int b2), some (.int x12)] [.int 1, .int x26] rfl rfl ?_
    refine z_xI zt13 12 rfl rfl (fun (x28 : Int32) (h29 : x28 = x26 &&& 1 ∧ 0 ≤ x28.toInt ∧ x28.toInt ≤ 1) => ?_) (⟨rfl, z_pAnd rfl (by omega)⟩)
    refine z_xZ zt13 13 rfl rfl (fun (h30 : x28.toInt = 0) => ?_) (fun (h30 : x28.toInt ≠ 0) => ?_)
    · skip
      refine z_xP zt13 15 39 [some (.ref 5), some (.int b1), some (.int b2), some (.int x12)] [.int x12, .int 1, .int b1] rfl rfl ?_
      refine z_xI zt13 16 rfl rfl (fun (x31 : Int32) (h32 : x31 = (1 : Int32) <<< (x12 &&& 31)) => ?_) (rfl)
      refine z_xI zt13 17 rfl rfl (fun (x33 : Int32) (h34 : x33 = b1 ||| x31) => ?_) (rfl)
      refine z_xP zt13 18 44 [some (.ref 5), some (.int x33), some (.int b2), some (.int x12)] [.ref 5, .ref 5] rfl rfl ?_
      refine z_xgI zt13 19 rfl zo13 zzf1_29 X15 f5 (by decide) (by decide) rfl (fun (x36 : Int32) h35 (h37 : 0 ≤ x36.toInt) (h38 : x36.toInt ≤ 160) => ?_)
      refine z_xP zt13 20 48 [some (.ref 5), some (.int x33), some (.int b2), some (.int x12)] [.int 1, .int x36, .ref 5] rfl rfl ?_
      refine z_xI zt13 21 rfl rfl (fun (x39 : Int32) (h40 : x39.toInt = x36.toInt + 1 ∧ x39.toInt ≤ 160) => ?_) (⟨z_pAdd rfl rfl (by omega) (by omega), z_QHl (hT.go X.1 X rfl) h10 (by omega) h35 (z_pAdd rfl rfl (by omega) (by omega)) (by omega)⟩)
      refine z_xpf zt13 22 rfl zo13 zzf1_29 X15 f5 (by decide) (by decide) ⟨by omega, by omega⟩ rfl (by decide) zw1_2 (fun M41 X42 e43 h44 => ?_)
      refine z_xN zt13 23 rfl rfl (fun (x45 : Int32) (h46 : x45.toInt = b2.toInt + 1) => ?_) (z_pAdd rfl rfl (by omega) (by omega))
      show z_ev (d + 1) 13 55 [some (.ref 5), some (.int x33), some (.int x45), some (.int x12)] [] M41 _
      refine z_xP zt13 24 10 [some (.ref 5), some (.int x33), some (.int x45), some (.int x12)] [] rfl rfl ?_
      exact ih M41 x33 x45 (some (.int x12)) X42 ⟨by omega, by omega⟩ (z_SIs hI (hT.go X.1 X rfl) h10 ⟨by omega, by omega⟩ h27 h29.1 (by omega) h32 h34 h35 h44 ⟨by omega, by omega⟩ ((e43.1 5 1 0 0 0 0 3 f5 (by decide)).trans (X9.2.1 5 1 0 0 0 0 3 f5 (by decide))) (by omega)) (by omega)
    refine z_xP zt13 14 58 [some (.ref 5), some (.int b1), some (.int b2), some (.int x12)] [] rfl rfl ?_
    refine z_xP zt13 25 59 [some (.ref 5), some (.int b1), some (.int b2), some (.int x12)] [.int b1] rfl rfl ?_
    refine z_xZ zt13 26 rfl rfl (fun (h47 : b1.toInt ≠ 0) => ?_) (fun (h47 : b1.toInt = 0) => ?_)
    · skip
      refine z_xP zt13 29 67 [some (.ref 5), some (.int b1), some (.int b2), some (.int x12)] [.int b1] rfl rfl ?_
      exact z_xri zt13 30 rfl zzr13 (kk b1 M X15 (z_SQa hI (z_stopB hI h10 ⟨by omega, by omega⟩ h27 h29.1 (by omega)) (by omega)))
    refine z_xP zt13 27 63 [some (.ref 5), some (.int b1), some (.int b2), some (.int x12)] [.ref 5] rfl rfl ?_
    refine z_xcV (vs := [.ref 5]) (r := []) (L2 := [some (.ref 5)]) zt13 28 rfl zo13 zzcV1_66 (Or.inl rfl) rfl X15 f5 rfl rfl rfl (Nat.le_of_ble_eq_true rfl) zzm10 (Nat.le_of_ble_eq_true rfl) rfl ?_
    refine zTC10 X15.1 (hT.go X15.1 X15 rfl) (fun M48 X49 h50 => ?_)
    have X51 := X15.go X49 (z_sb (by decide))
    show z_ev (d + 1) 13 66 [some (.ref 5), some (.int b1), some (.int b2), some (.int x12)] [] M48 _
    refine z_xP zt13 29 67 [some (.ref 5), some (.int b1), some (.int b2), some (.int x12)] [.int b1] rfl rfl ?_
    exact z_xri zt13 30 rfl zzr13 (kk b1 M48 X51 (z_SQf hI (z_stopB hI h10 ⟨by omega, by omega⟩ h27 h29.1 (by omega)) (by omega) h50))
theorem zTC13 {T : List zK} {d : Nat} {K : Option Value → zH → Prop} {bb : Nat → Int} {nn : Nat} {nu : Int → Int} {BB : Nat} {M0 : zH} (hW : z_W M0 T) (hT : z_TP M0 bb nn nu BB) (kk : ∀ (x : Int32) (M1 : zH), z_X T zw13 M0 M1 → z_SQ bb nn nu M0 M1 x.toInt → K (some (.int x)) M1) : z_ev (d + 1) 13 0 [some (.ref 5), none, none, none] [] M0 K := by
  have X : z_X T zw13 M0 M0 := .refl hW
  refine z_xP zt13 0 3 [some (.ref 5), none, none, none] [.int 32, .ref 5] rfl rfl ?_
  have f5 : T[5]? = some (.inl (1, 0, 0, 0, 0)) := X.1.k rfl (by decide)
  refine z_xcV (vs := [.ref 5, .int 32]) (r := []) (L2 := [some (.ref 5), some (.int 32)]) zt13 1 rfl zo13 zzcV1_56 (Or.inl rfl) rfl X f5 rfl rfl rfl (Nat.le_of_ble_eq_true rfl) zzm8 (Nat.le_of_ble_eq_true rfl) rfl ?_
  have q32 : ((32 : Int32)).toInt = 32 := rfl
  have q32 : ((32 : Int32)).toInt = 32 := rfl
  refine zTC8 X.1 (hT.go X.1 X rfl) (fun M1 X2 h3 => ?_)
  have X4 := X.go X2 (z_sb (by decide))
  show z_ev (d + 1) 13 6 [some (.ref 5), none, none, none] [] M1 _
  refine z_xP zt13 2 10 [some (.ref 5), some (.int 0), some (.int 0), none] [] rfl rfl ?_
  have q0 : ((0 : Int32)).toInt = 0 := rfl
  exact (zTB13 hT kk 22) M1 (0) (0) none X4 (by decide) (z_SI0 h3) (by omega)
theorem zTB9 {T : List zK} {d : Nat} {K : Option Value → zH → Prop} {zp0 : Int32} {bb : Nat → Int} {nn : Nat} {BB : Nat} {M0 : zH} (hz0 : z_F M0 5 4 = some (.int zp0)) (bz0 : 0 ≤ zp0.toInt ∧ zp0.toInt ≤ 0) (hT : z_TP M0 bb nn z_n0 BB) (kk : ∀ (M1 : zH), z_X T zw9 M0 M1 → z_NQR bb nn BB M0 M1 → ∀ (w0 : Int32), z_F M1 5 4 = some (.int w0) → 0 ≤ w0.toInt ∧ w0.toInt ≤ 10 → K none M1) : ∀ n : Nat, (∀ (M : zH) (b1 : Int32) (o2 : Option Value) (z0 : Int32), z_X T zw9 M0 M → 0 ≤ b1.toInt ∧ b1.toInt ≤ 10 → z_F M 5 4 = some (.int z0) → 0 ≤ z0.toInt ∧ z0.toInt ≤ 10 → z0.toInt = b1.toInt → z_NI bb nn BB M0 M b1.toInt → ((0) * 2 + 0) * 11 + (10 - b1.toInt) < (n : Int) → z_ev (d + 1) 9 2 [some (.ref 5), some (.int b1), o2] [] M K) := by
  intro n
  induction n with
  | zero => exact by intro M b1 o2 z0 X hh0 hp0 hh2 hh3 hI hE; have hI2 := hI; obtain ⟨nu, hTm, hNa, hNb⟩ := hI2; clear hNa hNb; exfalso; omega
  | succ n ih =>
    intro M b1 o2 z0 X hh0 hp0 hh2 hh3 hI hE
    have hI2 := hI
    obtain ⟨nu, hTm, hNa, hNb⟩ := hI2
    clear hNa hNb
    refine z_xP zt9 1 5 [some (.ref 5), some (.int b1), o2] [.int 10, .int b1] rfl rfl ?_
    refine z_xJ zt9 2 rfl rfl (fun (h1 : 10 ≤ b1.toInt) => ?_) (fun (h1 : b1.toInt < 10) => ?_)
    · skip
      refine z_xP zt9 45 98 [some (.ref 5), some (.int b1), o2] [.ref 5] rfl rfl ?_
      have f5 : T[5]? = some (.inl (1, 0, 0, 0, 0)) := X.1.k rfl (by decide)
      refine z_xgv zt9 46 rfl zo9 zzf1_47 X f5 (by decide) hp0 ?_
      refine z_xZ zt9 47 rfl rfl (fun (h2 : z0.toInt ≠ 0) => ?_) (fun (h2 : z0.toInt = 0) => ?_)
      · skip
        exact z_xrv zt9 50 rfl zzr9 (kk M X (z_NIa hI (z_nsE (by omega)) hp0 (by omega)) z0 hp0 ⟨by omega, by omega⟩)
      refine z_xP zt9 48 105 [some (.ref 5), some (.int b1), o2] [.ref 5] rfl rfl ?_
      refine z_xcV (vs := [.ref 5]) (r := []) (L2 := [some (.ref 5)]) zt9 49 rfl zo9 zzcV1_66 (Or.inl rfl) rfl X f5 rfl rfl rfl (Nat.le_of_ble_eq_true rfl) zzm10 (Nat.le_of_ble_eq_true rfl) rfl ?_
      refine zTC10 X.1 hTm (fun M3 X4 h5 => ?_)
      have X6 := X.go X4 (z_sb (by decide))
      show z_ev (d + 1) 9 108 [some (.ref 5), some (.int b1), o2] [] M3 _
      have h8 := (X4.2.f f5 (by decide) hp0)
      exact z_xrv zt9 50 rfl zzr9 (kk M3 X6 (z_NIf hI (z_nsE (by omega)) hp0 (by omega) h5 X6.1 X4 rfl) z0 h8 ⟨by omega, by omega⟩)
    refine z_xP zt9 3 9 [some (.ref 5), some (.int b1), o2] [.ref 5] rfl rfl ?_
    have f5 : T[5]? = some (.inl (1, 0, 0, 0, 0)) := X.1.k rfl (by decide)
    refine z_xgI zt9 4 rfl zo9 zzf1_32 X f5 (by decide) (by decide) rfl (fun (x10 : Int32) h9 (h11 : (-2147483648) ≤ x10.toInt) (h12 : x10.toInt ≤ 2147483647) => ?_)
    refine z_xZ zt9 5 rfl rfl (fun (h13 : 0 ≤ x10.toInt) => ?_) (fun (h13 : x10.toInt < 0) => ?_)
    · skip
      refine z_xP zt9 45 98 [some (.ref 5), some (.int b1), o2] [.ref 5] rfl rfl ?_
      refine z_xgv zt9 46 rfl zo9 zzf1_47 X f5 (by decide) hp0 ?_
      refine z_xZ zt9 47 rfl rfl (fun (h14 : z0.toInt ≠ 0) => ?_) (fun (h14 : z0.toInt = 0) => ?_)
      · skip
        exact z_xrv zt9 50 rfl zzr9 (kk M X (z_NIa hI (z_nsA h9 (by omega)) hp0 (by omega)) z0 hp0 ⟨by omega, by omega⟩)
      refine z_xP zt9 48 105 [some (.ref 5), some (.int b1), o2] [.ref 5] rfl rfl ?_
      refine z_xcV (vs := [.ref 5]) (r := []) (L2 := [some (.ref 5)]) zt9 49 rfl zo9 zzcV1_66 (Or.inl rfl) rfl X f5 rfl rfl rfl (Nat.le_of_ble_eq_true rfl) zzm10 (Nat.le_of_ble_eq_true rfl) rfl ?_
      refine zTC10 X.1 hTm (fun M15 X16 h17 => ?_)
      have X18 := X.go X16 (z_sb (by decide))
      show z_ev (d + 1) 9 108 [some (.ref 5), some (.int b1), o2] [] M15 _
      have h20 := (X16.2.f f5 (by decide) hp0)
      exact z_xrv zt9 50 rfl zzr9 (kk M15 X18 (z_NIf hI (z_nsA h9 (by omega)) hp0 (by omega) h17 X18.1 X16 rfl) z0 h20 ⟨by omega, by omega⟩)
    refine z_xP zt9 6 16 [some (.ref 5), some (.int b1), o2] [.ref 5] rfl rfl ?_
    refine z_xgI zt9 7 rfl zo9 zzf1_29 X f5 (by decide) (by decide) rfl (fun (x22 : Int32) h21 (h23 : 0 ≤ x22.toInt) (h24 : x22.toInt ≤ 160) => ?_)
    refine z_xP zt9 8 20 [some (.ref 5), some (.int b1), o2] [.ref 5, .int x22] rfl rfl ?_
    refine z_xgI zt9 9 rfl zo9 zzf1_25 X f5 (by decide) (by decide) rfl (fun (x26 : Int32) h25 (h27 : 0 ≤ x26.toInt) (h28 : x26.toInt ≤ 160) => ?_)
    refine z_xJ zt9 10 rfl rfl (fun (h29 : x26.toInt ≤ x22.toInt) => ?_) (fun (h29 : x22.toInt < x26.toInt) => ?_)
    · skip
      refine z_xP zt9 45 98 [some (.ref 5), some (.int b1), o2] [.ref 5] rfl rfl ?_
      refine z_xgv zt9 46 rfl zo9 zzf1_47 X f5 (by decide) hp0 ?_
      refine z_xZ zt9 47 rfl rfl (fun (h30 : z0.toInt ≠ 0) => ?_) (fun (h30 : z0.toInt = 0) => ?_)
      · skip
        exact z_xrv zt9 50 rfl zzr9 (kk M X (z_NIa hI (z_nsB h21 h25 (by omega)) hp0 (by omega)) z0 hp0 ⟨by omega, by omega⟩)
      refine z_xP zt9 48 105 [some (.ref 5), some (.int b1), o2] [.ref 5] rfl rfl ?_
      refine z_xcV (vs := [.ref 5]) (r := []) (L2 := [some (.ref 5)]) zt9 49 rfl zo9 zzcV1_66 (Or.inl rfl) rfl X f5 rfl rfl rfl (Nat.le_of_ble_eq_true rfl) zzm10 (Nat.le_of_ble_eq_true rfl) rfl ?_
      refine zTC10 X.1 hTm (fun M31 X32 h33 => ?_)
      have X34 := X.go X32 (z_sb (by decide))
      show z_ev (d + 1) 9 108 [some (.ref 5), some (.int b1), o2] [] M31 _
      have h36 := (X32.2.f f5 (by decide) hp0)
      exact z_xrv zt9 50 rfl zzr9 (kk M31 X34 (z_NIf hI (z_nsB h21 h25 (by omega)) hp0 (by omega) h33 X34.1 X32 rfl) z0 h36 ⟨by omega, by omega⟩)
    refine z_xP zt9 11 27 [some (.ref 5), some (.int b1), o2] [.ref 5] rfl rfl ?_
    refine z_xgX (b := 6) zt9 12 rfl zo9 zzf1_9 X f5 (by decide) (by decide) rfl ?_
    refine z_xP zt9 13 31 [some (.ref 5), some (.int b1), o2] [.ref 5, .ref 6] rfl rfl ?_
    refine z_xgv zt9 14 rfl zo9 zzf1_29 X f5 (by decide) h21 ?_
    have f6 : T[6]? = some (.inr (6, 0, 160, (-2147483648), 2147483647)) := X.1.k rfl (by decide)
    refine z_xil zt9 15 rfl X f6 (by decide) (by omega) (by omega) (fun (x37 : Int32) h38 (h39 : (-2147483648) ≤ x37.toInt) (h40 : x37.toInt ≤ 2147483647) => ?_)
    have h41 := hTm.rng h25 h38 ⟨by omega, by omega⟩
    refine z_xP zt9 16 37 [some (.ref 5), some (.int b1), o2] [.int 97, .int x37] rfl rfl ?_
    refine z_xI zt9 17 rfl rfl (fun (x42 : Int32) (h43 : x42.toInt = x37.toInt - 97) => ?_) (z_pSub rfl rfl (by omega) (by omega))
    refine z_xP zt9 18 40 [some (.ref 5), some (.int b1), some (.int x42)] [.int x42] rfl rfl ?_
    refine z_xZ zt9 19 rfl rfl (fun (h44 : x42.toInt < 0) => ?_) (fun (h44 : 0 ≤ x42.toInt) => ?_)
    · skip
      refine z_xP zt9 45 98 [some (.ref 5), some (.int b1), some (.int x42)] [.ref 5] rfl rfl ?_
      refine z_xgv zt9 46 rfl zo9 zzf1_47 X f5 (by decide) hp0 ?_
      refine z_xZ zt9 47 rfl rfl (fun (h45 : z0.toInt ≠ 0) => ?_) (fun (h45 : z0.toInt = 0) => ?_)
      · skip
        exact z_xrv zt9 50 rfl zzr9 (kk M X (z_NIa hI (z_nsC h21 h38 (by omega)) hp0 (by omega)) z0 hp0 ⟨by omega, by omega⟩)
      refine z_xP zt9 48 105 [some (.ref 5), some (.int b1), some (.int x42)] [.ref 5] rfl rfl ?_
      refine z_xcV (vs := [.ref 5]) (r := []) (L2 := [some (.ref 5)]) zt9 49 rfl zo9 zzcV1_66 (Or.inl rfl) rfl X f5 rfl rfl rfl (Nat.le_of_ble_eq_true rfl) zzm10 (Nat.le_of_ble_eq_true rfl) rfl ?_
      refine zTC10 X.1 hTm (fun M46 X47 h48 => ?_)
      have X49 := X.go X47 (z_sb (by decide))
      show z_ev (d + 1) 9 108 [some (.ref 5), some (.int b1), some (.int x42)] [] M46 _
      have h51 := (X47.2.f f5 (by decide) hp0)
      exact z_xrv zt9 50 rfl zzr9 (kk M46 X49 (z_NIf hI (z_nsC h21 h38 (by omega)) hp0 (by omega) h48 X49.1 X47 rfl) z0 h51 ⟨by omega, by omega⟩)
    refine z_xP zt9 20 46 [some (.ref 5), some (.int b1), some (.int x42)] [.int 10, .int x42] rfl rfl ?_
    refine z_xJ zt9 21 rfl rfl (fun (h52 : 10 ≤ x42.toInt) => ?_) (fun (h52 : x42.toInt < 10) => ?_)
    · skip
      refine z_xP zt9 45 98 [some (.ref 5), some (.int b1), some (.int x42)] [.ref 5] rfl rfl ?_
      refine z_xgv zt9 46 rfl zo9 zzf1_47 X f5 (by decide) hp0 ?_
      refine z_xZ zt9 47 rfl rfl (fun (h53 : z0.toInt ≠ 0) => ?_) (fun (h53 : z0.toInt = 0) => ?_)
      · skip
        exact z_xrv zt9 50 rfl zzr9 (kk M X (z_NIa hI (z_nsC h21 h38 (by omega)) hp0 (by omega)) z0 hp0 ⟨by omega, by omega⟩)
      refine z_xP zt9 48 105 [some (.ref 5), some (.int b1), some (.int x42)] [.ref 5] rfl rfl ?_
      refine z_xcV (vs := [.ref 5]) (r := []) (L2 := [some (.ref 5)]) zt9 49 rfl zo9 zzcV1_66 (Or.inl rfl) rfl X f5 rfl rfl rfl (Nat.le_of_ble_eq_true rfl) zzm10 (Nat.le_of_ble_eq_true rfl) rfl ?_
      refine zTC10 X.1 hTm (fun M54 X55 h56 => ?_)
      have X57 := X.go X55 (z_sb (by decide))
      show z_ev (d + 1) 9 108 [some (.ref 5), some (.int b1), some (.int x42)] [] M54 _
      have h59 := (X55.2.f f5 (by decide) hp0)
      exact z_xrv zt9 50 rfl zzr9 (kk M54 X57 (z_NIf hI (z_nsC h21 h38 (by omega)) hp0 (by omega) h56 X57.1 X55 rfl) z0 h59 ⟨by omega, by omega⟩)
    refine z_xP zt9 22 50 [some (.ref 5), some (.int b1), some (.int x42)] [.ref 5] rfl rfl ?_
    refine z_xgX (b := 7) zt9 23 rfl zo9 zzf1_15 X f5 (by decide) (by decide) rfl ?_
    refine z_xP zt9 24 54 [some (.ref 5), some (.int b1), some (.int x42)] [.int x42, .ref 7] rfl rfl ?_
    have f7 : T[7]? = some (.inr (7, 0, 10, (-1), 9)) := X.1.k rfl (by decide)
    refine z_xil zt9 25 rfl X f7 (by decide) (by omega) (by omega) (fun (x60 : Int32) h61 (h62 : (-1) ≤ x60.toInt) (h63 : x60.toInt ≤ 9) => ?_)
    refine z_xZ zt9 26 rfl rfl (fun (h64 : x60.toInt < 0) => ?_) (fun (h64 : 0 ≤ x60.toInt) => ?_)
    · skip
      refine z_xP zt9 28 62 [some (.ref 5), some (.int b1), some (.int x42)] [.ref 5] rfl rfl ?_
      refine z_xgX (b := 7) zt9 29 rfl zo9 zzf1_15 X f5 (by decide) (by decide) rfl ?_
      refine z_xP zt9 30 67 [some (.ref 5), some (.int b1), some (.int x42)] [.ref 5, .int x42, .ref 7] rfl rfl ?_
      refine z_xgv zt9 31 rfl zo9 zzf1_47 X f5 (by decide) hp0 ?_
      refine z_xis zt9 32 rfl X f7 (by decide) (by decide) (by omega) (by omega) (by omega) (by omega) (by decide) (fun M65 X66 e67 h68 => ?_)
      refine z_xP zt9 33 73 [some (.ref 5), some (.int b1), some (.int x42)] [.ref 5, .ref 5] rfl rfl ?_
      have h69 := (e67.f f5 (by decide) hp0)
      refine z_xgv zt9 34 rfl zo9 zzf1_47 X66 f5 (by decide) h69 ?_
      refine z_xP zt9 35 77 [some (.ref 5), some (.int b1), some (.int x42)] [.int 1, .int z0, .ref 5] rfl rfl ?_
      refine z_xI zt9 36 rfl rfl (fun (x70 : Int32) (h71 : x70.toInt = z0.toInt + 1) => ?_) (z_pAdd rfl rfl (by omega) (by omega))
      refine z_xpf zt9 37 rfl zo9 zzf1_47 X66 f5 (by decide) (by decide) ⟨by omega, by omega⟩ rfl (by decide) zw1_4 (fun M72 X73 e74 h75 => ?_)
      refine z_xP zt9 38 83 [some (.ref 5), some (.int b1), some (.int x42)] [.ref 5, .ref 5] rfl rfl ?_
      have h76 := (e74.f f5 (by decide) (e67.f f5 (by decide) h21))
      refine z_xgv zt9 39 rfl zo9 zzf1_29 X73 f5 (by decide) h76 ?_
      refine z_xP zt9 40 87 [some (.ref 5), some (.int b1), some (.int x42)] [.int 1, .int x22, .ref 5] rfl rfl ?_
      refine z_xI zt9 41 rfl rfl (fun (x77 : Int32) (h78 : x77.toInt = x22.toInt + 1) => ?_) (z_pAdd rfl rfl (by omega) (by omega))
      refine z_xpf zt9 42 rfl zo9 zzf1_29 X73 f5 (by decide) (by decide) ⟨by omega, by omega⟩ rfl (by decide) zw1_2 (fun M79 X80 e81 h82 => ?_)
      refine z_xN zt9 43 rfl rfl (fun (x83 : Int32) (h84 : x83.toInt = b1.toInt + 1) => ?_) (z_pAdd rfl rfl (by omega) (by omega))
      show z_ev (d + 1) 9 94 [some (.ref 5), some (.int x83), some (.int x42)] [] M79 _
      refine z_xP zt9 44 2 [some (.ref 5), some (.int x83), some (.int x42)] [] rfl rfl ?_
      have h85 := (e81.f f5 (by decide) h75)
      have f2 : T[2]? = some (.inr (2, 1, 6, 0, 0)) := X80.1.k rfl (by decide)
      exact ih M79 x83 (some (.int x42)) x70 X80 ⟨by omega, by omega⟩ h85 ⟨by omega, by omega⟩ (by omega) (z_NIs hI h9 (by omega) h21 h25 ⟨by omega, by omega⟩ h38 ⟨by omega, by omega, by omega⟩ h61 (by omega) hp0 (((e81.a f7 (by decide)).trans (e74.a f7 (by decide))).trans h68) ((e81.a f6 (by decide)).trans ((e74.a f6 (by decide)).trans (e67.a f6 (by decide)))) ((e81.1 5 1 0 0 0 0 1 f5 (by decide)).trans ((e74.1 5 1 0 0 0 0 1 f5 (by decide)).trans (e67.1 5 1 0 0 0 0 1 f5 (by decide)))) ((e81.1 5 1 0 0 0 0 10 f5 (by decide)).trans ((e74.1 5 1 0 0 0 0 10 f5 (by decide)).trans (e67.1 5 1 0 0 0 0 10 f5 (by decide)))) ((e81.lg f2 (by decide)).trans ((e74.lg f2 (by decide)).trans (e67.lg f2 (by decide)))) ((e81.1 5 1 0 0 0 0 3 f5 (by decide)).trans ((e74.1 5 1 0 0 0 0 3 f5 (by decide)).trans (e67.1 5 1 0 0 0 0 3 f5 (by decide)))) h85 ⟨by omega, by omega⟩ h82 (by omega) (by omega)) (by omega)
    refine z_xP zt9 27 97 [some (.ref 5), some (.int b1), some (.int x42)] [] rfl rfl ?_
    refine z_xP zt9 45 98 [some (.ref 5), some (.int b1), some (.int x42)] [.ref 5] rfl rfl ?_
    refine z_xgv zt9 46 rfl zo9 zzf1_47 X f5 (by decide) hp0 ?_
    refine z_xZ zt9 47 rfl rfl (fun (h86 : z0.toInt ≠ 0) => ?_) (fun (h86 : z0.toInt = 0) => ?_)
    · skip
      exact z_xrv zt9 50 rfl zzr9 (kk M X (z_NIa hI (z_nsD h21 h38 ⟨by omega, by omega, by omega⟩ h61 (by omega)) hp0 (by omega)) z0 hp0 ⟨by omega, by omega⟩)
    refine z_xP zt9 48 105 [some (.ref 5), some (.int b1), some (.int x42)] [.ref 5] rfl rfl ?_
    refine z_xcV (vs := [.ref 5]) (r := []) (L2 := [some (.ref 5)]) zt9 49 rfl zo9 zzcV1_66 (Or.inl rfl) rfl X f5 rfl rfl rfl (Nat.le_of_ble_eq_true rfl) zzm10 (Nat.le_of_ble_eq_true rfl) rfl ?_
    refine zTC10 X.1 hTm (fun M87 X88 h89 => ?_)
    have X90 := X.go X88 (z_sb (by decide))
    show z_ev (d + 1) 9 108 [some (.ref 5), some (.int b1), some (.int x42)] [] M87 _
    have h92 := (X88.2.f f5 (by decide) hp0)
    exact z_xrv zt9 50 rfl zzr9 (kk M87 X90 (z_NIf hI (z_nsD h21 h38 ⟨by omega, by omega, by omega⟩ h61 (by omega)) hp0 (by omega) h89 X90.1 X88 rfl) z0 h92 ⟨by omega, by omega⟩)
theorem zTC9 {T : List zK} {d : Nat} {K : Option Value → zH → Prop} {zp0 : Int32} {bb : Nat → Int} {nn : Nat} {BB : Nat} {M0 : zH} (hW : z_W M0 T) (hz0 : z_F M0 5 4 = some (.int zp0)) (bz0 : 0 ≤ zp0.toInt ∧ zp0.toInt ≤ 0) (hT : z_TP M0 bb nn z_n0 BB) (kk : ∀ (M1 : zH), z_X T zw9 M0 M1 → z_NQR bb nn BB M0 M1 → ∀ (w0 : Int32), z_F M1 5 4 = some (.int w0) → 0 ≤ w0.toInt ∧ w0.toInt ≤ 10 → K none M1) : z_ev (d + 1) 9 0 [some (.ref 5), none, none] [] M0 K := by
  have X : z_X T zw9 M0 M0 := .refl hW
  refine z_xP zt9 0 2 [some (.ref 5), some (.int 0), none] [] rfl rfl ?_
  have f5 : T[5]? = some (.inl (1, 0, 0, 0, 0)) := X.1.k rfl (by decide)
  have q0 : ((0 : Int32)).toInt = 0 := rfl
  exact (zTB9 hz0 bz0 hT kk 22) M0 (0) none zp0 X (by decide) hz0 ⟨by omega, by omega⟩ (by omega) (z_NI0 hT hz0 (by omega)) (by omega)
theorem zTC11 {T : List zK} {d : Nat} {K : Option Value → zH → Prop} {bb : Nat → Int} {nn : Nat} {nu : Int → Int} {BB : Nat} {pr en tn : Nat} {ts : Nat → Nat} {M0 : zH} (hW : z_W M0 T) (hT : z_TP M0 bb nn nu BB) (hS : z_sg M0 pr en tn ts) (kk : ∀ (M1 : zH), z_X T zw11 M0 M1 → z_AP bb nn nu M0 M1 pr en tn ts → K none M1) : z_ev (d + 32) 11 0 [some (.ref 5)] [] M0 K := by
  have X : z_X T zw11 M0 M0 := .refl hW
  refine z_xP zt11 0 3 [some (.ref 5)] [.int 59, .ref 5] rfl rfl ?_
  have f5 : T[5]? = some (.inl (1, 0, 0, 0, 0)) := X.1.k rfl (by decide)
  refine z_xcV (vs := [.ref 5, .int 59]) (r := []) (L2 := [some (.ref 5), some (.int 59)]) zt11 1 rfl zo11 zzcV1_69 (Or.inl rfl) rfl X f5 rfl rfl rfl (Nat.le_of_ble_eq_true rfl) zzm12 (Nat.le_of_ble_eq_true rfl) rfl ?_
  have q59 : ((59 : Int32)).toInt = 59 := rfl
  have q59 : ((59 : Int32)).toInt = 59 := rfl
  refine zTC12 X.1 (hT.go X.1 X rfl) (fun x4 M1 X2 h5 h6 h3 => ?_)
  have X7 := X.go X2 (z_sb (by decide))
  show z_ev (d + 32) 11 6 [some (.ref 5)] [.int x4] M1 _
  have f8 : T[8]? = some (.inr (8, 0, 8, 0, 160)) := X7.1.k rfl (by decide)
  have s9 := hS.kp (M1 := M1) ⟨(X2.2.1 5 1 0 0 0 0 5 f5 (by decide)), (X2.2.1 5 1 0 0 0 0 6 f5 (by decide)), (X2.2.1 5 1 0 0 0 0 7 f5 (by decide)), (X2.2.a f8 (by decide))⟩
  refine z_xZ zt11 2 rfl rfl (fun (h10 : x4.toInt ≠ 0) => ?_) (fun (h10 : x4.toInt = 0) => ?_)
  · skip
    refine z_xP zt11 6 17 [some (.ref 5)] [.ref 5] rfl rfl ?_
    refine z_xgI zt11 7 rfl zo11 zzf1_44 X7 f5 (by decide) (by decide) rfl (fun (x12 : Int32) h11 (h13 : (-2147483648) ≤ x12.toInt) (h14 : x12.toInt ≤ 2147483647) => ?_)
    refine z_xZ zt11 8 rfl rfl (fun (h15 : x12.toInt ≠ 0) => ?_) (fun (h15 : x12.toInt = 0) => ?_)
    · skip
      refine z_xP zt11 16 44 [some (.ref 5)] [.ref 5] rfl rfl ?_
      refine z_xgI zt11 17 rfl zo11 zzf1_41 X7 f5 (by decide) (by decide) rfl (fun (x17 : Int32) h16 (h18 : (-2147483648) ≤ x17.toInt) (h19 : x17.toInt ≤ 2147483647) => ?_)
      refine z_xZ zt11 18 rfl rfl (fun (h20 : x17.toInt ≠ 0) => ?_) (fun (h20 : x17.toInt = 0) => ?_)
      · skip
        refine z_xP zt11 26 71 [some (.ref 5)] [.ref 5] rfl rfl ?_
        refine z_xgI zt11 27 rfl zo11 zzf1_38 X7 f5 (by decide) (by decide) rfl (fun (x22 : Int32) h21 (h23 : 0 ≤ x22.toInt) (h24 : x22.toInt ≤ 8) => ?_)
        refine z_xP zt11 28 76 [some (.ref 5)] [.int 8, .int x22] rfl rfl ?_
        refine z_xJ zt11 29 rfl rfl (fun (h25 : 8 ≤ x22.toInt) => ?_) (fun (h25 : x22.toInt < 8) => ?_)
        · skip
          refine z_xP zt11 50 127 [some (.ref 5)] [.ref 5] rfl rfl ?_
          refine z_xcV (vs := [.ref 5]) (r := []) (L2 := [some (.ref 5)]) zt11 51 rfl zo11 zzcV1_66 (Or.inl rfl) rfl X7 f5 rfl rfl rfl (Nat.le_of_ble_eq_true rfl) zzm10 (Nat.le_of_ble_eq_true rfl) rfl ?_
          refine zTC10 X7.1 (hT.go X7.1 X7 rfl) (fun M26 X27 h28 => ?_)
          have X29 := X7.go X27 (z_sb (by decide))
          show z_ev (d + 32) 11 130 [some (.ref 5)] [] M26 _
          have h31 := z_sgP s9 h11
          have h32 := z_sgE s9 h16
          have h33 := z_sgT s9 h21
          exact z_xrv zt11 52 rfl zzr11 (kk M26 X29 (z_APn h3 (by omega) (z_noA (by omega)) rfl (z_noA (by omega)) rfl (z_noA (by omega)) h28))
        refine z_xP zt11 30 82 [some (.ref 5)] [.int 116, .ref 5] rfl rfl ?_
        refine z_xcV (vs := [.ref 5, .int 116]) (r := []) (L2 := [some (.ref 5), some (.int 116)]) zt11 31 rfl zo11 zzcV1_69 (Or.inl rfl) rfl X7 f5 rfl rfl rfl (Nat.le_of_ble_eq_true rfl) zzm12 (Nat.le_of_ble_eq_true rfl) rfl ?_
        have q116 : ((116 : Int32)).toInt = 116 := rfl
        have q116 : ((116 : Int32)).toInt = 116 := rfl
        refine zTC12 X7.1 (hT.go X7.1 X7 rfl) (fun x37 M34 X35 h38 h39 h36 => ?_)
        have X40 := X7.go X35 (z_sb (by decide))
        show z_ev (d + 32) 11 85 [some (.ref 5)] [.int x37] M34 _
        have s42 := s9.kp (M1 := M34) ⟨(X35.2.1 5 1 0 0 0 0 5 f5 (by decide)), (X35.2.1 5 1 0 0 0 0 6 f5 (by decide)), (X35.2.1 5 1 0 0 0 0 7 f5 (by decide)), (X35.2.a f8 (by decide))⟩
        refine z_xZ zt11 32 rfl rfl (fun (h43 : x37.toInt = 0) => ?_) (fun (h43 : x37.toInt ≠ 0) => ?_)
        · skip
          refine z_xP zt11 50 127 [some (.ref 5)] [.ref 5] rfl rfl ?_
          refine z_xcV (vs := [.ref 5]) (r := []) (L2 := [some (.ref 5)]) zt11 51 rfl zo11 zzcV1_66 (Or.inl rfl) rfl X40 f5 rfl rfl rfl (Nat.le_of_ble_eq_true rfl) zzm10 (Nat.le_of_ble_eq_true rfl) rfl ?_
          refine zTC10 X40.1 (hT.go X40.1 X40 rfl) (fun M44 X45 h46 => ?_)
          have X47 := X40.go X45 (z_sb (by decide))
          show z_ev (d + 32) 11 130 [some (.ref 5)] [] M44 _
          have h49 := z_sgP s9 h11
          have h50 := z_sgE s9 h16
          have h51 := z_sgT s9 h21
          exact z_xrv zt11 52 rfl zzr11 (kk M44 X47 (z_APn h3 (by omega) (z_noA (by omega)) (z_PS0 h36 (by omega)).1 (z_noA (by omega)) rfl (z_noB h36 (by omega)) h46))
        refine z_xP zt11 33 91 [some (.ref 5)] [.int 32, .ref 5] rfl rfl ?_
        refine z_xcV (vs := [.ref 5, .int 32]) (r := []) (L2 := [some (.ref 5), some (.int 32)]) zt11 34 rfl zo11 zzcV1_56 (Or.inl rfl) rfl X40 f5 rfl rfl rfl (Nat.le_of_ble_eq_true rfl) zzm8 (Nat.le_of_ble_eq_true rfl) rfl ?_
        have q32 : ((32 : Int32)).toInt = 32 := rfl
        have q32 : ((32 : Int32)).toInt = 32 := rfl
        refine zTC8 X40.1 (hT.go X40.1 X40 rfl) (fun M52 X53 h54 => ?_)
        have X55 := X40.go X53 (z_sb (by decide))
        show z_ev (d + 32) 11 94 [some (.ref 5)] [] M52 _
        have h57 := (X53.2.f f5 (by decide) (X35.2.f f5 (by decide) h21))
        refine z_xP zt11 35 95 [some (.ref 5)] [.ref 5] rfl rfl ?_
        refine z_xgX (b := 8) zt11 36 rfl zo11 zzf1_18 X55 f5 (by decide) (by decide) rfl ?_
        refine z_xP zt11 37 99 [some (.ref 5)] [.ref 5, .ref 8] rfl rfl ?_
        refine z_xgv zt11 38 rfl zo11 zzf1_38 X55 f5 (by decide) h57 ?_
        refine z_xP zt11 39 103 [some (.ref 5)] [.ref 5, .int x22, .ref 8] rfl rfl ?_
        refine z_xgI zt11 40 rfl zo11 zzf1_29 X55 f5 (by decide) (by decide) rfl (fun (x59 : Int32) h58 (h60 : 0 ≤ x59.toInt) (h61 : x59.toInt ≤ 160) => ?_)
        refine z_xis zt11 41 rfl X55 f8 (by decide) (by decide) (by omega) (by omega) (by omega) (by omega) (by decide) (fun M62 X63 e64 h65 => ?_)
        refine z_xP zt11 42 109 [some (.ref 5)] [.ref 5, .ref 5] rfl rfl ?_
        have h66 := (e64.f f5 (by decide) h57)
        refine z_xgv zt11 43 rfl zo11 zzf1_38 X63 f5 (by decide) h66 ?_
        refine z_xP zt11 44 113 [some (.ref 5)] [.int 1, .int x22, .ref 5] rfl rfl ?_
        refine z_xI zt11 45 rfl rfl (fun (x67 : Int32) (h68 : x67.toInt = x22.toInt + 1) => ?_) (z_pAdd rfl rfl (by omega) (by omega))
        refine z_xpf zt11 46 rfl zo11 zzf1_38 X63 f5 (by decide) (by decide) ⟨by omega, by omega⟩ rfl (by decide) zw1_7 (fun M69 X70 e71 h72 => ?_)
        refine z_xP zt11 47 119 [some (.ref 5)] [.int 0, .ref 5] rfl rfl ?_
        refine z_xcV (vs := [.ref 5, .int 0]) (r := []) (L2 := [some (.ref 5), some (.int 0), none, none, none, none, none]) zt11 48 rfl zo11 zzcV1_77 (Or.inl rfl) rfl X70 f5 rfl rfl rfl (Nat.le_of_ble_eq_true rfl) zzm15 (Nat.le_of_ble_eq_true rfl) rfl ?_
        have q0 : ((0 : Int32)).toInt = 0 := rfl
        have q0 : ((0 : Int32)).toInt = 0 := rfl
        refine zTC15 X70.1 (by decide) (hT.go X70.1 X70 rfl) (fun y77 M73 X74 h75 h76 => ?_)
        have X78 := X70.go X74 (z_sb (by decide))
        show z_ev (d + 32) 11 122 [some (.ref 5)] [.long y77] M73 _
        refine z_xP zt11 49 130 [some (.ref 5)] [] rfl rfl ?_
        have h80 := z_sgP s9 h11
        have h81 := z_sgE s9 h16
        have h82 := z_sgT s9 h21
        exact z_xrv zt11 52 rfl zzr11 (kk M73 X78 (z_APt s9 h3 (by omega) rfl (by omega) h36 (by omega) h54 ⟨((X53.2.1 5 1 0 0 0 0 5 f5 (by decide)).trans (X35.2.1 5 1 0 0 0 0 5 f5 (by decide))), ((X53.2.1 5 1 0 0 0 0 6 f5 (by decide)).trans (X35.2.1 5 1 0 0 0 0 6 f5 (by decide))), ((X53.2.1 5 1 0 0 0 0 7 f5 (by decide)).trans (X35.2.1 5 1 0 0 0 0 7 f5 (by decide))), ((X53.2.a f8 (by decide)).trans (X35.2.a f8 (by decide)))⟩ h58 (by omega) h57 ((e71.a f8 (by decide)).trans h65) h72 (by omega) ((e71.1 5 1 0 0 0 0 5 f5 (by decide)).trans (e64.1 5 1 0 0 0 0 5 f5 (by decide))) ((e71.1 5 1 0 0 0 0 6 f5 (by decide)).trans (e64.1 5 1 0 0 0 0 6 f5 (by decide))) ((e71.1 5 1 0 0 0 0 3 f5 (by decide)).trans (e64.1 5 1 0 0 0 0 3 f5 (by decide))) ((e71.1 5 1 0 0 0 0 2 f5 (by decide)).trans (e64.1 5 1 0 0 0 0 2 f5 (by decide))) h75 ⟨(X74.2.1 5 1 0 0 0 0 5 f5 (by decide)), (X74.2.1 5 1 0 0 0 0 6 f5 (by decide)), (X74.2.1 5 1 0 0 0 0 7 f5 (by decide)), (X74.2.a f8 (by decide))⟩))
      refine z_xP zt11 19 53 [some (.ref 5)] [.int 101, .ref 5] rfl rfl ?_
      refine z_xcV (vs := [.ref 5, .int 101]) (r := []) (L2 := [some (.ref 5), some (.int 101)]) zt11 20 rfl zo11 zzcV1_69 (Or.inl rfl) rfl X7 f5 rfl rfl rfl (Nat.le_of_ble_eq_true rfl) zzm12 (Nat.le_of_ble_eq_true rfl) rfl ?_
      have q101 : ((101 : Int32)).toInt = 101 := rfl
      have q101 : ((101 : Int32)).toInt = 101 := rfl
      refine zTC12 X7.1 (hT.go X7.1 X7 rfl) (fun x86 M83 X84 h87 h88 h85 => ?_)
      have X89 := X7.go X84 (z_sb (by decide))
      show z_ev (d + 32) 11 56 [some (.ref 5)] [.int x86] M83 _
      have s91 := s9.kp (M1 := M83) ⟨(X84.2.1 5 1 0 0 0 0 5 f5 (by decide)), (X84.2.1 5 1 0 0 0 0 6 f5 (by decide)), (X84.2.1 5 1 0 0 0 0 7 f5 (by decide)), (X84.2.a f8 (by decide))⟩
      refine z_xZ zt11 21 rfl rfl (fun (h92 : x86.toInt = 0) => ?_) (fun (h92 : x86.toInt ≠ 0) => ?_)
      · skip
        refine z_xP zt11 26 71 [some (.ref 5)] [.ref 5] rfl rfl ?_
        refine z_xgI zt11 27 rfl zo11 zzf1_38 X89 f5 (by decide) (by decide) rfl (fun (x94 : Int32) h93 (h95 : 0 ≤ x94.toInt) (h96 : x94.toInt ≤ 8) => ?_)
        refine z_xP zt11 28 76 [some (.ref 5)] [.int 8, .int x94] rfl rfl ?_
        refine z_xJ zt11 29 rfl rfl (fun (h97 : 8 ≤ x94.toInt) => ?_) (fun (h97 : x94.toInt < 8) => ?_)
        · skip
          refine z_xP zt11 50 127 [some (.ref 5)] [.ref 5] rfl rfl ?_
          refine z_xcV (vs := [.ref 5]) (r := []) (L2 := [some (.ref 5)]) zt11 51 rfl zo11 zzcV1_66 (Or.inl rfl) rfl X89 f5 rfl rfl rfl (Nat.le_of_ble_eq_true rfl) zzm10 (Nat.le_of_ble_eq_true rfl) rfl ?_
          refine zTC10 X89.1 (hT.go X89.1 X89 rfl) (fun M98 X99 h100 => ?_)
          have X101 := X89.go X99 (z_sb (by decide))
          show z_ev (d + 32) 11 130 [some (.ref 5)] [] M98 _
          have h103 := z_sgP s9 h11
          have h104 := z_sgE s9 h16
          have h105 := z_sgT s91 h93
          exact z_xrv zt11 52 rfl zzr11 (kk M98 X101 (z_APn h3 (by omega) (z_noA (by omega)) rfl (z_noB h85 (by omega)) (z_PS0 h85 (by omega)).1 (z_noA (by omega)) h100))
        refine z_xP zt11 30 82 [some (.ref 5)] [.int 116, .ref 5] rfl rfl ?_
        refine z_xcV (vs := [.ref 5, .int 116]) (r := []) (L2 := [some (.ref 5), some (.int 116)]) zt11 31 rfl zo11 zzcV1_69 (Or.inl rfl) rfl X89 f5 rfl rfl rfl (Nat.le_of_ble_eq_true rfl) zzm12 (Nat.le_of_ble_eq_true rfl) rfl ?_
        have q116 : ((116 : Int32)).toInt = 116 := rfl
        have q116 : ((116 : Int32)).toInt = 116 := rfl
        refine zTC12 X89.1 (hT.go X89.1 X89 rfl) (fun x109 M106 X107 h110 h111 h108 => ?_)
        have X112 := X89.go X107 (z_sb (by decide))
        show z_ev (d + 32) 11 85 [some (.ref 5)] [.int x109] M106 _
        have s114 := s91.kp (M1 := M106) ⟨(X107.2.1 5 1 0 0 0 0 5 f5 (by decide)), (X107.2.1 5 1 0 0 0 0 6 f5 (by decide)), (X107.2.1 5 1 0 0 0 0 7 f5 (by decide)), (X107.2.a f8 (by decide))⟩
        refine z_xZ zt11 32 rfl rfl (fun (h115 : x109.toInt = 0) => ?_) (fun (h115 : x109.toInt ≠ 0) => ?_)
        · skip
          refine z_xP zt11 50 127 [some (.ref 5)] [.ref 5] rfl rfl ?_
          refine z_xcV (vs := [.ref 5]) (r := []) (L2 := [some (.ref 5)]) zt11 51 rfl zo11 zzcV1_66 (Or.inl rfl) rfl X112 f5 rfl rfl rfl (Nat.le_of_ble_eq_true rfl) zzm10 (Nat.le_of_ble_eq_true rfl) rfl ?_
          refine zTC10 X112.1 (hT.go X112.1 X112 rfl) (fun M116 X117 h118 => ?_)
          have X119 := X112.go X117 (z_sb (by decide))
          show z_ev (d + 32) 11 130 [some (.ref 5)] [] M116 _
          have h121 := z_sgP s9 h11
          have h122 := z_sgE s9 h16
          have h123 := z_sgT s91 h93
          exact z_xrv zt11 52 rfl zzr11 (kk M116 X119 (z_APn h3 (by omega) (z_noA (by omega)) rfl (z_noB h85 (by omega)) (z_PS0 h85 (by omega)).1 (z_noB h108 (by omega)) h118))
        refine z_xP zt11 33 91 [some (.ref 5)] [.int 32, .ref 5] rfl rfl ?_
        refine z_xcV (vs := [.ref 5, .int 32]) (r := []) (L2 := [some (.ref 5), some (.int 32)]) zt11 34 rfl zo11 zzcV1_56 (Or.inl rfl) rfl X112 f5 rfl rfl rfl (Nat.le_of_ble_eq_true rfl) zzm8 (Nat.le_of_ble_eq_true rfl) rfl ?_
        have q32 : ((32 : Int32)).toInt = 32 := rfl
        have q32 : ((32 : Int32)).toInt = 32 := rfl
        refine zTC8 X112.1 (hT.go X112.1 X112 rfl) (fun M124 X125 h126 => ?_)
        have X127 := X112.go X125 (z_sb (by decide))
        show z_ev (d + 32) 11 94 [some (.ref 5)] [] M124 _
        have h129 := (X125.2.f f5 (by decide) (X107.2.f f5 (by decide) h93))
        refine z_xP zt11 35 95 [some (.ref 5)] [.ref 5] rfl rfl ?_
        refine z_xgX (b := 8) zt11 36 rfl zo11 zzf1_18 X127 f5 (by decide) (by decide) rfl ?_
        refine z_xP zt11 37 99 [some (.ref 5)] [.ref 5, .ref 8] rfl rfl ?_
        refine z_xgv zt11 38 rfl zo11 zzf1_38 X127 f5 (by decide) h129 ?_
        refine z_xP zt11 39 103 [some (.ref 5)] [.ref 5, .int x94, .ref 8] rfl rfl ?_
        refine z_xgI zt11 40 rfl zo11 zzf1_29 X127 f5 (by decide) (by decide) rfl (fun (x131 : Int32) h130 (h132 : 0 ≤ x131.toInt) (h133 : x131.toInt ≤ 160) => ?_)
        refine z_xis zt11 41 rfl X127 f8 (by decide) (by decide) (by omega) (by omega) (by omega) (by omega) (by decide) (fun M134 X135 e136 h137 => ?_)
        refine z_xP zt11 42 109 [some (.ref 5)] [.ref 5, .ref 5] rfl rfl ?_
        have h138 := (e136.f f5 (by decide) h129)
        refine z_xgv zt11 43 rfl zo11 zzf1_38 X135 f5 (by decide) h138 ?_
        refine z_xP zt11 44 113 [some (.ref 5)] [.int 1, .int x94, .ref 5] rfl rfl ?_
        refine z_xI zt11 45 rfl rfl (fun (x139 : Int32) (h140 : x139.toInt = x94.toInt + 1) => ?_) (z_pAdd rfl rfl (by omega) (by omega))
        refine z_xpf zt11 46 rfl zo11 zzf1_38 X135 f5 (by decide) (by decide) ⟨by omega, by omega⟩ rfl (by decide) zw1_7 (fun M141 X142 e143 h144 => ?_)
        refine z_xP zt11 47 119 [some (.ref 5)] [.int 0, .ref 5] rfl rfl ?_
        refine z_xcV (vs := [.ref 5, .int 0]) (r := []) (L2 := [some (.ref 5), some (.int 0), none, none, none, none, none]) zt11 48 rfl zo11 zzcV1_77 (Or.inl rfl) rfl X142 f5 rfl rfl rfl (Nat.le_of_ble_eq_true rfl) zzm15 (Nat.le_of_ble_eq_true rfl) rfl ?_
        have q0 : ((0 : Int32)).toInt = 0 := rfl
        have q0 : ((0 : Int32)).toInt = 0 := rfl
        refine zTC15 X142.1 (by decide) (hT.go X142.1 X142 rfl) (fun y149 M145 X146 h147 h148 => ?_)
        have X150 := X142.go X146 (z_sb (by decide))
        show z_ev (d + 32) 11 122 [some (.ref 5)] [.long y149] M145 _
        refine z_xP zt11 49 130 [some (.ref 5)] [] rfl rfl ?_
        have h152 := z_sgP s9 h11
        have h153 := z_sgE s9 h16
        have h154 := z_sgT s91 h93
        exact z_xrv zt11 52 rfl zzr11 (kk M145 X150 (z_APt s9 h3 (by omega) (z_PS0 h85 (by omega)).1 (by omega) h108 (by omega) h126 ⟨((X125.2.1 5 1 0 0 0 0 5 f5 (by decide)).trans ((X107.2.1 5 1 0 0 0 0 5 f5 (by decide)).trans (X84.2.1 5 1 0 0 0 0 5 f5 (by decide)))), ((X125.2.1 5 1 0 0 0 0 6 f5 (by decide)).trans ((X107.2.1 5 1 0 0 0 0 6 f5 (by decide)).trans (X84.2.1 5 1 0 0 0 0 6 f5 (by decide)))), ((X125.2.1 5 1 0 0 0 0 7 f5 (by decide)).trans ((X107.2.1 5 1 0 0 0 0 7 f5 (by decide)).trans (X84.2.1 5 1 0 0 0 0 7 f5 (by decide)))), ((X125.2.a f8 (by decide)).trans ((X107.2.a f8 (by decide)).trans (X84.2.a f8 (by decide))))⟩ h130 (by omega) h129 ((e143.a f8 (by decide)).trans h137) h144 (by omega) ((e143.1 5 1 0 0 0 0 5 f5 (by decide)).trans (e136.1 5 1 0 0 0 0 5 f5 (by decide))) ((e143.1 5 1 0 0 0 0 6 f5 (by decide)).trans (e136.1 5 1 0 0 0 0 6 f5 (by decide))) ((e143.1 5 1 0 0 0 0 3 f5 (by decide)).trans (e136.1 5 1 0 0 0 0 3 f5 (by decide))) ((e143.1 5 1 0 0 0 0 2 f5 (by decide)).trans (e136.1 5 1 0 0 0 0 2 f5 (by decide))) h147 ⟨(X146.2.1 5 1 0 0 0 0 5 f5 (by decide)), (X146.2.1 5 1 0 0 0 0 6 f5 (by decide)), (X146.2.1 5 1 0 0 0 0 7 f5 (by decide)), (X146.2.a f8 (by decide))⟩))
      refine z_xP zt11 22 61 [some (.ref 5)] [.ref 5, .ref 5] rfl rfl ?_
      refine z_xcV (vs := [.ref 5]) (r := [.ref 5]) (L2 := [some (.ref 5), none, none, none]) zt11 23 rfl zo11 zzcV1_73 (Or.inl rfl) rfl X89 f5 rfl rfl rfl (Nat.le_of_ble_eq_true rfl) zzm13 (Nat.le_of_ble_eq_true rfl) rfl ?_
      refine zTC13 X89.1 (hT.go X89.1 X89 rfl) (fun x158 M155 X156 h157 => ?_)
      have X159 := X89.go X156 (z_sb (by decide))
      show z_ev (d + 32) 11 64 [some (.ref 5)] [.int x158, .ref 5] M155 _
      refine z_xpf zt11 24 rfl zo11 zzf1_41 X159 f5 (by decide) (by decide) ⟨Int32.le_toInt _, Int32.toInt_le _⟩ rfl (by decide) zw1_6 (fun M161 X162 e163 h164 => ?_)
      refine z_xP zt11 25 130 [some (.ref 5)] [] rfl rfl ?_
      have h165 := z_sgP s9 h11
      have h166 := z_sgE s9 h16
      exact z_xrv zt11 52 rfl zzr11 (kk M161 X162 (z_APe s9 h3 (by omega) rfl (by omega) h85 (by omega) h157 ⟨((X156.2.1 5 1 0 0 0 0 5 f5 (by decide)).trans (X84.2.1 5 1 0 0 0 0 5 f5 (by decide))), ((X156.2.1 5 1 0 0 0 0 6 f5 (by decide)).trans (X84.2.1 5 1 0 0 0 0 6 f5 (by decide))), ((X156.2.1 5 1 0 0 0 0 7 f5 (by decide)).trans (X84.2.1 5 1 0 0 0 0 7 f5 (by decide))), ((X156.2.a f8 (by decide)).trans (X84.2.a f8 (by decide)))⟩ h164 (e163.1 5 1 0 0 0 0 5 f5 (by decide)) (e163.1 5 1 0 0 0 0 7 f5 (by decide)) (e163.a f8 (by decide)) (e163.1 5 1 0 0 0 0 3 f5 (by decide)) (e163.1 5 1 0 0 0 0 2 f5 (by decide))))
    refine z_xP zt11 9 26 [some (.ref 5)] [.int 112, .ref 5] rfl rfl ?_
    refine z_xcV (vs := [.ref 5, .int 112]) (r := []) (L2 := [some (.ref 5), some (.int 112)]) zt11 10 rfl zo11 zzcV1_69 (Or.inl rfl) rfl X7 f5 rfl rfl rfl (Nat.le_of_ble_eq_true rfl) zzm12 (Nat.le_of_ble_eq_true rfl) rfl ?_
    have q112 : ((112 : Int32)).toInt = 112 := rfl
    have q112 : ((112 : Int32)).toInt = 112 := rfl
    refine zTC12 X7.1 (hT.go X7.1 X7 rfl) (fun x170 M167 X168 h171 h172 h169 => ?_)
    have X173 := X7.go X168 (z_sb (by decide))
    show z_ev (d + 32) 11 29 [some (.ref 5)] [.int x170] M167 _
    have s175 := s9.kp (M1 := M167) ⟨(X168.2.1 5 1 0 0 0 0 5 f5 (by decide)), (X168.2.1 5 1 0 0 0 0 6 f5 (by decide)), (X168.2.1 5 1 0 0 0 0 7 f5 (by decide)), (X168.2.a f8 (by decide))⟩
    refine z_xZ zt11 11 rfl rfl (fun (h176 : x170.toInt = 0) => ?_) (fun (h176 : x170.toInt ≠ 0) => ?_)
    · skip
      refine z_xP zt11 16 44 [some (.ref 5)] [.ref 5] rfl rfl ?_
      refine z_xgI zt11 17 rfl zo11 zzf1_41 X173 f5 (by decide) (by decide) rfl (fun (x178 : Int32) h177 (h179 : (-2147483648) ≤ x178.toInt) (h180 : x178.toInt ≤ 2147483647) => ?_)
      refine z_xZ zt11 18 rfl rfl (fun (h181 : x178.toInt ≠ 0) => ?_) (fun (h181 : x178.toInt = 0) => ?_)
      · skip
        refine z_xP zt11 26 71 [some (.ref 5)] [.ref 5] rfl rfl ?_
        refine z_xgI zt11 27 rfl zo11 zzf1_38 X173 f5 (by decide) (by decide) rfl (fun (x183 : Int32) h182 (h184 : 0 ≤ x183.toInt) (h185 : x183.toInt ≤ 8) => ?_)
        refine z_xP zt11 28 76 [some (.ref 5)] [.int 8, .int x183] rfl rfl ?_
        refine z_xJ zt11 29 rfl rfl (fun (h186 : 8 ≤ x183.toInt) => ?_) (fun (h186 : x183.toInt < 8) => ?_)
        · skip
          refine z_xP zt11 50 127 [some (.ref 5)] [.ref 5] rfl rfl ?_
          refine z_xcV (vs := [.ref 5]) (r := []) (L2 := [some (.ref 5)]) zt11 51 rfl zo11 zzcV1_66 (Or.inl rfl) rfl X173 f5 rfl rfl rfl (Nat.le_of_ble_eq_true rfl) zzm10 (Nat.le_of_ble_eq_true rfl) rfl ?_
          refine zTC10 X173.1 (hT.go X173.1 X173 rfl) (fun M187 X188 h189 => ?_)
          have X190 := X173.go X188 (z_sb (by decide))
          show z_ev (d + 32) 11 130 [some (.ref 5)] [] M187 _
          have h192 := z_sgP s9 h11
          have h193 := z_sgE s175 h177
          have h194 := z_sgT s175 h182
          exact z_xrv zt11 52 rfl zzr11 (kk M187 X190 (z_APn h3 (by omega) (z_noB h169 (by omega)) (z_PS0 h169 (by omega)).1 (z_noA (by omega)) (z_PS0 h169 (by omega)).1 (z_noA (by omega)) h189))
        refine z_xP zt11 30 82 [some (.ref 5)] [.int 116, .ref 5] rfl rfl ?_
        refine z_xcV (vs := [.ref 5, .int 116]) (r := []) (L2 := [some (.ref 5), some (.int 116)]) zt11 31 rfl zo11 zzcV1_69 (Or.inl rfl) rfl X173 f5 rfl rfl rfl (Nat.le_of_ble_eq_true rfl) zzm12 (Nat.le_of_ble_eq_true rfl) rfl ?_
        have q116 : ((116 : Int32)).toInt = 116 := rfl
        have q116 : ((116 : Int32)).toInt = 116 := rfl
        refine zTC12 X173.1 (hT.go X173.1 X173 rfl) (fun x198 M195 X196 h199 h200 h197 => ?_)
        have X201 := X173.go X196 (z_sb (by decide))
        show z_ev (d + 32) 11 85 [some (.ref 5)] [.int x198] M195 _
        have s203 := s175.kp (M1 := M195) ⟨(X196.2.1 5 1 0 0 0 0 5 f5 (by decide)), (X196.2.1 5 1 0 0 0 0 6 f5 (by decide)), (X196.2.1 5 1 0 0 0 0 7 f5 (by decide)), (X196.2.a f8 (by decide))⟩
        refine z_xZ zt11 32 rfl rfl (fun (h204 : x198.toInt = 0) => ?_) (fun (h204 : x198.toInt ≠ 0) => ?_)
        · skip
          refine z_xP zt11 50 127 [some (.ref 5)] [.ref 5] rfl rfl ?_
          refine z_xcV (vs := [.ref 5]) (r := []) (L2 := [some (.ref 5)]) zt11 51 rfl zo11 zzcV1_66 (Or.inl rfl) rfl X201 f5 rfl rfl rfl (Nat.le_of_ble_eq_true rfl) zzm10 (Nat.le_of_ble_eq_true rfl) rfl ?_
          refine zTC10 X201.1 (hT.go X201.1 X201 rfl) (fun M205 X206 h207 => ?_)
          have X208 := X201.go X206 (z_sb (by decide))
          show z_ev (d + 32) 11 130 [some (.ref 5)] [] M205 _
          have h210 := z_sgP s9 h11
          have h211 := z_sgE s175 h177
          have h212 := z_sgT s175 h182
          exact z_xrv zt11 52 rfl zzr11 (kk M205 X208 (z_APn h3 (by omega) (z_noB h169 (by omega)) ((z_PS0 h197 (by omega)).1.trans (z_PS0 h169 (by omega)).1) (z_noA (by omega)) (z_PS0 h169 (by omega)).1 (z_noB h197 (by omega)) h207))
        refine z_xP zt11 33 91 [some (.ref 5)] [.int 32, .ref 5] rfl rfl ?_
        refine z_xcV (vs := [.ref 5, .int 32]) (r := []) (L2 := [some (.ref 5), some (.int 32)]) zt11 34 rfl zo11 zzcV1_56 (Or.inl rfl) rfl X201 f5 rfl rfl rfl (Nat.le_of_ble_eq_true rfl) zzm8 (Nat.le_of_ble_eq_true rfl) rfl ?_
        have q32 : ((32 : Int32)).toInt = 32 := rfl
        have q32 : ((32 : Int32)).toInt = 32 := rfl
        refine zTC8 X201.1 (hT.go X201.1 X201 rfl) (fun M213 X214 h215 => ?_)
        have X216 := X201.go X214 (z_sb (by decide))
        show z_ev (d + 32) 11 94 [some (.ref 5)] [] M213 _
        have h218 := (X214.2.f f5 (by decide) (X196.2.f f5 (by decide) h182))
        refine z_xP zt11 35 95 [some (.ref 5)] [.ref 5] rfl rfl ?_
        refine z_xgX (b := 8) zt11 36 rfl zo11 zzf1_18 X216 f5 (by decide) (by decide) rfl ?_
        refine z_xP zt11 37 99 [some (.ref 5)] [.ref 5, .ref 8] rfl rfl ?_
        refine z_xgv zt11 38 rfl zo11 zzf1_38 X216 f5 (by decide) h218 ?_
        refine z_xP zt11 39 103 [some (.ref 5)] [.ref 5, .int x183, .ref 8] rfl rfl ?_
        refine z_xgI zt11 40 rfl zo11 zzf1_29 X216 f5 (by decide) (by decide) rfl (fun (x220 : Int32) h219 (h221 : 0 ≤ x220.toInt) (h222 : x220.toInt ≤ 160) => ?_)
        refine z_xis zt11 41 rfl X216 f8 (by decide) (by decide) (by omega) (by omega) (by omega) (by omega) (by decide) (fun M223 X224 e225 h226 => ?_)
        refine z_xP zt11 42 109 [some (.ref 5)] [.ref 5, .ref 5] rfl rfl ?_
        have h227 := (e225.f f5 (by decide) h218)
        refine z_xgv zt11 43 rfl zo11 zzf1_38 X224 f5 (by decide) h227 ?_
        refine z_xP zt11 44 113 [some (.ref 5)] [.int 1, .int x183, .ref 5] rfl rfl ?_
        refine z_xI zt11 45 rfl rfl (fun (x228 : Int32) (h229 : x228.toInt = x183.toInt + 1) => ?_) (z_pAdd rfl rfl (by omega) (by omega))
        refine z_xpf zt11 46 rfl zo11 zzf1_38 X224 f5 (by decide) (by decide) ⟨by omega, by omega⟩ rfl (by decide) zw1_7 (fun M230 X231 e232 h233 => ?_)
        refine z_xP zt11 47 119 [some (.ref 5)] [.int 0, .ref 5] rfl rfl ?_
        refine z_xcV (vs := [.ref 5, .int 0]) (r := []) (L2 := [some (.ref 5), some (.int 0), none, none, none, none, none]) zt11 48 rfl zo11 zzcV1_77 (Or.inl rfl) rfl X231 f5 rfl rfl rfl (Nat.le_of_ble_eq_true rfl) zzm15 (Nat.le_of_ble_eq_true rfl) rfl ?_
        have q0 : ((0 : Int32)).toInt = 0 := rfl
        have q0 : ((0 : Int32)).toInt = 0 := rfl
        refine zTC15 X231.1 (by decide) (hT.go X231.1 X231 rfl) (fun y238 M234 X235 h236 h237 => ?_)
        have X239 := X231.go X235 (z_sb (by decide))
        show z_ev (d + 32) 11 122 [some (.ref 5)] [.long y238] M234 _
        refine z_xP zt11 49 130 [some (.ref 5)] [] rfl rfl ?_
        have h241 := z_sgP s9 h11
        have h242 := z_sgE s175 h177
        have h243 := z_sgT s175 h182
        exact z_xrv zt11 52 rfl zzr11 (kk M234 X239 (z_APt s9 h3 (by omega) (z_PS0 h169 (by omega)).1 (by omega) h197 (by omega) h215 ⟨((X214.2.1 5 1 0 0 0 0 5 f5 (by decide)).trans ((X196.2.1 5 1 0 0 0 0 5 f5 (by decide)).trans (X168.2.1 5 1 0 0 0 0 5 f5 (by decide)))), ((X214.2.1 5 1 0 0 0 0 6 f5 (by decide)).trans ((X196.2.1 5 1 0 0 0 0 6 f5 (by decide)).trans (X168.2.1 5 1 0 0 0 0 6 f5 (by decide)))), ((X214.2.1 5 1 0 0 0 0 7 f5 (by decide)).trans ((X196.2.1 5 1 0 0 0 0 7 f5 (by decide)).trans (X168.2.1 5 1 0 0 0 0 7 f5 (by decide)))), ((X214.2.a f8 (by decide)).trans ((X196.2.a f8 (by decide)).trans (X168.2.a f8 (by decide))))⟩ h219 (by omega) h218 ((e232.a f8 (by decide)).trans h226) h233 (by omega) ((e232.1 5 1 0 0 0 0 5 f5 (by decide)).trans (e225.1 5 1 0 0 0 0 5 f5 (by decide))) ((e232.1 5 1 0 0 0 0 6 f5 (by decide)).trans (e225.1 5 1 0 0 0 0 6 f5 (by decide))) ((e232.1 5 1 0 0 0 0 3 f5 (by decide)).trans (e225.1 5 1 0 0 0 0 3 f5 (by decide))) ((e232.1 5 1 0 0 0 0 2 f5 (by decide)).trans (e225.1 5 1 0 0 0 0 2 f5 (by decide))) h236 ⟨(X235.2.1 5 1 0 0 0 0 5 f5 (by decide)), (X235.2.1 5 1 0 0 0 0 6 f5 (by decide)), (X235.2.1 5 1 0 0 0 0 7 f5 (by decide)), (X235.2.a f8 (by decide))⟩))
      refine z_xP zt11 19 53 [some (.ref 5)] [.int 101, .ref 5] rfl rfl ?_
      refine z_xcV (vs := [.ref 5, .int 101]) (r := []) (L2 := [some (.ref 5), some (.int 101)]) zt11 20 rfl zo11 zzcV1_69 (Or.inl rfl) rfl X173 f5 rfl rfl rfl (Nat.le_of_ble_eq_true rfl) zzm12 (Nat.le_of_ble_eq_true rfl) rfl ?_
      have q101 : ((101 : Int32)).toInt = 101 := rfl
      have q101 : ((101 : Int32)).toInt = 101 := rfl
      refine zTC12 X173.1 (hT.go X173.1 X173 rfl) (fun x247 M244 X245 h248 h249 h246 => ?_)
      have X250 := X173.go X245 (z_sb (by decide))
      show z_ev (d + 32) 11 56 [some (.ref 5)] [.int x247] M244 _
      have s252 := s175.kp (M1 := M244) ⟨(X245.2.1 5 1 0 0 0 0 5 f5 (by decide)), (X245.2.1 5 1 0 0 0 0 6 f5 (by decide)), (X245.2.1 5 1 0 0 0 0 7 f5 (by decide)), (X245.2.a f8 (by decide))⟩
      refine z_xZ zt11 21 rfl rfl (fun (h253 : x247.toInt = 0) => ?_) (fun (h253 : x247.toInt ≠ 0) => ?_)
      · skip
        refine z_xP zt11 26 71 [some (.ref 5)] [.ref 5] rfl rfl ?_
        refine z_xgI zt11 27 rfl zo11 zzf1_38 X250 f5 (by decide) (by decide) rfl (fun (x255 : Int32) h254 (h256 : 0 ≤ x255.toInt) (h257 : x255.toInt ≤ 8) => ?_)
        refine z_xP zt11 28 76 [some (.ref 5)] [.int 8, .int x255] rfl rfl ?_
        refine z_xJ zt11 29 rfl rfl (fun (h258 : 8 ≤ x255.toInt) => ?_) (fun (h258 : x255.toInt < 8) => ?_)
        · skip
          refine z_xP zt11 50 127 [some (.ref 5)] [.ref 5] rfl rfl ?_
          refine z_xcV (vs := [.ref 5]) (r := []) (L2 := [some (.ref 5)]) zt11 51 rfl zo11 zzcV1_66 (Or.inl rfl) rfl X250 f5 rfl rfl rfl (Nat.le_of_ble_eq_true rfl) zzm10 (Nat.le_of_ble_eq_true rfl) rfl ?_
          refine zTC10 X250.1 (hT.go X250.1 X250 rfl) (fun M259 X260 h261 => ?_)
          have X262 := X250.go X260 (z_sb (by decide))
          show z_ev (d + 32) 11 130 [some (.ref 5)] [] M259 _
          have h264 := z_sgP s9 h11
          have h265 := z_sgE s175 h177
          have h266 := z_sgT s252 h254
          exact z_xrv zt11 52 rfl zzr11 (kk M259 X262 (z_APn h3 (by omega) (z_noB h169 (by omega)) (z_PS0 h169 (by omega)).1 (z_noB h246 (by omega)) ((z_PS0 h246 (by omega)).1.trans (z_PS0 h169 (by omega)).1) (z_noA (by omega)) h261))
        refine z_xP zt11 30 82 [some (.ref 5)] [.int 116, .ref 5] rfl rfl ?_
        refine z_xcV (vs := [.ref 5, .int 116]) (r := []) (L2 := [some (.ref 5), some (.int 116)]) zt11 31 rfl zo11 zzcV1_69 (Or.inl rfl) rfl X250 f5 rfl rfl rfl (Nat.le_of_ble_eq_true rfl) zzm12 (Nat.le_of_ble_eq_true rfl) rfl ?_
        have q116 : ((116 : Int32)).toInt = 116 := rfl
        have q116 : ((116 : Int32)).toInt = 116 := rfl
        refine zTC12 X250.1 (hT.go X250.1 X250 rfl) (fun x270 M267 X268 h271 h272 h269 => ?_)
        have X273 := X250.go X268 (z_sb (by decide))
        show z_ev (d + 32) 11 85 [some (.ref 5)] [.int x270] M267 _
        have s275 := s252.kp (M1 := M267) ⟨(X268.2.1 5 1 0 0 0 0 5 f5 (by decide)), (X268.2.1 5 1 0 0 0 0 6 f5 (by decide)), (X268.2.1 5 1 0 0 0 0 7 f5 (by decide)), (X268.2.a f8 (by decide))⟩
        refine z_xZ zt11 32 rfl rfl (fun (h276 : x270.toInt = 0) => ?_) (fun (h276 : x270.toInt ≠ 0) => ?_)
        · skip
          refine z_xP zt11 50 127 [some (.ref 5)] [.ref 5] rfl rfl ?_
          refine z_xcV (vs := [.ref 5]) (r := []) (L2 := [some (.ref 5)]) zt11 51 rfl zo11 zzcV1_66 (Or.inl rfl) rfl X273 f5 rfl rfl rfl (Nat.le_of_ble_eq_true rfl) zzm10 (Nat.le_of_ble_eq_true rfl) rfl ?_
          refine zTC10 X273.1 (hT.go X273.1 X273 rfl) (fun M277 X278 h279 => ?_)
          have X280 := X273.go X278 (z_sb (by decide))
          show z_ev (d + 32) 11 130 [some (.ref 5)] [] M277 _
          have h282 := z_sgP s9 h11
          have h283 := z_sgE s175 h177
          have h284 := z_sgT s252 h254
          exact z_xrv zt11 52 rfl zzr11 (kk M277 X280 (z_APn h3 (by omega) (z_noB h169 (by omega)) (z_PS0 h169 (by omega)).1 (z_noB h246 (by omega)) ((z_PS0 h246 (by omega)).1.trans (z_PS0 h169 (by omega)).1) (z_noB h269 (by omega)) h279))
        refine z_xP zt11 33 91 [some (.ref 5)] [.int 32, .ref 5] rfl rfl ?_
        refine z_xcV (vs := [.ref 5, .int 32]) (r := []) (L2 := [some (.ref 5), some (.int 32)]) zt11 34 rfl zo11 zzcV1_56 (Or.inl rfl) rfl X273 f5 rfl rfl rfl (Nat.le_of_ble_eq_true rfl) zzm8 (Nat.le_of_ble_eq_true rfl) rfl ?_
        have q32 : ((32 : Int32)).toInt = 32 := rfl
        have q32 : ((32 : Int32)).toInt = 32 := rfl
        refine zTC8 X273.1 (hT.go X273.1 X273 rfl) (fun M285 X286 h287 => ?_)
        have X288 := X273.go X286 (z_sb (by decide))
        show z_ev (d + 32) 11 94 [some (.ref 5)] [] M285 _
        have h290 := (X286.2.f f5 (by decide) (X268.2.f f5 (by decide) h254))
        refine z_xP zt11 35 95 [some (.ref 5)] [.ref 5] rfl rfl ?_
        refine z_xgX (b := 8) zt11 36 rfl zo11 zzf1_18 X288 f5 (by decide) (by decide) rfl ?_
        refine z_xP zt11 37 99 [some (.ref 5)] [.ref 5, .ref 8] rfl rfl ?_
        refine z_xgv zt11 38 rfl zo11 zzf1_38 X288 f5 (by decide) h290 ?_
        refine z_xP zt11 39 103 [some (.ref 5)] [.ref 5, .int x255, .ref 8] rfl rfl ?_
        refine z_xgI zt11 40 rfl zo11 zzf1_29 X288 f5 (by decide) (by decide) rfl (fun (x292 : Int32) h291 (h293 : 0 ≤ x292.toInt) (h294 : x292.toInt ≤ 160) => ?_)
        refine z_xis zt11 41 rfl X288 f8 (by decide) (by decide) (by omega) (by omega) (by omega) (by omega) (by decide) (fun M295 X296 e297 h298 => ?_)
        refine z_xP zt11 42 109 [some (.ref 5)] [.ref 5, .ref 5] rfl rfl ?_
        have h299 := (e297.f f5 (by decide) h290)
        refine z_xgv zt11 43 rfl zo11 zzf1_38 X296 f5 (by decide) h299 ?_
        refine z_xP zt11 44 113 [some (.ref 5)] [.int 1, .int x255, .ref 5] rfl rfl ?_
        refine z_xI zt11 45 rfl rfl (fun (x300 : Int32) (h301 : x300.toInt = x255.toInt + 1) => ?_) (z_pAdd rfl rfl (by omega) (by omega))
        refine z_xpf zt11 46 rfl zo11 zzf1_38 X296 f5 (by decide) (by decide) ⟨by omega, by omega⟩ rfl (by decide) zw1_7 (fun M302 X303 e304 h305 => ?_)
        refine z_xP zt11 47 119 [some (.ref 5)] [.int 0, .ref 5] rfl rfl ?_
        refine z_xcV (vs := [.ref 5, .int 0]) (r := []) (L2 := [some (.ref 5), some (.int 0), none, none, none, none, none]) zt11 48 rfl zo11 zzcV1_77 (Or.inl rfl) rfl X303 f5 rfl rfl rfl (Nat.le_of_ble_eq_true rfl) zzm15 (Nat.le_of_ble_eq_true rfl) rfl ?_
        have q0 : ((0 : Int32)).toInt = 0 := rfl
        have q0 : ((0 : Int32)).toInt = 0 := rfl
        refine zTC15 X303.1 (by decide) (hT.go X303.1 X303 rfl) (fun y310 M306 X307 h308 h309 => ?_)
        have X311 := X303.go X307 (z_sb (by decide))
        show z_ev (d + 32) 11 122 [some (.ref 5)] [.long y310] M306 _
        refine z_xP zt11 49 130 [some (.ref 5)] [] rfl rfl ?_
        have h313 := z_sgP s9 h11
        have h314 := z_sgE s175 h177
        have h315 := z_sgT s252 h254
        exact z_xrv zt11 52 rfl zzr11 (kk M306 X311 (z_APt s9 h3 (by omega) ((z_PS0 h246 (by omega)).1.trans (z_PS0 h169 (by omega)).1) (by omega) h269 (by omega) h287 ⟨((X286.2.1 5 1 0 0 0 0 5 f5 (by decide)).trans ((X268.2.1 5 1 0 0 0 0 5 f5 (by decide)).trans ((X245.2.1 5 1 0 0 0 0 5 f5 (by decide)).trans (X168.2.1 5 1 0 0 0 0 5 f5 (by decide))))), ((X286.2.1 5 1 0 0 0 0 6 f5 (by decide)).trans ((X268.2.1 5 1 0 0 0 0 6 f5 (by decide)).trans ((X245.2.1 5 1 0 0 0 0 6 f5 (by decide)).trans (X168.2.1 5 1 0 0 0 0 6 f5 (by decide))))), ((X286.2.1 5 1 0 0 0 0 7 f5 (by decide)).trans ((X268.2.1 5 1 0 0 0 0 7 f5 (by decide)).trans ((X245.2.1 5 1 0 0 0 0 7 f5 (by decide)).trans (X168.2.1 5 1 0 0 0 0 7 f5 (by decide))))), ((X286.2.a f8 (by decide)).trans ((X268.2.a f8 (by decide)).trans ((X245.2.a f8 (by decide)).trans (X168.2.a f8 (by decide)))))⟩ h291 (by omega) h290 ((e304.a f8 (by decide)).trans h298) h305 (by omega) ((e304.1 5 1 0 0 0 0 5 f5 (by decide)).trans (e297.1 5 1 0 0 0 0 5 f5 (by decide))) ((e304.1 5 1 0 0 0 0 6 f5 (by decide)).trans (e297.1 5 1 0 0 0 0 6 f5 (by decide))) ((e304.1 5 1 0 0 0 0 3 f5 (by decide)).trans (e297.1 5 1 0 0 0 0 3 f5 (by decide))) ((e304.1 5 1 0 0 0 0 2 f5 (by decide)).trans (e297.1 5 1 0 0 0 0 2 f5 (by decide))) h308 ⟨(X307.2.1 5 1 0 0 0 0 5 f5 (by decide)), (X307.2.1 5 1 0 0 0 0 6 f5 (by decide)), (X307.2.1 5 1 0 0 0 0 7 f5 (by decide)), (X307.2.a f8 (by decide))⟩))
      refine z_xP zt11 22 61 [some (.ref 5)] [.ref 5, .ref 5] rfl rfl ?_
      refine z_xcV (vs := [.ref 5]) (r := [.ref 5]) (L2 := [some (.ref 5), none, none, none]) zt11 23 rfl zo11 zzcV1_73 (Or.inl rfl) rfl X250 f5 rfl rfl rfl (Nat.le_of_ble_eq_true rfl) zzm13 (Nat.le_of_ble_eq_true rfl) rfl ?_
      refine zTC13 X250.1 (hT.go X250.1 X250 rfl) (fun x319 M316 X317 h318 => ?_)
      have X320 := X250.go X317 (z_sb (by decide))
      show z_ev (d + 32) 11 64 [some (.ref 5)] [.int x319, .ref 5] M316 _
      refine z_xpf zt11 24 rfl zo11 zzf1_41 X320 f5 (by decide) (by decide) ⟨Int32.le_toInt _, Int32.toInt_le _⟩ rfl (by decide) zw1_6 (fun M322 X323 e324 h325 => ?_)
      refine z_xP zt11 25 130 [some (.ref 5)] [] rfl rfl ?_
      have h326 := z_sgP s9 h11
      have h327 := z_sgE s175 h177
      exact z_xrv zt11 52 rfl zzr11 (kk M322 X323 (z_APe s9 h3 (by omega) (z_PS0 h169 (by omega)).1 (by omega) h246 (by omega) h318 ⟨((X317.2.1 5 1 0 0 0 0 5 f5 (by decide)).trans ((X245.2.1 5 1 0 0 0 0 5 f5 (by decide)).trans (X168.2.1 5 1 0 0 0 0 5 f5 (by decide)))), ((X317.2.1 5 1 0 0 0 0 6 f5 (by decide)).trans ((X245.2.1 5 1 0 0 0 0 6 f5 (by decide)).trans (X168.2.1 5 1 0 0 0 0 6 f5 (by decide)))), ((X317.2.1 5 1 0 0 0 0 7 f5 (by decide)).trans ((X245.2.1 5 1 0 0 0 0 7 f5 (by decide)).trans (X168.2.1 5 1 0 0 0 0 7 f5 (by decide)))), ((X317.2.a f8 (by decide)).trans ((X245.2.a f8 (by decide)).trans (X168.2.a f8 (by decide))))⟩ h325 (e324.1 5 1 0 0 0 0 5 f5 (by decide)) (e324.1 5 1 0 0 0 0 7 f5 (by decide)) (e324.a f8 (by decide)) (e324.1 5 1 0 0 0 0 3 f5 (by decide)) (e324.1 5 1 0 0 0 0 2 f5 (by decide))))
    refine z_xP zt11 12 34 [some (.ref 5)] [.ref 5, .ref 5] rfl rfl ?_
    refine z_xcV (vs := [.ref 5]) (r := [.ref 5]) (L2 := [some (.ref 5), none, none, none]) zt11 13 rfl zo11 zzcV1_73 (Or.inl rfl) rfl X173 f5 rfl rfl rfl (Nat.le_of_ble_eq_true rfl) zzm13 (Nat.le_of_ble_eq_true rfl) rfl ?_
    refine zTC13 X173.1 (hT.go X173.1 X173 rfl) (fun x331 M328 X329 h330 => ?_)
    have X332 := X173.go X329 (z_sb (by decide))
    show z_ev (d + 32) 11 37 [some (.ref 5)] [.int x331, .ref 5] M328 _
    refine z_xpf zt11 14 rfl zo11 zzf1_44 X332 f5 (by decide) (by decide) ⟨Int32.le_toInt _, Int32.toInt_le _⟩ rfl (by decide) zw1_5 (fun M334 X335 e336 h337 => ?_)
    refine z_xP zt11 15 130 [some (.ref 5)] [] rfl rfl ?_
    have h338 := z_sgP s9 h11
    exact z_xrv zt11 52 rfl zzr11 (kk M334 X335 (z_APp s9 h3 (by omega) (by omega) h169 (by omega) h330 ⟨((X329.2.1 5 1 0 0 0 0 5 f5 (by decide)).trans (X168.2.1 5 1 0 0 0 0 5 f5 (by decide))), ((X329.2.1 5 1 0 0 0 0 6 f5 (by decide)).trans (X168.2.1 5 1 0 0 0 0 6 f5 (by decide))), ((X329.2.1 5 1 0 0 0 0 7 f5 (by decide)).trans (X168.2.1 5 1 0 0 0 0 7 f5 (by decide))), ((X329.2.a f8 (by decide)).trans (X168.2.a f8 (by decide)))⟩ h337 (e336.1 5 1 0 0 0 0 6 f5 (by decide)) (e336.1 5 1 0 0 0 0 7 f5 (by decide)) (e336.a f8 (by decide)) (e336.1 5 1 0 0 0 0 3 f5 (by decide)) (e336.1 5 1 0 0 0 0 2 f5 (by decide))))
  refine z_xP zt11 3 10 [some (.ref 5)] [.ref 5] rfl rfl ?_
  refine z_xcV (vs := [.ref 5]) (r := []) (L2 := [some (.ref 5)]) zt11 4 rfl zo11 zzcV1_66 (Or.inl rfl) rfl X7 f5 rfl rfl rfl (Nat.le_of_ble_eq_true rfl) zzm10 (Nat.le_of_ble_eq_true rfl) rfl ?_
  refine zTC10 X7.1 (hT.go X7.1 X7 rfl) (fun M339 X340 h341 => ?_)
  have X342 := X7.go X340 (z_sb (by decide))
  show z_ev (d + 32) 11 13 [some (.ref 5)] [] M339 _
  refine z_xP zt11 5 130 [some (.ref 5)] [] rfl rfl ?_
  exact z_xrv zt11 52 rfl zzr11 (kk M339 X342 (z_APbad h3 (by omega) h341))
theorem zTB6 {T : List zK} {d : Nat} {K : Option Value → zH → Prop} {bb : Nat → Int} {nn : Nat} {M0 : zH} (hB : z_TB M0 bb nn) (kk : ∀ (x : Int32) (M1 : zH), z_X T zw6 M0 M1 → z_FF bb nn M1 x.toInt → K (some (.int x)) M1) : ∀ n : Nat, (∀ (M : zH) (b1 : Int32), z_X T zw6 M0 M → 0 ≤ b1.toInt ∧ b1.toInt ≤ 160 → (∃ (nu : Int → Int) (pr en tn : Nat) (ts : Nat → Nat) (k : Nat), z_FI bb nn M b1.toInt nu pr en tn ts k) → ((0) * 2 + 0) * 161 + (160 - b1.toInt) < (n : Int) → z_ev (d + 33) 6 61 [some (.ref 5), some (.int b1)] [] M K) := by
  intro n
  induction n with
  | zero => exact by intro M b1 X hh0 hX hE; obtain ⟨nu, pr, en, tn, ts, k, hF⟩ := hX; exfalso; omega
  | succ n ih =>
    intro M b1 X hh0 hX hE
    obtain ⟨nu, pr, en, tn, ts, k, hF⟩ := hX
    refine z_xP zt6 24 65 [some (.ref 5), some (.int b1)] [.int 160, .int b1] rfl rfl ?_
    refine z_xJ zt6 25 rfl rfl (fun (h1 : 160 ≤ b1.toInt) => ?_) (fun (h1 : b1.toInt < 160) => ?_)
    · skip
      refine z_xP zt6 38 97 [some (.ref 5), some (.int b1)] [.ref 5] rfl rfl ?_
      have f5 : T[5]? = some (.inl (1, 0, 0, 0, 0)) := X.1.k rfl (by decide)
      refine z_xgI zt6 39 rfl zo6 zzf1_32 X f5 (by decide) (by decide) rfl (fun (x3 : Int32) h2 (h4 : (-2147483648) ≤ x3.toInt) (h5 : x3.toInt ≤ 2147483647) => ?_)
      exact z_xri zt6 40 rfl zzr6 (kk x3 M X (z_FFe (a := 0) (ln := 0) hF h2 (by first | exact Or.inl (by omega) | exact Or.inr (Or.inl (by omega)))))
    refine z_xP zt6 26 69 [some (.ref 5), some (.int b1)] [.ref 5] rfl rfl ?_
    have f5 : T[5]? = some (.inl (1, 0, 0, 0, 0)) := X.1.k rfl (by decide)
    refine z_xgI zt6 27 rfl zo6 zzf1_32 X f5 (by decide) (by decide) rfl (fun (x7 : Int32) h6 (h8 : (-2147483648) ≤ x7.toInt) (h9 : x7.toInt ≤ 2147483647) => ?_)
    refine z_xZ zt6 28 rfl rfl (fun (h10 : 0 ≤ x7.toInt) => ?_) (fun (h10 : x7.toInt < 0) => ?_)
    · skip
      refine z_xP zt6 38 97 [some (.ref 5), some (.int b1)] [.ref 5] rfl rfl ?_
      refine z_xgv zt6 39 rfl zo6 zzf1_32 X f5 (by decide) h6 ?_
      exact z_xri zt6 40 rfl zzr6 (kk x7 M X (z_FFe (a := 0) (ln := 0) hF h6 (by first | exact Or.inl (by omega) | exact Or.inr (Or.inl (by omega)))))
    refine z_xP zt6 29 76 [some (.ref 5), some (.int b1)] [.ref 5] rfl rfl ?_
    refine z_xgI zt6 30 rfl zo6 zzf1_29 X f5 (by decide) (by decide) rfl (fun (x12 : Int32) h11 (h13 : 0 ≤ x12.toInt) (h14 : x12.toInt ≤ 160) => ?_)
    refine z_xP zt6 31 80 [some (.ref 5), some (.int b1)] [.ref 5, .int x12] rfl rfl ?_
    refine z_xgI zt6 32 rfl zo6 zzf1_25 X f5 (by decide) (by decide) rfl (fun (x16 : Int32) h15 (h17 : 0 ≤ x16.toInt) (h18 : x16.toInt ≤ 160) => ?_)
    refine z_xJ zt6 33 rfl rfl (fun (h19 : x16.toInt ≤ x12.toInt) => ?_) (fun (h19 : x12.toInt < x16.toInt) => ?_)
    · skip
      refine z_xP zt6 38 97 [some (.ref 5), some (.int b1)] [.ref 5] rfl rfl ?_
      refine z_xgv zt6 39 rfl zo6 zzf1_32 X f5 (by decide) h6 ?_
      exact z_xri zt6 40 rfl zzr6 (kk x7 M X (z_FFe hF h6 (Or.inr (Or.inr ⟨h11, h15, by omega⟩))))
    refine z_xP zt6 34 87 [some (.ref 5), some (.int b1)] [.ref 5] rfl rfl ?_
    refine z_xcV (vs := [.ref 5]) (r := []) (L2 := [some (.ref 5)]) zt6 35 rfl zo6 zzcV1_63 (Or.inl rfl) rfl X f5 rfl rfl rfl (Nat.le_of_ble_eq_true rfl) zzm11 (Nat.le_of_ble_eq_true rfl) rfl ?_
    refine zTC11 X.1 hF.1 (z_FIst hF h6 (by omega)) (fun M20 X21 h22 => ?_)
    have X23 := X.go X21 (z_sb (by decide))
    show z_ev (d + 33) 6 90 [some (.ref 5), some (.int b1)] [] M20 _
    refine z_xN zt6 36 rfl rfl (fun (x25 : Int32) (h26 : x25.toInt = b1.toInt + 1) => ?_) (z_pAdd rfl rfl (by omega) (by omega))
    show z_ev (d + 33) 6 93 [some (.ref 5), some (.int x25)] [] M20 _
    refine z_xP zt6 37 61 [some (.ref 5), some (.int x25)] [] rfl rfl ?_
    exact ih M20 x25 X23 ⟨by omega, by omega⟩ (z_FIs hF h6 (by omega) h11 h15 ⟨by omega, by omega⟩ h22 X23.1 X21 rfl (X21.2.1 5 1 0 0 0 0 4 f5 (by decide)) (by omega)) (by omega)
theorem zTC6 {T : List zK} {d : Nat} {K : Option Value → zH → Prop} {bb : Nat → Int} {nn : Nat} {M0 : zH} (hW : z_W M0 T) (hB : z_TB M0 bb nn) (kk : ∀ (x : Int32) (M1 : zH), z_X T zw6 M0 M1 → z_FF bb nn M1 x.toInt → K (some (.int x)) M1) : z_ev (d + 33) 6 0 [some (.ref 5), none] [] M0 K := by
  have X : z_X T zw6 M0 M0 := .refl hW
  refine z_xP zt6 0 2 [some (.ref 5), none] [.int 0, .ref 5] rfl rfl ?_
  have f5 : T[5]? = some (.inl (1, 0, 0, 0, 0)) := X.1.k rfl (by decide)
  have q0 : ((0 : Int32)).toInt = 0 := rfl
  refine z_xpf zt6 1 rfl zo6 zzf1_29 X f5 (by decide) (by decide) ⟨by omega, by omega⟩ rfl (by decide) zw1_2 (fun M1 X2 e3 h4 => ?_)
  refine z_xP zt6 2 7 [some (.ref 5), none] [.int (-1), .ref 5] rfl rfl ?_
  have qm1 : (((-1) : Int32)).toInt = (-1) := rfl
  refine z_xpf zt6 3 rfl zo6 zzf1_32 X2 f5 (by decide) (by decide) ⟨by omega, by omega⟩ rfl (by decide) zw1_3 (fun M5 X6 e7 h8 => ?_)
  refine z_xP zt6 4 17 [some (.ref 5), none] [.int 0, .ref 5, .int 0, .ref 5, .ref 5, .ref 5, .ref 5] rfl rfl ?_
  have q0 : ((0 : Int32)).toInt = 0 := rfl
  refine z_xpf zt6 5 rfl zo6 zzf1_35 X6 f5 (by decide) (by decide) ⟨by omega, by omega⟩ rfl (by decide) zw1_10 (fun M9 X10 e11 h12 => ?_)
  refine z_xP zt6 6 21 [some (.ref 5), none] [.int 0, .ref 5, .int 0, .ref 5, .ref 5, .ref 5] rfl rfl ?_
  have q0 : ((0 : Int32)).toInt = 0 := rfl
  refine z_xpf zt6 7 rfl zo6 zzf1_38 X10 f5 (by decide) (by decide) ⟨by omega, by omega⟩ rfl (by decide) zw1_7 (fun M13 X14 e15 h16 => ?_)
  refine z_xP zt6 8 25 [some (.ref 5), none] [.int 0, .ref 5, .int 0, .ref 5, .ref 5] rfl rfl ?_
  have q0 : ((0 : Int32)).toInt = 0 := rfl
  refine z_xpf zt6 9 rfl zo6 zzf1_41 X14 f5 (by decide) (by decide) ⟨by omega, by omega⟩ rfl (by decide) zw1_6 (fun M17 X18 e19 h20 => ?_)
  refine z_xP zt6 10 29 [some (.ref 5), none] [.int 0, .ref 5, .int 0, .ref 5] rfl rfl ?_
  have q0 : ((0 : Int32)).toInt = 0 := rfl
  refine z_xpf zt6 11 rfl zo6 zzf1_44 X18 f5 (by decide) (by decide) ⟨by omega, by omega⟩ rfl (by decide) zw1_5 (fun M21 X22 e23 h24 => ?_)
  have q0 : ((0 : Int32)).toInt = 0 := rfl
  refine z_xpf zt6 12 rfl zo6 zzf1_47 X22 f5 (by decide) (by decide) ⟨by omega, by omega⟩ rfl (by decide) zw1_4 (fun M25 X26 e27 h28 => ?_)
  refine z_xP zt6 13 36 [some (.ref 5), none] [.ref 5] rfl rfl ?_
  refine z_xgX (b := 7) zt6 14 rfl zo6 zzf1_15 X26 f5 (by decide) (by decide) rfl ?_
  refine z_xP zt6 15 40 [some (.ref 5), none] [.int (-1), .ref 7] rfl rfl ?_
  refine z_xcS (vs := [.ref 7, .int (-1)]) (r := []) (L2 := [some (.ref 7), some (.int (-1)), none, none]) zt6 16 rfl zo6 zzcS1_50 (Or.inl rfl) (Nat.le_of_ble_eq_true rfl) rfl rfl (Nat.le_of_ble_eq_true rfl) zzm7 (Nat.le_of_ble_eq_true rfl) rfl ?_
  have qm1 : (((-1) : Int32)).toInt = (-1) := rfl
  have f7 : T[7]? = some (.inr (7, 0, 10, (-1), 9)) := X26.1.k rfl (by decide)
  have qm1 : (((-1) : Int32)).toInt = (-1) := rfl
  refine zTC7 X26.1 ⟨(by decide), (by decide)⟩ f7 ⟨by omega, by omega⟩ (by decide) (fun M29 X30 h31 => ?_)
  have X32 := X26.go X30 (z_sb (by decide))
  show z_ev (d + 33) 6 43 [some (.ref 5), none] [] M29 _
  have h35 := (X30.2.f f5 (by decide) (e27.f f5 (by decide) (e23.f f5 (by decide) (e19.f f5 (by decide) (e15.f f5 (by decide) h12)))))
  have f6 : T[6]? = some (.inr (6, 0, 160, (-2147483648), 2147483647)) := X32.1.k rfl (by decide)
  have f2 : T[2]? = some (.inr (2, 1, 6, 0, 0)) := X32.1.k rfl (by decide)
  have t34 := hB.tp ((X30.2.a f6 (by decide)).trans ((e27.a f6 (by decide)).trans ((e23.a f6 (by decide)).trans ((e19.a f6 (by decide)).trans ((e15.a f6 (by decide)).trans ((e11.a f6 (by decide)).trans ((e7.a f6 (by decide)).trans (e3.a f6 (by decide))))))))) ((X30.2.1 5 1 0 0 0 0 1 f5 (by decide)).trans ((e27.1 5 1 0 0 0 0 1 f5 (by decide)).trans ((e23.1 5 1 0 0 0 0 1 f5 (by decide)).trans ((e19.1 5 1 0 0 0 0 1 f5 (by decide)).trans ((e15.1 5 1 0 0 0 0 1 f5 (by decide)).trans ((e11.1 5 1 0 0 0 0 1 f5 (by decide)).trans ((e7.1 5 1 0 0 0 0 1 f5 (by decide)).trans (e3.1 5 1 0 0 0 0 1 f5 (by decide))))))))) ((X30.2.lg f2 (by decide)).trans ((e27.lg f2 (by decide)).trans ((e23.lg f2 (by decide)).trans ((e19.lg f2 (by decide)).trans ((e15.lg f2 (by decide)).trans ((e11.lg f2 (by decide)).trans ((e7.lg f2 (by decide)).trans (e3.lg f2 (by decide))))))))) h31 h35 rfl
  have h36 := (X30.2.f f5 (by decide) (e27.f f5 (by decide) (e23.f f5 (by decide) (e19.f f5 (by decide) (e15.f f5 (by decide) (e11.f f5 (by decide) (e7.f f5 (by decide) h4)))))))
  have h37 := (X30.2.f f5 (by decide) (e27.f f5 (by decide) (e23.f f5 (by decide) (e19.f f5 (by decide) (e15.f f5 (by decide) (e11.f f5 (by decide) h8))))))
  refine z_xP zt6 17 46 [some (.ref 5), none] [.int 113, .ref 5] rfl rfl ?_
  refine z_xcV (vs := [.ref 5, .int 113]) (r := []) (L2 := [some (.ref 5), some (.int 113)]) zt6 18 rfl zo6 zzcV1_56 (Or.inl rfl) rfl X32 f5 rfl rfl rfl (Nat.le_of_ble_eq_true rfl) zzm8 (Nat.le_of_ble_eq_true rfl) rfl ?_
  have q113 : ((113 : Int32)).toInt = 113 := rfl
  have q113 : ((113 : Int32)).toInt = 113 := rfl
  refine zTC8 X32.1 t34 (fun M38 X39 h40 => ?_)
  have X41 := X32.go X39 (z_sb (by decide))
  show z_ev (d + 33) 6 49 [some (.ref 5), none] [] M38 _
  have t43 := t34.go X41.1 X39 rfl
  refine z_xP zt6 19 52 [some (.ref 5), none] [.int 32, .ref 5] rfl rfl ?_
  refine z_xcV (vs := [.ref 5, .int 32]) (r := []) (L2 := [some (.ref 5), some (.int 32)]) zt6 20 rfl zo6 zzcV1_56 (Or.inl rfl) rfl X41 f5 rfl rfl rfl (Nat.le_of_ble_eq_true rfl) zzm8 (Nat.le_of_ble_eq_true rfl) rfl ?_
  have q32 : ((32 : Int32)).toInt = 32 := rfl
  have q32 : ((32 : Int32)).toInt = 32 := rfl
  refine zTC8 X41.1 t43 (fun M44 X45 h46 => ?_)
  have X47 := X41.go X45 (z_sb (by decide))
  show z_ev (d + 33) 6 55 [some (.ref 5), none] [] M44 _
  have t49 := t43.go X47.1 X45 rfl
  refine z_xP zt6 21 56 [some (.ref 5), none] [.ref 5] rfl rfl ?_
  refine z_xcV (vs := [.ref 5]) (r := []) (L2 := [some (.ref 5), none, none]) zt6 22 rfl zo6 zzcV1_60 (Or.inl rfl) rfl X47 f5 rfl rfl rfl (Nat.le_of_ble_eq_true rfl) zzm9 (Nat.le_of_ble_eq_true rfl) rfl ?_
  have h50 := (X45.2.f f5 (by decide) (X39.2.f f5 (by decide) (X30.2.f f5 (by decide) h28)))
  have q0 : ((0 : Int32)).toInt = 0 := rfl
  refine zTC9 X47.1 h50 ⟨by omega, by omega⟩ t49 (fun M51 X52 h53 z54 h55 h56 => ?_)
  have X57 := X47.go X52 (z_sb (by decide))
  show z_ev (d + 33) 6 59 [some (.ref 5), none] [] M51 _
  refine z_xP zt6 23 61 [some (.ref 5), some (.int 0)] [] rfl rfl ?_
  have h59 := (X52.2.f f5 (by decide) (X45.2.f f5 (by decide) (X39.2.f f5 (by decide) (X30.2.f f5 (by decide) (e27.f f5 (by decide) h24)))))
  have h60 := (X52.2.f f5 (by decide) (X45.2.f f5 (by decide) (X39.2.f f5 (by decide) (X30.2.f f5 (by decide) (e27.f f5 (by decide) (e23.f f5 (by decide) h20))))))
  have h61 := (X52.2.f f5 (by decide) (X45.2.f f5 (by decide) (X39.2.f f5 (by decide) (X30.2.f f5 (by decide) (e27.f f5 (by decide) (e23.f f5 (by decide) (e19.f f5 (by decide) h16)))))))
  have q0 : ((0 : Int32)).toInt = 0 := rfl
  exact (zTB6 hB kk 322) M51 (0) X57 (by decide) (z_FI0 h36 rfl h37 (by decide) h40 h46 h53 h59 rfl h60 rfl h61 rfl) (by omega)
