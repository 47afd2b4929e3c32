/-! mend: listFew, told -/
theorem zUB149 {T : List zK} {d : Nat} {K : Option Value → zH → Prop} {a0 : Nat} {q : Nat} {t : Nat} {m : Nat} {p1 : Int32} {B : Nat → Nat} {w : Int64} {kp fb fw : Nat} {M0 : zH} (k0 : T[a0]? = some (.inl (2, q, t, m, 0))) (u1 : 0 ≤ p1.toInt ∧ p1.toInt ≤ 255) (h7 : z_F M0 a0 7 = some (.long w)) (hw : z_whb q w) (h8_ : z_F M0 a0 8 = some (.ref kp)) (k8_ : T[kp]? = some (.inr (108, 1, t * z_bl q, 0, 0))) (hkb : z_tbt B t q (z_bl q) (z_Lg M0 kp)) (hfb : z_F M0 a0 12 = some (.ref fb)) (kfb : T[fb]? = some (.inr (112, 1, z_bl q, 0, 0))) (hfw : z_F M0 a0 13 = some (.ref fw)) (kfw : T[fw]? = some (.inr (113, 0, 12, 0, 64 * ((z_bl q : Nat) : Int) - 1))) (kk : ∀ (x : Int32) (M1 : zH), z_X T zw149 M0 M1 → x.toInt = ((z_lc (z_dB B t q p1.toInt.toNat) (2 ^ q) : Nat) : Int) → (x.toInt ≤ 12 → z_lwb (z_dB B t q p1.toInt.toNat) q (z_bl q) (z_Lg M1 fb) ∧ z_LS (z_dB B t q p1.toInt.toNat) (2 ^ q) (z_Ar M1 fw)) → K (some (.int x)) M1) : ∀ n : Nat, (∀ (M : zH) (b2 : Int32) (b3 : Int32), z_X T zw149 M0 M → 0 ≤ b3.toInt ∧ b3.toInt ≤ 16 → b3.toInt ≤ ((z_bl q : Nat) : Int) → b2.toInt = ((z_sm (z_Lg M fb) b3.toInt.toNat : Nat) : Int) → (∀ b, b < b3.toInt.toNat → z_kpd w (z_Lg M0 kp) (z_bl q) b p1.toInt.toNat t (z_Lg M fb b)) → ((((0) * 4 + 2) * 17 + (16 - b3.toInt)) * 4 + 3) * 13 + (0) < (n : Int) → z_ev (d + 2) 149 4 [some (.ref a0), some (.int p1), some (.int b2), some (.int b3), none, none, none, none] [] M K) ∧ (∀ (M : zH) (b2 : Int32) (b3 : Int32) (b4 : Int32) (o5 : Option Value) (o7 : Option Value), z_X T zw149 M0 M → (-2147483648) ≤ b2.toInt ∧ b2.toInt ≤ 12 → 0 ≤ b3.toInt ∧ b3.toInt ≤ 12 → 0 ≤ b4.toInt ∧ b4.toInt ≤ 16 → b4.toInt ≤ ((z_bl q : Nat) : Int) → b2.toInt = ((z_lc (z_dB B t q p1.toInt.toNat) (2 ^ q) : Nat) : Int) → z_lwb (z_dB B t q p1.toInt.toNat) q (z_bl q) (z_Lg M fb) → b3.toInt = ((z_lc (z_dB B t q p1.toInt.toNat) (64 * b4.toInt.toNat) : Nat) : Int) → z_LS (z_dB B t q p1.toInt.toNat) (64 * b4.toInt.toNat) (z_Ar M fw) → ((((0) * 4 + 1) * 17 + (16 - b4.toInt)) * 4 + 3) * 13 + (0) < (n : Int) → z_ev (d + 2) 149 55 [some (.ref a0), some (.int p1), some (.int b2), some (.int b3), some (.int b4), o5, none, o7] [] M K) ∧ (∀ (M : zH) (b2 : Int32) (b3 : Int32) (b4 : Int32) (b5 : Int64) (b7 : Int32), z_X T zw149 M0 M → (-2147483648) ≤ b2.toInt ∧ b2.toInt ≤ 12 → 0 ≤ b3.toInt ∧ b3.toInt ≤ 12 → 0 ≤ b4.toInt ∧ b4.toInt ≤ 15 → 0 ≤ b7.toInt ∧ b7.toInt ≤ 12 → b4.toInt < ((z_bl q : Nat) : Int) → b2.toInt = ((z_lc (z_dB B t q p1.toInt.toNat) (2 ^ q) : Nat) : Int) → z_lwb (z_dB B t q p1.toInt.toNat) q (z_bl q) (z_Lg M fb) → z_lfI (z_dB B t q p1.toInt.toNat) b4.toInt.toNat b5 b3.toInt b7.toInt (z_Ar M fw) → ((((0) * 4 + 1) * 17 + (16 - b4.toInt)) * 4 + 0) * 13 + (12 - b7.toInt) < (n : Int) → z_ev (d + 2) 149 76 [some (.ref a0), some (.int p1), some (.int b2), some (.int b3), some (.int b4), some (.long b5), none, some (.int b7)] [] M K) := by
  intro n
  have hD : ∀ s, (z_dB B t q p1.toInt.toNat) s = 0 → s < 2 ^ q := fun s h => (z_dB0.mp h).1
  induction n with
  | zero => exact ⟨(by intros; exfalso; omega), (by intros; exfalso; omega), (by intros; exfalso; omega)⟩
  | succ n ih =>
    refine ⟨?_, ?_, ?_⟩
    · skip
      intro M b2 b3 X hh0 hb hS hK hE
      have g0 := X.1.p2 k0
      refine z_xP zt149 1 6 [some (.ref a0), some (.int p1), some (.int b2), some (.int b3), none, none, none, none] [.ref a0, .int b3] rfl rfl ?_
      refine z_xgI zt149 2 rfl zo149 zzf2_35 X k0 (by decide) (by decide) rfl (fun (x2 : Int32) h1 (h3 : ((z_bl q : Nat) : Int) ≤ x2.toInt) (h4 : x2.toInt ≤ ((z_bl q : Nat) : Int)) => ?_)
      refine z_xJ zt149 3 rfl rfl (fun (h5 : x2.toInt ≤ b3.toInt) => ?_) (fun (h5 : b3.toInt < x2.toInt) => ?_)
      · skip
        have eb : b3.toInt.toNat = z_bl q := by omega
        rw [eb] at hS hK
        have hF := z_lwbd (B := B) hw hkb hK
        have hM : b2.toInt = ((z_lc (z_dB B t q p1.toInt.toNat) (2 ^ q) : Nat) : Int) := by rw [hS, z_many hF z_blq2]
        refine z_xP zt149 18 45 [some (.ref a0), some (.int p1), some (.int b2), some (.int b3), none, none, none, none] [.int 12, .int b2] rfl rfl ?_
        refine z_xJ zt149 19 rfl rfl (fun (h6 : b2.toInt ≤ 12) => ?_) (fun (h6 : 12 < b2.toInt) => ?_)
        · skip
          refine z_xP zt149 22 55 [some (.ref a0), some (.int p1), some (.int b2), some (.int 0), some (.int 0), none, none, none] [] rfl rfl ?_
          have q0 : ((0 : Int32)).toInt = 0 := rfl
          have h7 := z_b32 b2
          exact ih.2.1 M b2 (0) (0) none none X ⟨by omega, by omega⟩ (by decide) (by decide) (by omega) hM hF rfl (fun s hs => absurd hs (by show ¬ s < 0; omega)) (by omega)
        refine z_xP zt149 20 49 [some (.ref a0), some (.int p1), some (.int b2), some (.int b3), none, none, none, none] [.int b2] rfl rfl ?_
        exact z_xri zt149 21 rfl zzr149 (kk b2 M X hM (fun h => absurd h (by omega)))
      refine z_xP zt149 4 13 [some (.ref a0), some (.int p1), some (.int b2), some (.int b3), none, none, none, none] [.ref a0] rfl rfl ?_
      refine z_xgv zt149 5 rfl zo149 zzf2_47 X k0 (by decide) (X.2.f k0 (by decide) hfb) ?_
      refine z_xP zt149 6 20 [some (.ref a0), some (.int p1), some (.int b2), some (.int b3), none, none, none, none] [.int b3, .int p1, .ref a0, .int b3, .ref fb] rfl rfl ?_
      refine z_xcV (vs := [.ref a0, .int p1, .int b3]) (r := [.int b3, .ref fb]) (L2 := [some (.ref a0), some (.int p1), some (.int b3), none, none, none]) zt149 7 rfl zo149 zzcV2_50 (Or.inl rfl) rfl X k0 rfl rfl rfl (Nat.le_of_ble_eq_true rfl) zzm24 (Nat.le_of_ble_eq_true rfl) rfl ?_
      refine zKC24 X.1 k0 (by omega) (by omega) (X.2.f k0 (by decide) h7) (X.2.f k0 (by decide) h8_) k8_ (by omega) (fun y13 M11 X12 hy => ?_)
      rw [X.2.lg k8_ (by decide)] at hy
      have X14 := X.go X12 (z_sb (by decide))
      show z_ev (d + 2) 149 23 [some (.ref a0), some (.int p1), some (.int b2), some (.int b3), none, none, none, none] [.long y13, .int b3, .ref fb] M11 _
      refine z_xlsv zt149 8 rfl X14 kfb (by decide) (X14.1.g4 kfb (by decide)) (by omega) (by omega) (by decide) (fun M16 X17 e18 h3_ => ?_)
      rw [X12.2.lg kfb (by decide)] at h3_
      refine z_xP zt149 9 26 [some (.ref a0), some (.int p1), some (.int b2), some (.int b3), none, none, none, none] [.ref a0, .int b2] rfl rfl ?_
      refine z_xgv zt149 10 rfl zo149 zzf2_47 X17 k0 (by decide) (X17.2.f k0 (by decide) hfb) ?_
      refine z_xP zt149 11 30 [some (.ref a0), some (.int p1), some (.int b2), some (.int b3), none, none, none, none] [.int b3, .ref fb, .int b2] rfl rfl ?_
      refine z_xllv zt149 12 rfl X17 kfb (by decide) (by omega) (by omega) (fun (y20 : Int64) hy2 => ?_)
      refine z_xcS (vs := [.long y20]) (r := [.int b2]) (L2 := [some (.long y20), none]) zt149 13 rfl zo149 zzcS2_54 (Or.inl rfl) (Nat.le_of_ble_eq_true rfl) rfl rfl (Nat.le_of_ble_eq_true rfl) zzm25 (Nat.le_of_ble_eq_true rfl) rfl ?_
      refine zX25 (fun x23 hc => ?_)
      show z_ev (d + 2) 149 34 [some (.ref a0), some (.int p1), some (.int b2), some (.int b3), none, none, none, none] [.int x23, .int b2] M16 _
      have hs1 := z_sm_le (z_Lg M fb) b3.toInt.toNat
      have hs2 := z_pcsl 8 (z_un y20)
      refine z_xI zt149 14 rfl rfl (fun (x29 : Int32) (h29 : x29.toInt = b2.toInt + x23.toInt) => ?_) (z_pAdd rfl rfl (by omega) (by omega))
      refine z_xP zt149 15 36 [some (.ref a0), some (.int p1), some (.int x29), some (.int b3), none, none, none, none] [] rfl rfl ?_
      refine z_xN zt149 16 rfl rfl (fun (x31 : Int32) (h32 : x31.toInt = b3.toInt + 1) => ?_) (z_pAdd rfl rfl (by omega) (by omega))
      show z_ev (d + 2) 149 39 [some (.ref a0), some (.int p1), some (.int x29), some (.int x31), none, none, none, none] [] M16 _
      refine z_xP zt149 17 4 [some (.ref a0), some (.int p1), some (.int x29), some (.int x31), none, none, none, none] [] rfl rfl ?_
      have eb : x31.toInt.toNat = b3.toInt.toNat + 1 := by omega
      have ebn : b3.toNatClampNeg = b3.toInt.toNat := rfl
      rw [ebn] at h3_ hy2
      have hsame : ∀ b', b' < b3.toInt.toNat → z_Lg M16 fb b' = z_Lg M fb b' := fun b' h => by
        rw [h3_]
        show (if b' = b3.toInt.toNat then y13 else z_Lg M fb b') = _
        exact if_neg (by omega)
      have hthis : z_Lg M16 fb b3.toInt.toNat = y13 := by
        rw [h3_]
        show (if b3.toInt.toNat = b3.toInt.toNat then y13 else z_Lg M fb b3.toInt.toNat) = _
        exact if_pos rfl
      refine ih.1 M16 x29 x31 X17 ⟨by omega, by omega⟩ (by omega) ?_ (fun b' h => ?_) (by omega)
      · rw [eb]
        show x29.toInt = ((z_sm (z_Lg M16 fb) b3.toInt.toNat + z_pcs 8 (z_un (z_Lg M16 fb b3.toInt.toNat)) : Nat) : Int)
        rw [z_sm_eq _ hsame, hy2]
        omega
      · by_cases e : b' = b3.toInt.toNat
        · rw [e, hthis]; exact hy
        · rw [hsame b' (by omega)]; exact hK b' (by omega)
    · skip
      intro M b2 b3 b4 o5 o7 X hh0 hh1 hh2 hb hM hF hN hL hE
      have g0 := X.1.p2 k0
      refine z_xP zt149 23 58 [some (.ref a0), some (.int p1), some (.int b2), some (.int b3), some (.int b4), o5, none, o7] [.ref a0, .int b4] rfl rfl ?_
      refine z_xgI zt149 24 rfl zo149 zzf2_35 X k0 (by decide) (by decide) rfl (fun (x2 : Int32) h1 (h3 : ((z_bl q : Nat) : Int) ≤ x2.toInt) (h4 : x2.toInt ≤ ((z_bl q : Nat) : Int)) => ?_)
      refine z_xJ zt149 25 rfl rfl (fun (h5 : x2.toInt ≤ b4.toInt) => ?_) (fun (h5 : b4.toInt < x2.toInt) => ?_)
      · skip
        refine z_xP zt149 55 138 [some (.ref a0), some (.int p1), some (.int b2), some (.int b3), some (.int b4), o5, none, o7] [.int b2] rfl rfl ?_
        exact z_xri zt149 56 rfl zzr149 (kk b2 M X hM (fun _ => ⟨hF, z_lsQ z_blq2 (by rw [show b4.toInt.toNat = z_bl q by omega] at hL; exact hL)⟩))
      refine z_xP zt149 26 65 [some (.ref a0), some (.int p1), some (.int b2), some (.int b3), some (.int b4), o5, none, o7] [.ref a0] rfl rfl ?_
      refine z_xgv zt149 27 rfl zo149 zzf2_47 X k0 (by decide) (X.2.f k0 (by decide) hfb) ?_
      refine z_xP zt149 28 70 [some (.ref a0), some (.int p1), some (.int b2), some (.int b3), some (.int b4), o5, none, o7] [.int b4, .ref fb] rfl rfl ?_
      refine z_xllv zt149 29 rfl X kfb (by decide) (by omega) (by omega) (fun (y9 : Int64) hy => ?_)
      refine z_xP zt149 30 76 [some (.ref a0), some (.int p1), some (.int b2), some (.int b3), some (.int b4), some (.long y9), none, some (.int 0)] [] rfl rfl ?_
      have q0 : ((0 : Int32)).toInt = 0 := rfl
      have h10 := z_b32 b2
      exact ih.2.2 M b2 b3 b4 y9 (0) X ⟨by omega, by omega⟩ ⟨by omega, by omega⟩ ⟨by omega, by omega⟩ (by decide) (by omega) hM hF (z_lfI0 hF hD (by omega) hy hN hL) (by omega)
    · skip
      intro M b2 b3 b4 b5 b7 X hh0 hh1 hh2 hh3 hh4 hM hF hI hE
      have g0 := X.1.p2 k0
      refine z_xP zt149 31 80 [some (.ref a0), some (.int p1), some (.int b2), some (.int b3), some (.int b4), some (.long b5), none, some (.int b7)] [.int 12, .int b7] rfl rfl ?_
      refine z_xJ zt149 32 rfl rfl (fun (h1 : 12 ≤ b7.toInt) => ?_) (fun (h1 : b7.toInt < 12) => ?_)
      · skip
        refine z_xN zt149 53 rfl rfl (fun (x2 : Int32) (h3 : x2.toInt = b4.toInt + 1) => ?_) (z_pAdd rfl rfl (by omega) (by omega))
        show z_ev (d + 2) 149 134 [some (.ref a0), some (.int p1), some (.int b2), some (.int b3), some (.int x2), some (.long b5), none, some (.int b7)] [] M _
        refine z_xP zt149 54 55 [some (.ref a0), some (.int p1), some (.int b2), some (.int b3), some (.int x2), some (.long b5), none, some (.int b7)] [] rfl rfl ?_
        have h4 := z_b32 b2
        have hq := z_lc_mono (z_dB B t q p1.toInt.toNat) (64 * (b4.toInt.toNat + 1)) (64 * z_bl q) (by omega)
        rw [z_lcQ hD z_blq2] at hq
        obtain ⟨hn1, hn2⟩ := z_lfE hI (Or.inl (by omega)) (by omega)
        rw [show b4.toInt.toNat + 1 = x2.toInt.toNat by omega] at hn1 hn2
        exact ih.2.1 M b2 b3 x2 (some (.long b5)) (some (.int b7)) X ⟨by omega, by omega⟩ ⟨by omega, by omega⟩ ⟨by omega, by omega⟩ (by omega) hM hF hn1 hn2 (by omega)
      refine z_xP zt149 33 86 [some (.ref a0), some (.int p1), some (.int b2), some (.int b3), some (.int b4), some (.long b5), none, some (.int b7)] [.long 0, .long b5] rfl rfl ?_
      refine z_xI zt149 34 rfl rfl (fun (x5 : Int32) (h6 : (x5.toInt < 0 ∧ b5.toInt < 0) ∨ (x5.toInt = 0 ∧ b5.toInt = 0) ∨ (0 < x5.toInt ∧ 0 < b5.toInt)) => ?_) (z_qCmp rfl rfl)
      refine z_xZ zt149 35 rfl rfl (fun (h7 : x5.toInt = 0) => ?_) (fun (h7 : x5.toInt ≠ 0) => ?_)
      · skip
        refine z_xN zt149 53 rfl rfl (fun (x8 : Int32) (h9 : x8.toInt = b4.toInt + 1) => ?_) (z_pAdd rfl rfl (by omega) (by omega))
        show z_ev (d + 2) 149 134 [some (.ref a0), some (.int p1), some (.int b2), some (.int b3), some (.int x8), some (.long b5), none, some (.int b7)] [] M _
        refine z_xP zt149 54 55 [some (.ref a0), some (.int p1), some (.int b2), some (.int b3), some (.int x8), some (.long b5), none, some (.int b7)] [] rfl rfl ?_
        have h10 := z_b32 b2
        have hq := z_lc_mono (z_dB B t q p1.toInt.toNat) (64 * (b4.toInt.toNat + 1)) (64 * z_bl q) (by omega)
        rw [z_lcQ hD z_blq2] at hq
        obtain ⟨hn1, hn2⟩ := z_lfE hI (Or.inr (Or.inl (by omega))) (by omega)
        rw [show b4.toInt.toNat + 1 = x8.toInt.toNat by omega] at hn1 hn2
        exact ih.2.1 M b2 b3 x8 (some (.long b5)) (some (.int b7)) X ⟨by omega, by omega⟩ ⟨by omega, by omega⟩ ⟨by omega, by omega⟩ (by omega) hM hF hn1 hn2 (by omega)
      refine z_xP zt149 36 93 [some (.ref a0), some (.int p1), some (.int b2), some (.int b3), some (.int b4), some (.long b5), none, some (.int b7)] [.int 12, .int b3] rfl rfl ?_
      refine z_xJ zt149 37 rfl rfl (fun (h11 : 12 ≤ b3.toInt) => ?_) (fun (h11 : b3.toInt < 12) => ?_)
      · skip
        refine z_xN zt149 53 rfl rfl (fun (x12 : Int32) (h13 : x12.toInt = b4.toInt + 1) => ?_) (z_pAdd rfl rfl (by omega) (by omega))
        show z_ev (d + 2) 149 134 [some (.ref a0), some (.int p1), some (.int b2), some (.int b3), some (.int x12), some (.long b5), none, some (.int b7)] [] M _
        refine z_xP zt149 54 55 [some (.ref a0), some (.int p1), some (.int b2), some (.int b3), some (.int x12), some (.long b5), none, some (.int b7)] [] rfl rfl ?_
        have h14 := z_b32 b2
        have hq := z_lc_mono (z_dB B t q p1.toInt.toNat) (64 * (b4.toInt.toNat + 1)) (64 * z_bl q) (by omega)
        rw [z_lcQ hD z_blq2] at hq
        obtain ⟨hn1, hn2⟩ := z_lfE hI (Or.inr (Or.inr (by omega))) (by omega)
        rw [show b4.toInt.toNat + 1 = x12.toInt.toNat by omega] at hn1 hn2
        exact ih.2.1 M b2 b3 x12 (some (.long b5)) (some (.int b7)) X ⟨by omega, by omega⟩ ⟨by omega, by omega⟩ ⟨by omega, by omega⟩ (by omega) hM hF hn1 hn2 (by omega)
      refine z_xP zt149 38 97 [some (.ref a0), some (.int p1), some (.int b2), some (.int b3), some (.int b4), some (.long b5), none, some (.int b7)] [.ref a0] rfl rfl ?_
      refine z_xgv zt149 39 rfl zo149 zzf2_9 X k0 (by decide) (X.2.f k0 (by decide) hfw) ?_
      refine z_xP zt149 40 105 [some (.ref a0), some (.int p1), some (.int b2), some (.int b3), some (.int b4), some (.long b5), none, some (.int b7)] [.int 6, .int b4, .int b3, .ref fw] rfl rfl ?_
      refine z_xI zt149 41 rfl rfl (fun (x18 : Int32) (h19 : x18.toInt = b4.toInt * 64) => ?_) (z_pShl 6 rfl rfl (by decide) (by decide) (by omega) rfl (by omega))
      refine z_xP zt149 42 108 [some (.ref a0), some (.int p1), some (.int b2), some (.int b3), some (.int b4), some (.long b5), none, some (.int b7)] [.long b5, .int x18, .int b3, .ref fw] rfl rfl ?_
      refine z_xcS (vs := [.long b5]) (r := [.int x18, .int b3, .ref fw]) (L2 := [some (.long b5), none, none]) zt149 43 rfl zo149 zzcS2_116 (Or.inl rfl) (Nat.le_of_ble_eq_true rfl) rfl rfl (Nat.le_of_ble_eq_true rfl) zzm150 (Nat.le_of_ble_eq_true rfl) rfl ?_
      refine zX150 (by omega) (fun x20 h21 h22 hr => ?_)
      show z_ev (d + 2) 149 111 [some (.ref a0), some (.int p1), some (.int b2), some (.int b3), some (.int b4), some (.long b5), none, some (.int b7)] [.int x20, .int x18, .int b3, .ref fw] M _
      refine z_xI zt149 44 rfl rfl (fun (x23 : Int32) (h24 : x23.toInt = x18.toInt + x20.toInt) => ?_) (z_pAdd rfl rfl (by omega) (by omega))
      refine z_xis zt149 45 rfl X kfw (by decide) (X.1.g4 kfw (by decide)) (by omega) (by omega) (by omega) (by omega) (by decide) (fun M25 X26 e27 h28 => ?_)
      refine z_xN zt149 46 rfl rfl (fun (x29 : Int32) (h30 : x29.toInt = b3.toInt + 1) => ?_) (z_pAdd rfl rfl (by omega) (by omega))
      show z_ev (d + 2) 149 116 [some (.ref a0), some (.int p1), some (.int b2), some (.int x29), some (.int b4), some (.long b5), none, some (.int b7)] [] M25 _
      refine z_xP zt149 47 121 [some (.ref a0), some (.int p1), some (.int b2), some (.int x29), some (.int b4), some (.long b5), none, some (.int b7)] [.long 1, .long b5, .long b5] rfl rfl ?_
      refine z_xL zt149 48 rfl rfl (fun (y31 : Int64) (hy1 : y31 = b5 - 1) => ?_) rfl
      refine z_xL zt149 49 rfl rfl (fun (y33 : Int64) (hy3 : y33 = b5 &&& y31) => ?_) rfl
      refine z_xP zt149 50 125 [some (.ref a0), some (.int p1), some (.int b2), some (.int x29), some (.int b4), some (.long y33), none, some (.int b7)] [] rfl rfl ?_
      refine z_xN zt149 51 rfl rfl (fun (x35 : Int32) (h36 : x35.toInt = b7.toInt + 1) => ?_) (z_pAdd rfl rfl (by omega) (by omega))
      show z_ev (d + 2) 149 128 [some (.ref a0), some (.int p1), some (.int b2), some (.int x29), some (.int b4), some (.long y33), none, some (.int x35)] [] M25 _
      refine z_xP zt149 52 76 [some (.ref a0), some (.int p1), some (.int b2), some (.int x29), some (.int b4), some (.long y33), none, some (.int x35)] [] rfl rfl ?_
      have h37 := z_b32 b2
      rw [← e27.lg kfb (by decide)] at hF
      exact ih.2.2 M25 b2 x29 b4 y33 x35 X26 ⟨by omega, by omega⟩ ⟨by omega, by omega⟩ ⟨by omega, by omega⟩ ⟨by omega, by omega⟩ (by omega) hM hF (z_lfS hI hr h21 h22 hy1 hy3 (by omega) h28 (by omega) (by omega)) (by omega)
theorem zUC149 {T : List zK} {d : Nat} {K : Option Value → zH → Prop} {a0 : Nat} {q : Nat} {t : Nat} {m : Nat} {p1 : Int32} {B : Nat → Nat} {w : Int64} {kp fb fw : Nat} {M0 : zH} (hW : z_W M0 T) (k0 : T[a0]? = some (.inl (2, q, t, m, 0))) (u1 : 0 ≤ p1.toInt ∧ p1.toInt ≤ 255) (h7 : z_F M0 a0 7 = some (.long w)) (hw : z_whb q w) (h8_ : z_F M0 a0 8 = some (.ref kp)) (k8_ : T[kp]? = some (.inr (108, 1, t * z_bl q, 0, 0))) (hkb : z_tbt B t q (z_bl q) (z_Lg M0 kp)) (hfb : z_F M0 a0 12 = some (.ref fb)) (kfb : T[fb]? = some (.inr (112, 1, z_bl q, 0, 0))) (hfw : z_F M0 a0 13 = some (.ref fw)) (kfw : T[fw]? = some (.inr (113, 0, 12, 0, 64 * ((z_bl q : Nat) : Int) - 1))) (kk : ∀ (x : Int32) (M1 : zH), z_X T zw149 M0 M1 → x.toInt = ((z_lc (z_dB B t q p1.toInt.toNat) (2 ^ q) : Nat) : Int) → (x.toInt ≤ 12 → z_lwb (z_dB B t q p1.toInt.toNat) q (z_bl q) (z_Lg M1 fb) ∧ z_LS (z_dB B t q p1.toInt.toNat) (2 ^ q) (z_Ar M1 fw)) → K (some (.int x)) M1) : z_ev (d + 2) 149 0 [some (.ref a0), some (.int p1), none, none, none, none, none, none] [] M0 K := by
  have X : z_X T zw149 M0 M0 := .refl hW
  have g0 := X.1.p2 k0
  refine z_xP zt149 0 4 [some (.ref a0), some (.int p1), some (.int 0), some (.int 0), none, none, none, none] [] rfl rfl ?_
  have q0 : ((0 : Int32)).toInt = 0 := rfl
  exact (zUB149 k0 u1 h7 hw h8_ k8_ hkb hfb kfb hfw kfw kk 3536).1 M0 (0) (0) X (by decide) (by omega) rfl (fun b hb => absurd hb (by show ¬ b < 0; omega)) (by omega)
