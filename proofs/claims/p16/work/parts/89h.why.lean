/-! why of both sides -/
theorem zUB51 {T : List zK} {d : Nat} {K : Option Value → zH → Prop} {a0 : Nat} {q : Nat} {t : Nat} {m : Nat} {p1 : Int32} {uy un pr en : Nat} {B : Nat → Nat} {M0 : zH} (k0 : T[a0]? = some (.inl (2, q, t, m, 0))) (u1 : 0 ≤ p1.toInt ∧ p1.toInt ≤ 1048575) (hag : z_AGO T M0 a0 q t m pr en B) (hd : p1.toInt = (uy : Int) + 1024 * (un : Int) ∧ uy < 1024 ∧ un < 1024) (hu : uy < 2 ^ q ∧ un < 2 ^ q) (hno : ¬ z_cs B q uy un) (hdj : ∀ k, uy / 2 ^ k % 2 = 1 → un / 2 ^ k % 2 = 0) (kk : ∀ (x : Int32) (M1 : zH), z_X T zw51 M0 M1 → 0 ≤ x.toInt → x.toInt ≤ 1048575 → z_smf B q p1.toInt.toNat x.toInt.toNat → K (some (.int x)) M1) : ∀ n : Nat, (∀ (M : zH) (b2 : Int32) (b3 : Int32) (b4 : Int32) (b5 : Int32) (o6 : Option Value), z_X T zw51 M0 M → 0 ≤ b2.toInt ∧ b2.toInt ≤ 1048575 → 0 ≤ b3.toInt ∧ b3.toInt ≤ 63 → 0 ≤ b4.toInt ∧ b4.toInt ≤ 1048575 → 0 ≤ b5.toInt ∧ b5.toInt ≤ 1024 → z_sfi B q p1.toInt.toNat b5.toInt.toNat b4.toInt.toNat b2.toInt.toNat b3.toInt.toNat → ((0) * 2 + 0) * 1025 + (1024 - b5.toInt) < (n : Int) → z_ev (d + 3) 51 13 [some (.ref a0), some (.int p1), some (.int b2), some (.int b3), some (.int b4), some (.int b5), o6] [] M K) := by
  intro n
  induction n with
  | zero => exact by intros; exfalso; omega
  | succ n ih =>
    intro M b2 b3 b4 b5 o6 X hh0 hh1 hh2 hh3 hI hE
    have g0 := X.1.p2 k0
    refine z_xP zt51 3 16 [some (.ref a0), some (.int p1), some (.int b2), some (.int b3), some (.int b4), some (.int b5), o6] [.ref a0, .int b5] rfl rfl ?_
    refine z_xgI zt51 4 rfl zo51 zzf2_32 X k0 (by decide) (by decide) rfl (fun (x2 : Int32) h1 (h3 : ((z_po q : Nat) : Int) - 1 ≤ x2.toInt) (h4 : x2.toInt ≤ ((z_po q : Nat) : Int) - 1) => ?_)
    refine z_xJ zt51 5 rfl rfl (fun (h5 : x2.toInt < b5.toInt) => ?_) (fun (h5 : b5.toInt ≤ x2.toInt) => ?_)
    · skip
      refine z_xP zt51 23 71 [some (.ref a0), some (.int p1), some (.int b2), some (.int b3), some (.int b4), some (.int b5), o6] [.int b2] rfl rfl ?_
      have he6 : b4.toInt.toNat = p1.toInt.toNat ∨ 2 ^ q ≤ b5.toInt.toNat := by first | exact Or.inl (by omega) | exact Or.inr (by unfold z_po at *; generalize (2 : Nat) ^ q = P at *; omega)
      exact z_xri zt51 24 rfl zzr51 (kk b2 M X (by omega) (by omega) (z_sfiE (m := q) hI (by omega) he6 (z_ct_q (by omega) hd.2.1 hdj hu)))
    refine z_xP zt51 6 25 [some (.ref a0), some (.int p1), some (.int b2), some (.int b3), some (.int b4), some (.int b5), o6] [.int p1, .int b4] rfl rfl ?_
    refine z_xJ zt51 7 rfl rfl (fun (h7 : b4.toInt = p1.toInt) => ?_) (fun (h7 : b4.toInt ≠ p1.toInt) => ?_)
    · skip
      refine z_xP zt51 23 71 [some (.ref a0), some (.int p1), some (.int b2), some (.int b3), some (.int b4), some (.int b5), o6] [.int b2] rfl rfl ?_
      have he8 : b4.toInt.toNat = p1.toInt.toNat ∨ 2 ^ q ≤ b5.toInt.toNat := by first | exact Or.inl (by omega) | exact Or.inr (by unfold z_po at *; generalize (2 : Nat) ^ q = P at *; omega)
      exact z_xri zt51 24 rfl zzr51 (kk b2 M X (by omega) (by omega) (z_sfiE (m := q) hI (by omega) he8 (z_ct_q (by omega) hd.2.1 hdj hu)))
    refine z_xP zt51 8 30 [some (.ref a0), some (.int p1), some (.int b2), some (.int b3), some (.int b4), some (.int b5), o6] [.int b4] rfl rfl ?_
    refine z_xcS (vs := [.int b4]) (r := []) (L2 := [some (.int b4)]) zt51 9 rfl zo51 zzcS2_86 (Or.inl rfl) (Nat.le_of_ble_eq_true rfl) rfl rfl (Nat.le_of_ble_eq_true rfl) zzm31 (Nat.le_of_ble_eq_true rfl) rfl ?_
    refine zUC31 X.1 (by omega) (fun x12 M9 X10 h13 h14 h11 => ?_)
    have X15 := X.go X10 (z_sb (by decide))
    show z_ev (d + 3) 51 33 [some (.ref a0), some (.int p1), some (.int b2), some (.int b3), some (.int b4), some (.int b5), o6] [.int x12] M9 _
    refine z_xP zt51 10 38 [some (.ref a0), some (.int p1), some (.int b2), some (.int b3), some (.int b4), some (.int b5), some (.int x12)] [.int b3, .int x12] rfl rfl ?_
    refine z_xJ zt51 11 rfl rfl (fun (h17 : b3.toInt ≤ x12.toInt) => ?_) (fun (h17 : x12.toInt < b3.toInt) => ?_)
    · skip
      refine z_xP zt51 16 59 [some (.ref a0), some (.int p1), some (.int b2), some (.int b3), some (.int b4), some (.int b5), some (.int x12)] [.int p1, .int b4] rfl rfl ?_
      refine z_xI zt51 17 rfl rfl (fun (x18 : Int32) (h19 : x18.toInt = b4.toInt - p1.toInt) => ?_) (z_pSub rfl rfl (by omega) (by omega))
      refine z_xP zt51 18 61 [some (.ref a0), some (.int p1), some (.int b2), some (.int b3), some (.int b4), some (.int b5), some (.int x12)] [.int p1, .int x18] rfl rfl ?_
      refine z_xI zt51 19 rfl rfl (fun (x20 : Int32) (h21 : x20 = x18 &&& p1 ∧ 0 ≤ x20.toInt ∧ x20.toInt ≤ p1.toInt) => ?_) (⟨rfl, z_pAnd rfl (by omega)⟩)
      refine z_xP zt51 20 64 [some (.ref a0), some (.int p1), some (.int b2), some (.int b3), some (.int x20), some (.int b5), some (.int x12)] [] rfl rfl ?_
      refine z_xN zt51 21 rfl rfl (fun (x22 : Int32) (h23 : x22.toInt = b5.toInt + 1) => ?_) (z_pAdd rfl rfl (by omega) (by omega))
      show z_ev (d + 3) 51 67 [some (.ref a0), some (.int p1), some (.int b2), some (.int b3), some (.int x20), some (.int x22), some (.int x12)] [] M9 _
      refine z_xP zt51 22 13 [some (.ref a0), some (.int p1), some (.int b2), some (.int b3), some (.int x20), some (.int x22), some (.int x12)] [] rfl rfl ?_
      have i24 : x22.toInt.toNat = b5.toInt.toNat + 1 := by omega
      exact ih M9 b2 b3 x20 x22 (some (.int x12)) X15 ⟨by omega, by omega⟩ ⟨by omega, by omega⟩ ⟨by omega, by omega⟩ ⟨by omega, by omega⟩ (by rw [i24]; exact z_sfiB2 hI (by omega) (by omega) (by omega) (by omega) h19 h21.1 (f2 := x12.toInt.toNat) (by omega) (Or.inl (by omega))) (by omega)
    refine z_xP zt51 12 44 [some (.ref a0), some (.int p1), some (.int b2), some (.int b3), some (.int b4), some (.int b5), some (.int x12)] [.int b4, .ref a0] rfl rfl ?_
    refine z_xcV (vs := [.ref a0, .int b4]) (r := []) (L2 := [some (.ref a0), some (.int b4), none]) zt51 13 rfl zo51 zzcV2_91 (Or.inl rfl) rfl X15 k0 rfl rfl rfl (Nat.le_of_ble_eq_true rfl) zzm44 (Nat.le_of_ble_eq_true rfl) rfl ?_
    have hs25 : z_pof b4.toInt.toNat (uy + 1024 * un) := by have h := (z_sfi_p hI (by omega) (by omega)).1; rw [show p1.toInt.toNat = uy + 1024 * un from by omega] at h; exact h
    refine zUC44 X15.1 k0 (hag.ke (fun _ _ h => h) X15.2 rfl) (show b4.toInt = ((b4.toInt.toNat % 1024 : Nat) : Int) + 1024 * ((b4.toInt.toNat / 1024 : Nat) : Int) ∧ b4.toInt.toNat % 1024 < 1024 ∧ b4.toInt.toNat / 1024 < 1024 from ⟨by omega, by omega, by omega⟩) ⟨Nat.lt_of_le_of_lt (hs25.lo hd.2.1).le hu.1, Nat.lt_of_le_of_lt (hs25.hi hd.2.1).le hu.2⟩ (fun x29 M26 X27 h30 h31 h28 => ?_)
    have X32 := X15.go X27 (z_sb (by decide))
    show z_ev (d + 3) 51 47 [some (.ref a0), some (.int p1), some (.int b2), some (.int b3), some (.int b4), some (.int b5), some (.int x12)] [.int x29] M26 _
    refine z_xZ zt51 14 rfl rfl (fun (h34 : x29.toInt ≠ 0) => ?_) (fun (h34 : x29.toInt = 0) => ?_)
    · skip
      refine z_xP zt51 16 59 [some (.ref a0), some (.int p1), some (.int b2), some (.int b3), some (.int b4), some (.int b5), some (.int x12)] [.int p1, .int b4] rfl rfl ?_
      refine z_xI zt51 17 rfl rfl (fun (x35 : Int32) (h36 : x35.toInt = b4.toInt - p1.toInt) => ?_) (z_pSub rfl rfl (by omega) (by omega))
      refine z_xP zt51 18 61 [some (.ref a0), some (.int p1), some (.int b2), some (.int b3), some (.int b4), some (.int b5), some (.int x12)] [.int p1, .int x35] rfl rfl ?_
      refine z_xI zt51 19 rfl rfl (fun (x37 : Int32) (h38 : x37 = x35 &&& p1 ∧ 0 ≤ x37.toInt ∧ x37.toInt ≤ p1.toInt) => ?_) (⟨rfl, z_pAnd rfl (by omega)⟩)
      refine z_xP zt51 20 64 [some (.ref a0), some (.int p1), some (.int b2), some (.int b3), some (.int x37), some (.int b5), some (.int x12)] [] rfl rfl ?_
      refine z_xN zt51 21 rfl rfl (fun (x39 : Int32) (h40 : x39.toInt = b5.toInt + 1) => ?_) (z_pAdd rfl rfl (by omega) (by omega))
      show z_ev (d + 3) 51 67 [some (.ref a0), some (.int p1), some (.int b2), some (.int b3), some (.int x37), some (.int x39), some (.int x12)] [] M26 _
      refine z_xP zt51 22 13 [some (.ref a0), some (.int p1), some (.int b2), some (.int b3), some (.int x37), some (.int x39), some (.int x12)] [] rfl rfl ?_
      have i41 : x39.toInt.toNat = b5.toInt.toNat + 1 := by omega
      exact ih M26 b2 b3 x37 x39 (some (.int x12)) X32 ⟨by omega, by omega⟩ ⟨by omega, by omega⟩ ⟨by omega, by omega⟩ ⟨by omega, by omega⟩ (by rw [i41]; exact z_sfiB2 hI (by omega) (by omega) (by omega) (by omega) h36 h38.1 (f2 := x12.toInt.toNat) (by omega) (Or.inr fun hn => hn (z_or1 h28 (by omega)))) (by omega)
    refine z_xP zt51 15 56 [some (.ref a0), some (.int p1), some (.int b4), some (.int x12), some (.int b4), some (.int b5), some (.int x12)] [] rfl rfl ?_
    refine z_xP zt51 16 59 [some (.ref a0), some (.int p1), some (.int b4), some (.int x12), some (.int b4), some (.int b5), some (.int x12)] [.int p1, .int b4] rfl rfl ?_
    refine z_xI zt51 17 rfl rfl (fun (x42 : Int32) (h43 : x42.toInt = b4.toInt - p1.toInt) => ?_) (z_pSub rfl rfl (by omega) (by omega))
    refine z_xP zt51 18 61 [some (.ref a0), some (.int p1), some (.int b4), some (.int x12), some (.int b4), some (.int b5), some (.int x12)] [.int p1, .int x42] rfl rfl ?_
    refine z_xI zt51 19 rfl rfl (fun (x44 : Int32) (h45 : x44 = x42 &&& p1 ∧ 0 ≤ x44.toInt ∧ x44.toInt ≤ p1.toInt) => ?_) (⟨rfl, z_pAnd rfl (by omega)⟩)
    refine z_xP zt51 20 64 [some (.ref a0), some (.int p1), some (.int b4), some (.int x12), some (.int x44), some (.int b5), some (.int x12)] [] rfl rfl ?_
    refine z_xN zt51 21 rfl rfl (fun (x46 : Int32) (h47 : x46.toInt = b5.toInt + 1) => ?_) (z_pAdd rfl rfl (by omega) (by omega))
    show z_ev (d + 3) 51 67 [some (.ref a0), some (.int p1), some (.int b4), some (.int x12), some (.int x44), some (.int x46), some (.int x12)] [] M26 _
    refine z_xP zt51 22 13 [some (.ref a0), some (.int p1), some (.int b4), some (.int x12), some (.int x44), some (.int x46), some (.int x12)] [] rfl rfl ?_
    have i48 : x46.toInt.toNat = b5.toInt.toNat + 1 := by omega
    exact ih M26 b4 x12 x44 x46 (some (.int x12)) X32 ⟨by omega, by omega⟩ ⟨by omega, by omega⟩ ⟨by omega, by omega⟩ ⟨by omega, by omega⟩ (by rw [i48]; exact z_sfiA2 hI (by omega) (by omega) (by omega) (by omega) h43 h45.1 (f2 := x12.toInt.toNat) (by omega) (by omega) (z_orn h28 (by omega))) (by omega)
theorem zUC51 {T : List zK} {d : Nat} {K : Option Value → zH → Prop} {a0 : Nat} {q : Nat} {t : Nat} {m : Nat} {p1 : Int32} {uy un pr en : Nat} {B : Nat → Nat} {M0 : zH} (hW : z_W M0 T) (k0 : T[a0]? = some (.inl (2, q, t, m, 0))) (u1 : 0 ≤ p1.toInt ∧ p1.toInt ≤ 1048575) (hag : z_AGO T M0 a0 q t m pr en B) (hd : p1.toInt = (uy : Int) + 1024 * (un : Int) ∧ uy < 1024 ∧ un < 1024) (hu : uy < 2 ^ q ∧ un < 2 ^ q) (hno : ¬ z_cs B q uy un) (hdj : ∀ k, uy / 2 ^ k % 2 = 1 → un / 2 ^ k % 2 = 0) (kk : ∀ (x : Int32) (M1 : zH), z_X T zw51 M0 M1 → 0 ≤ x.toInt → x.toInt ≤ 1048575 → z_smf B q p1.toInt.toNat x.toInt.toNat → K (some (.int x)) M1) : z_ev (d + 3) 51 0 [some (.ref a0), some (.int p1), none, none, none, none, none] [] M0 K := by
  have X : z_X T zw51 M0 M0 := .refl hW
  have g0 := X.1.p2 k0
  refine z_xP zt51 0 3 [some (.ref a0), some (.int p1), some (.int p1), none, none, none, none] [.int p1] rfl rfl ?_
  refine z_xcS (vs := [.int p1]) (r := []) (L2 := [some (.int p1)]) zt51 1 rfl zo51 zzcS2_86 (Or.inl rfl) (Nat.le_of_ble_eq_true rfl) rfl rfl (Nat.le_of_ble_eq_true rfl) zzm31 (Nat.le_of_ble_eq_true rfl) rfl ?_
  refine zUC31 X.1 (by omega) (fun x4 M1 X2 h5 h6 h3 => ?_)
  have X7 := X.go X2 (z_sb (by decide))
  show z_ev (d + 3) 51 6 [some (.ref a0), some (.int p1), some (.int p1), none, none, none, none] [.int x4] M1 _
  refine z_xP zt51 2 13 [some (.ref a0), some (.int p1), some (.int p1), some (.int x4), some (.int 0), some (.int 0), none] [] rfl rfl ?_
  have q0 : ((0 : Int32)).toInt = 0 := rfl
  exact (zUB51 k0 u1 hag hd hu hno hdj kk 2050) M1 p1 x4 (0) (0) none X7 ⟨by omega, by omega⟩ ⟨by omega, by omega⟩ (by decide) (by decide) (z_sfi0 (i0 := 0) (p0 := 0) rfl rfl (by omega) (by unfold z_fal; rw [show p1.toInt.toNat % 1024 = uy from by omega, show p1.toInt.toNat / 1024 = un from by omega]; exact hno)) (by omega)
theorem zUC50 {T : List zK} {d : Nat} {K : Option Value → zH → Prop} {p1 : Int32} {p2 : Int32} {p3 : Int32} {M0 : zH} (hW : z_W M0 T) (hR6 : z_R6 T M0) (hG : z_GG T M0) (kk : ∀ (x : Int32) (M1 : zH), z_X T zw50 M0 M1 → (-2) ≤ x.toInt → x.toInt ≤ 1048575 → z_qA T M0 p1 x.toInt (fun q t m pr en B => (x.toInt = -1 ∧ ¬ z_ans q p2 p3) ∨ (z_ans q p2 p3 ∧ ((x.toInt = -2 ∧ z_cs B q p2.toInt.toNat p3.toInt.toNat) ∨ (¬ z_cs B q p2.toInt.toNat p3.toInt.toNat ∧ 0 ≤ x.toInt ∧ z_smf B q (p2.toInt.toNat + 1024 * p3.toInt.toNat) x.toInt.toNat)))) → K (some (.int x)) M1) : z_ev (d + 4) 50 0 [some (.ref 4), some (.int p1), some (.int p2), some (.int p3), none, none] [] M0 K := by
  have X : z_X T zw50 M0 M0 := .refl hW
  refine z_xP zt50 0 2 [some (.ref 4), some (.int p1), some (.int p2), some (.int p3), none, none] [.int p1, .ref 4] rfl rfl ?_
  have f4 : T[4]? = some (.inl (0, 0, 0, 0, 0)) := X.1.k rfl (by decide)
  refine z_xcV (vs := [.ref 4, .int p1]) (r := []) (L2 := [some (.ref 4), some (.int p1)]) zt50 1 rfl zo50 zzcV0_108 (Or.inl rfl) rfl X f4 rfl rfl rfl (Nat.le_of_ble_eq_true rfl) zzm37 (Nat.le_of_ble_eq_true rfl) rfl ?_
  refine z_xP zt37 0 1 [some (.ref 4), some (.int p1)] [.int p1] rfl rfl ?_
  refine z_xZ zt37 1 rfl rfl (fun (h1 : p1.toInt < 0) => ?_) (fun (h1 : 0 ≤ p1.toInt) => ?_)
  · skip
    refine z_xP zt37 5 25 [some (.ref 4), some (.int p1)] [.null] rfl rfl ?_
    refine z_xrn zt37 11 rfl zzr37 ?_
    show z_ev (d + 4) 50 5 [some (.ref 4), some (.int p1), some (.int p2), some (.int p3), none, none] [.null] M0 _
    refine z_xP zt50 2 22 [some (.ref 4), some (.int p1), some (.int p2), some (.int p3), some (.null), none] [] rfl rfl ?_
    refine z_xP zt50 6 23 [some (.ref 4), some (.int p1), some (.int p2), some (.int p3), some (.null), none] [.int (-1)] rfl rfl ?_
    have qm1 : (((-1) : Int32)).toInt = (-1) := rfl
    obtain ⟨x2, h3, h4, h5⟩ := z_W.fi X.1 f4 (k := 3) (lo := 0) (hi := 8) (by decide) rfl
    have qm1 : (((-1) : Int32)).toInt = (-1) := rfl
    exact z_xri zt50 7 rfl zzr50 (kk (-1) M0 X (by omega) (by omega) (z_qA0 h3 (by omega) (by omega)))
  refine z_xP zt37 2 6 [some (.ref 4), some (.int p1)] [.ref 4, .int p1] rfl rfl ?_
  refine z_xgI zt37 3 rfl zo37 zzf0_59 X f4 (by decide) (by decide) rfl (fun (x7 : Int32) h6 (h8 : 0 ≤ x7.toInt) (h9 : x7.toInt ≤ 8) => ?_)
  have h10 := z_b32 p1
  refine z_xJ zt37 4 rfl rfl (fun (h11 : p1.toInt < x7.toInt) => ?_) (fun (h11 : x7.toInt ≤ p1.toInt) => ?_)
  · skip
    refine z_xP zt37 6 17 [some (.ref 4), some (.int p1)] [.ref 4] rfl rfl ?_
    refine z_xgX (b := 10) zt37 7 rfl zo37 zzf0_18 X f4 (by decide) (by decide) rfl ?_
    refine z_xP zt37 8 21 [some (.ref 4), some (.int p1)] [.int p1, .ref 10] rfl rfl ?_
    have f10 : T[10]? = some (.inr (10, 2, 8, 9, 0)) := X.1.k rfl (by decide)
    refine z_xal zt37 9 rfl X f10 (by decide) (by decide) (by decide) (by omega) (by omega) (fun (a12 : Nat) h13 h14 => ?_) (fun h15 => absurd h15 (z_Gs (hG.go X (by decide)).2.1 h6 (by omega) (by omega)))
    obtain ⟨q16, t17, m18, k19⟩ : ∃ q t m, T[a12]? = some (.inl (3, q, t, m, 9)) := h14
    have g20 := X.1.p3 k19
    refine z_xgR (κ := .inl (2, q16, t17, m18, 0)) zt37 10 rfl zo37 zzf0_89 X k19 (by decide) (by decide) rfl (fun (a22 : Nat) h21 k23 => ?_)
    have g24 := X.1.p2 k23
    refine z_xra zt37 11 rfl zzr37 ?_
    show z_ev (d + 4) 50 5 [some (.ref 4), some (.int p1), some (.int p2), some (.int p3), none, none] [.ref a22] M0 _
    refine z_xP zt50 2 12 [some (.ref 4), some (.int p1), some (.int p2), some (.int p3), some (.ref a22), none] [] rfl rfl ?_
    refine z_xP zt50 3 16 [some (.ref 4), some (.int p1), some (.int p2), some (.int p3), some (.ref a22), none] [.int p3, .int p2, .ref a22] rfl rfl ?_
    refine z_xcV (vs := [.ref a22, .int p2, .int p3]) (r := []) (L2 := [some (.ref a22), some (.int p2), some (.int p3)]) zt50 4 rfl zo50 zzcV0_123 (Or.inl rfl) rfl X k23 rfl rfl rfl (Nat.le_of_ble_eq_true rfl) zzm43 (Nat.le_of_ble_eq_true rfl) rfl ?_
    refine z_xP zt43 0 2 [some (.ref a22), some (.int p2), some (.int p3)] [.int p2, .ref a22] rfl rfl ?_
    refine z_xcV (vs := [.ref a22, .int p2]) (r := []) (L2 := [some (.ref a22), some (.int p2)]) zt43 1 rfl zo43 zzcV2_76 (Or.inl rfl) rfl X k23 rfl rfl rfl (Nat.le_of_ble_eq_true rfl) zzm28 (Nat.le_of_ble_eq_true rfl) rfl ?_
    refine z_xP zt28 0 1 [some (.ref a22), some (.int p2)] [.int p2] rfl rfl ?_
    refine z_xZ zt28 1 rfl rfl (fun (h25 : p2.toInt < 0) => ?_) (fun (h25 : 0 ≤ p2.toInt) => ?_)
    · skip
      refine z_xP zt28 6 17 [some (.ref a22), some (.int p2)] [.int 0] rfl rfl ?_
      refine z_xrz zt28 7 rfl zzr28 (by decide) (by decide) ?_
      show z_ev (d + 3) 43 5 [some (.ref a22), some (.int p2), some (.int p3)] [.int 0] M0 _
      refine z_xZ zt43 2 rfl rfl (fun (h26 : (0 : Int) = 0) => ?_) (fun (h26 : (0 : Int) ≠ 0) => absurd h26 (by omega))
      refine z_xP zt43 10 27 [some (.ref a22), some (.int p2), some (.int p3)] [.int 0] rfl rfl ?_
      refine z_xrz zt43 11 rfl zzr43 (by decide) (by decide) ?_
      show z_ev (d + 4) 50 19 [some (.ref 4), some (.int p1), some (.int p2), some (.int p3), some (.ref a22), none] [.int 0] M0 _
      refine z_xZ zt50 5 rfl rfl (fun (h27 : (0 : Int) ≠ 0) => absurd h27 (by omega)) (fun (h27 : (0 : Int) = 0) => ?_)
      refine z_xP zt50 6 23 [some (.ref 4), some (.int p1), some (.int p2), some (.int p3), some (.ref a22), none] [.int (-1)] rfl rfl ?_
      have qm1 : (((-1) : Int32)).toInt = (-1) := rfl
      obtain ⟨pr28, en29, B30, hAB31⟩ := hR6.at h6 (by omega) (by omega) h13 k19 h21
      have qm1 : (((-1) : Int32)).toInt = (-1) := rfl
      exact z_xri zt50 7 rfl zzr50 (kk (-1) M0 X (by omega) (by omega) (z_qA1 h6 ⟨by omega, by omega⟩ hAB31 (Or.inl ⟨by omega, (fun h => by obtain ⟨h1, h2, -⟩ := h; unfold z_po at *; omega)⟩)))
    refine z_xP zt28 2 6 [some (.ref a22), some (.int p2)] [.ref a22, .int p2] rfl rfl ?_
    refine z_xgI zt28 3 rfl zo28 zzf2_32 X k23 (by decide) (by decide) rfl (fun (x33 : Int32) h32 (h34 : ((z_po q16 : Nat) : Int) - 1 ≤ x33.toInt) (h35 : x33.toInt ≤ ((z_po q16 : Nat) : Int) - 1) => ?_)
    have h36 := z_b32 p2
    refine z_xJ zt28 4 rfl rfl (fun (h37 : x33.toInt < p2.toInt) => ?_) (fun (h37 : p2.toInt ≤ x33.toInt) => ?_)
    · skip
      refine z_xP zt28 6 17 [some (.ref a22), some (.int p2)] [.int 0] rfl rfl ?_
      refine z_xrz zt28 7 rfl zzr28 (by decide) (by decide) ?_
      show z_ev (d + 3) 43 5 [some (.ref a22), some (.int p2), some (.int p3)] [.int 0] M0 _
      refine z_xZ zt43 2 rfl rfl (fun (h38 : (0 : Int) = 0) => ?_) (fun (h38 : (0 : Int) ≠ 0) => absurd h38 (by omega))
      refine z_xP zt43 10 27 [some (.ref a22), some (.int p2), some (.int p3)] [.int 0] rfl rfl ?_
      refine z_xrz zt43 11 rfl zzr43 (by decide) (by decide) ?_
      show z_ev (d + 4) 50 19 [some (.ref 4), some (.int p1), some (.int p2), some (.int p3), some (.ref a22), none] [.int 0] M0 _
      refine z_xZ zt50 5 rfl rfl (fun (h39 : (0 : Int) ≠ 0) => absurd h39 (by omega)) (fun (h39 : (0 : Int) = 0) => ?_)
      refine z_xP zt50 6 23 [some (.ref 4), some (.int p1), some (.int p2), some (.int p3), some (.ref a22), none] [.int (-1)] rfl rfl ?_
      have qm1 : (((-1) : Int32)).toInt = (-1) := rfl
      obtain ⟨pr40, en41, B42, hAB43⟩ := hR6.at h6 (by omega) (by omega) h13 k19 h21
      have qm1 : (((-1) : Int32)).toInt = (-1) := rfl
      exact z_xri zt50 7 rfl zzr50 (kk (-1) M0 X (by omega) (by omega) (z_qA1 h6 ⟨by omega, by omega⟩ hAB43 (Or.inl ⟨by omega, (fun h => by obtain ⟨h1, h2, -⟩ := h; unfold z_po at *; omega)⟩)))
    refine z_xP zt28 5 17 [some (.ref a22), some (.int p2)] [.int 1] rfl rfl ?_
    refine z_xrz zt28 7 rfl zzr28 (by decide) (by decide) ?_
    show z_ev (d + 3) 43 5 [some (.ref a22), some (.int p2), some (.int p3)] [.int 1] M0 _
    refine z_xZ zt43 2 rfl rfl (fun (h44 : (1 : Int) = 0) => absurd h44 (by omega)) (fun (h44 : (1 : Int) ≠ 0) => ?_)
    refine z_xP zt43 3 10 [some (.ref a22), some (.int p2), some (.int p3)] [.int p3, .ref a22] rfl rfl ?_
    refine z_xcV (vs := [.ref a22, .int p3]) (r := []) (L2 := [some (.ref a22), some (.int p3)]) zt43 4 rfl zo43 zzcV2_76 (Or.inl rfl) rfl X k23 rfl rfl rfl (Nat.le_of_ble_eq_true rfl) zzm28 (Nat.le_of_ble_eq_true rfl) rfl ?_
    refine z_xP zt28 0 1 [some (.ref a22), some (.int p3)] [.int p3] rfl rfl ?_
    refine z_xZ zt28 1 rfl rfl (fun (h45 : p3.toInt < 0) => ?_) (fun (h45 : 0 ≤ p3.toInt) => ?_)
    · skip
      refine z_xP zt28 6 17 [some (.ref a22), some (.int p3)] [.int 0] rfl rfl ?_
      refine z_xrz zt28 7 rfl zzr28 (by decide) (by decide) ?_
      show z_ev (d + 3) 43 13 [some (.ref a22), some (.int p2), some (.int p3)] [.int 0] M0 _
      refine z_xZ zt43 5 rfl rfl (fun (h46 : (0 : Int) = 0) => ?_) (fun (h46 : (0 : Int) ≠ 0) => absurd h46 (by omega))
      refine z_xP zt43 10 27 [some (.ref a22), some (.int p2), some (.int p3)] [.int 0] rfl rfl ?_
      refine z_xrz zt43 11 rfl zzr43 (by decide) (by decide) ?_
      show z_ev (d + 4) 50 19 [some (.ref 4), some (.int p1), some (.int p2), some (.int p3), some (.ref a22), none] [.int 0] M0 _
      refine z_xZ zt50 5 rfl rfl (fun (h47 : (0 : Int) ≠ 0) => absurd h47 (by omega)) (fun (h47 : (0 : Int) = 0) => ?_)
      refine z_xP zt50 6 23 [some (.ref 4), some (.int p1), some (.int p2), some (.int p3), some (.ref a22), none] [.int (-1)] rfl rfl ?_
      have qm1 : (((-1) : Int32)).toInt = (-1) := rfl
      obtain ⟨pr48, en49, B50, hAB51⟩ := hR6.at h6 (by omega) (by omega) h13 k19 h21
      have qm1 : (((-1) : Int32)).toInt = (-1) := rfl
      exact z_xri zt50 7 rfl zzr50 (kk (-1) M0 X (by omega) (by omega) (z_qA1 h6 ⟨by omega, by omega⟩ hAB51 (Or.inl ⟨by omega, (fun h => by obtain ⟨h1, h2, -⟩ := h; unfold z_po at *; omega)⟩)))
    refine z_xP zt28 2 6 [some (.ref a22), some (.int p3)] [.ref a22, .int p3] rfl rfl ?_
    refine z_xgv zt28 3 rfl zo28 zzf2_32 X k23 (by decide) h32 ?_
    have h52 := z_b32 p3
    refine z_xJ zt28 4 rfl rfl (fun (h53 : x33.toInt < p3.toInt) => ?_) (fun (h53 : p3.toInt ≤ x33.toInt) => ?_)
    · skip
      refine z_xP zt28 6 17 [some (.ref a22), some (.int p3)] [.int 0] rfl rfl ?_
      refine z_xrz zt28 7 rfl zzr28 (by decide) (by decide) ?_
      show z_ev (d + 3) 43 13 [some (.ref a22), some (.int p2), some (.int p3)] [.int 0] M0 _
      refine z_xZ zt43 5 rfl rfl (fun (h54 : (0 : Int) = 0) => ?_) (fun (h54 : (0 : Int) ≠ 0) => absurd h54 (by omega))
      refine z_xP zt43 10 27 [some (.ref a22), some (.int p2), some (.int p3)] [.int 0] rfl rfl ?_
      refine z_xrz zt43 11 rfl zzr43 (by decide) (by decide) ?_
      show z_ev (d + 4) 50 19 [some (.ref 4), some (.int p1), some (.int p2), some (.int p3), some (.ref a22), none] [.int 0] M0 _
      refine z_xZ zt50 5 rfl rfl (fun (h55 : (0 : Int) ≠ 0) => absurd h55 (by omega)) (fun (h55 : (0 : Int) = 0) => ?_)
      refine z_xP zt50 6 23 [some (.ref 4), some (.int p1), some (.int p2), some (.int p3), some (.ref a22), none] [.int (-1)] rfl rfl ?_
      have qm1 : (((-1) : Int32)).toInt = (-1) := rfl
      obtain ⟨pr56, en57, B58, hAB59⟩ := hR6.at h6 (by omega) (by omega) h13 k19 h21
      have qm1 : (((-1) : Int32)).toInt = (-1) := rfl
      exact z_xri zt50 7 rfl zzr50 (kk (-1) M0 X (by omega) (by omega) (z_qA1 h6 ⟨by omega, by omega⟩ hAB59 (Or.inl ⟨by omega, (fun h => by obtain ⟨h1, h2, -⟩ := h; unfold z_po at *; omega)⟩)))
    refine z_xP zt28 5 17 [some (.ref a22), some (.int p3)] [.int 1] rfl rfl ?_
    refine z_xrz zt28 7 rfl zzr28 (by decide) (by decide) ?_
    show z_ev (d + 3) 43 13 [some (.ref a22), some (.int p2), some (.int p3)] [.int 1] M0 _
    refine z_xZ zt43 5 rfl rfl (fun (h60 : (1 : Int) = 0) => absurd h60 (by omega)) (fun (h60 : (1 : Int) ≠ 0) => ?_)
    refine z_xP zt43 6 18 [some (.ref a22), some (.int p2), some (.int p3)] [.int p3, .int p2] rfl rfl ?_
    refine z_xI zt43 7 rfl rfl (fun (x61 : Int32) (h62 : x61 = p2 &&& p3 ∧ 0 ≤ x61.toInt ∧ x61.toInt ≤ p2.toInt ∧ x61.toInt ≤ p3.toInt) => ?_) (⟨rfl, z_pAnd2 rfl rfl (by omega) (by omega)⟩)
    refine z_xZ zt43 8 rfl rfl (fun (h63 : x61.toInt ≠ 0) => ?_) (fun (h63 : x61.toInt = 0) => ?_)
    · skip
      refine z_xP zt43 10 27 [some (.ref a22), some (.int p2), some (.int p3)] [.int 0] rfl rfl ?_
      refine z_xrz zt43 11 rfl zzr43 (by decide) (by decide) ?_
      show z_ev (d + 4) 50 19 [some (.ref 4), some (.int p1), some (.int p2), some (.int p3), some (.ref a22), none] [.int 0] M0 _
      refine z_xZ zt50 5 rfl rfl (fun (h64 : (0 : Int) ≠ 0) => absurd h64 (by omega)) (fun (h64 : (0 : Int) = 0) => ?_)
      refine z_xP zt50 6 23 [some (.ref 4), some (.int p1), some (.int p2), some (.int p3), some (.ref a22), none] [.int (-1)] rfl rfl ?_
      have qm1 : (((-1) : Int32)).toInt = (-1) := rfl
      obtain ⟨pr65, en66, B67, hAB68⟩ := hR6.at h6 (by omega) (by omega) h13 k19 h21
      have qm1 : (((-1) : Int32)).toInt = (-1) := rfl
      exact z_xri zt50 7 rfl zzr50 (kk (-1) M0 X (by omega) (by omega) (z_qA1 h6 ⟨by omega, by omega⟩ hAB68 (Or.inl ⟨by omega, (fun h => absurd h.2.2 (by rw [← h62.1]; omega))⟩)))
    refine z_xP zt43 9 27 [some (.ref a22), some (.int p2), some (.int p3)] [.int 1] rfl rfl ?_
    refine z_xrz zt43 11 rfl zzr43 (by decide) (by decide) ?_
    show z_ev (d + 4) 50 19 [some (.ref 4), some (.int p1), some (.int p2), some (.int p3), some (.ref a22), none] [.int 1] M0 _
    refine z_xZ zt50 5 rfl rfl (fun (h69 : (1 : Int) ≠ 0) => ?_) (fun (h69 : (1 : Int) = 0) => absurd h69 (by omega))
    refine z_xP zt50 8 28 [some (.ref 4), some (.int p1), some (.int p2), some (.int p3), some (.ref a22), none] [.int 10, .int p3, .int p2] rfl rfl ?_
    refine z_xI zt50 9 rfl rfl (fun (x70 : Int32) (h71 : x70 = p3 <<< ((10 : Int32) &&& 31) ∧ x70.toInt = p3.toInt * 1024) => ?_) (⟨rfl, z_pShl 10 rfl rfl (by decide) (by decide) (by omega) rfl (by omega)⟩)
    refine z_xI zt50 10 rfl rfl (fun (x72 : Int32) (h73 : x72 = p2 ||| x70 ∧ 0 ≤ x72.toInt ∧ x72.toInt < 1048576 ∧ p2.toInt ≤ x72.toInt ∧ x70.toInt ≤ x72.toInt) => ?_) (⟨rfl, z_pOr 20 rfl rfl (by omega) (by omega) (by decide) (by omega) (by omega) (by decide)⟩)
    refine z_xP zt50 11 36 [some (.ref 4), some (.int p1), some (.int p2), some (.int p3), some (.ref a22), some (.int x72)] [.int x72, .ref a22] rfl rfl ?_
    refine z_xcV (vs := [.ref a22, .int x72]) (r := []) (L2 := [some (.ref a22), some (.int x72), none]) zt50 12 rfl zo50 zzcV0_126 (Or.inl rfl) rfl X k23 rfl rfl rfl (Nat.le_of_ble_eq_true rfl) zzm44 (Nat.le_of_ble_eq_true rfl) rfl ?_
    obtain ⟨pr74, en75, B76, hAB77⟩ := hR6.at h6 (by omega) (by omega) h13 k19 h21
    have ha78 : z_ans q16 p2 p3 := ⟨⟨by omega, by unfold z_po at *; omega⟩, ⟨by omega, by unfold z_po at *; omega⟩, by rw [← h62.1]; omega⟩
    have ht79 := ha78.lt (by omega)
    have ht80 := z_told ⟨ht79.1.1, ht79.1.2.1⟩ ⟨ht79.2.1, ht79.2.2.1⟩ h71.1 h73.1
    refine zUC44 X.1 k23 hAB77.2.2.2.1 ht80 ⟨ht79.1.2.2, ht79.2.2.2⟩ (fun x84 M81 X82 h85 h86 h83 => ?_)
    have X87 := X.go X82 (z_sb (by decide))
    show z_ev (d + 4) 50 39 [some (.ref 4), some (.int p1), some (.int p2), some (.int p3), some (.ref a22), some (.int x72)] [.int x84] M81 _
    refine z_xZ zt50 13 rfl rfl (fun (h89 : x84.toInt = 0) => ?_) (fun (h89 : x84.toInt ≠ 0) => ?_)
    · skip
      refine z_xP zt50 15 51 [some (.ref 4), some (.int p1), some (.int p2), some (.int p3), some (.ref a22), some (.int x72)] [.int x72, .ref a22] rfl rfl ?_
      refine z_xcV (vs := [.ref a22, .int x72]) (r := []) (L2 := [some (.ref a22), some (.int x72), none, none, none, none, none]) zt50 16 rfl zo50 zzcV0_135 (Or.inl rfl) rfl X87 k23 rfl rfl rfl (Nat.le_of_ble_eq_true rfl) zzm51 (Nat.le_of_ble_eq_true rfl) rfl ?_
      refine zUC51 X87.1 k23 (by omega) (hAB77.2.2.2.1.ke (fun _ _ h => h) X87.2 rfl) ht80 ⟨ht79.1.2.2, ht79.2.2.2⟩ (z_orn h83 (by omega)) ha78.dj (fun x93 M90 X91 h94 h95 h92 => ?_)
      have X96 := X87.go X91 (z_sb (by decide))
      show z_ev (d + 4) 50 54 [some (.ref 4), some (.int p1), some (.int p2), some (.int p3), some (.ref a22), some (.int x72)] [.int x93] M90 _
      have i98 : x72.toInt.toNat = p2.toInt.toNat + 1024 * p3.toInt.toNat := by omega
      exact z_xri zt50 17 rfl zzr50 (kk x93 M90 X96 (by omega) (by omega) (z_qA1 h6 ⟨by omega, by omega⟩ hAB77 (Or.inr ⟨ha78, Or.inr ⟨z_orn h83 (by omega), by omega, by have h := h92; rw [i98] at h; exact h⟩⟩)))
    refine z_xP zt50 14 54 [some (.ref 4), some (.int p1), some (.int p2), some (.int p3), some (.ref a22), some (.int x72)] [.int (-2)] rfl rfl ?_
    have qm2 : (((-2) : Int32)).toInt = (-2) := rfl
    have qm2 : (((-2) : Int32)).toInt = (-2) := rfl
    exact z_xri zt50 17 rfl zzr50 (kk (-2) M81 X87 (by omega) (by omega) (z_qA1 h6 ⟨by omega, by omega⟩ hAB77 (Or.inr ⟨ha78, Or.inl ⟨by omega, z_or1 h83 (by omega)⟩⟩)))
  refine z_xP zt37 5 25 [some (.ref 4), some (.int p1)] [.null] rfl rfl ?_
  refine z_xrn zt37 11 rfl zzr37 ?_
  show z_ev (d + 4) 50 5 [some (.ref 4), some (.int p1), some (.int p2), some (.int p3), none, none] [.null] M0 _
  refine z_xP zt50 2 22 [some (.ref 4), some (.int p1), some (.int p2), some (.int p3), some (.null), none] [] rfl rfl ?_
  refine z_xP zt50 6 23 [some (.ref 4), some (.int p1), some (.int p2), some (.int p3), some (.null), none] [.int (-1)] rfl rfl ?_
  have qm1 : (((-1) : Int32)).toInt = (-1) := rfl
  have qm1 : (((-1) : Int32)).toInt = (-1) := rfl
  exact z_xri zt50 7 rfl zzr50 (kk (-1) M0 X (by omega) (by omega) (z_qA0 h6 (by omega) (by omega)))
theorem zUB207 {T : List zK} {d : Nat} {K : Option Value → zH → Prop} {p0 : Int32} {M0 : zH} (hp0 : 0 ≤ p0.toInt) (kk : ∀ (x : Int32) (M1 : zH), z_X T zw207 M0 M1 → x.toInt = ((z_cp p0.toInt.toNat 31 : Nat) : Int) → K (some (.int x)) M1) : ∀ n : Nat, (∀ (M : zH) (b1 : Int32) (b2 : Int32), z_X T zw207 M0 M → 0 ≤ b2.toInt ∧ b2.toInt ≤ 31 → 0 ≤ b1.toInt ∧ b1.toInt ≤ b2.toInt → b1.toInt = ((z_cp p0.toInt.toNat b2.toInt.toNat : Nat) : Int) → ((0) * 2 + 0) * 32 + (31 - b2.toInt) < (n : Int) → z_ev d 207 4 [some (.int p0), some (.int b1), some (.int b2)] [] M K) := by
  intro n
  induction n with
  | zero => exact by intros; exfalso; omega
  | succ n ih =>
    intro M b1 b2 X hh0 hh1 hI hE
    refine z_xP zt207 1 7 [some (.int p0), some (.int b1), some (.int b2)] [.int 31, .int b2] rfl rfl ?_
    refine z_xJ zt207 2 rfl rfl (fun (h1 : 31 ≤ b2.toInt) => ?_) (fun (h1 : b2.toInt < 31) => ?_)
    · skip
      refine z_xP zt207 11 25 [some (.int p0), some (.int b1), some (.int b2)] [.int b1] rfl rfl ?_
      have i2 : b2.toInt.toNat = 31 := by omega
      exact z_xri zt207 12 rfl zzr207 (kk b1 M X (by rw [i2] at hI; exact hI))
    refine z_xP zt207 3 13 [some (.int p0), some (.int b1), some (.int b2)] [.int b2, .int p0, .int b1] rfl rfl ?_
    have h3 := z_b32 p0
    refine z_xI zt207 4 rfl rfl (fun (x4 : Int32) (h5 : x4 = p0 >>> (b2 &&& 31)) => ?_) (rfl)
    refine z_xP zt207 5 15 [some (.int p0), some (.int b1), some (.int b2)] [.int 1, .int x4, .int b1] rfl rfl ?_
    refine z_xI zt207 6 rfl rfl (fun (x6 : Int32) (h7 : x6 = x4 &&& (1 : Int32) ∧ 0 ≤ x6.toInt ∧ x6.toInt ≤ 1) => ?_) (⟨rfl, z_pAnd rfl (by omega)⟩)
    have h8 := z_b32 b1
    refine z_xI zt207 7 rfl rfl (fun (x9 : Int32) (h10 : x9.toInt = b1.toInt + x6.toInt) => ?_) (z_pAdd rfl rfl (by omega) (by omega))
    refine z_xP zt207 8 18 [some (.int p0), some (.int x9), some (.int b2)] [] rfl rfl ?_
    refine z_xN zt207 9 rfl rfl (fun (x11 : Int32) (h12 : x11.toInt = b2.toInt + 1) => ?_) (z_pAdd rfl rfl (by omega) (by omega))
    show z_ev d 207 21 [some (.int p0), some (.int x9), some (.int x11)] [] M _
    refine z_xP zt207 10 4 [some (.int p0), some (.int x9), some (.int x11)] [] rfl rfl ?_
    exact ih M x9 x11 X ⟨by omega, by omega⟩ (by omega) (z_cpI hI (z_sbit h5 h7.1 hp0 ⟨by omega, by omega⟩) h10 (by omega)) (by omega)
theorem zUC207 {T : List zK} {d : Nat} {K : Option Value → zH → Prop} {p0 : Int32} {M0 : zH} (hW : z_W M0 T) (hp0 : 0 ≤ p0.toInt) (kk : ∀ (x : Int32) (M1 : zH), z_X T zw207 M0 M1 → x.toInt = ((z_cp p0.toInt.toNat 31 : Nat) : Int) → K (some (.int x)) M1) : z_ev d 207 0 [some (.int p0), none, none] [] M0 K := by
  have X : z_X T zw207 M0 M0 := .refl hW
  refine z_xP zt207 0 4 [some (.int p0), some (.int 0), some (.int 0)] [] rfl rfl ?_
  have q0 : ((0 : Int32)).toInt = 0 := rfl
  exact (zUB207 hp0 kk 64) M0 (0) (0) X (by decide) (by omega) rfl (by omega)
theorem zUB220 {T : List zK} {d : Nat} {K : Option Value → zH → Prop} {p1 : Int32} {p2 : Int32} {p3 : Int32} {M0 : zH}  (kk : ∀ (x : Int32) (M1 : zH), z_X T zw220 M0 M1 → (-2) ≤ x.toInt → x.toInt ≤ 1048575 → y_qA M0 p1 x.toInt ((x.toInt = -1 ∧ ¬ z_ans (z_Ar M0 24 p1.toNatClampNeg).toInt.toNat p2 p3) ∨ (z_ans (z_Ar M0 24 p1.toNatClampNeg).toInt.toNat p2 p3 ∧ ((x.toInt = -2 ∧ y_cs (fun j => z_Ar M0 30 (1024 * p1.toNatClampNeg + j)) p2 p3 (z_Ar M0 31 p1.toNatClampNeg).toInt.toNat) ∨ (¬ y_cs (fun j => z_Ar M0 30 (1024 * p1.toNatClampNeg + j)) p2 p3 (z_Ar M0 31 p1.toNatClampNeg).toInt.toNat ∧ y_smf (fun j => z_Ar M0 30 (1024 * p1.toNatClampNeg + j)) (z_Ar M0 31 p1.toNatClampNeg).toInt.toNat p2.toInt.toNat p3.toInt.toNat x.toInt)))) → K (some (.int x)) M1) : ∀ n : Nat, (∀ (M : zH) (b4 : Int32) (b5 : Int32) (b6 : Int32) (b7 : Int32) (o8 : Option Value), z_X T zw220 M0 M → 0 ≤ p1.toInt ∧ p1.toInt ≤ 7 → 0 ≤ p2.toInt ∧ p2.toInt ≤ 1023 → 0 ≤ p3.toInt ∧ p3.toInt ≤ 1023 → 0 ≤ b4.toInt ∧ b4.toInt ≤ 1023 → (-1) ≤ b5.toInt ∧ b5.toInt ≤ 1048575 → 0 ≤ b7.toInt ∧ b7.toInt ≤ 1024 → y_sfi (fun j => z_Ar M0 30 (1024 * p1.toNatClampNeg + j)) (z_Ar M0 31 p1.toNatClampNeg).toInt.toNat p2.toInt.toNat p3.toInt.toNat b7.toInt.toNat b5.toInt b6.toInt → ¬ y_cs (fun j => z_Ar M0 30 (1024 * p1.toNatClampNeg + j)) p2 p3 (z_Ar M0 31 p1.toNatClampNeg).toInt.toNat → z_ans (z_Ar M0 24 p1.toNatClampNeg).toInt.toNat p2 p3 → b4.toInt.toNat = (p2.toInt.toNat ||| p3.toInt.toNat) → (∃ A : Int32, z_F M0 19 13 = some (.int A) ∧ 0 ≤ p1.toInt ∧ p1.toInt < A.toInt) → ((0) * 2 + 0) * 1025 + (1024 - b7.toInt) < (n : Int) → z_ev (d + 2) 220 39 [some (.ref 19), some (.int p1), some (.int p2), some (.int p3), some (.int b4), some (.int b5), some (.int b6), some (.int b7), o8] [] M K) := by
  intro n
  induction n with
  | zero => exact by intros; exfalso; omega
  | succ n ih =>
    intro M b4 b5 b6 b7 o8 X hh0 hh1 hh2 hh3 hh4 hh5 hI hN hA hO hQ hE
    refine z_xP zt220 13 43 [some (.ref 19), some (.int p1), some (.int p2), some (.int p3), some (.int b4), some (.int b5), some (.int b6), some (.int b7), o8] [.int b4, .int b7] rfl rfl ?_
    refine z_xJ zt220 14 rfl rfl (fun (h1 : b4.toInt < b7.toInt) => ?_) (fun (h1 : b7.toInt ≤ b4.toInt) => ?_)
    · skip
      refine z_xP zt220 48 138 [some (.ref 19), some (.int p1), some (.int p2), some (.int p3), some (.int b4), some (.int b5), some (.int b6), some (.int b7), o8] [.int b5] rfl rfl ?_
      obtain ⟨A2, hQ1, hQ2⟩ := hQ
      exact z_xri zt220 49 rfl zzr220 (kk b5 M X (by omega) (by omega) (y_qA1 hQ1 hQ2 (Or.inr ⟨hA, Or.inr ⟨hN, y_sfiE2 (by omega) (by omega) hI (by rw [← hO]; omega) hN⟩⟩)))
    refine z_xP zt220 15 51 [some (.ref 19), some (.int p1), some (.int p2), some (.int p3), some (.int b4), some (.int b5), some (.int b6), some (.int b7), o8] [.int (-1), .int b4, .int b7] rfl rfl ?_
    refine z_xI zt220 16 rfl rfl (fun (x3 : Int32) (h4 : x3 = b4 ^^^ ((-1) : Int32)) => ?_) (rfl)
    refine z_xI zt220 17 rfl rfl (fun (x5 : Int32) (h6 : x5 = b7 &&& x3 ∧ 0 ≤ x5.toInt ∧ x5.toInt ≤ b7.toInt) => ?_) (⟨rfl, z_pAndL rfl (by omega)⟩)
    refine z_xZ zt220 18 rfl rfl (fun (h7 : x5.toInt ≠ 0) => ?_) (fun (h7 : x5.toInt = 0) => ?_)
    · skip
      refine z_xN zt220 46 rfl rfl (fun (x8 : Int32) (h9 : x8.toInt = b7.toInt + 1) => ?_) (z_pAdd rfl rfl (by omega) (by omega))
      show z_ev (d + 2) 220 133 [some (.ref 19), some (.int p1), some (.int p2), some (.int p3), some (.int b4), some (.int b5), some (.int b6), some (.int x8), o8] [] M _
      refine z_xP zt220 47 39 [some (.ref 19), some (.int p1), some (.int p2), some (.int p3), some (.int b4), some (.int b5), some (.int b6), some (.int x8), o8] [] rfl rfl ?_
      have i10 : x8.toInt.toNat = b7.toInt.toNat + 1 := by omega
      exact ih M b4 b5 b6 x8 (o8) X ⟨by omega, by omega⟩ ⟨by omega, by omega⟩ ⟨by omega, by omega⟩ ⟨by omega, by omega⟩ ⟨by omega, by omega⟩ ⟨by omega, by omega⟩ (by rw [i10]; exact y_sfiK hI (fun hF => absurd ((z_subT (by omega) (by omega) h4 h6.1).mpr (by rw [hO]; exact hF.1)) (by omega))) hN hA hO hQ (by omega)
    refine z_xP zt220 19 61 [some (.ref 19), some (.int p1), some (.int p2), some (.int p3), some (.int b4), some (.int b5), some (.int b6), some (.int b7), o8] [.int p2, .int b7, .int p1, .ref 19] rfl rfl ?_
    refine z_xI zt220 20 rfl rfl (fun (x11 : Int32) (h12 : x11 = b7 &&& p2 ∧ 0 ≤ x11.toInt ∧ x11.toInt ≤ b7.toInt ∧ x11.toInt ≤ p2.toInt) => ?_) (⟨rfl, z_pAnd2 rfl rfl (by omega) (by omega)⟩)
    refine z_xP zt220 21 65 [some (.ref 19), some (.int p1), some (.int p2), some (.int p3), some (.int b4), some (.int b5), some (.int b6), some (.int b7), o8] [.int p3, .int b7, .int x11, .int p1, .ref 19] rfl rfl ?_
    refine z_xI zt220 22 rfl rfl (fun (x13 : Int32) (h14 : x13 = b7 &&& p3 ∧ 0 ≤ x13.toInt ∧ x13.toInt ≤ b7.toInt ∧ x13.toInt ≤ p3.toInt) => ?_) (⟨rfl, z_pAnd2 rfl rfl (by omega) (by omega)⟩)
    have f19 : T[19]? = some (.inl (12, 0, 0, 0, 0)) := X.1.k rfl (by decide)
    refine z_xcV (vs := [.ref 19, .int p1, .int x11, .int x13]) (r := []) (L2 := [some (.ref 19), some (.int p1), some (.int x11), some (.int x13), none, none]) zt220 23 rfl zo220 zzcV12_222 (Or.inl rfl) rfl X f19 rfl rfl rfl (Nat.le_of_ble_eq_true rfl) zzm215 (Nat.le_of_ble_eq_true rfl) rfl ?_
    refine zUC215 X.1 (by omega) (fun x18 M15 X16 h19 h20 h17 => ?_)
    have X21 := X.go X16 (z_sb (by decide))
    show z_ev (d + 2) 220 69 [some (.ref 19), some (.int p1), some (.int p2), some (.int p3), some (.int b4), some (.int b5), some (.int b6), some (.int b7), o8] [.int x18] M15 _
    refine z_xZ zt220 24 rfl rfl (fun (h23 : x18.toInt ≠ 0) => ?_) (fun (h23 : x18.toInt = 0) => ?_)
    · skip
      refine z_xN zt220 46 rfl rfl (fun (x24 : Int32) (h25 : x24.toInt = b7.toInt + 1) => ?_) (z_pAdd rfl rfl (by omega) (by omega))
      show z_ev (d + 2) 220 133 [some (.ref 19), some (.int p1), some (.int p2), some (.int p3), some (.int b4), some (.int b5), some (.int b6), some (.int x24), o8] [] M15 _
      refine z_xP zt220 47 39 [some (.ref 19), some (.int p1), some (.int p2), some (.int p3), some (.int b4), some (.int b5), some (.int b6), some (.int x24), o8] [] rfl rfl ?_
      have i26 : x24.toInt.toNat = b7.toInt.toNat + 1 := by omega
      have f30 : T[30]? = some (.inr (30, 0, 8192, 0, 1023)) := X21.1.k rfl (by decide)
      have f31 : T[31]? = some (.inr (31, 0, 8, 0, 1024)) := X21.1.k rfl (by decide)
      rw [X.2.a f30 (by decide), X.2.a f31 (by decide)] at h17
      exact ih M15 b4 b5 b6 x24 (o8) X21 ⟨by omega, by omega⟩ ⟨by omega, by omega⟩ ⟨by omega, by omega⟩ ⟨by omega, by omega⟩ ⟨by omega, by omega⟩ ⟨by omega, by omega⟩ (by rw [i26]; exact y_sfiK hI (fun hF => hF.2 ((y_fM (by omega) (by omega) (by omega) h12.1 h14.1).mpr (z_or1 h17 (by omega))))) hN hA hO hQ (by omega)
    refine z_xP zt220 25 78 [some (.ref 19), some (.int p1), some (.int p2), some (.int p3), some (.int b4), some (.int b5), some (.int b6), some (.int b7), o8] [.int p3, .int b7, .int 1024] rfl rfl ?_
    refine z_xI zt220 26 rfl rfl (fun (x27 : Int32) (h28 : x27 = b7 &&& p3 ∧ 0 ≤ x27.toInt ∧ x27.toInt ≤ b7.toInt ∧ x27.toInt ≤ p3.toInt) => ?_) (⟨rfl, z_pAnd2 rfl rfl (by omega) (by omega)⟩)
    refine z_xI zt220 27 rfl rfl (fun (x29 : Int32) (h30 : x29.toInt = 1024 * x27.toInt) => ?_) (z_pMul rfl rfl (by omega) (by omega))
    refine z_xP zt220 28 83 [some (.ref 19), some (.int p1), some (.int p2), some (.int p3), some (.int b4), some (.int b5), some (.int b6), some (.int b7), o8] [.int p2, .int b7, .int x29] rfl rfl ?_
    refine z_xI zt220 29 rfl rfl (fun (x31 : Int32) (h32 : x31 = b7 &&& p2 ∧ 0 ≤ x31.toInt ∧ x31.toInt ≤ b7.toInt ∧ x31.toInt ≤ p2.toInt) => ?_) (⟨rfl, z_pAnd2 rfl rfl (by omega) (by omega)⟩)
    refine z_xI zt220 30 rfl rfl (fun (x33 : Int32) (h34 : x33.toInt = x29.toInt + x31.toInt) => ?_) (z_pAdd rfl rfl (by omega) (by omega))
    refine z_xP zt220 31 89 [some (.ref 19), some (.int p1), some (.int p2), some (.int p3), some (.int b4), some (.int b5), some (.int b6), some (.int b7), some (.int x33)] [.int b5] rfl rfl ?_
    refine z_xZ zt220 32 rfl rfl (fun (h35 : b5.toInt < 0) => ?_) (fun (h35 : 0 ≤ b5.toInt) => ?_)
    · skip
      refine z_xP zt220 43 125 [some (.ref 19), some (.int p1), some (.int p2), some (.int p3), some (.int b4), some (.int x33), some (.int b6), some (.int b7), some (.int x33)] [.int b7] rfl rfl ?_
      refine z_xcS (vs := [.int b7]) (r := []) (L2 := [some (.int b7), none, none]) zt220 44 rfl zo220 zzcS12_193 (Or.inl rfl) (Nat.le_of_ble_eq_true rfl) rfl rfl (Nat.le_of_ble_eq_true rfl) zzm207 (Nat.le_of_ble_eq_true rfl) rfl ?_
      refine zUC207 X21.1 (by omega) (fun x39 M36 X37 h38 => ?_)
      have X40 := X21.go X37 (z_sb (by decide))
      show z_ev (d + 2) 220 128 [some (.ref 19), some (.int p1), some (.int p2), some (.int p3), some (.int b4), some (.int x33), some (.int b6), some (.int b7), some (.int x33)] [.int x39] M36 _
      refine z_xP zt220 45 130 [some (.ref 19), some (.int p1), some (.int p2), some (.int p3), some (.int b4), some (.int x33), some (.int x39), some (.int b7), some (.int x33)] [] rfl rfl ?_
      refine z_xN zt220 46 rfl rfl (fun (x42 : Int32) (h43 : x42.toInt = b7.toInt + 1) => ?_) (z_pAdd rfl rfl (by omega) (by omega))
      show z_ev (d + 2) 220 133 [some (.ref 19), some (.int p1), some (.int p2), some (.int p3), some (.int b4), some (.int x33), some (.int x39), some (.int x42), some (.int x33)] [] M36 _
      refine z_xP zt220 47 39 [some (.ref 19), some (.int p1), some (.int p2), some (.int p3), some (.int b4), some (.int x33), some (.int x39), some (.int x42), some (.int x33)] [] rfl rfl ?_
      have i44 : x42.toInt.toNat = b7.toInt.toNat + 1 := by omega
      have f30 : T[30]? = some (.inr (30, 0, 8192, 0, 1023)) := X40.1.k rfl (by decide)
      have f31 : T[31]? = some (.inr (31, 0, 8, 0, 1024)) := X40.1.k rfl (by decide)
      rw [X.2.a f30 (by decide), X.2.a f31 (by decide)] at h17
      have hv45 := y_Vi (by omega) (by omega) (by omega) h28.1 h32.1 (v := x33) (by omega)
      exact ih M36 b4 x33 x39 x42 (some (.int x33)) X40 ⟨by omega, by omega⟩ ⟨by omega, by omega⟩ ⟨by omega, by omega⟩ ⟨by omega, by omega⟩ ⟨by omega, by omega⟩ ⟨by omega, by omega⟩ (by rw [i44]; exact y_sfiT hI ⟨by rw [← hO]; exact (z_subT (by omega) (by omega) h4 h6.1).mp (by omega), fun hc => z_orn h17 (by omega) ((y_fM (by omega) (by omega) (by omega) h12.1 h14.1).mp hc)⟩ (by omega) hv45 (by omega)) hN hA hO hQ (by omega)
    refine z_xP zt220 33 94 [some (.ref 19), some (.int p1), some (.int p2), some (.int p3), some (.int b4), some (.int b5), some (.int b6), some (.int b7), some (.int x33)] [.int b7] rfl rfl ?_
    refine z_xcS (vs := [.int b7]) (r := []) (L2 := [some (.int b7), none, none]) zt220 34 rfl zo220 zzcS12_193 (Or.inl rfl) (Nat.le_of_ble_eq_true rfl) rfl rfl (Nat.le_of_ble_eq_true rfl) zzm207 (Nat.le_of_ble_eq_true rfl) rfl ?_
    refine zUC207 X21.1 (by omega) (fun x49 M46 X47 h48 => ?_)
    have X50 := X21.go X47 (z_sb (by decide))
    show z_ev (d + 2) 220 97 [some (.ref 19), some (.int p1), some (.int p2), some (.int p3), some (.int b4), some (.int b5), some (.int b6), some (.int b7), some (.int x33)] [.int x49] M46 _
    refine z_xP zt220 35 99 [some (.ref 19), some (.int p1), some (.int p2), some (.int p3), some (.int b4), some (.int b5), some (.int b6), some (.int b7), some (.int x33)] [.int b6, .int x49] rfl rfl ?_
    have h52 := z_b32 x49
    have h53 := z_b32 b6
    refine z_xJ zt220 36 rfl rfl (fun (h54 : x49.toInt < b6.toInt) => ?_) (fun (h54 : b6.toInt ≤ x49.toInt) => ?_)
    · skip
      refine z_xP zt220 43 125 [some (.ref 19), some (.int p1), some (.int p2), some (.int p3), some (.int b4), some (.int x33), some (.int b6), some (.int b7), some (.int x33)] [.int b7] rfl rfl ?_
      refine z_xcS (vs := [.int b7]) (r := []) (L2 := [some (.int b7), none, none]) zt220 44 rfl zo220 zzcS12_193 (Or.inl rfl) (Nat.le_of_ble_eq_true rfl) rfl rfl (Nat.le_of_ble_eq_true rfl) zzm207 (Nat.le_of_ble_eq_true rfl) rfl ?_
      refine zUC207 X50.1 (by omega) (fun x58 M55 X56 h57 => ?_)
      have X59 := X50.go X56 (z_sb (by decide))
      show z_ev (d + 2) 220 128 [some (.ref 19), some (.int p1), some (.int p2), some (.int p3), some (.int b4), some (.int x33), some (.int b6), some (.int b7), some (.int x33)] [.int x58] M55 _
      refine z_xP zt220 45 130 [some (.ref 19), some (.int p1), some (.int p2), some (.int p3), some (.int b4), some (.int x33), some (.int x58), some (.int b7), some (.int x33)] [] rfl rfl ?_
      refine z_xN zt220 46 rfl rfl (fun (x61 : Int32) (h62 : x61.toInt = b7.toInt + 1) => ?_) (z_pAdd rfl rfl (by omega) (by omega))
      show z_ev (d + 2) 220 133 [some (.ref 19), some (.int p1), some (.int p2), some (.int p3), some (.int b4), some (.int x33), some (.int x58), some (.int x61), some (.int x33)] [] M55 _
      refine z_xP zt220 47 39 [some (.ref 19), some (.int p1), some (.int p2), some (.int p3), some (.int b4), some (.int x33), some (.int x58), some (.int x61), some (.int x33)] [] rfl rfl ?_
      have i63 : x61.toInt.toNat = b7.toInt.toNat + 1 := by omega
      have f30 : T[30]? = some (.inr (30, 0, 8192, 0, 1023)) := X59.1.k rfl (by decide)
      have f31 : T[31]? = some (.inr (31, 0, 8, 0, 1024)) := X59.1.k rfl (by decide)
      rw [X.2.a f30 (by decide), X.2.a f31 (by decide)] at h17
      have hv64 := y_Vi (by omega) (by omega) (by omega) h28.1 h32.1 (v := x33) (by omega)
      exact ih M55 b4 x33 x58 x61 (some (.int x33)) X59 ⟨by omega, by omega⟩ ⟨by omega, by omega⟩ ⟨by omega, by omega⟩ ⟨by omega, by omega⟩ ⟨by omega, by omega⟩ ⟨by omega, by omega⟩ (by rw [i63]; exact y_sfiT hI ⟨by rw [← hO]; exact (z_subT (by omega) (by omega) h4 h6.1).mp (by omega), fun hc => z_orn h17 (by omega) ((y_fM (by omega) (by omega) (by omega) h12.1 h14.1).mp hc)⟩ (by omega) hv64 (by omega)) hN hA hO hQ (by omega)
    refine z_xP zt220 37 104 [some (.ref 19), some (.int p1), some (.int p2), some (.int p3), some (.int b4), some (.int b5), some (.int b6), some (.int b7), some (.int x33)] [.int b7] rfl rfl ?_
    refine z_xcS (vs := [.int b7]) (r := []) (L2 := [some (.int b7), none, none]) zt220 38 rfl zo220 zzcS12_193 (Or.inl rfl) (Nat.le_of_ble_eq_true rfl) rfl rfl (Nat.le_of_ble_eq_true rfl) zzm207 (Nat.le_of_ble_eq_true rfl) rfl ?_
    refine zUC207 X50.1 (by omega) (fun x68 M65 X66 h67 => ?_)
    have X69 := X50.go X66 (z_sb (by decide))
    show z_ev (d + 2) 220 107 [some (.ref 19), some (.int p1), some (.int p2), some (.int p3), some (.int b4), some (.int b5), some (.int b6), some (.int b7), some (.int x33)] [.int x68] M65 _
    refine z_xP zt220 39 109 [some (.ref 19), some (.int p1), some (.int p2), some (.int p3), some (.int b4), some (.int b5), some (.int b6), some (.int b7), some (.int x33)] [.int b6, .int x68] rfl rfl ?_
    have h71 := z_b32 x68
    refine z_xJ zt220 40 rfl rfl (fun (h72 : x68.toInt ≠ b6.toInt) => ?_) (fun (h72 : x68.toInt = b6.toInt) => ?_)
    · skip
      refine z_xN zt220 46 rfl rfl (fun (x73 : Int32) (h74 : x73.toInt = b7.toInt + 1) => ?_) (z_pAdd rfl rfl (by omega) (by omega))
      show z_ev (d + 2) 220 133 [some (.ref 19), some (.int p1), some (.int p2), some (.int p3), some (.int b4), some (.int b5), some (.int b6), some (.int x73), some (.int x33)] [] M65 _
      refine z_xP zt220 47 39 [some (.ref 19), some (.int p1), some (.int p2), some (.int p3), some (.int b4), some (.int b5), some (.int b6), some (.int x73), some (.int x33)] [] rfl rfl ?_
      have i75 : x73.toInt.toNat = b7.toInt.toNat + 1 := by omega
      have f30 : T[30]? = some (.inr (30, 0, 8192, 0, 1023)) := X69.1.k rfl (by decide)
      have f31 : T[31]? = some (.inr (31, 0, 8, 0, 1024)) := X69.1.k rfl (by decide)
      rw [X.2.a f30 (by decide), X.2.a f31 (by decide)] at h17
      have hv76 := y_Vi (by omega) (by omega) (by omega) h28.1 h32.1 (v := x33) (by omega)
      exact ih M65 b4 b5 b6 x73 (some (.int x33)) X69 ⟨by omega, by omega⟩ ⟨by omega, by omega⟩ ⟨by omega, by omega⟩ ⟨by omega, by omega⟩ ⟨by omega, by omega⟩ ⟨by omega, by omega⟩ (by rw [i75]; exact y_sfiL hI ⟨by omega, by omega, fun _ => by omega⟩) hN hA hO hQ (by omega)
    refine z_xP zt220 41 116 [some (.ref 19), some (.int p1), some (.int p2), some (.int p3), some (.int b4), some (.int b5), some (.int b6), some (.int b7), some (.int x33)] [.int b5, .int x33] rfl rfl ?_
    refine z_xJ zt220 42 rfl rfl (fun (h77 : b5.toInt ≤ x33.toInt) => ?_) (fun (h77 : x33.toInt < b5.toInt) => ?_)
    · skip
      refine z_xN zt220 46 rfl rfl (fun (x78 : Int32) (h79 : x78.toInt = b7.toInt + 1) => ?_) (z_pAdd rfl rfl (by omega) (by omega))
      show z_ev (d + 2) 220 133 [some (.ref 19), some (.int p1), some (.int p2), some (.int p3), some (.int b4), some (.int b5), some (.int b6), some (.int x78), some (.int x33)] [] M65 _
      refine z_xP zt220 47 39 [some (.ref 19), some (.int p1), some (.int p2), some (.int p3), some (.int b4), some (.int b5), some (.int b6), some (.int x78), some (.int x33)] [] rfl rfl ?_
      have i80 : x78.toInt.toNat = b7.toInt.toNat + 1 := by omega
      have f30 : T[30]? = some (.inr (30, 0, 8192, 0, 1023)) := X69.1.k rfl (by decide)
      have f31 : T[31]? = some (.inr (31, 0, 8, 0, 1024)) := X69.1.k rfl (by decide)
      rw [X.2.a f30 (by decide), X.2.a f31 (by decide)] at h17
      have hv81 := y_Vi (by omega) (by omega) (by omega) h28.1 h32.1 (v := x33) (by omega)
      exact ih M65 b4 b5 b6 x78 (some (.int x33)) X69 ⟨by omega, by omega⟩ ⟨by omega, by omega⟩ ⟨by omega, by omega⟩ ⟨by omega, by omega⟩ ⟨by omega, by omega⟩ ⟨by omega, by omega⟩ (by rw [i80]; exact y_sfiL hI ⟨by omega, by omega, fun _ => by omega⟩) hN hA hO hQ (by omega)
    refine z_xP zt220 43 125 [some (.ref 19), some (.int p1), some (.int p2), some (.int p3), some (.int b4), some (.int x33), some (.int b6), some (.int b7), some (.int x33)] [.int b7] rfl rfl ?_
    refine z_xcS (vs := [.int b7]) (r := []) (L2 := [some (.int b7), none, none]) zt220 44 rfl zo220 zzcS12_193 (Or.inl rfl) (Nat.le_of_ble_eq_true rfl) rfl rfl (Nat.le_of_ble_eq_true rfl) zzm207 (Nat.le_of_ble_eq_true rfl) rfl ?_
    refine zUC207 X69.1 (by omega) (fun x85 M82 X83 h84 => ?_)
    have X86 := X69.go X83 (z_sb (by decide))
    show z_ev (d + 2) 220 128 [some (.ref 19), some (.int p1), some (.int p2), some (.int p3), some (.int b4), some (.int x33), some (.int b6), some (.int b7), some (.int x33)] [.int x85] M82 _
    refine z_xP zt220 45 130 [some (.ref 19), some (.int p1), some (.int p2), some (.int p3), some (.int b4), some (.int x33), some (.int x85), some (.int b7), some (.int x33)] [] rfl rfl ?_
    refine z_xN zt220 46 rfl rfl (fun (x88 : Int32) (h89 : x88.toInt = b7.toInt + 1) => ?_) (z_pAdd rfl rfl (by omega) (by omega))
    show z_ev (d + 2) 220 133 [some (.ref 19), some (.int p1), some (.int p2), some (.int p3), some (.int b4), some (.int x33), some (.int x85), some (.int x88), some (.int x33)] [] M82 _
    refine z_xP zt220 47 39 [some (.ref 19), some (.int p1), some (.int p2), some (.int p3), some (.int b4), some (.int x33), some (.int x85), some (.int x88), some (.int x33)] [] rfl rfl ?_
    have i90 : x88.toInt.toNat = b7.toInt.toNat + 1 := by omega
    have f30 : T[30]? = some (.inr (30, 0, 8192, 0, 1023)) := X86.1.k rfl (by decide)
    have f31 : T[31]? = some (.inr (31, 0, 8, 0, 1024)) := X86.1.k rfl (by decide)
    rw [X.2.a f30 (by decide), X.2.a f31 (by decide)] at h17
    have hv91 := y_Vi (by omega) (by omega) (by omega) h28.1 h32.1 (v := x33) (by omega)
    exact ih M82 b4 x33 x85 x88 (some (.int x33)) X86 ⟨by omega, by omega⟩ ⟨by omega, by omega⟩ ⟨by omega, by omega⟩ ⟨by omega, by omega⟩ ⟨by omega, by omega⟩ ⟨by omega, by omega⟩ (by rw [i90]; exact y_sfiT hI ⟨by rw [← hO]; exact (z_subT (by omega) (by omega) h4 h6.1).mp (by omega), fun hc => z_orn h17 (by omega) ((y_fM (by omega) (by omega) (by omega) h12.1 h14.1).mp hc)⟩ (by omega) hv91 (by omega)) hN hA hO hQ (by omega)
theorem zUC220 {T : List zK} {d : Nat} {K : Option Value → zH → Prop} {p1 : Int32} {p2 : Int32} {p3 : Int32} {M0 : zH} (hW : z_W M0 T)  (kk : ∀ (x : Int32) (M1 : zH), z_X T zw220 M0 M1 → (-2) ≤ x.toInt → x.toInt ≤ 1048575 → y_qA M0 p1 x.toInt ((x.toInt = -1 ∧ ¬ z_ans (z_Ar M0 24 p1.toNatClampNeg).toInt.toNat p2 p3) ∨ (z_ans (z_Ar M0 24 p1.toNatClampNeg).toInt.toNat p2 p3 ∧ ((x.toInt = -2 ∧ y_cs (fun j => z_Ar M0 30 (1024 * p1.toNatClampNeg + j)) p2 p3 (z_Ar M0 31 p1.toNatClampNeg).toInt.toNat) ∨ (¬ y_cs (fun j => z_Ar M0 30 (1024 * p1.toNatClampNeg + j)) p2 p3 (z_Ar M0 31 p1.toNatClampNeg).toInt.toNat ∧ y_smf (fun j => z_Ar M0 30 (1024 * p1.toNatClampNeg + j)) (z_Ar M0 31 p1.toNatClampNeg).toInt.toNat p2.toInt.toNat p3.toInt.toNat x.toInt)))) → K (some (.int x)) M1) : z_ev (d + 2) 220 0 [some (.ref 19), some (.int p1), some (.int p2), some (.int p3), none, none, none, none, none] [] M0 K := by
  have X : z_X T zw220 M0 M0 := .refl hW
  refine z_xP zt220 0 4 [some (.ref 19), some (.int p1), some (.int p2), some (.int p3), none, none, none, none, none] [.int p3, .int p2, .int p1, .ref 19] rfl rfl ?_
  have f19 : T[19]? = some (.inl (12, 0, 0, 0, 0)) := X.1.k rfl (by decide)
  refine z_xcV (vs := [.ref 19, .int p1, .int p2, .int p3]) (r := []) (L2 := [some (.ref 19), some (.int p1), some (.int p2), some (.int p3)]) zt220 1 rfl zo220 zzcV12_219 (Or.inl rfl) rfl X f19 rfl rfl rfl (Nat.le_of_ble_eq_true rfl) zzm214 (Nat.le_of_ble_eq_true rfl) rfl ?_
  refine z_xP zt214 0 2 [some (.ref 19), some (.int p1), some (.int p2), some (.int p3)] [.int p1, .ref 19] rfl rfl ?_
  refine z_xcV (vs := [.ref 19, .int p1]) (r := []) (L2 := [some (.ref 19), some (.int p1)]) zt214 1 rfl zo214 zzcV12_209 (Or.inl rfl) rfl X f19 rfl rfl rfl (Nat.le_of_ble_eq_true rfl) zzm209 (Nat.le_of_ble_eq_true rfl) rfl ?_
  refine z_xP zt209 0 1 [some (.ref 19), some (.int p1)] [.int p1] rfl rfl ?_
  refine z_xZ zt209 1 rfl rfl (fun (h1 : p1.toInt < 0) => ?_) (fun (h1 : 0 ≤ p1.toInt) => ?_)
  · skip
    refine z_xP zt209 6 17 [some (.ref 19), some (.int p1)] [.int 0] rfl rfl ?_
    refine z_xrz zt209 7 rfl zzr209 (by decide) (by decide) ?_
    show z_ev (d + 1) 214 5 [some (.ref 19), some (.int p1), some (.int p2), some (.int p3)] [.int 0] M0 _
    refine z_xZ zt214 2 rfl rfl (fun (h2 : (0 : Int) = 0) => ?_) (fun (h2 : (0 : Int) ≠ 0) => absurd h2 (by omega))
    refine z_xP zt214 13 37 [some (.ref 19), some (.int p1), some (.int p2), some (.int p3)] [.int 0] rfl rfl ?_
    refine z_xrz zt214 14 rfl zzr214 (by decide) (by decide) ?_
    show z_ev (d + 2) 220 7 [some (.ref 19), some (.int p1), some (.int p2), some (.int p3), none, none, none, none, none] [.int 0] M0 _
    refine z_xZ zt220 2 rfl rfl (fun (h3 : (0 : Int) ≠ 0) => absurd h3 (by omega)) (fun (h3 : (0 : Int) = 0) => ?_)
    refine z_xP zt220 3 11 [some (.ref 19), some (.int p1), some (.int p2), some (.int p3), none, none, none, none, none] [.int (-1)] rfl rfl ?_
    have qm1 : (((-1) : Int32)).toInt = (-1) := rfl
    obtain ⟨x4, h5, h6, h7⟩ := z_W.fi X.1 f19 (k := 13) (lo := 0) (hi := 8) (by decide) rfl
    have qm1 : (((-1) : Int32)).toInt = (-1) := rfl
    exact z_xri zt220 4 rfl zzr220 (kk (-1) M0 X (by omega) (by omega) (y_qA0 h5 (by omega) (by omega)))
  refine z_xP zt209 2 6 [some (.ref 19), some (.int p1)] [.ref 19, .int p1] rfl rfl ?_
  refine z_xgI zt209 3 rfl zo209 zzf12_110 X f19 (by decide) (by decide) rfl (fun (x9 : Int32) h8 (h10 : 0 ≤ x9.toInt) (h11 : x9.toInt ≤ 8) => ?_)
  have h12 := z_b32 p1
  refine z_xJ zt209 4 rfl rfl (fun (h13 : x9.toInt ≤ p1.toInt) => ?_) (fun (h13 : p1.toInt < x9.toInt) => ?_)
  · skip
    refine z_xP zt209 6 17 [some (.ref 19), some (.int p1)] [.int 0] rfl rfl ?_
    refine z_xrz zt209 7 rfl zzr209 (by decide) (by decide) ?_
    show z_ev (d + 1) 214 5 [some (.ref 19), some (.int p1), some (.int p2), some (.int p3)] [.int 0] M0 _
    refine z_xZ zt214 2 rfl rfl (fun (h14 : (0 : Int) = 0) => ?_) (fun (h14 : (0 : Int) ≠ 0) => absurd h14 (by omega))
    refine z_xP zt214 13 37 [some (.ref 19), some (.int p1), some (.int p2), some (.int p3)] [.int 0] rfl rfl ?_
    refine z_xrz zt214 14 rfl zzr214 (by decide) (by decide) ?_
    show z_ev (d + 2) 220 7 [some (.ref 19), some (.int p1), some (.int p2), some (.int p3), none, none, none, none, none] [.int 0] M0 _
    refine z_xZ zt220 2 rfl rfl (fun (h15 : (0 : Int) ≠ 0) => absurd h15 (by omega)) (fun (h15 : (0 : Int) = 0) => ?_)
    refine z_xP zt220 3 11 [some (.ref 19), some (.int p1), some (.int p2), some (.int p3), none, none, none, none, none] [.int (-1)] rfl rfl ?_
    have qm1 : (((-1) : Int32)).toInt = (-1) := rfl
    have qm1 : (((-1) : Int32)).toInt = (-1) := rfl
    exact z_xri zt220 4 rfl zzr220 (kk (-1) M0 X (by omega) (by omega) (y_qA0 h8 (by omega) (by omega)))
  refine z_xP zt209 5 17 [some (.ref 19), some (.int p1)] [.int 1] rfl rfl ?_
  refine z_xrz zt209 7 rfl zzr209 (by decide) (by decide) ?_
  show z_ev (d + 1) 214 5 [some (.ref 19), some (.int p1), some (.int p2), some (.int p3)] [.int 1] M0 _
  refine z_xZ zt214 2 rfl rfl (fun (h16 : (1 : Int) = 0) => absurd h16 (by omega)) (fun (h16 : (1 : Int) ≠ 0) => ?_)
  refine z_xP zt214 3 11 [some (.ref 19), some (.int p1), some (.int p2), some (.int p3)] [.int p2, .int p1, .ref 19] rfl rfl ?_
  refine z_xcV (vs := [.ref 19, .int p1, .int p2]) (r := []) (L2 := [some (.ref 19), some (.int p1), some (.int p2)]) zt214 4 rfl zo214 zzcV12_212 (Or.inl rfl) rfl X f19 rfl rfl rfl (Nat.le_of_ble_eq_true rfl) zzm212 (Nat.le_of_ble_eq_true rfl) rfl ?_
  refine z_xP zt212 0 1 [some (.ref 19), some (.int p1), some (.int p2)] [.int p2] rfl rfl ?_
  refine z_xZ zt212 1 rfl rfl (fun (h17 : p2.toInt < 0) => ?_) (fun (h17 : 0 ≤ p2.toInt) => ?_)
  · skip
    refine z_xP zt212 9 21 [some (.ref 19), some (.int p1), some (.int p2)] [.int 0] rfl rfl ?_
    refine z_xrz zt212 10 rfl zzr212 (by decide) (by decide) ?_
    show z_ev (d + 1) 214 14 [some (.ref 19), some (.int p1), some (.int p2), some (.int p3)] [.int 0] M0 _
    refine z_xZ zt214 5 rfl rfl (fun (h18 : (0 : Int) = 0) => ?_) (fun (h18 : (0 : Int) ≠ 0) => absurd h18 (by omega))
    refine z_xP zt214 13 37 [some (.ref 19), some (.int p1), some (.int p2), some (.int p3)] [.int 0] rfl rfl ?_
    refine z_xrz zt214 14 rfl zzr214 (by decide) (by decide) ?_
    show z_ev (d + 2) 220 7 [some (.ref 19), some (.int p1), some (.int p2), some (.int p3), none, none, none, none, none] [.int 0] M0 _
    refine z_xZ zt220 2 rfl rfl (fun (h19 : (0 : Int) ≠ 0) => absurd h19 (by omega)) (fun (h19 : (0 : Int) = 0) => ?_)
    refine z_xP zt220 3 11 [some (.ref 19), some (.int p1), some (.int p2), some (.int p3), none, none, none, none, none] [.int (-1)] rfl rfl ?_
    have qm1 : (((-1) : Int32)).toInt = (-1) := rfl
    have qm1 : (((-1) : Int32)).toInt = (-1) := rfl
    exact z_xri zt220 4 rfl zzr220 (kk (-1) M0 X (by omega) (by omega) (y_qA1 h8 ⟨by omega, by omega⟩ (Or.inl ⟨by omega, (fun h => by obtain ⟨h1, h2, -⟩ := h; omega)⟩)))
  refine z_xP zt212 2 7 [some (.ref 19), some (.int p1), some (.int p2)] [.ref 19, .int 1, .int p2] rfl rfl ?_
  refine z_xgX (b := 24) zt212 3 rfl zo212 zzf12_22 X f19 (by decide) (by decide) rfl ?_
  refine z_xP zt212 4 11 [some (.ref 19), some (.int p1), some (.int p2)] [.int p1, .ref 24, .int 1, .int p2] rfl rfl ?_
  have f24 : T[24]? = some (.inr (24, 0, 8, 0, 10)) := X.1.k rfl (by decide)
  refine z_xil zt212 5 rfl X f24 (by decide) (by omega) (by omega) (fun (x20 : Int32) h21 (h22 : 0 ≤ x20.toInt) (h23 : x20.toInt ≤ 10) => ?_)
  refine z_xI zt212 6 rfl rfl (fun (x24 : Int32) (h25 : x24 = (1 : Int32) <<< (x20 &&& 31) ∧ 1 ≤ x24.toInt ∧ x24.toInt ≤ 1024) => ?_) (⟨rfl, z_pShlB (a := 1) (b := 10) (c := 1024) (r := 1024) rfl rfl (by omega) (by omega) (by omega) (by omega) (by decide) (by decide) (by decide) (by decide)⟩)
  have h26 := z_b32 p2
  refine z_xJ zt212 7 rfl rfl (fun (h27 : x24.toInt ≤ p2.toInt) => ?_) (fun (h27 : p2.toInt < x24.toInt) => ?_)
  · skip
    refine z_xP zt212 9 21 [some (.ref 19), some (.int p1), some (.int p2)] [.int 0] rfl rfl ?_
    refine z_xrz zt212 10 rfl zzr212 (by decide) (by decide) ?_
    show z_ev (d + 1) 214 14 [some (.ref 19), some (.int p1), some (.int p2), some (.int p3)] [.int 0] M0 _
    refine z_xZ zt214 5 rfl rfl (fun (h28 : (0 : Int) = 0) => ?_) (fun (h28 : (0 : Int) ≠ 0) => absurd h28 (by omega))
    refine z_xP zt214 13 37 [some (.ref 19), some (.int p1), some (.int p2), some (.int p3)] [.int 0] rfl rfl ?_
    refine z_xrz zt214 14 rfl zzr214 (by decide) (by decide) ?_
    show z_ev (d + 2) 220 7 [some (.ref 19), some (.int p1), some (.int p2), some (.int p3), none, none, none, none, none] [.int 0] M0 _
    refine z_xZ zt220 2 rfl rfl (fun (h29 : (0 : Int) ≠ 0) => absurd h29 (by omega)) (fun (h29 : (0 : Int) = 0) => ?_)
    refine z_xP zt220 3 11 [some (.ref 19), some (.int p1), some (.int p2), some (.int p3), none, none, none, none, none] [.int (-1)] rfl rfl ?_
    have qm1 : (((-1) : Int32)).toInt = (-1) := rfl
    have i30 := z_2q1 (x := x20) (by omega) (by omega) h25.1
    have qm1 : (((-1) : Int32)).toInt = (-1) := rfl
    exact z_xri zt220 4 rfl zzr220 (kk (-1) M0 X (by omega) (by omega) (y_qA1 h8 ⟨by omega, by omega⟩ (Or.inl ⟨by omega, (fun h => by obtain ⟨h1, h2, -⟩ := h; rw [h21] at h1 h2; omega)⟩)))
  refine z_xP zt212 8 21 [some (.ref 19), some (.int p1), some (.int p2)] [.int 1] rfl rfl ?_
  refine z_xrz zt212 10 rfl zzr212 (by decide) (by decide) ?_
  show z_ev (d + 1) 214 14 [some (.ref 19), some (.int p1), some (.int p2), some (.int p3)] [.int 1] M0 _
  refine z_xZ zt214 5 rfl rfl (fun (h31 : (1 : Int) = 0) => absurd h31 (by omega)) (fun (h31 : (1 : Int) ≠ 0) => ?_)
  refine z_xP zt214 6 20 [some (.ref 19), some (.int p1), some (.int p2), some (.int p3)] [.int p3, .int p1, .ref 19] rfl rfl ?_
  refine z_xcV (vs := [.ref 19, .int p1, .int p3]) (r := []) (L2 := [some (.ref 19), some (.int p1), some (.int p3)]) zt214 7 rfl zo214 zzcV12_212 (Or.inl rfl) rfl X f19 rfl rfl rfl (Nat.le_of_ble_eq_true rfl) zzm212 (Nat.le_of_ble_eq_true rfl) rfl ?_
  refine z_xP zt212 0 1 [some (.ref 19), some (.int p1), some (.int p3)] [.int p3] rfl rfl ?_
  refine z_xZ zt212 1 rfl rfl (fun (h32 : p3.toInt < 0) => ?_) (fun (h32 : 0 ≤ p3.toInt) => ?_)
  · skip
    refine z_xP zt212 9 21 [some (.ref 19), some (.int p1), some (.int p3)] [.int 0] rfl rfl ?_
    refine z_xrz zt212 10 rfl zzr212 (by decide) (by decide) ?_
    show z_ev (d + 1) 214 23 [some (.ref 19), some (.int p1), some (.int p2), some (.int p3)] [.int 0] M0 _
    refine z_xZ zt214 8 rfl rfl (fun (h33 : (0 : Int) = 0) => ?_) (fun (h33 : (0 : Int) ≠ 0) => absurd h33 (by omega))
    refine z_xP zt214 13 37 [some (.ref 19), some (.int p1), some (.int p2), some (.int p3)] [.int 0] rfl rfl ?_
    refine z_xrz zt214 14 rfl zzr214 (by decide) (by decide) ?_
    show z_ev (d + 2) 220 7 [some (.ref 19), some (.int p1), some (.int p2), some (.int p3), none, none, none, none, none] [.int 0] M0 _
    refine z_xZ zt220 2 rfl rfl (fun (h34 : (0 : Int) ≠ 0) => absurd h34 (by omega)) (fun (h34 : (0 : Int) = 0) => ?_)
    refine z_xP zt220 3 11 [some (.ref 19), some (.int p1), some (.int p2), some (.int p3), none, none, none, none, none] [.int (-1)] rfl rfl ?_
    have qm1 : (((-1) : Int32)).toInt = (-1) := rfl
    have i35 := z_2q1 (x := x20) (by omega) (by omega) h25.1
    have qm1 : (((-1) : Int32)).toInt = (-1) := rfl
    exact z_xri zt220 4 rfl zzr220 (kk (-1) M0 X (by omega) (by omega) (y_qA1 h8 ⟨by omega, by omega⟩ (Or.inl ⟨by omega, (fun h => by obtain ⟨h1, h2, -⟩ := h; rw [h21] at h1 h2; omega)⟩)))
  refine z_xP zt212 2 7 [some (.ref 19), some (.int p1), some (.int p3)] [.ref 19, .int 1, .int p3] rfl rfl ?_
  refine z_xgX (b := 24) zt212 3 rfl zo212 zzf12_22 X f19 (by decide) (by decide) rfl ?_
  refine z_xP zt212 4 11 [some (.ref 19), some (.int p1), some (.int p3)] [.int p1, .ref 24, .int 1, .int p3] rfl rfl ?_
  refine z_xil zt212 5 rfl X f24 (by decide) (by omega) (by omega) (fun (x36 : Int32) h37 (h38 : 0 ≤ x36.toInt) (h39 : x36.toInt ≤ 10) => ?_)
  have h40 := congrArg Int32.toInt (h37.symm.trans h21)
  refine z_xI zt212 6 rfl rfl (fun (x41 : Int32) (h42 : x41 = (1 : Int32) <<< (x36 &&& 31) ∧ 1 ≤ x41.toInt ∧ x41.toInt ≤ 1024) => ?_) (⟨rfl, z_pShlB (a := 1) (b := 10) (c := 1024) (r := 1024) rfl rfl (by omega) (by omega) (by omega) (by omega) (by decide) (by decide) (by decide) (by decide)⟩)
  have h43 := z_b32 p3
  refine z_xJ zt212 7 rfl rfl (fun (h44 : x41.toInt ≤ p3.toInt) => ?_) (fun (h44 : p3.toInt < x41.toInt) => ?_)
  · skip
    refine z_xP zt212 9 21 [some (.ref 19), some (.int p1), some (.int p3)] [.int 0] rfl rfl ?_
    refine z_xrz zt212 10 rfl zzr212 (by decide) (by decide) ?_
    show z_ev (d + 1) 214 23 [some (.ref 19), some (.int p1), some (.int p2), some (.int p3)] [.int 0] M0 _
    refine z_xZ zt214 8 rfl rfl (fun (h45 : (0 : Int) = 0) => ?_) (fun (h45 : (0 : Int) ≠ 0) => absurd h45 (by omega))
    refine z_xP zt214 13 37 [some (.ref 19), some (.int p1), some (.int p2), some (.int p3)] [.int 0] rfl rfl ?_
    refine z_xrz zt214 14 rfl zzr214 (by decide) (by decide) ?_
    show z_ev (d + 2) 220 7 [some (.ref 19), some (.int p1), some (.int p2), some (.int p3), none, none, none, none, none] [.int 0] M0 _
    refine z_xZ zt220 2 rfl rfl (fun (h46 : (0 : Int) ≠ 0) => absurd h46 (by omega)) (fun (h46 : (0 : Int) = 0) => ?_)
    refine z_xP zt220 3 11 [some (.ref 19), some (.int p1), some (.int p2), some (.int p3), none, none, none, none, none] [.int (-1)] rfl rfl ?_
    have qm1 : (((-1) : Int32)).toInt = (-1) := rfl
    have i47 := z_2q1 (x := x20) (by omega) (by omega) h25.1
    have i48 := z_2q1 (x := x36) (by omega) (by omega) h42.1
    rw [show x36 = x20 from h37.symm.trans h21] at i48
    have qm1 : (((-1) : Int32)).toInt = (-1) := rfl
    exact z_xri zt220 4 rfl zzr220 (kk (-1) M0 X (by omega) (by omega) (y_qA1 h8 ⟨by omega, by omega⟩ (Or.inl ⟨by omega, (fun h => by obtain ⟨h1, h2, -⟩ := h; rw [h21] at h1 h2; omega)⟩)))
  refine z_xP zt212 8 21 [some (.ref 19), some (.int p1), some (.int p3)] [.int 1] rfl rfl ?_
  refine z_xrz zt212 10 rfl zzr212 (by decide) (by decide) ?_
  show z_ev (d + 1) 214 23 [some (.ref 19), some (.int p1), some (.int p2), some (.int p3)] [.int 1] M0 _
  refine z_xZ zt214 8 rfl rfl (fun (h49 : (1 : Int) = 0) => absurd h49 (by omega)) (fun (h49 : (1 : Int) ≠ 0) => ?_)
  refine z_xP zt214 9 28 [some (.ref 19), some (.int p1), some (.int p2), some (.int p3)] [.int p3, .int p2] rfl rfl ?_
  refine z_xI zt214 10 rfl rfl (fun (x50 : Int32) (h51 : x50 = p2 &&& p3 ∧ 0 ≤ x50.toInt ∧ x50.toInt ≤ p2.toInt ∧ x50.toInt ≤ p3.toInt) => ?_) (⟨rfl, z_pAnd2 rfl rfl (by omega) (by omega)⟩)
  refine z_xZ zt214 11 rfl rfl (fun (h52 : x50.toInt ≠ 0) => ?_) (fun (h52 : x50.toInt = 0) => ?_)
  · skip
    refine z_xP zt214 13 37 [some (.ref 19), some (.int p1), some (.int p2), some (.int p3)] [.int 0] rfl rfl ?_
    refine z_xrz zt214 14 rfl zzr214 (by decide) (by decide) ?_
    show z_ev (d + 2) 220 7 [some (.ref 19), some (.int p1), some (.int p2), some (.int p3), none, none, none, none, none] [.int 0] M0 _
    refine z_xZ zt220 2 rfl rfl (fun (h53 : (0 : Int) ≠ 0) => absurd h53 (by omega)) (fun (h53 : (0 : Int) = 0) => ?_)
    refine z_xP zt220 3 11 [some (.ref 19), some (.int p1), some (.int p2), some (.int p3), none, none, none, none, none] [.int (-1)] rfl rfl ?_
    have qm1 : (((-1) : Int32)).toInt = (-1) := rfl
    have i54 := z_2q1 (x := x20) (by omega) (by omega) h25.1
    have i55 := z_2q1 (x := x36) (by omega) (by omega) h42.1
    rw [show x36 = x20 from h37.symm.trans h21] at i55
    have qm1 : (((-1) : Int32)).toInt = (-1) := rfl
    exact z_xri zt220 4 rfl zzr220 (kk (-1) M0 X (by omega) (by omega) (y_qA1 h8 ⟨by omega, by omega⟩ (Or.inl ⟨by omega, (fun h => absurd h.2.2 (by rw [← h51.1]; omega))⟩)))
  refine z_xP zt214 12 37 [some (.ref 19), some (.int p1), some (.int p2), some (.int p3)] [.int 1] rfl rfl ?_
  refine z_xrz zt214 14 rfl zzr214 (by decide) (by decide) ?_
  show z_ev (d + 2) 220 7 [some (.ref 19), some (.int p1), some (.int p2), some (.int p3), none, none, none, none, none] [.int 1] M0 _
  refine z_xZ zt220 2 rfl rfl (fun (h56 : (1 : Int) ≠ 0) => ?_) (fun (h56 : (1 : Int) = 0) => absurd h56 (by omega))
  refine z_xP zt220 5 16 [some (.ref 19), some (.int p1), some (.int p2), some (.int p3), none, none, none, none, none] [.int p3, .int p2, .int p1, .ref 19] rfl rfl ?_
  refine z_xcV (vs := [.ref 19, .int p1, .int p2, .int p3]) (r := []) (L2 := [some (.ref 19), some (.int p1), some (.int p2), some (.int p3), none, none]) zt220 6 rfl zo220 zzcV12_222 (Or.inl rfl) rfl X f19 rfl rfl rfl (Nat.le_of_ble_eq_true rfl) zzm215 (Nat.le_of_ble_eq_true rfl) rfl ?_
  refine zUC215 X.1 (by omega) (fun x60 M57 X58 h61 h62 h59 => ?_)
  have X63 := X.go X58 (z_sb (by decide))
  show z_ev (d + 2) 220 19 [some (.ref 19), some (.int p1), some (.int p2), some (.int p3), none, none, none, none, none] [.int x60] M57 _
  refine z_xZ zt220 7 rfl rfl (fun (h65 : x60.toInt = 0) => ?_) (fun (h65 : x60.toInt ≠ 0) => ?_)
  · skip
    refine z_xP zt220 10 27 [some (.ref 19), some (.int p1), some (.int p2), some (.int p3), none, none, none, none, none] [.int p3, .int p2] rfl rfl ?_
    refine z_xI zt220 11 rfl rfl (fun (x66 : Int32) (h67 : x66 = p2 ||| p3 ∧ 0 ≤ x66.toInt ∧ x66.toInt < 1024 ∧ p2.toInt ≤ x66.toInt ∧ p3.toInt ≤ x66.toInt) => ?_) (⟨rfl, z_pOr 10 rfl rfl (by omega) (by omega) (by decide) (by omega) (by omega) (by decide)⟩)
    refine z_xP zt220 12 39 [some (.ref 19), some (.int p1), some (.int p2), some (.int p3), some (.int x66), some (.int (-1)), some (.int 0), some (.int 0), none] [] rfl rfl ?_
    have i68 := z_2q1 (x := x20) (by omega) (by omega) h25.1
    have i69 := z_2q1 (x := x36) (by omega) (by omega) h42.1
    rw [show x36 = x20 from h37.symm.trans h21] at i69
    have qm1 : (((-1) : Int32)).toInt = (-1) := rfl
    have q0 : ((0 : Int32)).toInt = 0 := rfl
    exact (zUB220 kk 2050) M57 x66 ((-1)) (0) (0) none X63 ⟨by omega, by omega⟩ ⟨by omega, by omega⟩ ⟨by omega, by omega⟩ ⟨by omega, by omega⟩ (by decide) (by decide) (y_sfi0 (i0 := 0) rfl (by decide)) (z_orn h59 (by omega)) ⟨by rw [h21]; exact ⟨by omega, by omega⟩, by rw [h21]; exact ⟨by omega, by omega⟩, by rw [← h51.1]; omega⟩ (z_n32o (by omega) (by omega) (by omega) h67.1) ⟨_, h8, by omega, by omega⟩ (by omega)
  refine z_xP zt220 8 24 [some (.ref 19), some (.int p1), some (.int p2), some (.int p3), none, none, none, none, none] [.int (-2)] rfl rfl ?_
  have qm2 : (((-2) : Int32)).toInt = (-2) := rfl
  have i70 := z_2q1 (x := x20) (by omega) (by omega) h25.1
  have i71 := z_2q1 (x := x36) (by omega) (by omega) h42.1
  rw [show x36 = x20 from h37.symm.trans h21] at i71
  have qm2 : (((-2) : Int32)).toInt = (-2) := rfl
  exact z_xri zt220 9 rfl zzr220 (kk (-2) M57 X63 (by omega) (by omega) (y_qA1 h8 ⟨by omega, by omega⟩ (Or.inr ⟨⟨by rw [h21]; exact ⟨by omega, by omega⟩, by rw [h21]; exact ⟨by omega, by omega⟩, by rw [← h51.1]; omega⟩, Or.inl ⟨by omega, z_or1 h59 (by omega)⟩⟩)))
def z_Q7 (I : zH → Prop) : Prop := ∀ (x1 : Int32) (x2 : Int32) (x3 : Int32) (M : zH), I M → z_ev 2046 50 0 (z_ent [.ref 4, .int x1, .int x2, .int x3] (z_ml 50)) [] M fun v M1 => (∃ y, v = some (.int y)) ∧ z_ev 2046 220 0 (z_ent [.ref 19, .int x1, .int x2, .int x3] (z_ml 220)) [] M1 fun v2 M2 => (∃ y, v2 = some (.int y)) ∧ v = v2 ∧ I M2 ∧ M2.length ≤ M.length + 1171 ∧ z_szr M2 ≤ z_szr M + 14000
theorem zS7 : z_Q7 z_J := by
  intro x1 x2 x3 M ⟨T, hA, hR⟩
  refine z_J.two (r1 := zw50) (r2 := zw220) (C := fun v v2 => v = v2) hA hR rfl rfl ?_
  rw [zzm50]
  show z_ev 2046 50 0 [some (.ref 4), some (.int x1), some (.int x2), some (.int x3), none, none] [] M _
  refine zUC50 (d := 2042) hA.1.1 hR.2.1 hA.1 fun y M1 X1 _ _ h1 => ?_
  have hB := z_kee hA X1 (by decide)
  refine ⟨⟨y, rfl⟩, X1, ?_⟩
  rw [zzm220]
  show z_ev 2046 220 0 [some (.ref 19), some (.int x1), some (.int x2), some (.int x3), none, none, none, none, none] [] M1 _
  refine zUC220 (d := 2044) hB.1.1 fun z M2 X2 _ _ h2 => ?_
  have k19 : T[19]? = some (.inl (12, 0, 0, 0, 0)) := hA.1.1.k rfl (by decide)
  have e := z_qAs hA.1.1 X1.2 rfl ((congrArg Int32.toInt (z_FvK (X1.2.1 19 12 0 0 0 0 13 k19 (by decide)))).trans (z_R5.v hR.1).2.1) h1 h2 (fun q t m pr en B hY q10 hm a b => by
    have e24 := hY.1
    have e31 := hY.2.2.2.2.1
    have e30 := hY.2.2.2.2.2.2
    have eq : (z_Ar M1 24 x1.toNatClampNeg).toInt.toNat = q := by omega
    have em : (z_Ar M1 31 x1.toNatClampNeg).toInt.toNat = z_lc B (2 ^ q) := by omega
    rw [eq] at b
    rcases a with ⟨a1, a2⟩ | ⟨a1, a2⟩
    · rcases b with ⟨b1, _⟩ | ⟨b1, _⟩
      · rw [a1, b1]
      · exact absurd b1 a2
    · rcases b with ⟨_, b1⟩ | ⟨_, b1⟩
      · exact absurd a1 b1
      · have hl := a1.lt q10
        have ec := y_csE e30 em q10 ⟨hl.1.1, hl.1.2.1⟩ ⟨hl.2.1, hl.2.2.1⟩
        rcases a2 with ⟨a2, a3⟩ | ⟨a2, a3, a4⟩
        · rcases b1 with ⟨b2, _⟩ | ⟨b2, _⟩
          · rw [a2, b2]
          · exact absurd (ec.mpr a3) b2
        · rcases b1 with ⟨_, b2⟩ | ⟨_, b2⟩
          · exact absurd (ec.mp b2) a2
          · have h9 := z_same7 e30 em q10 (by omega) (by omega) a1.dj a4 b2
            omega)
  exact ⟨⟨z, rfl⟩, by rw [Int32.toInt_inj.mp e], X2⟩
