/-! the reference: the first bench, and a bench's code -/
theorem zUB252 {T : List zK} {d : Nat} {K : Option Value → zH → Prop} {p1 : Int32} {p2 : Int32} {zl0 : Int32} {M0 : zH} (u1 : 0 ≤ p1.toInt ∧ p1.toInt ≤ 7) (u2 : 1 ≤ p2.toInt ∧ p2.toInt ≤ 5) (hl0 : z_Ar M0 31 p1.toNatClampNeg = zl0) (bl0 : 1 ≤ zl0.toInt ∧ zl0.toInt ≤ 1024) {q t m pr en : Nat} {B : Nat → Nat} {S : Nat → Int32} {A : Int32} (hW0 : z_W M0 T) (hG : y_AGO M0 p1.toNatClampNeg q t m pr en B) (hSS : ∀ k, k < m → z_Ar M0 30 (1024 * p1.toNatClampNeg + k) = S k) (hA : A.toInt = ((2 ^ q : Nat) : Int) - 1) (q10 : 1 ≤ q ∧ q ≤ 10) (m1 : 1 ≤ m) (kk : ∀ (M1 : zH), z_X T zw252 M0 M1 → y_TN T M1 p1.toNatClampNeg q t m pr en p2.toInt.toNat B (fun _ => 0) S A → y_ST M1 p2.toInt.toNat (fun _ => 0) S A → K none M1) : ∀ n : Nat, (∀ (M : zH) (b3 : Int32) (z0 : Int32) (z1 : Int32), z_X T zw252 M0 M → 0 ≤ b3.toInt ∧ b3.toInt ≤ 5 → z_F M 19 29 = some (.int z0) → 0 ≤ z0.toInt ∧ z0.toInt ≤ 7 → z_F M 19 30 = some (.int z1) → 1 ≤ z1.toInt ∧ z1.toInt ≤ 5 → z0.toInt = p1.toInt → z1.toInt = p2.toInt → b3.toInt ≤ p2.toInt → z_NB M b3.toInt 1 → (∀ j : Nat, (j : Int) < b3.toInt → (z_Ar M 43 j).toInt = 0) → ((0) * 2 + 0) * 6 + (5 - b3.toInt) < (n : Int) → z_ev (d + 3) 252 12 [some (.ref 19), some (.int p1), some (.int p2), some (.int b3)] [] M K) := by
  intro n
  induction n with
  | zero => exact by intros; exfalso; omega
  | succ n ih =>
    intro M b3 z0 z1 X hh0 hp0 hh2 hp1 hh4 hh5 hh6 hh7 hn hz43 hE
    refine z_xP zt252 5 14 [some (.ref 19), some (.int p1), some (.int p2), some (.int b3)] [.int p2, .int b3] rfl rfl ?_
    refine z_xJ zt252 6 rfl rfl (fun (h1 : p2.toInt ≤ b3.toInt) => ?_) (fun (h1 : b3.toInt < p2.toInt) => ?_)
    · skip
      refine z_xP zt252 13 31 [some (.ref 19), some (.int p1), some (.int p2), some (.int b3)] [.ref 19] rfl rfl ?_
      have f19 : T[19]? = some (.inl (12, 0, 0, 0, 0)) := X.1.k rfl (by decide)
      refine z_xcV (vs := [.ref 19]) (r := []) (L2 := [some (.ref 19), none]) zt252 14 rfl zo252 zzcV12_312 (Or.inl rfl) rfl X f19 rfl rfl rfl (Nat.le_of_ble_eq_true rfl) zzm253 (Nat.le_of_ble_eq_true rfl) rfl ?_
      have h7' : z0 = p1 := z_sub (c := p1.toInt) (by omega) rfl
      have h10' : z1 = p2 := z_sub (c := p2.toInt) (by omega) rfl
      have hTM : y_TN T M p1.toNatClampNeg q t m pr en p2.toInt.toNat B (fun _ => 0) S A := by
        refine ⟨X.1, ⟨p1, by rw [← h7']; exact hp0, ?_, ?_⟩, ⟨p2, by rw [← h10']; exact hp1, by omega, by omega⟩, hG.ke hW0 X.2 (by decide), fun k hk => ?_, hA, q10, fun j hj => ⟨hz43 j (by omega), m1⟩⟩
        · show p1.toInt = ((p1.toInt.toNat : Nat) : Int)
          omega
        · show p1.toInt.toNat < 8
          omega
        · rw [X.2.a (hW0.k (k := 30) rfl (by decide)) (by decide)]
          exact hSS k hk
      refine zUC253 hTM.1 hTM (fun M2 X3 hT2 hS2 => ?_)
      have X4 := X.go X3 (z_sb (by decide))
      show z_ev (d + 3) 252 34 [some (.ref 19), some (.int p1), some (.int p2), some (.int b3)] [] M2 _
      have f43 : T[43]? = some (.inr (43, 0, 9, 0, 1023)) := X4.1.k rfl (by decide)
      have h6 := (X3.2.f f19 (by decide) hp0)
      have h7 : z0 = p1 := z_sub (c := p1.toInt) (by omega) rfl
      have h8 := h6
      rw [h7] at h8
      have h9 := (X3.2.f f19 (by decide) hp1)
      have h10 : z1 = p2 := z_sub (c := p2.toInt) (by omega) rfl
      have h11 := h9
      rw [h10] at h11
      exact z_xrv zt252 15 rfl zzr252 (kk M2 X4 hT2 hS2)
    refine z_xP zt252 7 18 [some (.ref 19), some (.int p1), some (.int p2), some (.int b3)] [.ref 19] rfl rfl ?_
    have f19 : T[19]? = some (.inl (12, 0, 0, 0, 0)) := X.1.k rfl (by decide)
    refine z_xgX (b := 43) zt252 8 rfl zo252 zzf12_79 X f19 (by decide) (by decide) rfl ?_
    refine z_xP zt252 9 23 [some (.ref 19), some (.int p1), some (.int p2), some (.int b3)] [.int 0, .int b3, .ref 43] rfl rfl ?_
    have f43 : T[43]? = some (.inr (43, 0, 9, 0, 1023)) := X.1.k rfl (by decide)
    have q0 : ((0 : Int32)).toInt = 0 := rfl
    refine z_xis zt252 10 rfl X f43 (by decide) (by decide) (by omega) (by omega) (by omega) (by omega) (by decide) (fun M12 X13 e14 h15 => ?_)
    refine z_xN zt252 11 rfl rfl (fun (x16 : Int32) (h17 : x16.toInt = b3.toInt + 1) => ?_) (z_pAdd rfl rfl (by omega) (by omega))
    show z_ev (d + 3) 252 27 [some (.ref 19), some (.int p1), some (.int p2), some (.int x16)] [] M12 _
    refine z_xP zt252 12 12 [some (.ref 19), some (.int p1), some (.int p2), some (.int x16)] [] rfl rfl ?_
    have h18 := (e14.f f19 (by decide) hp0)
    have h19 := (e14.f f19 (by decide) hp1)
    refine ih M12 x16 z0 z1 X13 ⟨by omega, by omega⟩ h18 ⟨by omega, by omega⟩ h19 ⟨by omega, by omega⟩ (by omega) (by omega) (by omega) (z_NBs hn h15 rfl (by omega) (by omega) (by omega) (by omega)) (fun j hj => ?_) (by omega)
    rw [h15]
    show (if j = b3.toInt.toNat then (0 : Int32) else z_Ar M 43 j).toInt = 0
    by_cases cj : j = b3.toInt.toNat
    · rw [if_pos cj]
      rfl
    · rw [if_neg cj]
      exact hz43 j (by omega)
theorem zUC252 {T : List zK} {d : Nat} {K : Option Value → zH → Prop} {p1 : Int32} {p2 : Int32} {zl0 : Int32} {M0 : zH} (hW : z_W M0 T) (u1 : 0 ≤ p1.toInt ∧ p1.toInt ≤ 7) (u2 : 1 ≤ p2.toInt ∧ p2.toInt ≤ 5) (hl0 : z_Ar M0 31 p1.toNatClampNeg = zl0) (bl0 : 1 ≤ zl0.toInt ∧ zl0.toInt ≤ 1024) {q t m pr en : Nat} {B : Nat → Nat} {S : Nat → Int32} {A : Int32} (hG : y_AGO M0 p1.toNatClampNeg q t m pr en B) (hSS : ∀ k, k < m → z_Ar M0 30 (1024 * p1.toNatClampNeg + k) = S k) (hA : A.toInt = ((2 ^ q : Nat) : Int) - 1) (q10 : 1 ≤ q ∧ q ≤ 10) (m1 : 1 ≤ m) (kk : ∀ (M1 : zH), z_X T zw252 M0 M1 → y_TN T M1 p1.toNatClampNeg q t m pr en p2.toInt.toNat B (fun _ => 0) S A → y_ST M1 p2.toInt.toNat (fun _ => 0) S A → K none M1) : z_ev (d + 3) 252 0 [some (.ref 19), some (.int p1), some (.int p2), none] [] M0 K := by
  have X : z_X T zw252 M0 M0 := .refl hW
  refine z_xP zt252 0 2 [some (.ref 19), some (.int p1), some (.int p2), none] [.int p1, .ref 19] rfl rfl ?_
  have f19 : T[19]? = some (.inl (12, 0, 0, 0, 0)) := X.1.k rfl (by decide)
  refine z_xpf zt252 1 rfl zo252 zzf12_242 X f19 (by decide) (by decide) ⟨by omega, by omega⟩ rfl (by decide) zw12_29 (fun M1 X2 e3 h4 => ?_)
  refine z_xP zt252 2 7 [some (.ref 19), some (.int p1), some (.int p2), none] [.int p2, .ref 19] rfl rfl ?_
  refine z_xpf zt252 3 rfl zo252 zzf12_245 X2 f19 (by decide) (by decide) ⟨by omega, by omega⟩ rfl (by decide) zw12_30 (fun M5 X6 e7 h8 => ?_)
  refine z_xP zt252 4 12 [some (.ref 19), some (.int p1), some (.int p2), some (.int 0)] [] rfl rfl ?_
  have h9 := (e7.f f19 (by decide) h4)
  have q0 : ((0 : Int32)).toInt = 0 := rfl
  exact (zUB252 u1 u2 hl0 bl0 hW hG hSS hA q10 m1 kk 12) M5 (0) p1 p2 X6 (by decide) h9 ⟨by omega, by omega⟩ h8 ⟨by omega, by omega⟩ (by omega) (by omega) (by omega) (z_NB0 (by omega)) (fun j hj => by omega) (by omega)
