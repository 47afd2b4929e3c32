/-! mend of the class, told -/
theorem z_sfy {x : Int} {P : Prop} (h : (x = 1 ∧ P) ∨ (x = 0 ∧ ¬ P)) (hx : x ≠ 0) : P := by
  rcases h with ⟨_, h⟩ | ⟨h, _⟩
  · exact h
  · exact absurd h hx
theorem z_sfn {x : Int} {P : Prop} (h : (x = 1 ∧ P) ∨ (x = 0 ∧ ¬ P)) (hx : x = 0) : ¬ P := by
  rcases h with ⟨h, _⟩ | ⟨_, h⟩
  · omega
  · exact h
def zw148 : List Nat := [112, 113]
theorem zUC148 {T : List zK} {d : Nat} {K : Option Value → zH → Prop} {a0 : Nat} {q : Nat} {t : Nat} {m : Nat} {p1 : Int32} {p2 : Int32} {pr en fb fw : Nat} {B : Nat → Nat} {M0 : zH} (hW : z_W M0 T) (k0 : T[a0]? = some (.inl (2, q, t, m, 0))) (u1 : 0 ≤ p1.toInt ∧ p1.toInt ≤ 255) (u2 : 1 ≤ p2.toInt ∧ p2.toInt ≤ 5) (hag : z_AGO T M0 a0 q t m pr en B) (hfb : z_F M0 a0 12 = some (.ref fb)) (kfb : T[fb]? = some (.inr (112, 1, z_bl q, 0, 0))) (hfw : z_F M0 a0 13 = some (.ref fw)) (kfw : T[fw]? = some (.inr (113, 0, 12, 0, 64 * ((z_bl q : Nat) : Int) - 1))) (kk : ∀ (x : Int32) (M1 : zH), z_X T zw148 M0 M1 → 0 ≤ x.toInt → x.toInt ≤ 1 → (x.toInt = 1 ∧ z_sfe B t q p2.toInt.toNat p1.toInt.toNat) ∨ (x.toInt = 0 ∧ ¬ z_sfe B t q p2.toInt.toNat p1.toInt.toNat) → K (some (.int x)) M1) : z_ev (d + 3) 148 0 [some (.ref a0), some (.int p1), some (.int p2), none] [] M0 K := by
  have X : z_X T zw148 M0 M0 := .refl hW
  have g0 := X.1.p2 k0
  refine z_xP zt148 0 2 [some (.ref a0), some (.int p1), some (.int p2), none] [.int p1, .ref a0] rfl rfl ?_
  refine z_xcV (vs := [.ref a0, .int p1]) (r := []) (L2 := [some (.ref a0), some (.int p1), none, none, none, none, none, none]) zt148 1 rfl zo148 zzcV2_107 (Or.inl rfl) rfl X k0 rfl rfl rfl (Nat.le_of_ble_eq_true rfl) zzm149 (Nat.le_of_ble_eq_true rfl) rfl ?_
  obtain ⟨-, -, -, -, -, ⟨w1, e72, f73⟩, -, -, ⟨kp4, e85, kk86, f87⟩, -⟩ := hag
  refine zUC149 X.1 k0 (by omega) e72 f73 e85 kk86 f87 hfb kfb hfw kfw (fun x12 M8 X9 h10 h11 => ?_)
  have X13 := X.go X9 (z_sb (by decide))
  show z_ev (d + 3) 148 5 [some (.ref a0), some (.int p1), some (.int p2), none] [.int x12] M8 _
  refine z_xP zt148 2 9 [some (.ref a0), some (.int p1), some (.int p2), some (.int x12)] [.int 12, .int x12] rfl rfl ?_
  refine z_xJ zt148 3 rfl rfl (fun (h15 : x12.toInt ≤ 12) => ?_) (fun (h15 : 12 < x12.toInt) => ?_)
  · skip
    refine z_xP zt148 6 16 [some (.ref a0), some (.int p1), some (.int p2), some (.int x12)] [.int 3, .int p2] rfl rfl ?_
    refine z_xJ zt148 7 rfl rfl (fun (h16 : 3 ≤ p2.toInt) => ?_) (fun (h16 : p2.toInt < 3) => ?_)
    · skip
      refine z_xP zt148 10 23 [some (.ref a0), some (.int p1), some (.int p2), some (.int x12)] [.int 4, .int p2] rfl rfl ?_
      refine z_xJ zt148 11 rfl rfl (fun (h17 : p2.toInt ≠ 4) => ?_) (fun (h17 : p2.toInt = 4) => ?_)
      · skip
        refine z_xP zt148 15 36 [some (.ref a0), some (.int p1), some (.int p2), some (.int x12)] [.int x12, .ref a0] rfl rfl ?_
        refine z_xcV (vs := [.ref a0, .int x12]) (r := []) (L2 := [some (.ref a0), some (.int x12), none, none, none, none, none, none]) zt148 16 rfl zo148 zzcV2_113 (Or.inl rfl) rfl X13 k0 rfl rfl rfl (Nat.le_of_ble_eq_true rfl) zzm153 (Nat.le_of_ble_eq_true rfl) rfl ?_
        have h18 := z_b32 x12
        refine zUC153 X13.1 k0 (by omega) (X13.2.f k0 (by decide) hfw) kfw (X13.2.f k0 (by decide) hfb) kfb (fun x22 M19 X20 h23 h24 h21 => ?_)
        have X25 := X13.go X20 (z_sb (by decide))
        show z_ev (d + 3) 148 39 [some (.ref a0), some (.int p1), some (.int p2), some (.int x12)] [.int x22] M19 _
        exact z_xrz zt148 17 rfl zzr148 (by omega) (by omega) (kk x22 M19 X25 (by omega) (by omega) (z_sf3 h10 (by omega) (by omega) (by omega) (by omega) (h11 (by omega)).2 (h11 (by omega)).1 h21))
      refine z_xP zt148 12 28 [some (.ref a0), some (.int p1), some (.int p2), some (.int x12)] [.int x12, .ref a0] rfl rfl ?_
      refine z_xcV (vs := [.ref a0, .int x12]) (r := []) (L2 := [some (.ref a0), some (.int x12), none, none, none, none, none, none, none, none, none, none]) zt148 13 rfl zo148 zzcV2_110 (Or.inl rfl) rfl X13 k0 rfl rfl rfl (Nat.le_of_ble_eq_true rfl) zzm151 (Nat.le_of_ble_eq_true rfl) rfl ?_
      have h27 := z_b32 x12
      refine zUC151 X13.1 k0 (by omega) (X13.2.f k0 (by decide) hfw) kfw (fun x31 M28 X29 h32 h33 h30 => ?_)
      have X34 := X13.go X29 (z_sb (by decide))
      show z_ev (d + 3) 148 31 [some (.ref a0), some (.int p1), some (.int p2), some (.int x12)] [.int x31] M28 _
      refine z_xP zt148 14 39 [some (.ref a0), some (.int p1), some (.int p2), some (.int x12)] [.int x31] rfl rfl ?_
      exact z_xrz zt148 17 rfl zzr148 (by omega) (by omega) (kk x31 M28 X34 (by omega) (by omega) (z_sf4 h10 (by omega) g0.1.2.1 (by omega) (h11 (by omega)).2 h30))
    refine z_xP zt148 8 20 [some (.ref a0), some (.int p1), some (.int p2), some (.int x12)] [.int 1] rfl rfl ?_
    have q1 : ((1 : Int32)).toInt = 1 := rfl
    have q1 : ((1 : Int32)).toInt = 1 := rfl
    exact z_xrz zt148 9 rfl zzr148 (by decide) (by decide) (kk 1 M8 X13 (by omega) (by omega) (z_sf2 h10 (by omega) (by omega) (by omega) (by omega)))
  refine z_xP zt148 4 13 [some (.ref a0), some (.int p1), some (.int p2), some (.int x12)] [.int 0] rfl rfl ?_
  have q0 : ((0 : Int32)).toInt = 0 := rfl
  have q0 : ((0 : Int32)).toInt = 0 := rfl
  exact z_xrz zt148 5 rfl zzr148 (by decide) (by decide) (kk 0 M8 X13 (by omega) (by omega) (z_sf12 h10 (by omega) (by omega)))
theorem zUB147 {T : List zK} {d : Nat} {K : Option Value → zH → Prop} {a0 : Nat} {q : Nat} {t : Nat} {m : Nat} {p1 : Int32} {p2 : Int32} {pr en fb fw : Nat} {B : Nat → Nat} {M0 : zH} (k0 : T[a0]? = some (.inl (2, q, t, m, 0))) (u1 : 1 ≤ p1.toInt ∧ p1.toInt ≤ 5) (u2 : 0 ≤ p2.toInt ∧ p2.toInt ≤ 2) (hag : z_AGO T M0 a0 q t m pr en B) (hfb : z_F M0 a0 12 = some (.ref fb)) (kfb : T[fb]? = some (.inr (112, 1, z_bl q, 0, 0))) (hfw : z_F M0 a0 13 = some (.ref fw)) (kfw : T[fw]? = some (.inr (113, 0, 12, 0, 64 * ((z_bl q : Nat) : Int) - 1))) (kk : ∀ (x : Int32) (M1 : zH), z_X T zw147 M0 M1 → (-2) ≤ x.toInt → x.toInt ≤ 257 → z_mda (z_sfe B t q p1.toInt.toNat) (2 ^ t) p2.toInt x.toInt → K (some (.int x)) M1) : ∀ n : Nat, (∀ (M : zH) (b3 : Int32) (b4 : Int32) (b5 : Int32) (b6 : Int32) (o7 : Option Value), z_X T zw147 M0 M → 0 ≤ b3.toInt ∧ b3.toInt ≤ 9 → 0 ≤ b4.toInt ∧ b4.toInt ≤ 255 → 0 ≤ b5.toInt ∧ b5.toInt ≤ 257 → 0 ≤ b6.toInt ∧ b6.toInt ≤ 256 → 0 ≤ b5.toInt → b5.toInt ≤ b6.toInt → z_mnI (z_sfe B t q p1.toInt.toNat) b6.toInt.toNat b3.toInt b4.toInt b5.toInt → b6.toInt ≤ ((2 ^ t : Nat) : Int) → ((0) * 2 + 0) * 257 + (256 - b6.toInt) < (n : Int) → z_ev (d + 4) 147 12 [some (.ref a0), some (.int p1), some (.int p2), some (.int b3), some (.int b4), some (.int b5), some (.int b6), o7] [] M K) := by
  intro n
  induction n with
  | zero => exact by intros; exfalso; omega
  | succ n ih =>
    intro M b3 b4 b5 b6 o7 X hh0 hh1 hh2 hh3 hh4 hh5 hI hE2 hE
    have g0 := X.1.p2 k0
    refine z_xP zt147 1 16 [some (.ref a0), some (.int p1), some (.int p2), some (.int b3), some (.int b4), some (.int b5), some (.int b6), o7] [.ref a0, .int 1, .int b6] rfl rfl ?_
    refine z_xgI zt147 2 rfl zo147 zzf2_25 X k0 (by decide) (by decide) rfl (fun (x2 : Int32) h1 (h3 : (t : Int) ≤ x2.toInt) (h4 : x2.toInt ≤ (t : Int)) => ?_)
    refine z_xI zt147 3 rfl rfl (fun (x5 : Int32) (h6 : x5 = (1 : Int32) <<< (x2 &&& 31) ∧ 1 ≤ x5.toInt ∧ x5.toInt ≤ 256) => ?_) (⟨rfl, z_pShlB (a := 1) (b := 8) (c := 256) (r := 256) rfl rfl (by omega) (by omega) (by omega) (by omega) (by decide) (by decide) (by decide) (by decide)⟩)
    refine z_xJ zt147 4 rfl rfl (fun (h7 : x5.toInt ≤ b6.toInt) => ?_) (fun (h7 : b6.toInt < x5.toInt) => ?_)
    · skip
      refine z_xP zt147 19 76 [some (.ref a0), some (.int p1), some (.int p2), some (.int b3), some (.int b4), some (.int b5), some (.int b6), o7] [.int b5] rfl rfl ?_
      refine z_xZ zt147 20 rfl rfl (fun (h8 : b5.toInt ≠ 0) => ?_) (fun (h8 : b5.toInt = 0) => ?_)
      · skip
        refine z_xP zt147 23 83 [some (.ref a0), some (.int p1), some (.int p2), some (.int b3), some (.int b4), some (.int b5), some (.int b6), o7] [.int p2] rfl rfl ?_
        refine z_xZ zt147 24 rfl rfl (fun (h9 : p2.toInt ≠ 0) => ?_) (fun (h9 : p2.toInt = 0) => ?_)
        · skip
          refine z_xP zt147 26 92 [some (.ref a0), some (.int p1), some (.int p2), some (.int b3), some (.int b4), some (.int b5), some (.int b6), o7] [.int 1, .int p2] rfl rfl ?_
          refine z_xJ zt147 27 rfl rfl (fun (h10 : p2.toInt ≠ 1) => ?_) (fun (h10 : p2.toInt = 1) => ?_)
          · skip
            refine z_xP zt147 29 102 [some (.ref a0), some (.int p1), some (.int p2), some (.int b3), some (.int b4), some (.int b5), some (.int b6), o7] [.int b5] rfl rfl ?_
            have i11 := z_2q1 (x := x2) (by omega) (by omega) h6.1
            rw [show x2.toInt.toNat = t from by omega] at i11
            have he12 : b6.toInt.toNat = 2 ^ t := by clear hI; generalize (2 : Nat) ^ t = P at *; omega
            exact z_xri zt147 30 rfl zzr147 (kk b5 M X (by omega) (by omega) (z_mnI3 hI he12 (by omega) (by omega)))
          refine z_xP zt147 28 102 [some (.ref a0), some (.int p1), some (.int p2), some (.int b3), some (.int b4), some (.int b5), some (.int b6), o7] [.int b4] rfl rfl ?_
          have i13 := z_2q1 (x := x2) (by omega) (by omega) h6.1
          rw [show x2.toInt.toNat = t from by omega] at i13
          have he14 : b6.toInt.toNat = 2 ^ t := by clear hI; generalize (2 : Nat) ^ t = P at *; omega
          exact z_xri zt147 30 rfl zzr147 (kk b4 M X (by omega) (by omega) (z_mnI3 hI he14 (by omega) (by omega)))
        refine z_xP zt147 25 102 [some (.ref a0), some (.int p1), some (.int p2), some (.int b3), some (.int b4), some (.int b5), some (.int b6), o7] [.int b3] rfl rfl ?_
        have i15 := z_2q1 (x := x2) (by omega) (by omega) h6.1
        rw [show x2.toInt.toNat = t from by omega] at i15
        have he16 : b6.toInt.toNat = 2 ^ t := by clear hI; generalize (2 : Nat) ^ t = P at *; omega
        exact z_xri zt147 30 rfl zzr147 (kk b3 M X (by omega) (by omega) (z_mnI3 hI he16 (by omega) (by omega)))
      refine z_xP zt147 21 81 [some (.ref a0), some (.int p1), some (.int p2), some (.int b3), some (.int b4), some (.int b5), some (.int b6), o7] [.int (-2)] rfl rfl ?_
      have qm2 : (((-2) : Int32)).toInt = (-2) := rfl
      have i17 := z_2q1 (x := x2) (by omega) (by omega) h6.1
      rw [show x2.toInt.toNat = t from by omega] at i17
      have he18 : b6.toInt.toNat = 2 ^ t := by clear hI; generalize (2 : Nat) ^ t = P at *; omega
      have qm2 : (((-2) : Int32)).toInt = (-2) := rfl
      exact z_xri zt147 22 rfl zzr147 (kk (-2) M X (by omega) (by omega) (z_mnI2 hI he18 (by omega) (by omega)))
    refine z_xP zt147 5 25 [some (.ref a0), some (.int p1), some (.int p2), some (.int b3), some (.int b4), some (.int b5), some (.int b6), o7] [.int b6] rfl rfl ?_
    refine z_xcS (vs := [.int b6]) (r := []) (L2 := [some (.int b6)]) zt147 6 rfl zo147 zzcS2_86 (Or.inl rfl) (Nat.le_of_ble_eq_true rfl) rfl rfl (Nat.le_of_ble_eq_true rfl) zzm31 (Nat.le_of_ble_eq_true rfl) rfl ?_
    refine zUC31 X.1 (by omega) (fun x22 M19 X20 h23 h24 h21 => ?_)
    have X25 := X.go X20 (z_sb (by decide))
    show z_ev (d + 4) 147 28 [some (.ref a0), some (.int p1), some (.int p2), some (.int b3), some (.int b4), some (.int b5), some (.int b6), o7] [.int x22] M19 _
    refine z_xP zt147 7 33 [some (.ref a0), some (.int p1), some (.int p2), some (.int b3), some (.int b4), some (.int b5), some (.int b6), some (.int x22)] [.int b3, .int x22] rfl rfl ?_
    refine z_xJ zt147 8 rfl rfl (fun (h27 : b3.toInt < x22.toInt) => ?_) (fun (h27 : x22.toInt ≤ b3.toInt) => ?_)
    · skip
      refine z_xN zt147 17 rfl rfl (fun (x28 : Int32) (h29 : x28.toInt = b6.toInt + 1) => ?_) (z_pAdd rfl rfl (by omega) (by omega))
      show z_ev (d + 4) 147 71 [some (.ref a0), some (.int p1), some (.int p2), some (.int b3), some (.int b4), some (.int b5), some (.int x28), some (.int x22)] [] M19 _
      refine z_xP zt147 18 12 [some (.ref a0), some (.int p1), some (.int p2), some (.int b3), some (.int b4), some (.int b5), some (.int x28), some (.int x22)] [] rfl rfl ?_
      have i30 : x28.toInt.toNat = b6.toInt.toNat + 1 := by omega
      have i31 := z_2q1 (x := x2) (by omega) (by omega) h6.1
      rw [show x2.toInt.toNat = t from by omega] at i31
      exact ih M19 b3 b4 b5 x28 (some (.int x22)) X25 ⟨by omega, by omega⟩ ⟨by omega, by omega⟩ ⟨by omega, by omega⟩ ⟨by omega, by omega⟩ (by omega) (by omega) (by rw [i30]; exact z_mnIA hI (by omega) h21 (by omega)) (by omega) (by omega)
    refine z_xP zt147 9 40 [some (.ref a0), some (.int p1), some (.int p2), some (.int b3), some (.int b4), some (.int b5), some (.int b6), some (.int x22)] [.int p1, .int b6, .ref a0] rfl rfl ?_
    refine z_xcV (vs := [.ref a0, .int b6, .int p1]) (r := []) (L2 := [some (.ref a0), some (.int b6), some (.int p1), none]) zt147 10 rfl zo147 zzcV2_103 (Or.inl rfl) rfl X25 k0 rfl rfl rfl (Nat.le_of_ble_eq_true rfl) zzm148 (Nat.le_of_ble_eq_true rfl) rfl ?_
    refine zUC148 X25.1 k0 (by omega) (by omega) (hag.ke (fun _ _ h => h) X25.2 rfl) (X25.2.f k0 (by decide) hfb) kfb (X25.2.f k0 (by decide) hfw) kfw (fun x35 M32 X33 h36 h37 h34 => ?_)
    have X38 := X25.go X33 (z_sb (by decide))
    show z_ev (d + 4) 147 43 [some (.ref a0), some (.int p1), some (.int p2), some (.int b3), some (.int b4), some (.int b5), some (.int b6), some (.int x22)] [.int x35] M32 _
    refine z_xZ zt147 11 rfl rfl (fun (h40 : x35.toInt ≠ 0) => ?_) (fun (h40 : x35.toInt = 0) => ?_)
    · skip
      refine z_xP zt147 13 52 [some (.ref a0), some (.int p1), some (.int p2), some (.int b3), some (.int b4), some (.int b5), some (.int b6), some (.int x22)] [.int b3, .int x22] rfl rfl ?_
      refine z_xJ zt147 14 rfl rfl (fun (h41 : b3.toInt ≤ x22.toInt) => ?_) (fun (h41 : x22.toInt < b3.toInt) => ?_)
      · skip
        refine z_xN zt147 16 rfl rfl (fun (x42 : Int32) (h43 : x42.toInt = b5.toInt + 1) => ?_) (z_pAdd rfl rfl (by omega) (by omega))
        show z_ev (d + 4) 147 68 [some (.ref a0), some (.int p1), some (.int p2), some (.int b3), some (.int b4), some (.int x42), some (.int b6), some (.int x22)] [] M32 _
        refine z_xN zt147 17 rfl rfl (fun (x44 : Int32) (h45 : x44.toInt = b6.toInt + 1) => ?_) (z_pAdd rfl rfl (by omega) (by omega))
        show z_ev (d + 4) 147 71 [some (.ref a0), some (.int p1), some (.int p2), some (.int b3), some (.int b4), some (.int x42), some (.int x44), some (.int x22)] [] M32 _
        refine z_xP zt147 18 12 [some (.ref a0), some (.int p1), some (.int p2), some (.int b3), some (.int b4), some (.int x42), some (.int x44), some (.int x22)] [] rfl rfl ?_
        have i46 : x44.toInt.toNat = b6.toInt.toNat + 1 := by omega
        have i47 := z_2q1 (x := x2) (by omega) (by omega) h6.1
        rw [show x2.toInt.toNat = t from by omega] at i47
        exact ih M32 b3 b4 x42 x44 (some (.int x22)) X38 ⟨by omega, by omega⟩ ⟨by omega, by omega⟩ ⟨by omega, by omega⟩ ⟨by omega, by omega⟩ (by omega) (by omega) (by rw [i46]; exact z_mnIE hI (by omega) h21 (by omega) (z_sfy h34 (by omega)) (by omega)) (by omega) (by omega)
      refine z_xP zt147 15 65 [some (.ref a0), some (.int p1), some (.int p2), some (.int x22), some (.int b6), some (.int 0), some (.int b6), some (.int x22)] [] rfl rfl ?_
      refine z_xN zt147 16 rfl rfl (fun (x48 : Int32) (h49 : x48.toInt = 0 + 1) => ?_) (z_pAdd rfl rfl (by omega) (by omega))
      show z_ev (d + 4) 147 68 [some (.ref a0), some (.int p1), some (.int p2), some (.int x22), some (.int b6), some (.int x48), some (.int b6), some (.int x22)] [] M32 _
      refine z_xN zt147 17 rfl rfl (fun (x50 : Int32) (h51 : x50.toInt = b6.toInt + 1) => ?_) (z_pAdd rfl rfl (by omega) (by omega))
      show z_ev (d + 4) 147 71 [some (.ref a0), some (.int p1), some (.int p2), some (.int x22), some (.int b6), some (.int x48), some (.int x50), some (.int x22)] [] M32 _
      refine z_xP zt147 18 12 [some (.ref a0), some (.int p1), some (.int p2), some (.int x22), some (.int b6), some (.int x48), some (.int x50), some (.int x22)] [] rfl rfl ?_
      have i52 : x50.toInt.toNat = b6.toInt.toNat + 1 := by omega
      have i53 := z_2q1 (x := x2) (by omega) (by omega) h6.1
      rw [show x2.toInt.toNat = t from by omega] at i53
      exact ih M32 x22 b6 x48 x50 (some (.int x22)) X38 ⟨by omega, by omega⟩ ⟨by omega, by omega⟩ ⟨by omega, by omega⟩ ⟨by omega, by omega⟩ (by omega) (by omega) (by rw [i52]; exact z_mnIC hI (by omega) h21 (by omega) (z_sfy h34 (by omega)) (by omega) (by omega)) (by omega) (by omega)
    refine z_xP zt147 12 68 [some (.ref a0), some (.int p1), some (.int p2), some (.int b3), some (.int b4), some (.int b5), some (.int b6), some (.int x22)] [] rfl rfl ?_
    refine z_xN zt147 17 rfl rfl (fun (x54 : Int32) (h55 : x54.toInt = b6.toInt + 1) => ?_) (z_pAdd rfl rfl (by omega) (by omega))
    show z_ev (d + 4) 147 71 [some (.ref a0), some (.int p1), some (.int p2), some (.int b3), some (.int b4), some (.int b5), some (.int x54), some (.int x22)] [] M32 _
    refine z_xP zt147 18 12 [some (.ref a0), some (.int p1), some (.int p2), some (.int b3), some (.int b4), some (.int b5), some (.int x54), some (.int x22)] [] rfl rfl ?_
    have i56 : x54.toInt.toNat = b6.toInt.toNat + 1 := by omega
    have i57 := z_2q1 (x := x2) (by omega) (by omega) h6.1
    rw [show x2.toInt.toNat = t from by omega] at i57
    exact ih M32 b3 b4 b5 x54 (some (.int x22)) X38 ⟨by omega, by omega⟩ ⟨by omega, by omega⟩ ⟨by omega, by omega⟩ ⟨by omega, by omega⟩ (by omega) (by omega) (by rw [i56]; exact z_mnIZ hI (z_sfn h34 (by omega))) (by omega) (by omega)
theorem zUC147 {T : List zK} {d : Nat} {K : Option Value → zH → Prop} {a0 : Nat} {q : Nat} {t : Nat} {m : Nat} {p1 : Int32} {p2 : Int32} {pr en fb fw : Nat} {B : Nat → Nat} {M0 : zH} (hW : z_W M0 T) (k0 : T[a0]? = some (.inl (2, q, t, m, 0))) (u1 : 1 ≤ p1.toInt ∧ p1.toInt ≤ 5) (u2 : 0 ≤ p2.toInt ∧ p2.toInt ≤ 2) (hag : z_AGO T M0 a0 q t m pr en B) (hfb : z_F M0 a0 12 = some (.ref fb)) (kfb : T[fb]? = some (.inr (112, 1, z_bl q, 0, 0))) (hfw : z_F M0 a0 13 = some (.ref fw)) (kfw : T[fw]? = some (.inr (113, 0, 12, 0, 64 * ((z_bl q : Nat) : Int) - 1))) (kk : ∀ (x : Int32) (M1 : zH), z_X T zw147 M0 M1 → (-2) ≤ x.toInt → x.toInt ≤ 257 → z_mda (z_sfe B t q p1.toInt.toNat) (2 ^ t) p2.toInt x.toInt → K (some (.int x)) M1) : z_ev (d + 4) 147 0 [some (.ref a0), some (.int p1), some (.int p2), none, none, none, none, none] [] M0 K := by
  have X : z_X T zw147 M0 M0 := .refl hW
  have g0 := X.1.p2 k0
  refine z_xP zt147 0 12 [some (.ref a0), some (.int p1), some (.int p2), some (.int 9), some (.int 0), some (.int 0), some (.int 0), none] [] rfl rfl ?_
  have q0 : ((0 : Int32)).toInt = 0 := rfl
  have q9 : ((9 : Int32)).toInt = 9 := rfl
  have q0 : ((0 : Int32)).toInt = 0 := rfl
  have q9 : ((9 : Int32)).toInt = 9 := rfl
  exact (zUB147 k0 u1 u2 hag hfb kfb hfw kfw kk 514) M0 (9) (0) (0) (0) none X (by decide) (by decide) (by decide) (by decide) (by omega) (by omega) (z_mnI0 (i0 := 0) rfl rfl rfl) (by have := Nat.two_pow_pos t; generalize (2 : Nat) ^ t = P at *; omega) (by omega)
theorem zUC146 {T : List zK} {d : Nat} {K : Option Value → zH → Prop} {p1 : Int32} {p2 : Int32} {p3 : Int32} {M0 : zH} (hW : z_W M0 T) (hR6 : z_R6 T M0) (hG : z_GG T M0) (kk : ∀ (x : Int32) (M1 : zH), z_X T zw146 M0 M1 → (-2) ≤ x.toInt → x.toInt ≤ 257 → z_qA T M0 p1 x.toInt (fun q t m pr en B => (x.toInt = -1 ∧ ¬ (1 ≤ p2.toInt ∧ p2.toInt ≤ 5 ∧ 0 ≤ p3.toInt ∧ p3.toInt ≤ 2)) ∨ ((1 ≤ p2.toInt ∧ p2.toInt ≤ 5 ∧ 0 ≤ p3.toInt ∧ p3.toInt ≤ 2) ∧ z_mda (z_sfe B t q p2.toInt.toNat) (2 ^ t) p3.toInt x.toInt)) → K (some (.int x)) M1) : z_ev (d + 5) 146 0 [some (.ref 4), some (.int p1), some (.int p2), some (.int p3), none] [] M0 K := by
  have X : z_X T zw146 M0 M0 := .refl hW
  refine z_xP zt146 0 2 [some (.ref 4), some (.int p1), some (.int p2), some (.int p3), none] [.int p1, .ref 4] rfl rfl ?_
  have f4 : T[4]? = some (.inl (0, 0, 0, 0, 0)) := X.1.k rfl (by decide)
  refine z_xcV (vs := [.ref 4, .int p1]) (r := []) (L2 := [some (.ref 4), some (.int p1)]) zt146 1 rfl zo146 zzcV0_108 (Or.inl rfl) rfl X f4 rfl rfl rfl (Nat.le_of_ble_eq_true rfl) zzm37 (Nat.le_of_ble_eq_true rfl) rfl ?_
  refine z_xP zt37 0 1 [some (.ref 4), some (.int p1)] [.int p1] rfl rfl ?_
  refine z_xZ zt37 1 rfl rfl (fun (h1 : p1.toInt < 0) => ?_) (fun (h1 : 0 ≤ p1.toInt) => ?_)
  · skip
    refine z_xP zt37 5 25 [some (.ref 4), some (.int p1)] [.null] rfl rfl ?_
    refine z_xrn zt37 11 rfl zzr37 ?_
    show z_ev (d + 5) 146 5 [some (.ref 4), some (.int p1), some (.int p2), some (.int p3), none] [.null] M0 _
    refine z_xP zt146 2 31 [some (.ref 4), some (.int p1), some (.int p2), some (.int p3), some (.null)] [] rfl rfl ?_
    refine z_xP zt146 11 32 [some (.ref 4), some (.int p1), some (.int p2), some (.int p3), some (.null)] [.int (-1)] rfl rfl ?_
    have qm1 : (((-1) : Int32)).toInt = (-1) := rfl
    obtain ⟨x2, h3, h4, h5⟩ := z_W.fi X.1 f4 (k := 3) (lo := 0) (hi := 8) (by decide) rfl
    have qm1 : (((-1) : Int32)).toInt = (-1) := rfl
    exact z_xri zt146 12 rfl zzr146 (kk (-1) M0 X (by omega) (by omega) (z_qA0 h3 (by omega) (by omega)))
  refine z_xP zt37 2 6 [some (.ref 4), some (.int p1)] [.ref 4, .int p1] rfl rfl ?_
  refine z_xgI zt37 3 rfl zo37 zzf0_59 X f4 (by decide) (by decide) rfl (fun (x7 : Int32) h6 (h8 : 0 ≤ x7.toInt) (h9 : x7.toInt ≤ 8) => ?_)
  have h10 := z_b32 p1
  refine z_xJ zt37 4 rfl rfl (fun (h11 : p1.toInt < x7.toInt) => ?_) (fun (h11 : x7.toInt ≤ p1.toInt) => ?_)
  · skip
    refine z_xP zt37 6 17 [some (.ref 4), some (.int p1)] [.ref 4] rfl rfl ?_
    refine z_xgX (b := 10) zt37 7 rfl zo37 zzf0_18 X f4 (by decide) (by decide) rfl ?_
    refine z_xP zt37 8 21 [some (.ref 4), some (.int p1)] [.int p1, .ref 10] rfl rfl ?_
    have f10 : T[10]? = some (.inr (10, 2, 8, 9, 0)) := X.1.k rfl (by decide)
    refine z_xal zt37 9 rfl X f10 (by decide) (by decide) (by decide) (by omega) (by omega) (fun (a12 : Nat) h13 h14 => ?_) (fun h15 => absurd h15 (z_Gs (hG.go X (by decide)).2.1 h6 (by omega) (by omega)))
    obtain ⟨q16, t17, m18, k19⟩ : ∃ q t m, T[a12]? = some (.inl (3, q, t, m, 9)) := h14
    have g20 := X.1.p3 k19
    refine z_xgR (κ := .inl (2, q16, t17, m18, 0)) zt37 10 rfl zo37 zzf0_89 X k19 (by decide) (by decide) rfl (fun (a22 : Nat) h21 k23 => ?_)
    have g24 := X.1.p2 k23
    refine z_xra zt37 11 rfl zzr37 ?_
    show z_ev (d + 5) 146 5 [some (.ref 4), some (.int p1), some (.int p2), some (.int p3), none] [.ref a22] M0 _
    refine z_xP zt146 2 12 [some (.ref 4), some (.int p1), some (.int p2), some (.int p3), some (.ref a22)] [] rfl rfl ?_
    refine z_xP zt146 3 14 [some (.ref 4), some (.int p1), some (.int p2), some (.int p3), some (.ref a22)] [.int 1, .int p2] rfl rfl ?_
    refine z_xJ zt146 4 rfl rfl (fun (h25 : p2.toInt < 1) => ?_) (fun (h25 : 1 ≤ p2.toInt) => ?_)
    · skip
      refine z_xP zt146 11 32 [some (.ref 4), some (.int p1), some (.int p2), some (.int p3), some (.ref a22)] [.int (-1)] rfl rfl ?_
      have qm1 : (((-1) : Int32)).toInt = (-1) := rfl
      obtain ⟨pr26, en27, B28, hAB29⟩ := hR6.at h6 (by omega) (by omega) h13 k19 h21
      have qm1 : (((-1) : Int32)).toInt = (-1) := rfl
      exact z_xri zt146 12 rfl zzr146 (kk (-1) M0 X (by omega) (by omega) (z_qA1 h6 ⟨by omega, by omega⟩ hAB29 (Or.inl ⟨by omega, by omega⟩)))
    refine z_xP zt146 5 19 [some (.ref 4), some (.int p1), some (.int p2), some (.int p3), some (.ref a22)] [.int 5, .int p2] rfl rfl ?_
    refine z_xJ zt146 6 rfl rfl (fun (h30 : 5 < p2.toInt) => ?_) (fun (h30 : p2.toInt ≤ 5) => ?_)
    · skip
      refine z_xP zt146 11 32 [some (.ref 4), some (.int p1), some (.int p2), some (.int p3), some (.ref a22)] [.int (-1)] rfl rfl ?_
      have qm1 : (((-1) : Int32)).toInt = (-1) := rfl
      obtain ⟨pr31, en32, B33, hAB34⟩ := hR6.at h6 (by omega) (by omega) h13 k19 h21
      have qm1 : (((-1) : Int32)).toInt = (-1) := rfl
      exact z_xri zt146 12 rfl zzr146 (kk (-1) M0 X (by omega) (by omega) (z_qA1 h6 ⟨by omega, by omega⟩ hAB34 (Or.inl ⟨by omega, by omega⟩)))
    refine z_xP zt146 7 23 [some (.ref 4), some (.int p1), some (.int p2), some (.int p3), some (.ref a22)] [.int p3] rfl rfl ?_
    refine z_xZ zt146 8 rfl rfl (fun (h35 : p3.toInt < 0) => ?_) (fun (h35 : 0 ≤ p3.toInt) => ?_)
    · skip
      refine z_xP zt146 11 32 [some (.ref 4), some (.int p1), some (.int p2), some (.int p3), some (.ref a22)] [.int (-1)] rfl rfl ?_
      have qm1 : (((-1) : Int32)).toInt = (-1) := rfl
      obtain ⟨pr36, en37, B38, hAB39⟩ := hR6.at h6 (by omega) (by omega) h13 k19 h21
      have qm1 : (((-1) : Int32)).toInt = (-1) := rfl
      exact z_xri zt146 12 rfl zzr146 (kk (-1) M0 X (by omega) (by omega) (z_qA1 h6 ⟨by omega, by omega⟩ hAB39 (Or.inl ⟨by omega, by omega⟩)))
    refine z_xP zt146 9 28 [some (.ref 4), some (.int p1), some (.int p2), some (.int p3), some (.ref a22)] [.int 2, .int p3] rfl rfl ?_
    refine z_xJ zt146 10 rfl rfl (fun (h40 : p3.toInt ≤ 2) => ?_) (fun (h40 : 2 < p3.toInt) => ?_)
    · skip
      refine z_xP zt146 13 37 [some (.ref 4), some (.int p1), some (.int p2), some (.int p3), some (.ref a22)] [.int p3, .int p2, .ref a22] rfl rfl ?_
      refine z_xcV (vs := [.ref a22, .int p2, .int p3]) (r := []) (L2 := [some (.ref a22), some (.int p2), some (.int p3), none, none, none, none, none]) zt146 14 rfl zo146 zzcV0_288 (Or.inl rfl) rfl X k23 rfl rfl rfl (Nat.le_of_ble_eq_true rfl) zzm147 (Nat.le_of_ble_eq_true rfl) rfl ?_
      obtain ⟨pr41, en42, B43, hAB44⟩ := hR6.at h6 (by omega) (by omega) h13 k19 h21
      obtain ⟨⟨fb45, e1247, k1248⟩, fw46, e1349, k1350⟩ := z_fewR X.1 k23
      refine zUC147 X.1 k23 (by omega) (by omega) hAB44.2.2.2.1 e1247 k1248 e1349 k1350 (fun x54 M51 X52 h55 h56 h53 => ?_)
      have X57 := X.go X52 (z_sb (by decide))
      show z_ev (d + 5) 146 40 [some (.ref 4), some (.int p1), some (.int p2), some (.int p3), some (.ref a22)] [.int x54] M51 _
      exact z_xri zt146 15 rfl zzr146 (kk x54 M51 X57 (by omega) (by omega) (z_qA1 h6 ⟨by omega, by omega⟩ hAB44 (Or.inr ⟨by omega, h53⟩)))
    refine z_xP zt146 11 32 [some (.ref 4), some (.int p1), some (.int p2), some (.int p3), some (.ref a22)] [.int (-1)] rfl rfl ?_
    have qm1 : (((-1) : Int32)).toInt = (-1) := rfl
    obtain ⟨pr59, en60, B61, hAB62⟩ := hR6.at h6 (by omega) (by omega) h13 k19 h21
    have qm1 : (((-1) : Int32)).toInt = (-1) := rfl
    exact z_xri zt146 12 rfl zzr146 (kk (-1) M0 X (by omega) (by omega) (z_qA1 h6 ⟨by omega, by omega⟩ hAB62 (Or.inl ⟨by omega, by omega⟩)))
  refine z_xP zt37 5 25 [some (.ref 4), some (.int p1)] [.null] rfl rfl ?_
  refine z_xrn zt37 11 rfl zzr37 ?_
  show z_ev (d + 5) 146 5 [some (.ref 4), some (.int p1), some (.int p2), some (.int p3), none] [.null] M0 _
  refine z_xP zt146 2 31 [some (.ref 4), some (.int p1), some (.int p2), some (.int p3), some (.null)] [] rfl rfl ?_
  refine z_xP zt146 11 32 [some (.ref 4), some (.int p1), some (.int p2), some (.int p3), some (.null)] [.int (-1)] rfl rfl ?_
  have qm1 : (((-1) : Int32)).toInt = (-1) := rfl
  have qm1 : (((-1) : Int32)).toInt = (-1) := rfl
  exact z_xri zt146 12 rfl zzr146 (kk (-1) M0 X (by omega) (by omega) (z_qA0 h6 (by omega) (by omega)))
