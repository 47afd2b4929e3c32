/-! keptWithout while the agenda is made, told -/
/-- bits of a block that keep the first t ties -/
def z_kpb (w : Int64) (kb : Nat → Int64) (bl b t : Nat) (x : Int64) : Prop := ∀ i, i < 64 → (x.toBitVec.getLsbD i = true ↔ (w.toBitVec.getLsbD i = true ∧ ∀ t', t' < t → (kb (t' * bl + b)).toBitVec.getLsbD i = true))
theorem z_kpb0 {w : Int64} {kb : Nat → Int64} {bl b : Nat} : z_kpb w kb bl b 0 w := fun i _ => ⟨fun h => ⟨h, fun t' h' => absurd h' (Nat.not_lt_zero t')⟩, fun h => h.1⟩
theorem z_kpbS {w x y z : Int64} {kb : Nat → Int64} {bl b t : Nat} (h : z_kpb w kb bl b t x) (hy : kb (t * bl + b) = y) (e : z = x &&& y) : z_kpb w kb bl b (t + 1) z := fun i hi => by
  have h1 := h i hi
  rw [e, Int64.toBitVec_and, BitVec.getLsbD_and, Bool.and_eq_true, h1, ← hy]
  refine ⟨fun a => ⟨a.1.1, fun t' ht => ?_⟩, fun a => ⟨⟨a.1, fun t' ht => a.2 t' (by omega)⟩, a.2 t (Nat.lt_succ_self t)⟩⟩
  by_cases c : t' = t
  · rw [c]; exact a.2
  · exact a.1.2 t' (by omega)
theorem z_kpbE {w x : Int64} {kb : Nat → Int64} {bl b t t2 : Nat} (h : z_kpb w kb bl b t x) (hx : x.toInt = 0) (ht : t ≤ t2) : z_kpb w kb bl b t2 x := fun i hi => by
  have x0 : x = 0 := Int64.toInt_inj.mp (hx.trans rfl)
  refine ⟨fun a => ?_, fun a => (h i hi).mpr ⟨a.1, fun t' h' => a.2 t' (by omega)⟩⟩
  rw [x0, z_nobit i hi] at a
  cases a
theorem z_ixm {x y p z s : Int32} {B : Nat} (hz : p.toInt = x.toInt * y.toInt) (hy : y.toInt = (B : Int)) (x0 : 0 ≤ x.toInt) (hs : z.toInt = p.toInt + s.toInt) (s0 : 0 ≤ s.toInt) : z.toNatClampNeg = x.toInt.toNat * B + s.toInt.toNat := by
  have e0 : p.toInt = ((x.toInt.toNat * B : Nat) : Int) := by
    rw [hz, hy, Int.natCast_mul, Int.toNat_of_nonneg x0]
  show z.toInt.toNat = _
  generalize x.toInt.toNat * B = P at *
  omega
theorem zXB24 {T : List zK} {d : Nat} {K : Option Value → zH → Prop} {a0 q t m kp : Nat} {p2 : Int32} {w : Int64} {M0 : zH} (k0 : T[a0]? = some (.inl (2, q, t, m, 1))) (h8 : z_F M0 a0 8 = some (.ref kp)) (k8 : T[kp]? = some (.inr (108, 1, t * z_bl q, 0, 0))) (u2 : 0 ≤ p2.toInt ∧ p2.toInt ≤ 15) (hb0 : p2.toInt < ((z_bl q : Nat) : Int)) (kk : ∀ (x : Int64) (M1 : zH), z_X T zw24 M0 M1 → z_kpb w (z_Lg M0 kp) (z_bl q) p2.toInt.toNat t x → K (some (.long x)) M1) : ∀ n : Nat, (∀ (M : zH) (b3 : Int64) (b5 : Int32), z_X T zw24 M0 M → 0 ≤ b5.toInt ∧ b5.toInt ≤ (t : Int) → z_kpb w (z_Lg M0 kp) (z_bl q) p2.toInt.toNat b5.toInt.toNat b3 → (t : Int) - b5.toInt < (n : Int) → z_ev d 24 8 [some (.ref a0), some (.int 0), some (.int p2), some (.long b3), none, some (.int b5)] [] M K) := by
  intro n
  induction n with
  | zero => intros; exfalso; omega
  | succ n ih =>
    intro M b3 b5 X hh0 hk hE
    have g0 := X.1.p2 k0
    refine z_xP zt24 3 11 [some (.ref a0), some (.int 0), some (.int p2), some (.long b3), none, some (.int b5)] [.ref a0, .int b5] rfl rfl ?_
    refine z_xgI zt24 4 rfl zo24 zzf2_25 X k0 (by decide) (by decide) rfl (fun (x2 : Int32) h1 (h3 : (t : Int) ≤ x2.toInt) (h4 : x2.toInt ≤ (t : Int)) => ?_)
    refine z_xJ zt24 5 rfl rfl (fun (h5 : x2.toInt ≤ b5.toInt) => ?_) (fun (h5 : b5.toInt < x2.toInt) => ?_)
    · have e : b5.toInt.toNat = t := by omega
      rw [e] at hk
      refine z_xP zt24 26 56 [some (.ref a0), some (.int 0), some (.int p2), some (.long b3), none, some (.int b5)] [.long b3] rfl rfl ?_
      exact z_xrl zt24 27 rfl zzr24 (kk b3 M X hk)
    refine z_xP zt24 6 19 [some (.ref a0), some (.int 0), some (.int p2), some (.long b3), none, some (.int b5)] [.long 0, .long b3] rfl rfl ?_
    refine z_xI zt24 7 rfl rfl (fun (x6 : Int32) (h7 : (x6.toInt < 0 ∧ b3.toInt < 0) ∨ (x6.toInt = 0 ∧ b3.toInt = 0) ∨ (0 < x6.toInt ∧ 0 < b3.toInt)) => ?_) (z_qCmp rfl rfl)
    refine z_xZ zt24 8 rfl rfl (fun (h8 : x6.toInt = 0) => ?_) (fun (h8 : x6.toInt ≠ 0) => ?_)
    · refine z_xP zt24 26 56 [some (.ref a0), some (.int 0), some (.int p2), some (.long b3), none, some (.int b5)] [.long b3] rfl rfl ?_
      exact z_xrl zt24 27 rfl zzr24 (kk b3 M X (z_kpbE hk (by omega) (by omega)))
    refine z_xP zt24 9 26 [some (.ref a0), some (.int 0), some (.int p2), some (.long b3), none, some (.int b5)] [.int b5, .int 0] rfl rfl ?_
    refine z_xI zt24 10 rfl rfl (fun (x10 : Int32) (h11 : x10 = (0 : Int32) >>> (b5 &&& 31)) => ?_) rfl
    refine z_xP zt24 11 28 [some (.ref a0), some (.int 0), some (.int p2), some (.long b3), none, some (.int b5)] [.int 1, .int x10] rfl rfl ?_
    refine z_xI zt24 12 rfl rfl (fun (x12 : Int32) (h13 : x12 = x10 &&& 1) => ?_) rfl
    have h12 : x12.toInt = 0 := by
      have e := z_sbit h11 h13 (by decide) ⟨by omega, by omega⟩
      have e2 : (0 : Int32).toInt.toNat / 2 ^ b5.toInt.toNat = 0 := Nat.zero_div _
      rw [e2] at e
      exact e
    refine z_xZ zt24 13 rfl rfl (fun (h14 : x12.toInt ≠ 0) => absurd h12 h14) (fun (h14 : x12.toInt = 0) => ?_)
    refine z_xP zt24 14 34 [some (.ref a0), some (.int 0), some (.int p2), some (.long b3), none, some (.int b5)] [.ref a0, .long b3] rfl rfl ?_
    refine z_xgv zt24 15 rfl zo24 zzf2_28 X k0 (by decide) (X.2.f k0 (by decide) ‹z_F M0 a0 8 = some (.ref kp)›) ?_
    refine z_xP zt24 16 40 [some (.ref a0), some (.int 0), some (.int p2), some (.long b3), none, some (.int b5)] [.ref a0, .int b5, .ref kp, .long b3] rfl rfl ?_
    refine z_xgI zt24 17 rfl zo24 zzf2_35 X k0 (by decide) (by decide) rfl (fun (x21 : Int32) h20 (h22 : ((z_bl q : Nat) : Int) ≤ x21.toInt) (h23 : x21.toInt ≤ ((z_bl q : Nat) : Int)) => ?_)
    refine z_xI zt24 18 rfl rfl (fun (x24 : Int32) (h25 : x24.toInt = b5.toInt * x21.toInt ∧ 0 ≤ x24.toInt ∧ x24.toInt ≤ 112) => ?_) (z_pMulB (a := 7) (b := 16) rfl rfl (by omega) (by omega) (by omega) (by omega) (by decide) (by decide))
    refine z_xP zt24 19 45 [some (.ref a0), some (.int 0), some (.int p2), some (.long b3), none, some (.int b5)] [.int p2, .int x24, .ref kp, .long b3] rfl rfl ?_
    refine z_xI zt24 20 rfl rfl (fun (x26 : Int32) (h27 : x26.toInt = x24.toInt + p2.toInt) => ?_) (z_pAdd rfl rfl (by omega) (by omega))
    have h28 := z_nlx (p := x24.toInt) (x := b5.toInt) (y := x21.toInt) (s := p2.toInt) (z := x26.toInt) (A := t) (B := z_bl q) (by omega) (by omega) (by omega) (by omega) (by omega) (by omega) (by omega)
    refine z_xllv zt24 21 rfl X k8 (by decide) h28.1 h28.2 (fun (y29 : Int64) h29 => ?_)
    refine z_xL zt24 22 rfl rfl (fun (y30 : Int64) (h30 : y30 = b3 &&& y29) => ?_) rfl
    refine z_xP zt24 23 49 [some (.ref a0), some (.int 0), some (.int p2), some (.long y30), none, some (.int b5)] [] rfl rfl ?_
    refine z_xN zt24 24 rfl rfl (fun (x32 : Int32) (h33 : x32.toInt = b5.toInt + 1) => ?_) (z_pAdd rfl rfl (by omega) (by omega))
    show z_ev d 24 52 [some (.ref a0), some (.int 0), some (.int p2), some (.long y30), none, some (.int x32)] [] M _
    refine z_xP zt24 25 8 [some (.ref a0), some (.int 0), some (.int p2), some (.long y30), none, some (.int x32)] [] rfl rfl ?_
    have e21 : x21.toInt = ((z_bl q : Nat) : Int) := by omega
    have hy : z_Lg M0 kp (b5.toInt.toNat * z_bl q + p2.toInt.toNat) = y29 := by
      rw [← z_ixm h25.1 e21 hh0.1 h27 u2.1, ← X.2.lg k8 (by decide)]
      exact h29
    have e32 : x32.toInt.toNat = b5.toInt.toNat + 1 := by omega
    exact ih M y30 x32 X ⟨by omega, by omega⟩ (e32 ▸ z_kpbS hk hy h30) (by omega)
theorem zXC24 {T : List zK} {d : Nat} {K : Option Value → zH → Prop} {a0 q t m kp : Nat} {p2 : Int32} {w : Int64} {M0 : zH} (hW : z_W M0 T) (k0 : T[a0]? = some (.inl (2, q, t, m, 1))) (h7 : z_F M0 a0 7 = some (.long w)) (h8 : z_F M0 a0 8 = some (.ref kp)) (k8 : T[kp]? = some (.inr (108, 1, t * z_bl q, 0, 0))) (u2 : 0 ≤ p2.toInt ∧ p2.toInt ≤ 15) (hb0 : p2.toInt < ((z_bl q : Nat) : Int)) (kk : ∀ (x : Int64) (M1 : zH), z_X T zw24 M0 M1 → z_kpb w (z_Lg M0 kp) (z_bl q) p2.toInt.toNat t x → K (some (.long x)) M1) : z_ev d 24 0 [some (.ref a0), some (.int 0), some (.int p2), none, none, none] [] M0 K := by
  have X : z_X T zw24 M0 M0 := .refl hW
  have g0 := X.1.p2 k0
  refine z_xP zt24 0 1 [some (.ref a0), some (.int 0), some (.int p2), none, none, none] [.ref a0] rfl rfl ?_
  refine z_xgv zt24 1 rfl zo24 zzf2_40 X k0 (by decide) h7 ?_
  refine z_xP zt24 2 8 [some (.ref a0), some (.int 0), some (.int p2), some (.long w), none, some (.int 0)] [] rfl rfl ?_
  have q0 : ((0 : Int32)).toInt = 0 := rfl
  exact (zXB24 k0 h8 k8 u2 hb0 kk (t + 1)) M0 w 0 X ⟨by omega, by omega⟩ z_kpb0 (by omega)
/-! the loop of an agenda's constructor, told -/
def z_lbk (w : Int64) (kb : Nat → Int64) (bl t : Nat) (g : Nat → Int64) (n : Nat) : Prop := ∀ b, b < n → z_kpb w kb bl b t (g b)
/-- how many bits the first blocks have -/
def z_sm (g : Nat → Int64) : Nat → Nat
  | 0 => 0
  | b + 1 => z_sm g b + z_pcs 8 (z_un (g b))
theorem z_sm_le (g : Nat → Int64) : ∀ n, z_sm g n ≤ 64 * n := by
  intro n
  induction n with
  | zero => exact Nat.le_refl _
  | succ n ih =>
    have h := z_pcsl 8 (z_un (g n))
    show z_sm g n + z_pcs 8 (z_un (g n)) ≤ 64 * (n + 1)
    omega
theorem z_sm_eq {g g2 : Nat → Int64} : ∀ n, (∀ b, b < n → g2 b = g b) → z_sm g2 n = z_sm g n := by
  intro n
  induction n with
  | zero => intro _; rfl
  | succ n ih =>
    intro h
    show z_sm g2 n + z_pcs 8 (z_un (g2 n)) = z_sm g n + z_pcs 8 (z_un (g n))
    rw [ih (fun b hb => h b (by omega)), h n (Nat.lt_succ_self n)]
theorem z_un0 {x : Int64} (h : z_un x = 0) : x = 0 := by
  have h2 : x.toUInt64 = 0 := UInt64.toNat_inj.mp (h.trans rfl)
  show x.toUInt64.toInt64 = (0 : UInt64).toInt64
  exact congrArg UInt64.toInt64 h2
theorem z_sm0 (g : Nat → Int64) : ∀ n, z_sm g n = 0 ↔ ∀ b, b < n → g b = 0 := by
  intro n
  induction n with
  | zero => exact ⟨fun _ b hb => absurd hb (Nat.not_lt_zero b), fun _ => rfl⟩
  | succ n ih =>
    have e : z_sm g (n + 1) = z_sm g n + z_pcs 8 (z_un (g n)) := rfl
    rw [e]
    refine ⟨fun h b hb => ?_, fun h => ?_⟩
    · by_cases c : b = n
      · rw [c]
        exact z_un0 (z_pcs0 8 _ (z_unlt _) (by omega))
      · exact ih.mp (by omega) b (by omega)
    · rw [ih.mpr (fun b hb => h b (by omega)), h n (Nat.lt_succ_self n)]
      have e3 : z_pcs 8 (z_un 0) = 0 := z_pcsz 8
      omega
theorem zX23 {T : List zK} {d q t N kp lb : Nat} {p1 p2 p3 p4 : Int32} {w : Int64} {M0 : zH} {K : Option Value → zH → Prop} (kN : T[N]? = some (.inl (2, q, t, 0, 1))) (h7 : z_F M0 N 7 = some (.long w)) (h8 : z_F M0 N 8 = some (.ref kp)) (k8 : T[kp]? = some (.inr (108, 1, t * z_bl q, 0, 0))) (h9 : z_F M0 N 9 = some (.ref lb)) (k9 : T[lb]? = some (z_al 109 (z_bl q))) {T0 : List zK} (hp0 : ∀ (a : Nat) (κ : zK), T0[a]? = some κ → T[a]? = some κ) (n0 : T0[lb]? = none) (hbl : 1 ≤ z_bl q ∧ z_bl q ≤ 16) (hT : ∀ (many b : Int32) (M : zH), z_X T [109] M0 M → z_ke T0 [] M0 M → z_lbk w (z_Lg M0 kp) (z_bl q) t (z_Lg M lb) (z_bl q) → many.toInt = (z_sm (z_Lg M lb) (z_bl q) : Int) → z_ev (d + 1) 23 161 [some (.ref N), some (.int p1), some (.int p2), some (.int p3), some (.int p4), some (.ref kp), some (.int many), some (.int b)] [] M K) : ∀ (n : Nat) (b many : Int32) (M : zH), z_X T [109] M0 M → z_ke T0 [] M0 M → 0 ≤ b.toInt → b.toInt ≤ (z_bl q : Int) → z_lbk w (z_Lg M0 kp) (z_bl q) t (z_Lg M lb) b.toInt.toNat → many.toInt = (z_sm (z_Lg M lb) b.toInt.toNat : Int) → (z_bl q : Int) - b.toInt < (n : Int) → z_ev (d + 1) 23 117 [some (.ref N), some (.int p1), some (.int p2), some (.int p3), some (.int p4), some (.ref kp), some (.int many), some (.int b)] [] M K := by
  intro n
  induction n with
  | zero => intros; exfalso; omega
  | succ n ih =>
    intro b many M X hO b0 b1 hk hm hn
    have k9 : T[lb]? = some (.inr (109, 1, z_bl q, 0, 0)) := k9
    refine z_xP zt23 47 120 [some (.ref N), some (.int p1), some (.int p2), some (.int p3), some (.int p4), some (.ref kp), some (.int many), some (.int b)] [.ref N, .int b] rfl rfl ?_
    refine z_xgI zt23 48 rfl zo23 zzf2_35 X kN (by decide) (by decide) rfl (fun (x : Int32) _ (x0 : ((z_bl q : Nat) : Int) ≤ x.toInt) (x1 : x.toInt ≤ ((z_bl q : Nat) : Int)) => ?_)
    refine z_xJ zt23 49 rfl rfl (fun (h1 : x.toInt ≤ b.toInt) => ?_) (fun (h1 : b.toInt < x.toInt) => ?_)
    · have e : b.toInt.toNat = z_bl q := by omega
      rw [e] at hk hm
      exact hT many b M X hO hk hm
    refine z_xP zt23 50 127 [some (.ref N), some (.int p1), some (.int p2), some (.int p3), some (.int p4), some (.ref kp), some (.int many), some (.int b)] [.ref N] rfl rfl ?_
    refine z_xgv zt23 51 rfl zo23 zzf2_44 X kN (by decide) (X.2.f kN (by decide) h9) ?_
    refine z_xP zt23 52 136 [some (.ref N), some (.int p1), some (.int p2), some (.int p3), some (.int p4), some (.ref kp), some (.int many), some (.int b)] [.int b, .int 0, .ref N, .int b, .ref lb] rfl rfl ?_
    refine z_xcV (vs := [.ref N, .int 0, .int b]) (r := [.int b, .ref lb]) (L2 := [some (.ref N), some (.int 0), some (.int b), none, none, none]) zt23 53 rfl zo23 zzcV2_50 (Or.inl rfl) rfl X kN rfl rfl rfl (Nat.le_of_ble_eq_true rfl) zzm24 (Nat.le_of_ble_eq_true rfl) rfl ?_
    refine zXC24 X.1 kN (X.2.f kN (by decide) h7) (X.2.f kN (by decide) h8) k8 ⟨by omega, by omega⟩ (by omega) (fun y M1 X1 hy => ?_)
    rw [X.2.lg k8 (by decide)] at hy
    show z_ev (d + 1) 23 139 [some (.ref N), some (.int p1), some (.int p2), some (.int p3), some (.int p4), some (.ref kp), some (.int many), some (.int b)] [.long y, .int b, .ref lb] M1 _
    have X2 := X.go X1 (z_sb (by decide))
    refine z_xlsn zt23 54 rfl X2 k9 (by decide) (X.1.g4 k9 (by decide)) b0 (by omega) (by decide) (fun M2 X3 ke3 h3 hne => ?_)
    rw [X1.2.lg k9 (by decide)] at h3
    refine z_xP zt23 55 143 [some (.ref N), some (.int p1), some (.int p2), some (.int p3), some (.int p4), some (.ref kp), some (.int many), some (.int b)] [.ref N, .int many] rfl rfl ?_
    refine z_xgv zt23 56 rfl zo23 zzf2_44 X3 kN (by decide) (X3.2.f kN (by decide) h9) ?_
    refine z_xP zt23 57 148 [some (.ref N), some (.int p1), some (.int p2), some (.int p3), some (.int p4), some (.ref kp), some (.int many), some (.int b)] [.int b, .ref lb, .int many] rfl rfl ?_
    refine z_xllv zt23 58 rfl X3 k9 (by decide) b0 (by omega) (fun y2 hy2 => ?_)
    refine z_xcS (vs := [.long y2]) (r := [.int many]) (L2 := [some (.long y2), none]) zt23 59 rfl zo23 zzcS2_54 (Or.inl rfl) (Nat.le_of_ble_eq_true rfl) rfl rfl (Nat.le_of_ble_eq_true rfl) zzm25 (Nat.le_of_ble_eq_true rfl) rfl ?_
    refine zX25 (fun c hc => ?_)
    show z_ev (d + 1) 23 152 [some (.ref N), some (.int p1), some (.int p2), some (.int p3), some (.int p4), some (.ref kp), some (.int many), some (.int b)] [.int c, .int many] M2 _
    have hs1 := z_sm_le (z_Lg M lb) b.toInt.toNat
    have hs2 := z_pcsl 8 (z_un y2)
    refine z_xI zt23 60 rfl rfl (fun (m2 : Int32) (hm2 : m2.toInt = many.toInt + c.toInt) => ?_) (z_pAdd rfl rfl (by omega) (by omega))
    refine z_xP zt23 61 155 [some (.ref N), some (.int p1), some (.int p2), some (.int p3), some (.int p4), some (.ref kp), some (.int m2), some (.int b)] [] rfl rfl ?_
    have q1 : (1 : Int32).toInt = 1 := rfl
    refine z_xN (x := b) (P := fun b2 => b2.toInt = b.toInt + 1) zt23 62 rfl rfl (fun b2 hb2 => ?_) (z_pAdd rfl rfl (by omega) (by omega))
    show z_ev (d + 1) 23 158 [some (.ref N), some (.int p1), some (.int p2), some (.int p3), some (.int p4), some (.ref kp), some (.int m2), some (.int b2)] [] M2 K
    refine z_xP zt23 63 117 [some (.ref N), some (.int p1), some (.int p2), some (.int p3), some (.int p4), some (.ref kp), some (.int m2), some (.int b2)] [] rfl rfl ?_
    have eb : b2.toInt.toNat = b.toInt.toNat + 1 := by omega
    have ebn : b.toNatClampNeg = b.toInt.toNat := rfl
    rw [ebn] at h3 hy2
    have hsame : ∀ b', b' < b.toInt.toNat → z_Lg M2 lb b' = z_Lg M lb b' := fun b' h => by
      rw [h3]
      show (if b' = b.toInt.toNat then y else z_Lg M lb b') = _
      exact if_neg (by omega)
    have hthis : z_Lg M2 lb b.toInt.toNat = y := by
      rw [h3]
      show (if b.toInt.toNat = b.toInt.toNat then y else z_Lg M lb b.toInt.toNat) = _
      exact if_pos rfl
    refine ih b2 m2 M2 X3 ((hO.trans (X1.2.sub hp0) (z_sb (by decide))).trans (z_ke.ne hne n0) (fun _ h => h)) (by omega) (by omega) (fun b' h => ?_) ?_ (by omega)
    · by_cases e : b' = b.toInt.toNat
      · rw [e, hthis]; exact hy
      · rw [hsame b' (by omega)]; exact hk b' (by omega)
    · rw [eb]
      show m2.toInt = ((z_sm (z_Lg M2 lb) b.toInt.toNat + z_pcs 8 (z_un (z_Lg M2 lb b.toInt.toNat)) : Nat) : Int)
      rw [z_sm_eq _ hsame, hy2]
      omega
