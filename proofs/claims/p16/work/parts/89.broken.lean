/-! broken of both sides -/
theorem z_kpL {M M0 : zH} {a0 a14 kp i j : Nat} {y : Int64} (h13 : z_F M a0 8 = some (.ref a14)) (h8 : z_F M a0 8 = some (.ref kp)) (hl : z_Lg M a14 i = y) (e : i = j) (ek : z_Lg M kp = z_Lg M0 kp) : z_Lg M0 kp j = y := by
  rw [h13] at h8
  cases h8
  rw [← ek, ← e]
  exact hl
theorem z_ansT : ∀ q, q < 11 → ∀ s, s < 2 ^ q → ((Int32.ofNat s) ||| ((Int32.ofNat (2 ^ q - 1) &&& ((Int32.ofNat s) ^^^ (-1 : Int32))) <<< ((10 : Int32) &&& 31))).toInt = ((s + 1024 * (2 ^ q - 1 - s) : Nat) : Int) := by decide +kernel
theorem z_answ {p al e1 e2 e3 e4 : Int32} {q : Nat} (h0 : 0 ≤ p.toInt) (hp : p.toInt ≤ al.toInt) (ha : al.toInt = ((2 ^ q : Nat) : Int) - 1) (q10 : q ≤ 10) (h1 : e1 = p ^^^ (-1 : Int32)) (h2 : e2 = al &&& e1) (h3 : e3 = e2 <<< ((10 : Int32) &&& 31)) (h4 : e4 = p ||| e3) : e4.toInt = (p.toInt.toNat : Int) + 1024 * ((2 ^ q - 1 - p.toInt.toNat : Nat) : Int) ∧ p.toInt.toNat < 1024 ∧ 2 ^ q - 1 - p.toInt.toNat < 1024 := by
  have hP : 2 ^ q ≤ 1024 := Nat.pow_le_pow_right (n := 2) (by decide) q10
  have hs : p.toInt.toNat < 2 ^ q := by generalize 2 ^ q = P at *; omega
  have hT := z_ansT q (by omega) p.toInt.toNat hs
  have ep : p = Int32.ofNat p.toInt.toNat := z_of32 (by omega) (by omega)
  have ea : al = Int32.ofNat (2 ^ q - 1) := z_of32 (by generalize 2 ^ q = P at *; omega) (by generalize 2 ^ q = P at *; omega)
  rw [← ep, ← ea, ← h1, ← h2, ← h3, ← h4] at hT
  rw [hT]
  generalize 2 ^ q = P at *
  exact ⟨by omega, by omega, by omega⟩
theorem z_2q1T : ∀ q, q < 11 → ((1 : Int32) <<< ((Int32.ofNat q) &&& 31)).toInt = ((2 ^ q : Nat) : Int) := by decide +kernel
theorem z_2q1 {x c : Int32} (h0 : 0 ≤ x.toInt) (h1 : x.toInt ≤ 10) (hc : c = (1 : Int32) <<< (x &&& 31)) : c.toInt = ((2 ^ x.toInt.toNat : Nat) : Int) := by
  have e : x = Int32.ofNat x.toInt.toNat := z_of32 (by omega) (by omega)
  have hT := z_2q1T x.toInt.toNat (by omega)
  rw [← e, ← hc] at hT
  exact hT
theorem z_hasS {q s s2 : Nat} (h1 : s < 2 ^ q) (h2 : s2 < 2 ^ q) (q10 : q ≤ 10) : z_has s2 s (2 ^ q - 1 - s) ↔ s2 = s := by
  have hn : ∀ k, k < q → ((2 ^ q - 1 - s) / 2 ^ k % 2 = 1 ↔ s / 2 ^ k % 2 = 0) := fun k hk => by
    have e : 2 ^ q - 1 - s = 2 ^ q - (s + 1) := by omega
    have h3 : (2 ^ q - (s + 1)).testBit k = (decide (k < q) && !s.testBit k) := Nat.testBit_two_pow_sub_succ h1 k
    rw [Nat.testBit_eq_decide_div_mod_eq, Nat.testBit_eq_decide_div_mod_eq, decide_eq_true hk, Bool.true_and] at h3
    rw [e]
    have h4 := z_m2c (s / 2 ^ k)
    generalize (2 ^ q - (s + 1)) / 2 ^ k % 2 = x at *
    generalize s / 2 ^ k % 2 = y at *
    rcases h4 with h4 | h4
    · subst h4
      exact ⟨fun _ => rfl, fun _ => of_decide_eq_true h3⟩
    · subst h4
      exact ⟨fun h5 => by rw [h5] at h3; exact absurd h3 (by decide), fun h5 => by cases h5⟩
  refine ⟨fun h => ?_, fun h k hk => ?_⟩
  · refine z_beq h2 h1 fun k hk => ⟨fun a => ?_, fun a => (h k (by omega)).1 a⟩
    by_cases c : s / 2 ^ k % 2 = 1
    · exact c
    · have h5 := (h k (by omega)).2 ((hn k hk).mpr (z_m2n c))
      rw [h5] at a
      cases a
  · subst h
    refine ⟨fun a => a, fun a => ?_⟩
    by_cases c : k < q
    · exact (hn k c).mp a
    · have h3 : 2 ^ q ≤ 2 ^ k := Nat.pow_le_pow_right (n := 2) (by decide) (by omega)
      rw [Nat.div_eq_of_lt (Nat.lt_of_lt_of_le (show 2 ^ q - 1 - s2 < 2 ^ q by omega) h3)] at a
      cases a
/-- of one set: what it breaks -/
theorem z_brs1 {B : Nat → Nat} {q t : Nat} {p : Int32} {x : Int} (h : z_brs B q t p.toInt.toNat (2 ^ q - 1 - p.toInt.toNat) x) (hB : ∀ s, B s < 2 ^ t) (q10 : q ≤ 10) (hp : 0 ≤ p.toInt ∧ p.toInt < ((2 ^ q : Nat) : Int)) : x = (B p.toInt.toNat : Int) := by
  obtain ⟨h0, h1, h2⟩ := h
  have hs : p.toInt.toNat < 2 ^ q := by generalize 2 ^ q = P at *; omega
  have e : x.toNat = B p.toInt.toNat := z_beq h1 (hB _) fun i hi => by
    rw [h2 i hi]
    refine ⟨fun a => a _ hs ((z_hasS hs hs q10).mpr rfl), fun a s g1 g2 => ?_⟩
    rw [(z_hasS hs g1 q10).mp g2]
    exact a
  omega
/-- an answer about an agenda: none such, or as told -/
def z_qA (T : List zK) (M : zH) (p : Int32) (x : Int) (R : Nat → Nat → Nat → Nat → Nat → (Nat → Nat) → Prop) : Prop := ∃ A : Int32, z_F M 4 3 = some (.int A) ∧ ((x = -1 ∧ ¬ (0 ≤ p.toInt ∧ p.toInt < A.toInt)) ∨ ((0 ≤ p.toInt ∧ p.toInt < A.toInt) ∧ ∃ (b N q t m pr en : Nat) (B : Nat → Nat), z_AB T M p.toNatClampNeg b N q t m pr en B ∧ R q t m pr en B))
def y_qA (M : zH) (p : Int32) (x : Int) (R : Prop) : Prop := ∃ A : Int32, z_F M 19 13 = some (.int A) ∧ ((x = -1 ∧ ¬ (0 ≤ p.toInt ∧ p.toInt < A.toInt)) ∨ ((0 ≤ p.toInt ∧ p.toInt < A.toInt) ∧ R))
theorem z_qA0 {T : List zK} {M : zH} {p A : Int32} {x : Int} {R : Nat → Nat → Nat → Nat → Nat → (Nat → Nat) → Prop} (hA : z_F M 4 3 = some (.int A)) (h : x = -1) (hp : p.toInt < 0 ∨ A.toInt ≤ p.toInt) : z_qA T M p x R := ⟨A, hA, Or.inl ⟨h, by omega⟩⟩
theorem z_qA1 {T : List zK} {M : zH} {p A : Int32} {x : Int} {b N q t m pr en : Nat} {B : Nat → Nat} {R : Nat → Nat → Nat → Nat → Nat → (Nat → Nat) → Prop} (hA : z_F M 4 3 = some (.int A)) (hp : 0 ≤ p.toInt ∧ p.toInt < A.toInt) (h : z_AB T M p.toNatClampNeg b N q t m pr en B) (hR : R q t m pr en B) : z_qA T M p x R := ⟨A, hA, Or.inr ⟨hp, b, N, q, t, m, pr, en, B, h, hR⟩⟩
theorem y_qA0 {M : zH} {p A : Int32} {x : Int} {R : Prop} (hA : z_F M 19 13 = some (.int A)) (h : x = -1) (hp : p.toInt < 0 ∨ A.toInt ≤ p.toInt) : y_qA M p x R := ⟨A, hA, Or.inl ⟨h, by omega⟩⟩
theorem y_qA1 {M : zH} {p A : Int32} {x : Int} {R : Prop} (hA : z_F M 19 13 = some (.int A)) (hp : 0 ≤ p.toInt ∧ p.toInt < A.toInt) (hR : R) : y_qA M p x R := ⟨A, hA, Or.inr ⟨hp, hR⟩⟩
theorem z_R6.at {T : List zK} {M : zH} (h6 : z_R6 T M) {A p : Int32} (hA : z_F M 4 3 = some (.int A)) (h0 : 0 ≤ p.toInt) (hp : p.toInt < A.toInt) {b N q t m : Nat} (ho : z_O M 10 p.toNatClampNeg = some b) (kb : T[b]? = some (.inl (3, q, t, m, 9))) (hf : z_F M b 0 = some (.ref N)) : ∃ (pr en : Nat) (B : Nat → Nat), z_AB T M p.toNatClampNeg b N q t m pr en B := by
  have ex : (p.toNatClampNeg : Int) = p.toInt := by unfold Int32.toNatClampNeg; omega
  obtain ⟨b', N', q', t', m', pr, en, B, hAB⟩ := h6 A hA p.toNatClampNeg (by omega)
  have ob' := hAB.1
  have kb' := hAB.2.1
  have fb' := hAB.2.2.1
  obtain rfl : b = b' := Option.some.inj (ho.symm.trans ob')
  rw [kb] at kb'
  cases kb'
  obtain rfl : N = N' := by rw [hf] at fb'; cases fb'; rfl
  exact ⟨pr, en, B, hAB⟩
/-- both sides answer of the same agenda -/
theorem z_qAs {T : List zK} {M M1 : zH} {p : Int32} {x y : Int} {rs : List Nat} {R : Nat → Nat → Nat → Nat → Nat → (Nat → Nat) → Prop} {R2 : Prop} (hW : z_W M T) (ke : z_ke T rs M M1) (hs : (z_agr.all fun x => !rs.elem x) = true) (hA2 : (z_Fv M1 19 13).toInt = (z_Fv M 4 3).toInt) (h1 : z_qA T M p x R) (h2 : y_qA M1 p y R2) (hR : ∀ q t m pr en B, y_AGO M1 p.toNatClampNeg q t m pr en B → q ≤ 10 → m = z_lc B (2 ^ q) → R q t m pr en B → R2 → x = y) : x = y := by
  obtain ⟨A, hA, h1⟩ := h1
  obtain ⟨A2, hA3, h2⟩ := h2
  rw [z_Fv.of hA3, z_Fv.of hA] at hA2
  rcases h1 with ⟨h1, h3⟩ | ⟨h3, b, N, q, t, m, pr, en, B, hAB, h1⟩
  · rcases h2 with ⟨h2, _⟩ | ⟨h4, _⟩
    · rw [h1, h2]
    · exfalso; omega
  · rcases h2 with ⟨_, h4⟩ | ⟨_, h2⟩
    · exfalso; omega
    · exact hR q t m pr en B (hAB.2.2.2.2.ke hW ke hs) (hW.p2 hAB.2.2.2.1.1).1.2.1 hAB.2.2.2.1.2.2.1 h1 h2
theorem zUB41 {T : List zK} {d : Nat} {K : Option Value → zH → Prop} {a0 : Nat} {q : Nat} {t : Nat} {m : Nat} {p1 : Int32} {p2 : Int32} {w : Int64} {uy un : Nat} {M0 : zH} (k0 : T[a0]? = some (.inl (2, q, t, m, 0))) (u2 : 0 ≤ p2.toInt ∧ p2.toInt ≤ 15) (hb0 : p2.toInt < ((z_bl q : Nat) : Int)) (hw7 : z_F M0 a0 7 = some (.long w)) (hw : z_whb q w) (hd : p1.toInt = (uy : Int) + 1024 * (un : Int) ∧ uy < 1024 ∧ un < 1024) (hc2 : ∀ k, k < 6 → z_Lg M0 2 k = z_ty2.getD k 0) (kk : ∀ (x : Int64) (M1 : zH), z_X T zw41 M0 M1 → z_hw q uy un p2.toInt.toNat x → K (some (.long x)) M1) : ∀ n : Nat, (∀ (M : zH) (b3 : Int32) (b4 : Int32) (b5 : Int32) (b6 : Int64) (b8 : Int32), z_X T zw41 M0 M → 0 ≤ b3.toInt ∧ b3.toInt ≤ 1023 → (-2097152) ≤ b4.toInt ∧ b4.toInt ≤ 2097151 → 0 ≤ b5.toInt ∧ b5.toInt ≤ 960 → 0 ≤ b8.toInt ∧ b8.toInt ≤ 6 → b3.toInt = (uy : Int) → b4.toInt = (un : Int) → z_bcd uy un p2.toInt.toNat → z_svw w b3.toInt.toNat b4.toInt.toNat b8.toInt.toNat b6 → ((0) * 2 + 0) * 7 + (6 - b8.toInt) < (n : Int) → z_ev d 41 49 [some (.ref a0), some (.int p1), some (.int p2), some (.int b3), some (.int b4), some (.int b5), some (.long b6), none, some (.int b8)] [] M K) := by
  intro n
  induction n with
  | zero => exact by intros; exfalso; omega
  | succ n ih =>
    intro M b3 b4 b5 b6 b8 X hh0 hh1 hh2 hh3 hh4 hh5 hC hI hE
    have g0 := X.1.p2 k0
    refine z_xP zt41 20 51 [some (.ref a0), some (.int p1), some (.int p2), some (.int b3), some (.int b4), some (.int b5), some (.long b6), none, some (.int b8)] [.int b8] rfl rfl ?_
    refine z_xgs zt41 21 rfl zo41 zg2_97 ?_
    have f2 : T[2]? = some (.inr (2, 1, 6, 0, 0)) := X.1.k rfl (by decide)
    refine z_xln zt41 22 rfl X f2 (by decide) (by decide) (fun (x1 : Int32) (h2 : x1.toInt = ((6 : Nat) : Int)) => ?_)
    refine z_xJ zt41 23 rfl rfl (fun (h3 : x1.toInt ≤ b8.toInt) => ?_) (fun (h3 : b8.toInt < x1.toInt) => ?_)
    · skip
      refine z_xP zt41 50 111 [some (.ref a0), some (.int p1), some (.int p2), some (.int b3), some (.int b4), some (.int b5), some (.long b6), none, some (.int b8)] [.long b6] rfl rfl ?_
      have e3 : b3.toInt.toNat = uy := by omega
      have e4 : b4.toInt.toNat = un := by omega
      rw [e3, e4] at hI
      exact z_xrl zt41 51 rfl zzr41 (kk b6 M X (z_hwE (x := b8.toInt.toNat) hI (by omega) (by omega) hw hC))
    refine z_xP zt41 24 61 [some (.ref a0), some (.int p1), some (.int p2), some (.int b3), some (.int b4), some (.int b5), some (.long b6), none, some (.int b8)] [.int b8, .int b3] rfl rfl ?_
    refine z_xI zt41 25 rfl rfl (fun (x4 : Int32) (h5 : x4 = b3 >>> (b8 &&& 31)) => ?_) (rfl)
    refine z_xP zt41 26 63 [some (.ref a0), some (.int p1), some (.int p2), some (.int b3), some (.int b4), some (.int b5), some (.long b6), none, some (.int b8)] [.int 1, .int x4] rfl rfl ?_
    refine z_xI zt41 27 rfl rfl (fun (x6 : Int32) (h7 : x6 = x4 &&& (1 : Int32)) => ?_) (rfl)
    refine z_xZ zt41 28 rfl rfl (fun (h8 : x6.toInt = 0) => ?_) (fun (h8 : x6.toInt ≠ 0) => ?_)
    · skip
      refine z_xP zt41 35 82 [some (.ref a0), some (.int p1), some (.int p2), some (.int b3), some (.int b4), some (.int b5), some (.long b6), none, some (.int b8)] [.int b8, .int b4] rfl rfl ?_
      refine z_xI zt41 36 rfl rfl (fun (x9 : Int32) (h10 : x9 = b4 >>> (b8 &&& 31)) => ?_) (rfl)
      refine z_xP zt41 37 84 [some (.ref a0), some (.int p1), some (.int p2), some (.int b3), some (.int b4), some (.int b5), some (.long b6), none, some (.int b8)] [.int 1, .int x9] rfl rfl ?_
      refine z_xI zt41 38 rfl rfl (fun (x11 : Int32) (h12 : x11 = x9 &&& (1 : Int32)) => ?_) (rfl)
      refine z_xZ zt41 39 rfl rfl (fun (h13 : x11.toInt = 0) => ?_) (fun (h13 : x11.toInt ≠ 0) => ?_)
      · skip
        refine z_xN zt41 48 rfl rfl (fun (x14 : Int32) (h15 : x14.toInt = b8.toInt + 1) => ?_) (z_pAdd rfl rfl (by omega) (by omega))
        show z_ev d 41 106 [some (.ref a0), some (.int p1), some (.int p2), some (.int b3), some (.int b4), some (.int b5), some (.long b6), none, some (.int x14)] [] M _
        refine z_xP zt41 49 49 [some (.ref a0), some (.int p1), some (.int p2), some (.int b3), some (.int b4), some (.int b5), some (.long b6), none, some (.int x14)] [] rfl rfl ?_
        have i16 : x14.toInt.toNat = b8.toInt.toNat + 1 := by omega
        exact ih M b3 b4 b5 b6 x14 X ⟨by omega, by omega⟩ ⟨by omega, by omega⟩ ⟨by omega, by omega⟩ ⟨by omega, by omega⟩ (by omega) (by omega) hC (by rw [i16]; exact (z_svn0 (z_svy0 hI (z_sbit h5 h7 (by omega) ⟨by omega, by omega⟩) (by omega)) (z_sbit h10 h12 (by omega) ⟨by omega, by omega⟩) (by omega))) (by omega)
      refine z_xP zt41 40 90 [some (.ref a0), some (.int p1), some (.int p2), some (.int b3), some (.int b4), some (.int b5), some (.long b6), none, some (.int b8)] [.long b6] rfl rfl ?_
      refine z_xgs zt41 41 rfl zo41 zg2_97 ?_
      refine z_xP zt41 42 95 [some (.ref a0), some (.int p1), some (.int p2), some (.int b3), some (.int b4), some (.int b5), some (.long b6), none, some (.int b8)] [.int b8, .ref 2, .long b6] rfl rfl ?_
      refine z_xllv zt41 43 rfl X f2 (by decide) (by omega) (by omega) (fun (y17 : Int64) h18 => ?_)
      refine z_xl2 zt41 44 rfl zo41 zkl2_38 ?_
      refine z_xL zt41 45 rfl rfl (fun (y19 : Int64) (h20 : y19 = y17 ^^^ (-1)) => ?_) (rfl)
      refine z_xL zt41 46 rfl rfl (fun (y21 : Int64) (h22 : y21 = b6 &&& y19) => ?_) (rfl)
      refine z_xP zt41 47 103 [some (.ref a0), some (.int p1), some (.int p2), some (.int b3), some (.int b4), some (.int b5), some (.long y21), none, some (.int b8)] [] rfl rfl ?_
      refine z_xN zt41 48 rfl rfl (fun (x23 : Int32) (h24 : x23.toInt = b8.toInt + 1) => ?_) (z_pAdd rfl rfl (by omega) (by omega))
      show z_ev d 41 106 [some (.ref a0), some (.int p1), some (.int p2), some (.int b3), some (.int b4), some (.int b5), some (.long y21), none, some (.int x23)] [] M _
      refine z_xP zt41 49 49 [some (.ref a0), some (.int p1), some (.int p2), some (.int b3), some (.int b4), some (.int b5), some (.long y21), none, some (.int x23)] [] rfl rfl ?_
      have i25 : x23.toInt.toNat = b8.toInt.toNat + 1 := by omega
      exact ih M b3 b4 b5 y21 x23 X ⟨by omega, by omega⟩ ⟨by omega, by omega⟩ ⟨by omega, by omega⟩ ⟨by omega, by omega⟩ (by omega) (by omega) hC (by rw [i25]; exact (z_svn1 (z_svy0 hI (z_sbit h5 h7 (by omega) ⟨by omega, by omega⟩) (by omega)) (z_sbit h10 h12 (by omega) ⟨by omega, by omega⟩) (by omega) (by omega) (h18.symm.trans ((congrFun (X.2.lg f2 (by decide)) _).trans (hc2 b8.toInt.toNat (by omega)))) h20 h22)) (by omega)
    refine z_xP zt41 29 69 [some (.ref a0), some (.int p1), some (.int p2), some (.int b3), some (.int b4), some (.int b5), some (.long b6), none, some (.int b8)] [.long b6] rfl rfl ?_
    refine z_xgs zt41 30 rfl zo41 zg2_97 ?_
    refine z_xP zt41 31 74 [some (.ref a0), some (.int p1), some (.int p2), some (.int b3), some (.int b4), some (.int b5), some (.long b6), none, some (.int b8)] [.int b8, .ref 2, .long b6] rfl rfl ?_
    refine z_xllv zt41 32 rfl X f2 (by decide) (by omega) (by omega) (fun (y26 : Int64) h27 => ?_)
    refine z_xL zt41 33 rfl rfl (fun (y28 : Int64) (h29 : y28 = b6 &&& y26) => ?_) (rfl)
    refine z_xP zt41 34 78 [some (.ref a0), some (.int p1), some (.int p2), some (.int b3), some (.int b4), some (.int b5), some (.long y28), none, some (.int b8)] [] rfl rfl ?_
    refine z_xP zt41 35 82 [some (.ref a0), some (.int p1), some (.int p2), some (.int b3), some (.int b4), some (.int b5), some (.long y28), none, some (.int b8)] [.int b8, .int b4] rfl rfl ?_
    refine z_xI zt41 36 rfl rfl (fun (x30 : Int32) (h31 : x30 = b4 >>> (b8 &&& 31)) => ?_) (rfl)
    refine z_xP zt41 37 84 [some (.ref a0), some (.int p1), some (.int p2), some (.int b3), some (.int b4), some (.int b5), some (.long y28), none, some (.int b8)] [.int 1, .int x30] rfl rfl ?_
    refine z_xI zt41 38 rfl rfl (fun (x32 : Int32) (h33 : x32 = x30 &&& (1 : Int32)) => ?_) (rfl)
    refine z_xZ zt41 39 rfl rfl (fun (h34 : x32.toInt = 0) => ?_) (fun (h34 : x32.toInt ≠ 0) => ?_)
    · skip
      refine z_xN zt41 48 rfl rfl (fun (x35 : Int32) (h36 : x35.toInt = b8.toInt + 1) => ?_) (z_pAdd rfl rfl (by omega) (by omega))
      show z_ev d 41 106 [some (.ref a0), some (.int p1), some (.int p2), some (.int b3), some (.int b4), some (.int b5), some (.long y28), none, some (.int x35)] [] M _
      refine z_xP zt41 49 49 [some (.ref a0), some (.int p1), some (.int p2), some (.int b3), some (.int b4), some (.int b5), some (.long y28), none, some (.int x35)] [] rfl rfl ?_
      have i37 : x35.toInt.toNat = b8.toInt.toNat + 1 := by omega
      exact ih M b3 b4 b5 y28 x35 X ⟨by omega, by omega⟩ ⟨by omega, by omega⟩ ⟨by omega, by omega⟩ ⟨by omega, by omega⟩ (by omega) (by omega) hC (by rw [i37]; exact (z_svn0 (z_svy1 hI (z_sbit h5 h7 (by omega) ⟨by omega, by omega⟩) (by omega) (by omega) (h27.symm.trans ((congrFun (X.2.lg f2 (by decide)) _).trans (hc2 b8.toInt.toNat (by omega)))) h29) (z_sbit h31 h33 (by omega) ⟨by omega, by omega⟩) (by omega))) (by omega)
    refine z_xP zt41 40 90 [some (.ref a0), some (.int p1), some (.int p2), some (.int b3), some (.int b4), some (.int b5), some (.long y28), none, some (.int b8)] [.long y28] rfl rfl ?_
    refine z_xgs zt41 41 rfl zo41 zg2_97 ?_
    refine z_xP zt41 42 95 [some (.ref a0), some (.int p1), some (.int p2), some (.int b3), some (.int b4), some (.int b5), some (.long y28), none, some (.int b8)] [.int b8, .ref 2, .long y28] rfl rfl ?_
    refine z_xllv zt41 43 rfl X f2 (by decide) (by omega) (by omega) (fun (y38 : Int64) h39 => ?_)
    refine z_xl2 zt41 44 rfl zo41 zkl2_38 ?_
    refine z_xL zt41 45 rfl rfl (fun (y40 : Int64) (h41 : y40 = y38 ^^^ (-1)) => ?_) (rfl)
    refine z_xL zt41 46 rfl rfl (fun (y42 : Int64) (h43 : y42 = y28 &&& y40) => ?_) (rfl)
    refine z_xP zt41 47 103 [some (.ref a0), some (.int p1), some (.int p2), some (.int b3), some (.int b4), some (.int b5), some (.long y42), none, some (.int b8)] [] rfl rfl ?_
    refine z_xN zt41 48 rfl rfl (fun (x44 : Int32) (h45 : x44.toInt = b8.toInt + 1) => ?_) (z_pAdd rfl rfl (by omega) (by omega))
    show z_ev d 41 106 [some (.ref a0), some (.int p1), some (.int p2), some (.int b3), some (.int b4), some (.int b5), some (.long y42), none, some (.int x44)] [] M _
    refine z_xP zt41 49 49 [some (.ref a0), some (.int p1), some (.int p2), some (.int b3), some (.int b4), some (.int b5), some (.long y42), none, some (.int x44)] [] rfl rfl ?_
    have i46 : x44.toInt.toNat = b8.toInt.toNat + 1 := by omega
    exact ih M b3 b4 b5 y42 x44 X ⟨by omega, by omega⟩ ⟨by omega, by omega⟩ ⟨by omega, by omega⟩ ⟨by omega, by omega⟩ (by omega) (by omega) hC (by rw [i46]; exact (z_svn1 (z_svy1 hI (z_sbit h5 h7 (by omega) ⟨by omega, by omega⟩) (by omega) (by omega) (h27.symm.trans ((congrFun (X.2.lg f2 (by decide)) _).trans (hc2 b8.toInt.toNat (by omega)))) h29) (z_sbit h31 h33 (by omega) ⟨by omega, by omega⟩) (by omega) (by omega) (h39.symm.trans ((congrFun (X.2.lg f2 (by decide)) _).trans (hc2 b8.toInt.toNat (by omega)))) h41 h43)) (by omega)
theorem zUC41 {T : List zK} {d : Nat} {K : Option Value → zH → Prop} {a0 : Nat} {q : Nat} {t : Nat} {m : Nat} {p1 : Int32} {p2 : Int32} {w : Int64} {uy un : Nat} {M0 : zH} (hW : z_W M0 T) (k0 : T[a0]? = some (.inl (2, q, t, m, 0))) (u2 : 0 ≤ p2.toInt ∧ p2.toInt ≤ 15) (hb0 : p2.toInt < ((z_bl q : Nat) : Int)) (hw7 : z_F M0 a0 7 = some (.long w)) (hw : z_whb q w) (hd : p1.toInt = (uy : Int) + 1024 * (un : Int) ∧ uy < 1024 ∧ un < 1024) (hc2 : ∀ k, k < 6 → z_Lg M0 2 k = z_ty2.getD k 0) (kk : ∀ (x : Int64) (M1 : zH), z_X T zw41 M0 M1 → z_hw q uy un p2.toInt.toNat x → K (some (.long x)) M1) : z_ev d 41 0 [some (.ref a0), some (.int p1), some (.int p2), none, none, none, none, none, none] [] M0 K := by
  have X : z_X T zw41 M0 M0 := .refl hW
  have g0 := X.1.p2 k0
  refine z_xP zt41 0 4 [some (.ref a0), some (.int p1), some (.int p2), none, none, none, none, none, none] [.int 1023, .int p1] rfl rfl ?_
  refine z_xI zt41 1 rfl rfl (fun (x1 : Int32) (h2 : x1 = p1 &&& (1023 : Int32) ∧ 0 ≤ x1.toInt ∧ x1.toInt ≤ 1023) => ?_) (⟨rfl, z_pAnd rfl (by omega)⟩)
  refine z_xP zt41 2 9 [some (.ref a0), some (.int p1), some (.int p2), some (.int x1), none, none, none, none, none] [.int 10, .int p1] rfl rfl ?_
  have h3 := z_b32 p1
  refine z_xI zt41 3 rfl rfl (fun (x4 : Int32) (h5 : x4.toInt = p1.toInt / 1024) => ?_) (z_pShr (c := 1024) 10 rfl rfl (by decide))
  refine z_xP zt41 4 15 [some (.ref a0), some (.int p1), some (.int p2), some (.int x1), some (.int x4), none, none, none, none] [.int 6, .int p2] rfl rfl ?_
  refine z_xI zt41 5 rfl rfl (fun (x6 : Int32) (h7 : x6.toInt = p2.toInt * 64) => ?_) (z_pShl 6 rfl rfl (by decide) (by decide) (by omega) rfl (by omega))
  refine z_xP zt41 6 21 [some (.ref a0), some (.int p1), some (.int p2), some (.int x1), some (.int x4), some (.int x6), none, none, none] [.int (-64), .int x1] rfl rfl ?_
  refine z_xI zt41 7 rfl rfl (fun (x8 : Int32) (h9 : x8 = x1 &&& ((-64) : Int32) ∧ 0 ≤ x8.toInt ∧ x8.toInt ≤ x1.toInt) => ?_) (⟨rfl, z_pAndL rfl (by omega)⟩)
  refine z_xP zt41 8 25 [some (.ref a0), some (.int p1), some (.int p2), some (.int x1), some (.int x4), some (.int x6), none, none, none] [.int (-1), .int x6, .int x8] rfl rfl ?_
  refine z_xI zt41 9 rfl rfl (fun (x10 : Int32) (h11 : x10 = x6 ^^^ ((-1) : Int32)) => ?_) (rfl)
  refine z_xI zt41 10 rfl rfl (fun (x12 : Int32) (h13 : x12 = x8 &&& x10 ∧ 0 ≤ x12.toInt ∧ x12.toInt ≤ x8.toInt) => ?_) (⟨rfl, z_pAndL rfl (by omega)⟩)
  refine z_xZ zt41 11 rfl rfl (fun (h14 : x12.toInt ≠ 0) => ?_) (fun (h14 : x12.toInt = 0) => ?_)
  · skip
    refine z_xP zt41 15 39 [some (.ref a0), some (.int p1), some (.int p2), some (.int x1), some (.int x4), some (.int x6), none, none, none] [.long 0] rfl rfl ?_
    have e15 : x1.toInt = (uy : Int) := by have := z_and1023 h2.1 (by omega); omega
    have e16 : x4.toInt = (un : Int) := by omega
    have e17 : x6.toInt = 64 * ((p2.toInt.toNat : Nat) : Int) := by omega
    have q0 : ((0 : Int64)).toInt = 0 := rfl
    exact z_xrl zt41 16 rfl zzr41 (kk 0 M0 X (z_hw0 (fun hc => absurd ((z_shA e15 hd.2.1 e17 h9.1 h11 h13.1).mpr hc.1) (by omega))))
  refine z_xP zt41 12 34 [some (.ref a0), some (.int p1), some (.int p2), some (.int x1), some (.int x4), some (.int x6), none, none, none] [.int x6, .int x4] rfl rfl ?_
  refine z_xI zt41 13 rfl rfl (fun (x18 : Int32) (h19 : x18 = x4 &&& x6 ∧ 0 ≤ x18.toInt ∧ x18.toInt ≤ x6.toInt) => ?_) (⟨rfl, z_pAnd rfl (by omega)⟩)
  refine z_xZ zt41 14 rfl rfl (fun (h20 : x18.toInt = 0) => ?_) (fun (h20 : x18.toInt ≠ 0) => ?_)
  · skip
    refine z_xP zt41 17 41 [some (.ref a0), some (.int p1), some (.int p2), some (.int x1), some (.int x4), some (.int x6), none, none, none] [.ref a0] rfl rfl ?_
    refine z_xgv zt41 18 rfl zo41 zzf2_40 X k0 (by decide) hw7 ?_
    refine z_xP zt41 19 49 [some (.ref a0), some (.int p1), some (.int p2), some (.int x1), some (.int x4), some (.int x6), some (.long w), none, some (.int 0)] [] rfl rfl ?_
    have e21 : x1.toInt = (uy : Int) := by have := z_and1023 h2.1 (by omega); omega
    have e22 : x4.toInt = (un : Int) := by omega
    have e23 : x6.toInt = 64 * ((p2.toInt.toNat : Nat) : Int) := by omega
    have q0 : ((0 : Int32)).toInt = 0 := rfl
    exact (zUB41 k0 u2 hb0 hw7 hw hd hc2 kk 14) M0 x1 x4 x6 w (0) X ⟨by omega, by omega⟩ ⟨by omega, by omega⟩ ⟨by omega, by omega⟩ (by decide) (by omega) (by omega) ⟨(z_shA e21 hd.2.1 e23 h9.1 h11 h13.1).mp (by omega), (z_shB e22 hd.2.2 e23 h19.1).mp (by omega)⟩ (z_svw0 rfl) (by omega)
  refine z_xP zt41 15 39 [some (.ref a0), some (.int p1), some (.int p2), some (.int x1), some (.int x4), some (.int x6), none, none, none] [.long 0] rfl rfl ?_
  have e24 : x1.toInt = (uy : Int) := by have := z_and1023 h2.1 (by omega); omega
  have e25 : x4.toInt = (un : Int) := by omega
  have e26 : x6.toInt = 64 * ((p2.toInt.toNat : Nat) : Int) := by omega
  have q0 : ((0 : Int64)).toInt = 0 := rfl
  exact z_xrl zt41 16 rfl zzr41 (kk 0 M0 X (z_hw0 (fun hc => absurd ((z_shB e25 hd.2.2 e26 h19.1).mpr hc.2) (by omega))))
theorem zUB40 {T : List zK} {d : Nat} {K : Option Value → zH → Prop} {a0 : Nat} {q : Nat} {t : Nat} {m : Nat} {p1 : Int32} {w : Int64} {uy un kp : Nat} {B : Nat → Nat} {M0 : zH} (k0 : T[a0]? = some (.inl (2, q, t, m, 0))) (hw7 : z_F M0 a0 7 = some (.long w)) (hw : z_whb q w) (hd : p1.toInt = (uy : Int) + 1024 * (un : Int) ∧ uy < 1024 ∧ un < 1024) (hc2 : ∀ k, k < 6 → z_Lg M0 2 k = z_ty2.getD k 0) (hw8 : z_F M0 a0 8 = some (.ref kp)) (hk8 : T[kp]? = some (.inr (108, 1, t * z_bl q, 0, 0))) (hkb : z_tbt B t q (z_bl q) (z_Lg M0 kp)) (kk : ∀ (x : Int32) (M1 : zH), z_X T zw40 M0 M1 → 0 ≤ x.toInt → x.toInt ≤ 255 → z_brs B q t uy un x.toInt → K (some (.int x)) M1) : ∀ n : Nat, (∀ (M : zH) (b2 : Int32) (b3 : Int32) (o4 : Option Value) (o6 : Option Value), z_X T zw40 M0 M → 0 ≤ b2.toInt ∧ b2.toInt ≤ 255 → 0 ≤ b3.toInt ∧ b3.toInt ≤ 16 → z_tbk B q t uy un b3.toInt.toNat 0 b2.toInt.toNat → ((((0) * 3 + 1) * 17 + (16 - b3.toInt)) * 3 + 2) * 9 + (0) < (n : Int) → z_ev (d + 1) 40 11 [some (.ref a0), some (.int p1), some (.int b2), some (.int b3), o4, none, o6] [] M K) ∧ (∀ (M : zH) (b2 : Int32) (b3 : Int32) (b4 : Int64) (b6 : Int32), z_X T zw40 M0 M → 0 ≤ b2.toInt ∧ b2.toInt ≤ 255 → 0 ≤ b3.toInt ∧ b3.toInt ≤ 15 → 0 ≤ b6.toInt ∧ b6.toInt ≤ 8 → b3.toInt < ((z_bl q : Nat) : Int) → z_tbk B q t uy un b3.toInt.toNat b6.toInt.toNat b2.toInt.toNat → z_hw q uy un b3.toInt.toNat b4 → ((((0) * 3 + 1) * 17 + (16 - b3.toInt)) * 3 + 0) * 9 + (8 - b6.toInt) < (n : Int) → z_ev (d + 1) 40 30 [some (.ref a0), some (.int p1), some (.int b2), some (.int b3), some (.long b4), none, some (.int b6)] [] M K) := by
  intro n
  induction n with
  | zero => exact ⟨(by intros; exfalso; omega), (by intros; exfalso; omega)⟩
  | succ n ih =>
    refine ⟨?_, ?_⟩
    · skip
      intro M b2 b3 o4 o6 X hh0 hh1 hI hE
      have g0 := X.1.p2 k0
      refine z_xP zt40 6 13 [some (.ref a0), some (.int p1), some (.int b2), some (.int b3), o4, none, o6] [.ref a0, .int b3] rfl rfl ?_
      refine z_xgI zt40 7 rfl zo40 zzf2_35 X k0 (by decide) (by decide) rfl (fun (x2 : Int32) h1 (h3 : ((z_bl q : Nat) : Int) ≤ x2.toInt) (h4 : x2.toInt ≤ ((z_bl q : Nat) : Int)) => ?_)
      refine z_xJ zt40 8 rfl rfl (fun (h5 : x2.toInt ≤ b3.toInt) => ?_) (fun (h5 : b3.toInt < x2.toInt) => ?_)
      · skip
        refine z_xP zt40 40 90 [some (.ref a0), some (.int p1), some (.int b2), some (.int b3), o4, none, o6] [.int b2] rfl rfl ?_
        exact z_xri zt40 41 rfl zzr40 (kk b2 M X (by omega) (by omega) (z_tbkE hI (by omega) g0.2.1.2.2.2.2.1 (by omega)))
      refine z_xP zt40 9 22 [some (.ref a0), some (.int p1), some (.int b2), some (.int b3), o4, none, o6] [.int b3, .int p1, .ref a0] rfl rfl ?_
      refine z_xcV (vs := [.ref a0, .int p1, .int b3]) (r := []) (L2 := [some (.ref a0), some (.int p1), some (.int b3), none, none, none, none, none, none]) zt40 10 rfl zo40 zzcV2_94 (Or.inl rfl) rfl X k0 rfl rfl rfl (Nat.le_of_ble_eq_true rfl) zzm41 (Nat.le_of_ble_eq_true rfl) rfl ?_
      have f2 : T[2]? = some (.inr (2, 1, 6, 0, 0)) := X.1.k rfl (by decide)
      refine zUC41 X.1 k0 (by omega) (by omega) (X.2.f k0 (by decide) hw7) hw hd (fun k hk => (congrFun (X.2.lg f2 (by decide)) k).trans (hc2 k hk)) (fun y9 M6 X7 h8 => ?_)
      have X10 := X.go X7 (z_sb (by decide))
      show z_ev (d + 1) 40 25 [some (.ref a0), some (.int p1), some (.int b2), some (.int b3), o4, none, o6] [.long y9] M6 _
      refine z_xP zt40 11 30 [some (.ref a0), some (.int p1), some (.int b2), some (.int b3), some (.long y9), none, some (.int 0)] [] rfl rfl ?_
      have q0 : ((0 : Int32)).toInt = 0 := rfl
      exact ih.2 M6 b2 b3 y9 (0) X10 ⟨by omega, by omega⟩ ⟨by omega, by omega⟩ (by decide) (by omega) hI h8 (by omega)
    · skip
      intro M b2 b3 b4 b6 X hh0 hh1 hh2 hh3 hI hL hE
      have g0 := X.1.p2 k0
      refine z_xP zt40 12 33 [some (.ref a0), some (.int p1), some (.int b2), some (.int b3), some (.long b4), none, some (.int b6)] [.ref a0, .int b6] rfl rfl ?_
      refine z_xgI zt40 13 rfl zo40 zzf2_25 X k0 (by decide) (by decide) rfl (fun (x2 : Int32) h1 (h3 : (t : Int) ≤ x2.toInt) (h4 : x2.toInt ≤ (t : Int)) => ?_)
      refine z_xJ zt40 14 rfl rfl (fun (h5 : x2.toInt ≤ b6.toInt) => ?_) (fun (h5 : b6.toInt < x2.toInt) => ?_)
      · skip
        refine z_xN zt40 38 rfl rfl (fun (x6 : Int32) (h7 : x6.toInt = b3.toInt + 1) => ?_) (z_pAdd rfl rfl (by omega) (by omega))
        show z_ev (d + 1) 40 86 [some (.ref a0), some (.int p1), some (.int b2), some (.int x6), some (.long b4), none, some (.int b6)] [] M _
        refine z_xP zt40 39 11 [some (.ref a0), some (.int p1), some (.int b2), some (.int x6), some (.long b4), none, some (.int b6)] [] rfl rfl ?_
        have i8 : x6.toInt.toNat = b3.toInt.toNat + 1 := by omega
        exact ih.1 M b2 x6 (some (.long b4)) (some (.int b6)) X ⟨by omega, by omega⟩ ⟨by omega, by omega⟩ (by rw [i8]; exact z_tbkN hI (by omega)) (by omega)
      refine z_xP zt40 15 42 [some (.ref a0), some (.int p1), some (.int b2), some (.int b3), some (.long b4), none, some (.int b6)] [.long 0, .long b4] rfl rfl ?_
      refine z_xI zt40 16 rfl rfl (fun (x9 : Int32) (h10 : (x9.toInt < 0 ∧ b4.toInt < 0) ∨ (x9.toInt = 0 ∧ b4.toInt = 0) ∨ (0 < x9.toInt ∧ 0 < b4.toInt)) => ?_) (z_qCmp rfl rfl)
      refine z_xZ zt40 17 rfl rfl (fun (h11 : x9.toInt = 0) => ?_) (fun (h11 : x9.toInt ≠ 0) => ?_)
      · skip
        refine z_xN zt40 38 rfl rfl (fun (x12 : Int32) (h13 : x12.toInt = b3.toInt + 1) => ?_) (z_pAdd rfl rfl (by omega) (by omega))
        show z_ev (d + 1) 40 86 [some (.ref a0), some (.int p1), some (.int b2), some (.int x12), some (.long b4), none, some (.int b6)] [] M _
        refine z_xP zt40 39 11 [some (.ref a0), some (.int p1), some (.int b2), some (.int x12), some (.long b4), none, some (.int b6)] [] rfl rfl ?_
        have i14 : x12.toInt.toNat = b3.toInt.toNat + 1 := by omega
        exact ih.1 M b2 x12 (some (.long b4)) (some (.int b6)) X ⟨by omega, by omega⟩ ⟨by omega, by omega⟩ (by rw [i14]; exact z_tbkZ hI hL (by omega)) (by omega)
      refine z_xP zt40 18 49 [some (.ref a0), some (.int p1), some (.int b2), some (.int b3), some (.long b4), none, some (.int b6)] [.ref a0, .long b4] rfl rfl ?_
      refine z_xgR (κ := .inr (108, 1, t * z_bl q, 0, 0)) zt40 19 rfl zo40 zzf2_28 X k0 (by decide) (by decide) rfl (fun (a16 : Nat) h15 k17 => ?_)
      refine z_xP zt40 20 55 [some (.ref a0), some (.int p1), some (.int b2), some (.int b3), some (.long b4), none, some (.int b6)] [.ref a0, .int b6, .ref a16, .long b4] rfl rfl ?_
      refine z_xgI zt40 21 rfl zo40 zzf2_35 X k0 (by decide) (by decide) rfl (fun (x19 : Int32) h18 (h20 : ((z_bl q : Nat) : Int) ≤ x19.toInt) (h21 : x19.toInt ≤ ((z_bl q : Nat) : Int)) => ?_)
      refine z_xI zt40 22 rfl rfl (fun (x22 : Int32) (h23 : x22.toInt = b6.toInt * x19.toInt ∧ 0 ≤ x22.toInt ∧ x22.toInt ≤ 112) => ?_) (z_pMulB (a := 7) (b := 16) rfl rfl (by omega) (by omega) (by omega) (by omega) (by decide) (by decide))
      refine z_xP zt40 23 60 [some (.ref a0), some (.int p1), some (.int b2), some (.int b3), some (.long b4), none, some (.int b6)] [.int b3, .int x22, .ref a16, .long b4] rfl rfl ?_
      refine z_xI zt40 24 rfl rfl (fun (x24 : Int32) (h25 : x24.toInt = x22.toInt + b3.toInt) => ?_) (z_pAdd rfl rfl (by omega) (by omega))
      have h26 := z_nlx (p := x22.toInt) (x := b6.toInt) (y := x19.toInt) (s := b3.toInt) (z := x24.toInt) (A := t) (B := z_bl q) (by omega) (by omega) (by omega) (by omega) (by omega) (by omega) (by omega)
      refine z_xllv zt40 25 rfl X k17 (by decide) h26.1 h26.2 (fun (y27 : Int64) h28 => ?_)
      refine z_xL zt40 26 rfl rfl (fun (y29 : Int64) (h30 : y29 = b4 &&& y27) => ?_) (rfl)
      refine z_xP zt40 27 64 [some (.ref a0), some (.int p1), some (.int b2), some (.int b3), some (.long b4), none, some (.int b6)] [.long 0, .long y29] rfl rfl ?_
      refine z_xI zt40 28 rfl rfl (fun (x31 : Int32) (h32 : (x31.toInt < 0 ∧ y29.toInt < 0) ∨ (x31.toInt = 0 ∧ y29.toInt = 0) ∨ (0 < x31.toInt ∧ 0 < y29.toInt)) => ?_) (z_qCmp rfl rfl)
      refine z_xZ zt40 29 rfl rfl (fun (h33 : x31.toInt = 0) => ?_) (fun (h33 : x31.toInt ≠ 0) => ?_)
      · skip
        refine z_xN zt40 36 rfl rfl (fun (x34 : Int32) (h35 : x34.toInt = b6.toInt + 1) => ?_) (z_pAdd rfl rfl (by omega) (by omega))
        show z_ev (d + 1) 40 80 [some (.ref a0), some (.int p1), some (.int b2), some (.int b3), some (.long b4), none, some (.int x34)] [] M _
        refine z_xP zt40 37 30 [some (.ref a0), some (.int p1), some (.int b2), some (.int b3), some (.long b4), none, some (.int x34)] [] rfl rfl ?_
        have i36 : x34.toInt.toNat = b6.toInt.toNat + 1 := by omega
        exact ih.2 M b2 b3 b4 x34 X ⟨by omega, by omega⟩ ⟨by omega, by omega⟩ ⟨by omega, by omega⟩ (by omega) (by rw [i36]; exact z_tbkA hI hL (z_tbw (x := b6.toInt.toNat) (b := b3.toInt.toNat) hkb (by omega) (by omega) (z_kpL h15 (X.2.f k0 (by decide) hw8) h28 (z_ixm h23.1 (by omega) (by omega) h25 (by omega)) (X.2.lg hk8 (by decide)))) h30 (by omega)) hL (by omega)
      refine z_xP zt40 30 72 [some (.ref a0), some (.int p1), some (.int b2), some (.int b3), some (.long b4), none, some (.int b6)] [.int b6, .int 1, .int b2] rfl rfl ?_
      refine z_xI zt40 31 rfl rfl (fun (x37 : Int32) (h38 : x37 = (1 : Int32) <<< (b6 &&& 31)) => ?_) (rfl)
      refine z_xP zt40 32 74 [some (.ref a0), some (.int p1), some (.int b2), some (.int b3), some (.long b4), none, some (.int b6)] [.int (-1), .int x37, .int b2] rfl rfl ?_
      refine z_xI zt40 33 rfl rfl (fun (x39 : Int32) (h40 : x39 = x37 ^^^ ((-1) : Int32)) => ?_) (rfl)
      refine z_xI zt40 34 rfl rfl (fun (x41 : Int32) (h42 : x41 = b2 &&& x39 ∧ 0 ≤ x41.toInt ∧ x41.toInt ≤ b2.toInt) => ?_) (⟨rfl, z_pAndL rfl (by omega)⟩)
      refine z_xP zt40 35 77 [some (.ref a0), some (.int p1), some (.int x41), some (.int b3), some (.long b4), none, some (.int b6)] [] rfl rfl ?_
      refine z_xN zt40 36 rfl rfl (fun (x43 : Int32) (h44 : x43.toInt = b6.toInt + 1) => ?_) (z_pAdd rfl rfl (by omega) (by omega))
      show z_ev (d + 1) 40 80 [some (.ref a0), some (.int p1), some (.int x41), some (.int b3), some (.long b4), none, some (.int x43)] [] M _
      refine z_xP zt40 37 30 [some (.ref a0), some (.int p1), some (.int x41), some (.int b3), some (.long b4), none, some (.int x43)] [] rfl rfl ?_
      have i45 : x43.toInt.toNat = b6.toInt.toNat + 1 := by omega
      have i46 := z_andn (x := b6.toInt.toNat) hh0.1 (by omega) (by omega) h38 h40 h42.1
      exact ih.2 M x41 b3 b4 x43 X ⟨by omega, by omega⟩ ⟨by omega, by omega⟩ ⟨by omega, by omega⟩ (by omega) (by rw [i45]; exact z_tbkC hI hL (z_tbw (x := b6.toInt.toNat) (b := b3.toInt.toNat) hkb (by omega) (by omega) (z_kpL h15 (X.2.f k0 (by decide) hw8) h28 (z_ixm h23.1 (by omega) (by omega) h25 (by omega)) (X.2.lg hk8 (by decide)))) h30 (by omega) (by omega) (by omega) i46.2) hL (by omega)
theorem zUC40 {T : List zK} {d : Nat} {K : Option Value → zH → Prop} {a0 : Nat} {q : Nat} {t : Nat} {m : Nat} {p1 : Int32} {w : Int64} {uy un kp : Nat} {B : Nat → Nat} {M0 : zH} (hW : z_W M0 T) (k0 : T[a0]? = some (.inl (2, q, t, m, 0))) (hw7 : z_F M0 a0 7 = some (.long w)) (hw : z_whb q w) (hd : p1.toInt = (uy : Int) + 1024 * (un : Int) ∧ uy < 1024 ∧ un < 1024) (hc2 : ∀ k, k < 6 → z_Lg M0 2 k = z_ty2.getD k 0) (hw8 : z_F M0 a0 8 = some (.ref kp)) (hk8 : T[kp]? = some (.inr (108, 1, t * z_bl q, 0, 0))) (hkb : z_tbt B t q (z_bl q) (z_Lg M0 kp)) (kk : ∀ (x : Int32) (M1 : zH), z_X T zw40 M0 M1 → 0 ≤ x.toInt → x.toInt ≤ 255 → z_brs B q t uy un x.toInt → K (some (.int x)) M1) : z_ev (d + 1) 40 0 [some (.ref a0), some (.int p1), none, none, none, none, none] [] M0 K := by
  have X : z_X T zw40 M0 M0 := .refl hW
  have g0 := X.1.p2 k0
  refine z_xP zt40 0 2 [some (.ref a0), some (.int p1), none, none, none, none, none] [.ref a0, .int 1] rfl rfl ?_
  refine z_xgI zt40 1 rfl zo40 zzf2_25 X k0 (by decide) (by decide) rfl (fun (x2 : Int32) h1 (h3 : (t : Int) ≤ x2.toInt) (h4 : x2.toInt ≤ (t : Int)) => ?_)
  refine z_xI zt40 2 rfl rfl (fun (x5 : Int32) (h6 : x5 = (1 : Int32) <<< (x2 &&& 31) ∧ 1 ≤ x5.toInt ∧ x5.toInt ≤ 256) => ?_) (⟨rfl, z_pShlB (a := 1) (b := 8) (c := 256) (r := 256) rfl rfl (by omega) (by omega) (by omega) (by omega) (by decide) (by decide) (by decide) (by decide)⟩)
  refine z_xP zt40 3 7 [some (.ref a0), some (.int p1), none, none, none, none, none] [.int 1, .int x5] rfl rfl ?_
  refine z_xI zt40 4 rfl rfl (fun (x7 : Int32) (h8 : x7.toInt = x5.toInt - 1) => ?_) (z_pSub rfl rfl (by omega) (by omega))
  refine z_xP zt40 5 11 [some (.ref a0), some (.int p1), some (.int x7), some (.int 0), none, none, none] [] rfl rfl ?_
  have q0 : ((0 : Int32)).toInt = 0 := rfl
  exact (zUB40 k0 hw7 hw hd hc2 hw8 hk8 hkb kk 1377).1 M0 x7 (0) none none X ⟨by omega, by omega⟩ (by decide) (z_tbk0 (x0 := 0) (x2 := x2) rfl (by omega) (by omega) h6.1 (by omega)) (by omega)
theorem zUC38 {T : List zK} {d : Nat} {K : Option Value → zH → Prop} {p1 : Int32} {p2 : Int32} {M0 : zH} (hW : z_W M0 T) (hR6 : z_R6 T M0) (hc2 : ∀ k, k < 6 → z_Lg M0 2 k = z_ty2.getD k 0) (hG : z_GG T M0) (kk : ∀ (x : Int32) (M1 : zH), z_X T zw38 M0 M1 → (-1) ≤ x.toInt → x.toInt ≤ 255 → z_qA T M0 p1 x.toInt (fun q t m pr en B => (x.toInt = -1 ∧ ¬ (0 ≤ p2.toInt ∧ p2.toInt < ((2 ^ q : Nat) : Int))) ∨ ((0 ≤ p2.toInt ∧ p2.toInt < ((2 ^ q : Nat) : Int)) ∧ x.toInt = (B p2.toInt.toNat : Int))) → K (some (.int x)) M1) : z_ev (d + 2) 38 0 [some (.ref 4), some (.int p1), some (.int p2), none] [] M0 K := by
  have X : z_X T zw38 M0 M0 := .refl hW
  refine z_xP zt38 0 2 [some (.ref 4), some (.int p1), some (.int p2), none] [.int p1, .ref 4] rfl rfl ?_
  have f4 : T[4]? = some (.inl (0, 0, 0, 0, 0)) := X.1.k rfl (by decide)
  refine z_xcV (vs := [.ref 4, .int p1]) (r := []) (L2 := [some (.ref 4), some (.int p1)]) zt38 1 rfl zo38 zzcV0_108 (Or.inl rfl) rfl X f4 rfl rfl rfl (Nat.le_of_ble_eq_true rfl) zzm37 (Nat.le_of_ble_eq_true rfl) rfl ?_
  refine z_xP zt37 0 1 [some (.ref 4), some (.int p1)] [.int p1] rfl rfl ?_
  refine z_xZ zt37 1 rfl rfl (fun (h1 : p1.toInt < 0) => ?_) (fun (h1 : 0 ≤ p1.toInt) => ?_)
  · skip
    refine z_xP zt37 5 25 [some (.ref 4), some (.int p1)] [.null] rfl rfl ?_
    refine z_xrn zt37 11 rfl zzr37 ?_
    show z_ev (d + 2) 38 5 [some (.ref 4), some (.int p1), some (.int p2), none] [.null] M0 _
    refine z_xP zt38 2 18 [some (.ref 4), some (.int p1), some (.int p2), some (.null)] [] rfl rfl ?_
    refine z_xP zt38 6 19 [some (.ref 4), some (.int p1), some (.int p2), some (.null)] [.int (-1)] rfl rfl ?_
    have qm1 : (((-1) : Int32)).toInt = (-1) := rfl
    obtain ⟨x2, h3, h4, h5⟩ := z_W.fi X.1 f4 (k := 3) (lo := 0) (hi := 8) (by decide) rfl
    have qm1 : (((-1) : Int32)).toInt = (-1) := rfl
    exact z_xri zt38 7 rfl zzr38 (kk (-1) M0 X (by omega) (by omega) (z_qA0 h3 (by omega) (by omega)))
  refine z_xP zt37 2 6 [some (.ref 4), some (.int p1)] [.ref 4, .int p1] rfl rfl ?_
  refine z_xgI zt37 3 rfl zo37 zzf0_59 X f4 (by decide) (by decide) rfl (fun (x7 : Int32) h6 (h8 : 0 ≤ x7.toInt) (h9 : x7.toInt ≤ 8) => ?_)
  have h10 := z_b32 p1
  refine z_xJ zt37 4 rfl rfl (fun (h11 : p1.toInt < x7.toInt) => ?_) (fun (h11 : x7.toInt ≤ p1.toInt) => ?_)
  · skip
    refine z_xP zt37 6 17 [some (.ref 4), some (.int p1)] [.ref 4] rfl rfl ?_
    refine z_xgX (b := 10) zt37 7 rfl zo37 zzf0_18 X f4 (by decide) (by decide) rfl ?_
    refine z_xP zt37 8 21 [some (.ref 4), some (.int p1)] [.int p1, .ref 10] rfl rfl ?_
    have f10 : T[10]? = some (.inr (10, 2, 8, 9, 0)) := X.1.k rfl (by decide)
    refine z_xal zt37 9 rfl X f10 (by decide) (by decide) (by decide) (by omega) (by omega) (fun (a12 : Nat) h13 h14 => ?_) (fun h15 => absurd h15 (z_Gs (hG.go X (by decide)).2.1 h6 (by omega) (by omega)))
    obtain ⟨q16, t17, m18, k19⟩ : ∃ q t m, T[a12]? = some (.inl (3, q, t, m, 9)) := h14
    have g20 := X.1.p3 k19
    refine z_xgR (κ := .inl (2, q16, t17, m18, 0)) zt37 10 rfl zo37 zzf0_89 X k19 (by decide) (by decide) rfl (fun (a22 : Nat) h21 k23 => ?_)
    have g24 := X.1.p2 k23
    refine z_xra zt37 11 rfl zzr37 ?_
    show z_ev (d + 2) 38 5 [some (.ref 4), some (.int p1), some (.int p2), none] [.ref a22] M0 _
    refine z_xP zt38 2 10 [some (.ref 4), some (.int p1), some (.int p2), some (.ref a22)] [] rfl rfl ?_
    refine z_xP zt38 3 12 [some (.ref 4), some (.int p1), some (.int p2), some (.ref a22)] [.int p2, .ref a22] rfl rfl ?_
    refine z_xcV (vs := [.ref a22, .int p2]) (r := []) (L2 := [some (.ref a22), some (.int p2)]) zt38 4 rfl zo38 zzcV0_112 (Or.inl rfl) rfl X k23 rfl rfl rfl (Nat.le_of_ble_eq_true rfl) zzm28 (Nat.le_of_ble_eq_true rfl) rfl ?_
    refine z_xP zt28 0 1 [some (.ref a22), some (.int p2)] [.int p2] rfl rfl ?_
    refine z_xZ zt28 1 rfl rfl (fun (h25 : p2.toInt < 0) => ?_) (fun (h25 : 0 ≤ p2.toInt) => ?_)
    · skip
      refine z_xP zt28 6 17 [some (.ref a22), some (.int p2)] [.int 0] rfl rfl ?_
      refine z_xrz zt28 7 rfl zzr28 (by decide) (by decide) ?_
      show z_ev (d + 2) 38 15 [some (.ref 4), some (.int p1), some (.int p2), some (.ref a22)] [.int 0] M0 _
      refine z_xZ zt38 5 rfl rfl (fun (h26 : (0 : Int) ≠ 0) => absurd h26 (by omega)) (fun (h26 : (0 : Int) = 0) => ?_)
      refine z_xP zt38 6 19 [some (.ref 4), some (.int p1), some (.int p2), some (.ref a22)] [.int (-1)] rfl rfl ?_
      have qm1 : (((-1) : Int32)).toInt = (-1) := rfl
      obtain ⟨pr27, en28, B29, hAB30⟩ := hR6.at h6 (by omega) (by omega) h13 k19 h21
      obtain ⟨k0_31, -, -, -, -, ⟨w32, e733, f734⟩, -, -, ⟨kp35, e836, kk837, f838⟩, -⟩ := hAB30.2.2.2.1
      have qm1 : (((-1) : Int32)).toInt = (-1) := rfl
      exact z_xri zt38 7 rfl zzr38 (kk (-1) M0 X (by omega) (by omega) (z_qA1 h6 ⟨by omega, by omega⟩ hAB30 (Or.inl ⟨by omega, by unfold z_po at *; omega⟩)))
    refine z_xP zt28 2 6 [some (.ref a22), some (.int p2)] [.ref a22, .int p2] rfl rfl ?_
    refine z_xgI zt28 3 rfl zo28 zzf2_32 X k23 (by decide) (by decide) rfl (fun (x41 : Int32) h40 (h42 : ((z_po q16 : Nat) : Int) - 1 ≤ x41.toInt) (h43 : x41.toInt ≤ ((z_po q16 : Nat) : Int) - 1) => ?_)
    have h44 := z_b32 p2
    refine z_xJ zt28 4 rfl rfl (fun (h45 : x41.toInt < p2.toInt) => ?_) (fun (h45 : p2.toInt ≤ x41.toInt) => ?_)
    · skip
      refine z_xP zt28 6 17 [some (.ref a22), some (.int p2)] [.int 0] rfl rfl ?_
      refine z_xrz zt28 7 rfl zzr28 (by decide) (by decide) ?_
      show z_ev (d + 2) 38 15 [some (.ref 4), some (.int p1), some (.int p2), some (.ref a22)] [.int 0] M0 _
      refine z_xZ zt38 5 rfl rfl (fun (h46 : (0 : Int) ≠ 0) => absurd h46 (by omega)) (fun (h46 : (0 : Int) = 0) => ?_)
      refine z_xP zt38 6 19 [some (.ref 4), some (.int p1), some (.int p2), some (.ref a22)] [.int (-1)] rfl rfl ?_
      have qm1 : (((-1) : Int32)).toInt = (-1) := rfl
      obtain ⟨pr47, en48, B49, hAB50⟩ := hR6.at h6 (by omega) (by omega) h13 k19 h21
      obtain ⟨k0_51, -, -, -, -, ⟨w52, e753, f754⟩, -, -, ⟨kp55, e856, kk857, f858⟩, -⟩ := hAB50.2.2.2.1
      have qm1 : (((-1) : Int32)).toInt = (-1) := rfl
      exact z_xri zt38 7 rfl zzr38 (kk (-1) M0 X (by omega) (by omega) (z_qA1 h6 ⟨by omega, by omega⟩ hAB50 (Or.inl ⟨by omega, by unfold z_po at *; omega⟩)))
    refine z_xP zt28 5 17 [some (.ref a22), some (.int p2)] [.int 1] rfl rfl ?_
    refine z_xrz zt28 7 rfl zzr28 (by decide) (by decide) ?_
    show z_ev (d + 2) 38 15 [some (.ref 4), some (.int p1), some (.int p2), some (.ref a22)] [.int 1] M0 _
    refine z_xZ zt38 5 rfl rfl (fun (h60 : (1 : Int) ≠ 0) => ?_) (fun (h60 : (1 : Int) = 0) => absurd h60 (by omega))
    refine z_xP zt38 8 23 [some (.ref 4), some (.int p1), some (.int p2), some (.ref a22)] [.int p2, .ref a22, .ref a22] rfl rfl ?_
    refine z_xcV (vs := [.ref a22, .int p2]) (r := [.ref a22]) (L2 := [some (.ref a22), some (.int p2)]) zt38 9 rfl zo38 zzcV0_116 (Or.inl rfl) rfl X k23 rfl rfl rfl (Nat.le_of_ble_eq_true rfl) zzm39 (Nat.le_of_ble_eq_true rfl) rfl ?_
    refine z_xP zt39 0 2 [some (.ref a22), some (.int p2)] [.ref a22, .int p2] rfl rfl ?_
    refine z_xgv zt39 1 rfl zo39 zzf2_32 X k23 (by decide) h40 ?_
    refine z_xP zt39 2 7 [some (.ref a22), some (.int p2)] [.int (-1), .int p2, .int x41, .int p2] rfl rfl ?_
    refine z_xI zt39 3 rfl rfl (fun (x61 : Int32) (h62 : x61 = p2 ^^^ ((-1) : Int32)) => ?_) (rfl)
    refine z_xI zt39 4 rfl rfl (fun (x63 : Int32) (h64 : x63 = x41 &&& x61) => ?_) (rfl)
    refine z_xP zt39 5 11 [some (.ref a22), some (.int p2)] [.int 10, .int x63, .int p2] rfl rfl ?_
    refine z_xI zt39 6 rfl rfl (fun (x65 : Int32) (h66 : x65 = x63 <<< ((10 : Int32) &&& 31)) => ?_) (rfl)
    refine z_xI zt39 7 rfl rfl (fun (x67 : Int32) (h68 : x67 = p2 ||| x65) => ?_) (rfl)
    refine z_xri zt39 8 rfl zzr39 ?_
    show z_ev (d + 2) 38 26 [some (.ref 4), some (.int p1), some (.int p2), some (.ref a22)] [.int x67, .ref a22] M0 _
    refine z_xcV (vs := [.ref a22, .int x67]) (r := []) (L2 := [some (.ref a22), some (.int x67), none, none, none, none, none]) zt38 10 rfl zo38 zzcV0_120 (Or.inl rfl) rfl X k23 rfl rfl rfl (Nat.le_of_ble_eq_true rfl) zzm40 (Nat.le_of_ble_eq_true rfl) rfl ?_
    obtain ⟨pr69, en70, B71, hAB72⟩ := hR6.at h6 (by omega) (by omega) h13 k19 h21
    obtain ⟨k0_73, -, -, -, -, ⟨w74, e775, f776⟩, -, -, ⟨kp77, e878, kk879, f880⟩, -⟩ := hAB72.2.2.2.1
    have f2 : T[2]? = some (.inr (2, 1, 6, 0, 0)) := X.1.k rfl (by decide)
    refine zUC40 X.1 k23 e775 f776 (z_answ (q := q16) (by omega) (by omega) (by unfold z_po at *; omega) (by omega) h62 h64 h66 h68) (fun k hk => (congrFun (X.2.lg f2 (by decide)) k).trans (hc2 k hk)) e878 kk879 f880 (fun x85 M82 X83 h86 h87 h84 => ?_)
    have X88 := X.go X83 (z_sb (by decide))
    show z_ev (d + 2) 38 29 [some (.ref 4), some (.int p1), some (.int p2), some (.ref a22)] [.int x85] M82 _
    exact z_xri zt38 11 rfl zzr38 (kk x85 M82 X88 (by omega) (by omega) (z_qA1 h6 ⟨by omega, by omega⟩ hAB72 (Or.inr ⟨⟨by omega, by unfold z_po at *; omega⟩, z_brs1 h84 hAB72.2.2.2.1.2.1 (by omega) (by unfold z_po at *; omega)⟩)))
  refine z_xP zt37 5 25 [some (.ref 4), some (.int p1)] [.null] rfl rfl ?_
  refine z_xrn zt37 11 rfl zzr37 ?_
  show z_ev (d + 2) 38 5 [some (.ref 4), some (.int p1), some (.int p2), none] [.null] M0 _
  refine z_xP zt38 2 18 [some (.ref 4), some (.int p1), some (.int p2), some (.null)] [] rfl rfl ?_
  refine z_xP zt38 6 19 [some (.ref 4), some (.int p1), some (.int p2), some (.null)] [.int (-1)] rfl rfl ?_
  have qm1 : (((-1) : Int32)).toInt = (-1) := rfl
  have qm1 : (((-1) : Int32)).toInt = (-1) := rfl
  exact z_xri zt38 7 rfl zzr38 (kk (-1) M0 X (by omega) (by omega) (z_qA0 h6 (by omega) (by omega)))
theorem zUC211 {T : List zK} {d : Nat} {K : Option Value → zH → Prop} {p1 : Int32} {p2 : Int32} {M0 : zH} (hW : z_W M0 T)  (kk : ∀ (x : Int32) (M1 : zH), z_X T zw211 M0 M1 → y_qA M0 p1 x.toInt ((x.toInt = -1 ∧ ¬ (0 ≤ p2.toInt ∧ p2.toInt < ((2 ^ (z_Ar M0 24 p1.toNatClampNeg).toInt.toNat : Nat) : Int))) ∨ ((0 ≤ p2.toInt ∧ p2.toInt < ((2 ^ (z_Ar M0 24 p1.toNatClampNeg).toInt.toNat : Nat) : Int)) ∧ x = z_Ar M0 29 (1024 * p1.toNatClampNeg + p2.toNatClampNeg))) → K (some (.int x)) M1) : z_ev (d + 1) 211 0 [some (.ref 19), some (.int p1), some (.int p2)] [] M0 K := by
  have X : z_X T zw211 M0 M0 := .refl hW
  refine z_xP zt211 0 2 [some (.ref 19), some (.int p1), some (.int p2)] [.int p1, .ref 19] rfl rfl ?_
  have f19 : T[19]? = some (.inl (12, 0, 0, 0, 0)) := X.1.k rfl (by decide)
  refine z_xcV (vs := [.ref 19, .int p1]) (r := []) (L2 := [some (.ref 19), some (.int p1)]) zt211 1 rfl zo211 zzcV12_209 (Or.inl rfl) rfl X f19 rfl rfl rfl (Nat.le_of_ble_eq_true rfl) zzm209 (Nat.le_of_ble_eq_true rfl) rfl ?_
  refine z_xP zt209 0 1 [some (.ref 19), some (.int p1)] [.int p1] rfl rfl ?_
  refine z_xZ zt209 1 rfl rfl (fun (h1 : p1.toInt < 0) => ?_) (fun (h1 : 0 ≤ p1.toInt) => ?_)
  · skip
    refine z_xP zt209 6 17 [some (.ref 19), some (.int p1)] [.int 0] rfl rfl ?_
    refine z_xrz zt209 7 rfl zzr209 (by decide) (by decide) ?_
    show z_ev (d + 1) 211 5 [some (.ref 19), some (.int p1), some (.int p2)] [.int 0] M0 _
    refine z_xZ zt211 2 rfl rfl (fun (h2 : (0 : Int) = 0) => ?_) (fun (h2 : (0 : Int) ≠ 0) => absurd h2 (by omega))
    refine z_xP zt211 14 33 [some (.ref 19), some (.int p1), some (.int p2)] [.int (-1)] rfl rfl ?_
    have qm1 : (((-1) : Int32)).toInt = (-1) := rfl
    obtain ⟨x3, h4, h5, h6⟩ := z_W.fi X.1 f19 (k := 13) (lo := 0) (hi := 8) (by decide) rfl
    have qm1 : (((-1) : Int32)).toInt = (-1) := rfl
    exact z_xri zt211 15 rfl zzr211 (kk (-1) M0 X (y_qA0 h4 (by omega) (by omega)))
  refine z_xP zt209 2 6 [some (.ref 19), some (.int p1)] [.ref 19, .int p1] rfl rfl ?_
  refine z_xgI zt209 3 rfl zo209 zzf12_110 X f19 (by decide) (by decide) rfl (fun (x8 : Int32) h7 (h9 : 0 ≤ x8.toInt) (h10 : x8.toInt ≤ 8) => ?_)
  have h11 := z_b32 p1
  refine z_xJ zt209 4 rfl rfl (fun (h12 : x8.toInt ≤ p1.toInt) => ?_) (fun (h12 : p1.toInt < x8.toInt) => ?_)
  · skip
    refine z_xP zt209 6 17 [some (.ref 19), some (.int p1)] [.int 0] rfl rfl ?_
    refine z_xrz zt209 7 rfl zzr209 (by decide) (by decide) ?_
    show z_ev (d + 1) 211 5 [some (.ref 19), some (.int p1), some (.int p2)] [.int 0] M0 _
    refine z_xZ zt211 2 rfl rfl (fun (h13 : (0 : Int) = 0) => ?_) (fun (h13 : (0 : Int) ≠ 0) => absurd h13 (by omega))
    refine z_xP zt211 14 33 [some (.ref 19), some (.int p1), some (.int p2)] [.int (-1)] rfl rfl ?_
    have qm1 : (((-1) : Int32)).toInt = (-1) := rfl
    have qm1 : (((-1) : Int32)).toInt = (-1) := rfl
    exact z_xri zt211 15 rfl zzr211 (kk (-1) M0 X (y_qA0 h7 (by omega) (by omega)))
  refine z_xP zt209 5 17 [some (.ref 19), some (.int p1)] [.int 1] rfl rfl ?_
  refine z_xrz zt209 7 rfl zzr209 (by decide) (by decide) ?_
  show z_ev (d + 1) 211 5 [some (.ref 19), some (.int p1), some (.int p2)] [.int 1] M0 _
  refine z_xZ zt211 2 rfl rfl (fun (h14 : (1 : Int) = 0) => absurd h14 (by omega)) (fun (h14 : (1 : Int) ≠ 0) => ?_)
  refine z_xP zt211 3 11 [some (.ref 19), some (.int p1), some (.int p2)] [.int p2, .int p1, .ref 19] rfl rfl ?_
  refine z_xcV (vs := [.ref 19, .int p1, .int p2]) (r := []) (L2 := [some (.ref 19), some (.int p1), some (.int p2)]) zt211 4 rfl zo211 zzcV12_212 (Or.inl rfl) rfl X f19 rfl rfl rfl (Nat.le_of_ble_eq_true rfl) zzm212 (Nat.le_of_ble_eq_true rfl) rfl ?_
  refine z_xP zt212 0 1 [some (.ref 19), some (.int p1), some (.int p2)] [.int p2] rfl rfl ?_
  refine z_xZ zt212 1 rfl rfl (fun (h15 : p2.toInt < 0) => ?_) (fun (h15 : 0 ≤ p2.toInt) => ?_)
  · skip
    refine z_xP zt212 9 21 [some (.ref 19), some (.int p1), some (.int p2)] [.int 0] rfl rfl ?_
    refine z_xrz zt212 10 rfl zzr212 (by decide) (by decide) ?_
    show z_ev (d + 1) 211 14 [some (.ref 19), some (.int p1), some (.int p2)] [.int 0] M0 _
    refine z_xZ zt211 5 rfl rfl (fun (h16 : (0 : Int) = 0) => ?_) (fun (h16 : (0 : Int) ≠ 0) => absurd h16 (by omega))
    refine z_xP zt211 14 33 [some (.ref 19), some (.int p1), some (.int p2)] [.int (-1)] rfl rfl ?_
    have qm1 : (((-1) : Int32)).toInt = (-1) := rfl
    have qm1 : (((-1) : Int32)).toInt = (-1) := rfl
    exact z_xri zt211 15 rfl zzr211 (kk (-1) M0 X (y_qA1 h7 ⟨by omega, by omega⟩ (Or.inl ⟨by omega, by omega⟩)))
  refine z_xP zt212 2 7 [some (.ref 19), some (.int p1), some (.int p2)] [.ref 19, .int 1, .int p2] rfl rfl ?_
  refine z_xgX (b := 24) zt212 3 rfl zo212 zzf12_22 X f19 (by decide) (by decide) rfl ?_
  refine z_xP zt212 4 11 [some (.ref 19), some (.int p1), some (.int p2)] [.int p1, .ref 24, .int 1, .int p2] rfl rfl ?_
  have f24 : T[24]? = some (.inr (24, 0, 8, 0, 10)) := X.1.k rfl (by decide)
  refine z_xil zt212 5 rfl X f24 (by decide) (by omega) (by omega) (fun (x17 : Int32) h18 (h19 : 0 ≤ x17.toInt) (h20 : x17.toInt ≤ 10) => ?_)
  refine z_xI zt212 6 rfl rfl (fun (x21 : Int32) (h22 : x21 = (1 : Int32) <<< (x17 &&& 31) ∧ 1 ≤ x21.toInt ∧ x21.toInt ≤ 1024) => ?_) (⟨rfl, z_pShlB (a := 1) (b := 10) (c := 1024) (r := 1024) rfl rfl (by omega) (by omega) (by omega) (by omega) (by decide) (by decide) (by decide) (by decide)⟩)
  have h23 := z_b32 p2
  refine z_xJ zt212 7 rfl rfl (fun (h24 : x21.toInt ≤ p2.toInt) => ?_) (fun (h24 : p2.toInt < x21.toInt) => ?_)
  · skip
    refine z_xP zt212 9 21 [some (.ref 19), some (.int p1), some (.int p2)] [.int 0] rfl rfl ?_
    refine z_xrz zt212 10 rfl zzr212 (by decide) (by decide) ?_
    show z_ev (d + 1) 211 14 [some (.ref 19), some (.int p1), some (.int p2)] [.int 0] M0 _
    refine z_xZ zt211 5 rfl rfl (fun (h25 : (0 : Int) = 0) => ?_) (fun (h25 : (0 : Int) ≠ 0) => absurd h25 (by omega))
    refine z_xP zt211 14 33 [some (.ref 19), some (.int p1), some (.int p2)] [.int (-1)] rfl rfl ?_
    have qm1 : (((-1) : Int32)).toInt = (-1) := rfl
    have i26 := z_2q1 (x := x17) (by omega) (by omega) h22.1
    have qm1 : (((-1) : Int32)).toInt = (-1) := rfl
    exact z_xri zt211 15 rfl zzr211 (kk (-1) M0 X (y_qA1 h7 ⟨by omega, by omega⟩ (by rw [h18]; exact Or.inl ⟨by omega, by omega⟩)))
  refine z_xP zt212 8 21 [some (.ref 19), some (.int p1), some (.int p2)] [.int 1] rfl rfl ?_
  refine z_xrz zt212 10 rfl zzr212 (by decide) (by decide) ?_
  show z_ev (d + 1) 211 14 [some (.ref 19), some (.int p1), some (.int p2)] [.int 1] M0 _
  refine z_xZ zt211 5 rfl rfl (fun (h27 : (1 : Int) = 0) => absurd h27 (by omega)) (fun (h27 : (1 : Int) ≠ 0) => ?_)
  refine z_xP zt211 6 18 [some (.ref 19), some (.int p1), some (.int p2)] [.ref 19] rfl rfl ?_
  refine z_xgX (b := 29) zt211 7 rfl zo211 zzf12_37 X f19 (by decide) (by decide) rfl ?_
  refine z_xP zt211 8 25 [some (.ref 19), some (.int p1), some (.int p2)] [.int p1, .int 1024, .ref 29] rfl rfl ?_
  refine z_xI zt211 9 rfl rfl (fun (x28 : Int32) (h29 : x28.toInt = 1024 * p1.toInt) => ?_) (z_pMul rfl rfl (by omega) (by omega))
  refine z_xP zt211 10 27 [some (.ref 19), some (.int p1), some (.int p2)] [.int p2, .int x28, .ref 29] rfl rfl ?_
  refine z_xI zt211 11 rfl rfl (fun (x30 : Int32) (h31 : x30.toInt = x28.toInt + p2.toInt) => ?_) (z_pAdd rfl rfl (by omega) (by omega))
  have f29 : T[29]? = some (.inr (29, 0, 8192, (-2147483648), 2147483647)) := X.1.k rfl (by decide)
  refine z_xil zt211 12 rfl X f29 (by decide) (by omega) (by omega) (fun (x32 : Int32) h33 (h34 : (-2147483648) ≤ x32.toInt) (h35 : x32.toInt ≤ 2147483647) => ?_)
  refine z_xP zt211 13 33 [some (.ref 19), some (.int p1), some (.int p2)] [.int x32] rfl rfl ?_
  have i36 := z_2q1 (x := x17) (by omega) (by omega) h22.1
  exact z_xri zt211 15 rfl zzr211 (kk x32 M0 X (y_qA1 h7 ⟨by omega, by omega⟩ (by rw [h18]; exact Or.inr ⟨⟨by omega, by omega⟩, by rw [show 1024 * p1.toNatClampNeg + p2.toNatClampNeg = x30.toNatClampNeg from by unfold Int32.toNatClampNeg; omega]; exact h33.symm⟩)))
def z_Q4 (I : zH → Prop) : Prop := ∀ (x1 : Int32) (x2 : Int32) (M : zH), I M → z_ev 2046 38 0 (z_ent [.ref 4, .int x1, .int x2] (z_ml 38)) [] M fun v M1 => (∃ y, v = some (.int y)) ∧ z_ev 2046 211 0 (z_ent [.ref 19, .int x1, .int x2] (z_ml 211)) [] M1 fun v2 M2 => (∃ y, v2 = some (.int y)) ∧ v = v2 ∧ I M2 ∧ M2.length ≤ M.length + 1171 ∧ z_szr M2 ≤ z_szr M + 14000
theorem zS4 : z_Q4 z_J := by
  intro x1 x2 M ⟨T, hA, hR⟩
  refine z_J.two (r1 := zw38) (r2 := zw211) (C := fun v v2 => v = v2) hA hR rfl rfl ?_
  rw [zzm38]
  show z_ev 2046 38 0 [some (.ref 4), some (.int x1), some (.int x2), none] [] M _
  refine zUC38 (d := 2044) hA.1.1 hR.2.1 (z_R5.v hR.1).2.2.2 hA.1 fun y M1 X1 _ _ h1 => ?_
  have hB := z_kee hA X1 (by decide)
  refine ⟨⟨y, rfl⟩, X1, ?_⟩
  rw [zzm211]
  show z_ev 2046 211 0 [some (.ref 19), some (.int x1), some (.int x2)] [] M1 _
  refine zUC211 (d := 2045) hB.1.1 fun z M2 X2 h2 => ?_
  have k19 : T[19]? = some (.inl (12, 0, 0, 0, 0)) := hA.1.1.k rfl (by decide)
  have e := z_qAs hA.1.1 X1.2 rfl ((congrArg Int32.toInt (z_FvK (X1.2.1 19 12 0 0 0 0 13 k19 (by decide)))).trans (z_R5.v hR.1).2.1) h1 h2 (fun q t m pr en B hY q10 _ a b => by
    have e24 := hY.1
    have e29 := hY.2.2.2.2.2.1
    have eq : (z_Ar M1 24 x1.toNatClampNeg).toInt.toNat = q := by omega
    rw [eq] at b
    rcases a with ⟨a1, a2⟩ | ⟨a1, a2⟩
    · rcases b with ⟨b1, _⟩ | ⟨b1, _⟩
      · rw [a1, b1]
      · exact absurd b1 a2
    · rcases b with ⟨_, b1⟩ | ⟨_, b1⟩
      · exact absurd a1 b1
      · rw [a2, b1]
        exact (e29 x2.toInt.toNat (by generalize 2 ^ q = P at *; omega)).symm)
  exact ⟨⟨z, rfl⟩, by rw [Int32.toInt_inj.mp e], X2⟩
