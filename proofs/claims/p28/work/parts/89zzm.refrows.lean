/-! rows, the reference -/
def y_Tz (T : List zK) (M : zH) (a q t m pr en : Nat) (B : Nat → Nat) (S : Nat → Int32) (A : Int32) : Prop := z_W M T ∧ (∃ av : Int32, z_F M 19 29 = some (.int av) ∧ av.toInt = (a : Int) ∧ a < 8) ∧ y_AGO M a q t m pr en B ∧ (∀ k, k < m → z_Ar M 30 (1024 * a + k) = S k) ∧ A.toInt = ((2 ^ q : Nat) : Int) - 1 ∧ (1 ≤ q ∧ q ≤ 10)
theorem y_TN.t0 {T : List zK} {M : zH} {a q t m pr en n : Nat} {B F : Nat → Nat} {S : Nat → Int32} {A : Int32} (h : y_TN T M a q t m pr en n B F S A) : y_Tz T M a q t m pr en B S A := ⟨h.1, h.2.1, h.2.2.2.1, h.2.2.2.2.1, h.2.2.2.2.2.1, h.2.2.2.2.2.2.1⟩
theorem y_Tz.ke {T : List zK} {M M1 : zH} {a q t m pr en : Nat} {B : Nat → Nat} {S : Nat → Int32} {A : Int32} {rs : List Nat} (h : y_Tz T M a q t m pr en B S A) (X : z_X T rs M M1) (hr : ((z_agr ++ [2229, 30]).all fun x => !rs.elem x) = true) : y_Tz T M1 a q t m pr en B S A := by
  obtain ⟨hW, ⟨av, h1, h2⟩, h5, h6, h7, h8⟩ := h
  have n0 := z_nin hr
  have k19 := hW.k (k := 19) (κ := .inl (12, 0, 0, 0, 0)) rfl (by decide)
  refine ⟨X.1, ⟨av, X.2.f k19 (n0 _ rfl) h1, h2⟩, h5.ke hW X.2 (List.all_eq_true.mpr fun x hx => List.all_eq_true.mp hr x (List.mem_append.mpr (Or.inl hx))), fun k hk => ?_, h7, h8⟩
  rw [X.2.a (hW.k (k := 30) rfl (by decide)) (n0 _ rfl)]
  exact h6 k hk
def y_RW (T : List zK) (M : zH) (a q t m pr en n : Nat) (B : Nat → Nat) (S : Nat → Int32) (A : Int32) (y u : Nat → Nat) : Prop := y_Tz T M a q t m pr en B S A ∧ (∃ kv : Int32, z_F M 19 41 = some (.int kv) ∧ kv.toInt = ((m ^ n : Nat) : Int)) ∧ ∀ r, r < m ^ n → (z_Ar M 44 r).toInt = (y r : Int) ∧ (z_Ar M 45 r).toInt = (u r : Int) ∧ ∀ j, j < n → (z_Ar M 46 (3 * r + j)).toInt = ((z_rw m n r j : Nat) : Int)
theorem zYC267 {T : List zK} {d : Nat} {K : Option Value → zH → Prop} {M : zH} {a q t m pr en n : Nat} {B : Nat → Nat} {S : Nat → Int32} {A : Int32} {y u : Nat → Nat} {p1 p2 : Int32} (hR : y_RW T M a q t m pr en n B S A y u) (m16 : 1 ≤ m ∧ m ≤ 6) (n13 : 1 ≤ n ∧ n ≤ 3) (u1 : 0 ≤ p1.toInt ∧ p1.toInt.toNat < m ^ n) (u2 : 0 ≤ p2.toInt ∧ p2.toInt.toNat < n) (kk : ∀ x : Int32, x = S (z_rw m n p1.toInt.toNat p2.toInt.toNat) → K (some (.int x)) M) : z_ev d 267 0 [some (.ref 19), some (.int p1), some (.int p2)] [] M K := by
  obtain ⟨⟨hW, ⟨av, hav, ea, a8⟩, hG, hSS, hA, q10⟩, _, hrow⟩ := hR
  have hm := z_mk (k := n) m16.2 n13.2
  have X : z_X T [] M M := .refl hW
  refine z_xP zt267 0 1 [some (.ref 19), some (.int p1), some (.int p2)] [.ref 19] rfl rfl ?_
  have f19 : T[19]? = some (.inl (12, 0, 0, 0, 0)) := X.1.k rfl (by decide)
  refine z_xgX (b := 30) zt267 1 rfl zo267 zzf12_40 X f19 (by decide) (by decide) rfl ?_
  refine z_xP zt267 2 8 [some (.ref 19), some (.int p1), some (.int p2)] [.ref 19, .int 1024, .ref 30] rfl rfl ?_
  refine z_xgv zt267 3 rfl zo267 zzf12_242 X f19 (by decide) hav ?_
  refine z_xI zt267 4 rfl rfl (fun (x5 : Int32) (h6 : x5.toInt = 1024 * av.toInt) => ?_) (z_pMul rfl rfl (by omega) (by omega))
  refine z_xP zt267 5 13 [some (.ref 19), some (.int p1), some (.int p2)] [.ref 19, .int x5, .ref 30] rfl rfl ?_
  refine z_xgX (b := 46) zt267 6 rfl zo267 zzf12_88 X f19 (by decide) (by decide) rfl ?_
  refine z_xP zt267 7 18 [some (.ref 19), some (.int p1), some (.int p2)] [.int p1, .int 3, .ref 46, .int x5, .ref 30] rfl rfl ?_
  refine z_xI zt267 8 rfl rfl (fun (x8 : Int32) (h8 : x8.toInt = 3 * p1.toInt) => ?_) (z_pMul rfl rfl (by omega) (by omega))
  refine z_xP zt267 9 20 [some (.ref 19), some (.int p1), some (.int p2)] [.int p2, .int x8, .ref 46, .int x5, .ref 30] rfl rfl ?_
  refine z_xI zt267 10 rfl rfl (fun (x12 : Int32) (h12 : x12.toInt = x8.toInt + p2.toInt) => ?_) (z_pAdd rfl rfl (by omega) (by omega))
  have f46 : T[46]? = some (.inr (46, 0, 648, 0, 1023)) := X.1.k rfl (by decide)
  refine z_xil zt267 11 rfl X f46 (by decide) (by omega) (by omega) (fun (x14 : Int32) h15 (h16 : 0 ≤ x14.toInt) (h17 : x14.toInt ≤ 1023) => ?_)
  have e14 := (hrow p1.toInt.toNat u1.2).2.2 p2.toInt.toNat u2.2
  rw [show 3 * p1.toInt.toNat + p2.toInt.toNat = x12.toNatClampNeg by show _ = x12.toInt.toNat; omega, h15] at e14
  have hrB := z_rwB (m := m) (n := n) (r := p1.toInt.toNat) m16.1 p2.toInt.toNat
  refine z_xI zt267 12 rfl rfl (fun (x18 : Int32) (h19 : x18.toInt = x5.toInt + x14.toInt) => ?_) (z_pAdd rfl rfl (by omega) (by omega))
  have f30 : T[30]? = some (.inr (30, 0, 8192, 0, 1023)) := X.1.k rfl (by decide)
  refine z_xil zt267 13 rfl X f30 (by decide) (by omega) (by omega) (fun (x20 : Int32) h21 (h22 : 0 ≤ x20.toInt) (h23 : x20.toInt ≤ 1023) => ?_)
  exact z_xri zt267 14 rfl zzr267 (kk x20 (by
    rw [← hSS _ hrB, ← h21]
    refine congrArg _ ?_
    show x18.toInt.toNat = _
    omega))
theorem zYB268 {T : List zK} {d : Nat} {K : Option Value → zH → Prop} {M : zH} {a q t m pr en n : Nat} {B : Nat → Nat} {S : Nat → Int32} {A : Int32} {y u : Nat → Nat} {p1 p2 b4 : Int32} (hR : y_RW T M a q t m pr en n B S A y u) (m16 : 1 ≤ m ∧ m ≤ 6) (n13 : 1 ≤ n ∧ n ≤ 3) (u1 : 0 ≤ p1.toInt ∧ p1.toInt.toNat < m ^ n) (e2 : p2.toInt = (n : Int)) (e4 : b4.toInt = (m : Int)) (kk : ∀ x : Int32, x.toInt = ((z_srt m n p1.toInt.toNat : Nat) : Int) → K (some (.int x)) M) : ∀ nn : Nat, (∀ (b3 b5 : Int32) (o6 : Option Value), (0 ≤ b5.toInt ∧ b5.toInt ≤ (m : Int)) → b3.toInt = ((z_srS (z_rw m n p1.toInt.toNat) m n b5.toInt.toNat : Nat) : Int) → (6 - b5.toInt) * 8 + 6 < (nn : Int) → z_ev d 268 16 [some (.ref 19), some (.int p1), some (.int p2), some (.int b3), some (.int b4), some (.int b5), o6] [] M K) ∧ (∀ (b3 b5 b6 : Int32), (0 ≤ b5.toInt ∧ b5.toInt < (m : Int)) → (0 ≤ b6.toInt ∧ b6.toInt ≤ (n : Int)) → b3.toInt = ((z_srJ (z_rw m n p1.toInt.toNat) m b5.toInt.toNat (z_srS (z_rw m n p1.toInt.toNat) m n b5.toInt.toNat) b6.toInt.toNat : Nat) : Int) → (6 - b5.toInt) * 8 + (4 - b6.toInt) < (nn : Int) → z_ev d 268 26 [some (.ref 19), some (.int p1), some (.int p2), some (.int b3), some (.int b4), some (.int b5), some (.int b6)] [] M K) := by
  intro nn
  induction nn with
  | zero => exact ⟨(by intros; exfalso; omega), (by intros; exfalso; omega)⟩
  | succ nn ih =>
    obtain ⟨⟨hW, ⟨av, hav, ea, a8⟩, hG, hSS, hA, q10⟩, _, hrow⟩ := id hR
    have hm := z_mk (k := n) m16.2 n13.2
    have X : z_X T [] M M := .refl hW
    have f19 : T[19]? = some (.inl (12, 0, 0, 0, 0)) := X.1.k rfl (by decide)
    have hB : ∀ s, s ≤ m → ∀ j, j ≤ n → z_srS (z_rw m n p1.toInt.toNat) m n s ≤ 215 ∧ z_srJ (z_rw m n p1.toInt.toNat) m s (z_srS (z_rw m n p1.toInt.toNat) m n s) j ≤ 215 := fun s hs j hj => z_sr4 m (by omega) n (by omega) p1.toInt.toNat (by omega) u1.2 s (by omega) hs j (by omega) hj
    refine ⟨?_, ?_⟩
    · skip
      intro b3 b5 o6 hb5 e3 hE
      refine z_xP zt268 6 20 [some (.ref 19), some (.int p1), some (.int p2), some (.int b3), some (.int b4), some (.int b5), o6] [.int b4, .int b5] rfl rfl ?_
      refine z_xJ zt268 7 rfl rfl (fun (h1 : b4.toInt ≤ b5.toInt) => ?_) (fun (h1 : b5.toInt < b4.toInt) => ?_)
      · skip
        refine z_xP zt268 31 73 [some (.ref 19), some (.int p1), some (.int p2), some (.int b3), some (.int b4), some (.int b5), o6] [.int b3] rfl rfl ?_
        exact z_xri zt268 32 rfl zzr268 (kk b3 (by rw [e3, show b5.toInt.toNat = m by omega]; rfl))
      refine z_xP zt268 8 26 [some (.ref 19), some (.int p1), some (.int p2), some (.int b3), some (.int b4), some (.int b5), some (.int 0)] [] rfl rfl ?_
      have q0 : ((0 : Int32)).toInt = 0 := rfl
      exact ih.2 b3 b5 (0) ⟨by omega, by omega⟩ ⟨by omega, by omega⟩ e3 (by omega)
    · skip
      intro b3 b5 b6 hb5 hb6 e3 hE
      refine z_xP zt268 9 29 [some (.ref 19), some (.int p1), some (.int p2), some (.int b3), some (.int b4), some (.int b5), some (.int b6)] [.int p2, .int b6] rfl rfl ?_
      refine z_xJ zt268 10 rfl rfl (fun (h1 : p2.toInt ≤ b6.toInt) => ?_) (fun (h1 : b6.toInt < p2.toInt) => ?_)
      · skip
        refine z_xN zt268 29 rfl rfl (fun (x2 : Int32) (h3 : x2.toInt = b5.toInt + 1) => ?_) (z_pAdd rfl rfl (by omega) (by omega))
        show z_ev d 268 69 [some (.ref 19), some (.int p1), some (.int p2), some (.int b3), some (.int b4), some (.int x2), some (.int b6)] [] M _
        refine z_xP zt268 30 16 [some (.ref 19), some (.int p1), some (.int p2), some (.int b3), some (.int b4), some (.int x2), some (.int b6)] [] rfl rfl ?_
        have es : x2.toInt.toNat = b5.toInt.toNat + 1 := by omega
        refine ih.1 b3 x2 (some (.int b6)) ⟨by omega, by omega⟩ ?_ (by omega)
        rw [e3, es, show b6.toInt.toNat = n by omega]
        rfl
      refine z_xP zt268 11 33 [some (.ref 19), some (.int p1), some (.int p2), some (.int b3), some (.int b4), some (.int b5), some (.int b6)] [.ref 19] rfl rfl ?_
      refine z_xgX (b := 46) zt268 12 rfl zo268 zzf12_88 X f19 (by decide) (by decide) rfl ?_
      refine z_xP zt268 13 38 [some (.ref 19), some (.int p1), some (.int p2), some (.int b3), some (.int b4), some (.int b5), some (.int b6)] [.int p1, .int 3, .ref 46] rfl rfl ?_
      refine z_xI zt268 14 rfl rfl (fun (x4 : Int32) (h5 : x4.toInt = 3 * p1.toInt) => ?_) (z_pMul rfl rfl (by omega) (by omega))
      refine z_xP zt268 15 41 [some (.ref 19), some (.int p1), some (.int p2), some (.int b3), some (.int b4), some (.int b5), some (.int b6)] [.int b6, .int x4, .ref 46] rfl rfl ?_
      refine z_xI zt268 16 rfl rfl (fun (x6 : Int32) (h7 : x6.toInt = x4.toInt + b6.toInt) => ?_) (z_pAdd rfl rfl (by omega) (by omega))
      have f46 : T[46]? = some (.inr (46, 0, 648, 0, 1023)) := X.1.k rfl (by decide)
      refine z_xil zt268 17 rfl X f46 (by decide) (by omega) (by omega) (fun (x8 : Int32) h9 (h10 : 0 ≤ x8.toInt) (h11 : x8.toInt ≤ 1023) => ?_)
      have e8 := (hrow p1.toInt.toNat u1.2).2.2 b6.toInt.toNat (by omega)
      rw [show 3 * p1.toInt.toNat + b6.toInt.toNat = x6.toNatClampNeg by show _ = x6.toInt.toNat; omega, h9] at e8
      have h1 := hB b5.toInt.toNat (by omega) b6.toInt.toNat (by omega)
      have h2 := hB b5.toInt.toNat (by omega) (b6.toInt.toNat + 1) (by omega)
      have eJ : z_srJ (z_rw m n p1.toInt.toNat) m b5.toInt.toNat (z_srS (z_rw m n p1.toInt.toNat) m n b5.toInt.toNat) (b6.toInt.toNat + 1) = if (z_rw m n p1.toInt.toNat) b6.toInt.toNat = b5.toInt.toNat then z_srJ (z_rw m n p1.toInt.toNat) m b5.toInt.toNat (z_srS (z_rw m n p1.toInt.toNat) m n b5.toInt.toNat) b6.toInt.toNat * m + b5.toInt.toNat else z_srJ (z_rw m n p1.toInt.toNat) m b5.toInt.toNat (z_srS (z_rw m n p1.toInt.toNat) m n b5.toInt.toNat) b6.toInt.toNat := rfl
      refine z_xP zt268 18 45 [some (.ref 19), some (.int p1), some (.int p2), some (.int b3), some (.int b4), some (.int b5), some (.int b6)] [.int b5, .int x8] rfl rfl ?_
      refine z_xJ zt268 19 rfl rfl (fun (h12 : x8.toInt ≠ b5.toInt) => ?_) (fun (h12 : x8.toInt = b5.toInt) => ?_)
      · skip
        refine z_xP zt268 25 59 [some (.ref 19), some (.int p1), some (.int p2), some (.int b3), some (.int b4), some (.int b5), some (.int b6)] [.int b3] rfl rfl ?_
        refine z_xP zt268 26 60 [some (.ref 19), some (.int p1), some (.int p2), some (.int b3), some (.int b4), some (.int b5), some (.int b6)] [] rfl rfl ?_
        refine z_xN zt268 27 rfl rfl (fun (x13 : Int32) (h14 : x13.toInt = b6.toInt + 1) => ?_) (z_pAdd rfl rfl (by omega) (by omega))
        show z_ev d 268 63 [some (.ref 19), some (.int p1), some (.int p2), some (.int b3), some (.int b4), some (.int b5), some (.int x13)] [] M _
        refine z_xP zt268 28 26 [some (.ref 19), some (.int p1), some (.int p2), some (.int b3), some (.int b4), some (.int b5), some (.int x13)] [] rfl rfl ?_
        have es : x13.toInt.toNat = b6.toInt.toNat + 1 := by omega
        exact ih.2 b3 b5 x13 hb5 ⟨by omega, by omega⟩ (by rw [es, eJ, if_neg (by omega)]; exact e3) (by omega)
      rw [if_pos (by omega)] at eJ
      have hmu : z_srJ (z_rw m n p1.toInt.toNat) m b5.toInt.toNat (z_srS (z_rw m n p1.toInt.toNat) m n b5.toInt.toNat) b6.toInt.toNat * m ≤ 2147483647 := by omega
      refine z_xP zt268 20 51 [some (.ref 19), some (.int p1), some (.int p2), some (.int b3), some (.int b4), some (.int b5), some (.int b6)] [.int b4, .int b3] rfl rfl ?_
      refine z_xI zt268 21 rfl rfl (fun (x16 : Int32) (h17 : x16.toInt = ((z_srJ (z_rw m n p1.toInt.toNat) m b5.toInt.toNat (z_srS (z_rw m n p1.toInt.toNat) m n b5.toInt.toNat) b6.toInt.toNat * m : Nat) : Int)) => ?_) (z_pMulN e3 e4 hmu)
      refine z_xP zt268 22 54 [some (.ref 19), some (.int p1), some (.int p2), some (.int b3), some (.int b4), some (.int b5), some (.int b6)] [.int b5, .int x16] rfl rfl ?_
      refine z_xI zt268 23 rfl rfl (fun (x18 : Int32) (h19 : x18.toInt = x16.toInt + b5.toInt) => ?_) (z_pAdd rfl rfl (by omega) (by omega))
      refine z_xP zt268 24 59 [some (.ref 19), some (.int p1), some (.int p2), some (.int b3), some (.int b4), some (.int b5), some (.int b6)] [.int x18] rfl rfl ?_
      refine z_xP zt268 26 60 [some (.ref 19), some (.int p1), some (.int p2), some (.int x18), some (.int b4), some (.int b5), some (.int b6)] [] rfl rfl ?_
      refine z_xN zt268 27 rfl rfl (fun (x20 : Int32) (h21 : x20.toInt = b6.toInt + 1) => ?_) (z_pAdd rfl rfl (by omega) (by omega))
      show z_ev d 268 63 [some (.ref 19), some (.int p1), some (.int p2), some (.int x18), some (.int b4), some (.int b5), some (.int x20)] [] M _
      refine z_xP zt268 28 26 [some (.ref 19), some (.int p1), some (.int p2), some (.int x18), some (.int b4), some (.int b5), some (.int x20)] [] rfl rfl ?_
      have es : x20.toInt.toNat = b6.toInt.toNat + 1 := by omega
      exact ih.2 x18 b5 x20 hb5 ⟨by omega, by omega⟩ (by rw [es, eJ]; omega) (by omega)
theorem zYC268 {T : List zK} {d : Nat} {K : Option Value → zH → Prop} {M : zH} {a q t m pr en n : Nat} {B : Nat → Nat} {S : Nat → Int32} {A : Int32} {y u : Nat → Nat} {p1 p2 : Int32} (hR : y_RW T M a q t m pr en n B S A y u) (m16 : 1 ≤ m ∧ m ≤ 6) (n13 : 1 ≤ n ∧ n ≤ 3) (u1 : 0 ≤ p1.toInt ∧ p1.toInt.toNat < m ^ n) (e2 : p2.toInt = (n : Int)) (kk : ∀ x : Int32, x.toInt = ((z_srt m n p1.toInt.toNat : Nat) : Int) → K (some (.int x)) M) : z_ev d 268 0 [some (.ref 19), some (.int p1), some (.int p2), none, none, none, none] [] M K := by
  obtain ⟨⟨hW, ⟨av, hav, ea, a8⟩, hG, hSS, hA, q10⟩, _, hrow⟩ := id hR
  have X : z_X T [] M M := .refl hW
  have f19 : T[19]? = some (.inl (12, 0, 0, 0, 0)) := X.1.k rfl (by decide)
  refine z_xP zt268 0 3 [some (.ref 19), some (.int p1), some (.int p2), some (.int 0), none, none, none] [.ref 19] rfl rfl ?_
  refine z_xgX (b := 31) zt268 1 rfl zo268 zzf12_43 X f19 (by decide) (by decide) rfl ?_
  refine z_xP zt268 2 7 [some (.ref 19), some (.int p1), some (.int p2), some (.int 0), none, none, none] [.ref 19, .ref 31] rfl rfl ?_
  refine z_xgv zt268 3 rfl zo268 zzf12_242 X f19 (by decide) hav ?_
  have f31 : T[31]? = some (.inr (31, 0, 8, 0, 1024)) := X.1.k rfl (by decide)
  refine z_xil zt268 4 rfl X f31 (by decide) (by omega) (by omega) (fun (x1 : Int32) h2 (h3 : 0 ≤ x1.toInt) (h4 : x1.toInt ≤ 1024) => ?_)
  have e1 : x1.toInt = (m : Int) := by
    rw [← h2, z_tnA ea]
    exact hG.2.2.2.2.1
  refine z_xP zt268 5 16 [some (.ref 19), some (.int p1), some (.int p2), some (.int 0), some (.int x1), some (.int 0), none] [] rfl rfl ?_
  have q0 : ((0 : Int32)).toInt = 0 := rfl
  exact (zYB268 hR m16 n13 u1 e2 e1 kk 100).1 (0) (0) none ⟨by omega, by omega⟩ rfl (by omega)
/-- row e against row r on question k -/
def z_vk (S : Nat → Int32) (m n : Nat) (y u : Nat → Nat) (r k e : Nat) : Prop := z_who S (z_rw m n e) k n = z_who S (z_rw m n r) k n ∧ ¬ (y e / 2 ^ k % 2 = y r / 2 ^ k % 2 ∧ u e / 2 ^ k % 2 = u r / 2 ^ k % 2)
def z_i2 (S : Nat → Int32) (q m n : Nat) (y u : Nat → Nat) (r k0 e0 : Nat) (b : Int) : Prop := (b = 1 ∧ ∀ k e, k < q → e < r → (k < k0 ∨ (k = k0 ∧ e < e0)) → ¬ z_vk S m n y u r k e) ∨ (b = 0 ∧ ∃ k e, k < q ∧ e < r ∧ z_vk S m n y u r k e)
theorem zYN269 {T : List zK} {d : Nat} {K : Option Value → zH → Prop} {M : zH} {a q t m pr en n : Nat} {B : Nat → Nat} {S : Nat → Int32} {A : Int32} {y u : Nat → Nat} {p1 p2 b3 b4 b5 b6 : Int32} {v b7 : Int32} (hR : y_RW T M a q t m pr en n B S A y u) (m16 : 1 ≤ m ∧ m ≤ 6) (n13 : 1 ≤ n ∧ n ≤ 3) (u1 : 0 ≤ p1.toInt ∧ p1.toInt.toNat < m ^ n) (e2 : p2.toInt = (n : Int)) (h5 : 0 ≤ b5.toInt ∧ b5.toInt < p1.toInt) (hi : z_i2 S q m n y u p1.toInt.toNat b4.toInt.toNat (b5.toInt.toNat + 1) v.toInt) (kk : ∀ (x z : Int32) (o6 o7 : Option Value), z.toInt = b5.toInt + 1 → z_i2 S q m n y u p1.toInt.toNat b4.toInt.toNat z.toInt.toNat x.toInt → z_ev (d + 1) 269 22 [some (.ref 19), some (.int p1), some (.int p2), some (.int x), some (.int b4), some (.int z), o6, o7] [] M K) : z_ev (d + 1) 269 164 [some (.ref 19), some (.int p1), some (.int p2), some (.int b3), some (.int b4), some (.int b5), some (.int b6), some (.int b7)] [.int v] M K := by
  have hm := z_mk (k := n) m16.2 n13.2
  refine z_xP zt269 77 165 [some (.ref 19), some (.int p1), some (.int p2), some (.int v), some (.int b4), some (.int b5), some (.int b6), some (.int b7)] [] rfl rfl ?_
  refine z_xN zt269 78 rfl rfl (fun (x22 : Int32) (h23 : x22.toInt = b5.toInt + 1) => ?_) (z_pAdd rfl rfl (by omega) (by omega))
  show z_ev (d + 1) 269 168 [some (.ref 19), some (.int p1), some (.int p2), some (.int v), some (.int b4), some (.int x22), some (.int b6), some (.int b7)] [] M _
  refine z_xP zt269 79 22 [some (.ref 19), some (.int p1), some (.int p2), some (.int v), some (.int b4), some (.int x22), some (.int b6), some (.int b7)] [] rfl rfl ?_
  have es : x22.toInt.toNat = b5.toInt.toNat + 1 := by omega
  exact kk v x22 _ _ h23 (by rw [es]; exact hi)
theorem zYV269 {T : List zK} {d : Nat} {K : Option Value → zH → Prop} {M : zH} {a q t m pr en n : Nat} {B : Nat → Nat} {S : Nat → Int32} {A : Int32} {y u : Nat → Nat} {p1 p2 b3 b4 b5 b6 : Int32} {l b7 : Int32} (hR : y_RW T M a q t m pr en n B S A y u) (m16 : 1 ≤ m ∧ m ≤ 6) (n13 : 1 ≤ n ∧ n ≤ 3) (u1 : 0 ≤ p1.toInt ∧ p1.toInt.toNat < m ^ n) (e2 : p2.toInt = (n : Int)) (h4 : b4.toInt.toNat < q) (h5 : 0 ≤ b5.toInt ∧ b5.toInt < p1.toInt) (hi : z_i2 S q m n y u p1.toInt.toNat b4.toInt.toNat b5.toInt.toNat b3.toInt) (h6 : (b6.toInt = 1 ∧ z_who S (z_rw m n b5.toInt.toNat) b4.toInt.toNat n = z_who S (z_rw m n p1.toInt.toNat) b4.toInt.toNat n) ∨ (b6.toInt = 0 ∧ ¬ z_who S (z_rw m n b5.toInt.toNat) b4.toInt.toNat n = z_who S (z_rw m n p1.toInt.toNat) b4.toInt.toNat n)) (hl : (l.toInt = 1 ∧ (y b5.toInt.toNat / 2 ^ b4.toInt.toNat % 2 = y p1.toInt.toNat / 2 ^ b4.toInt.toNat % 2 ∧ u b5.toInt.toNat / 2 ^ b4.toInt.toNat % 2 = u p1.toInt.toNat / 2 ^ b4.toInt.toNat % 2)) ∨ (l.toInt = 0 ∧ ¬ (y b5.toInt.toNat / 2 ^ b4.toInt.toNat % 2 = y p1.toInt.toNat / 2 ^ b4.toInt.toNat % 2 ∧ u b5.toInt.toNat / 2 ^ b4.toInt.toNat % 2 = u p1.toInt.toNat / 2 ^ b4.toInt.toNat % 2))) (kk : ∀ (x z : Int32) (o6 o7 : Option Value), z.toInt = b5.toInt + 1 → z_i2 S q m n y u p1.toInt.toNat b4.toInt.toNat z.toInt.toNat x.toInt → z_ev (d + 1) 269 22 [some (.ref 19), some (.int p1), some (.int p2), some (.int x), some (.int b4), some (.int z), o6, o7] [] M K) : z_ev (d + 1) 269 143 [some (.ref 19), some (.int p1), some (.int p2), some (.int b3), some (.int b4), some (.int b5), some (.int b6), some (.int b7)] [.int l] M K := by
  have q0 : ((0 : Int32)).toInt = 0 := rfl
  have q1 : ((1 : Int32)).toInt = 1 := rfl
  have hgo : b3.toInt = 1 → ¬ z_vk S m n y u p1.toInt.toNat b4.toInt.toNat b5.toInt.toNat → z_i2 S q m n y u p1.toInt.toNat b4.toInt.toNat (b5.toInt.toNat + 1) 1 := fun h3 hv => by
    rcases hi with ⟨_, hi⟩ | ⟨g, _⟩
    · refine Or.inl ⟨rfl, fun k e hk he hke => ?_⟩
      by_cases c : k = b4.toInt.toNat ∧ e = b5.toInt.toNat
      · rw [c.1, c.2]
        exact hv
      · exact hi k e hk he (by omega)
    · omega
  refine z_xP zt269 69 146 [some (.ref 19), some (.int p1), some (.int p2), some (.int b3), some (.int b4), some (.int b5), some (.int b6), some (.int l)] [.int b3] rfl rfl ?_
  refine z_xZ zt269 70 rfl rfl (fun (h21 : b3.toInt = 0) => ?_) (fun (h21 : b3.toInt ≠ 0) => ?_)
  · skip
    refine z_xP zt269 76 164 [some (.ref 19), some (.int p1), some (.int p2), some (.int b3), some (.int b4), some (.int b5), some (.int b6), some (.int l)] [.int 0] rfl rfl ?_
    refine zYN269 hR m16 n13 u1 e2 h5 ?_ kk
    rcases hi with ⟨g, _⟩ | ⟨_, hi⟩
    · omega
    · exact Or.inr ⟨rfl, hi⟩
  have h31 : b3.toInt = 1 := by
    rcases hi with ⟨g, _⟩ | ⟨g, _⟩
    · exact g
    · exact absurd g h21
  refine z_xP zt269 71 151 [some (.ref 19), some (.int p1), some (.int p2), some (.int b3), some (.int b4), some (.int b5), some (.int b6), some (.int l)] [.int b6] rfl rfl ?_
  refine z_xZ zt269 72 rfl rfl (fun (h24 : b6.toInt = 0) => ?_) (fun (h24 : b6.toInt ≠ 0) => ?_)
  · skip
    refine z_xP zt269 75 164 [some (.ref 19), some (.int p1), some (.int p2), some (.int b3), some (.int b4), some (.int b5), some (.int b6), some (.int l)] [.int 1] rfl rfl ?_
    refine zYN269 hR m16 n13 u1 e2 h5 (hgo h31 ?_) kk
    intro g
    rcases h6 with ⟨g6, _⟩ | ⟨_, g6⟩
    · omega
    · exact g6 g.1
  refine z_xP zt269 73 156 [some (.ref 19), some (.int p1), some (.int p2), some (.int b3), some (.int b4), some (.int b5), some (.int b6), some (.int l)] [.int l] rfl rfl ?_
  refine z_xZ zt269 74 rfl rfl (fun (h27 : l.toInt = 0) => ?_) (fun (h27 : l.toInt ≠ 0) => ?_)
  · skip
    refine z_xP zt269 76 164 [some (.ref 19), some (.int p1), some (.int p2), some (.int b3), some (.int b4), some (.int b5), some (.int b6), some (.int l)] [.int 0] rfl rfl ?_
    refine zYN269 hR m16 n13 u1 e2 h5 (Or.inr ⟨rfl, b4.toInt.toNat, b5.toInt.toNat, h4, by omega, ?_⟩) kk
    rcases h6 with ⟨_, g6⟩ | ⟨g6, _⟩
    · rcases hl with ⟨gl, _⟩ | ⟨_, gl⟩
      · omega
      · exact ⟨g6, gl⟩
    · exact absurd g6 h24
  refine z_xP zt269 75 164 [some (.ref 19), some (.int p1), some (.int p2), some (.int b3), some (.int b4), some (.int b5), some (.int b6), some (.int l)] [.int 1] rfl rfl ?_
  refine zYN269 hR m16 n13 u1 e2 h5 (hgo h31 ?_) kk
  intro g
  rcases hl with ⟨_, gl⟩ | ⟨gl, _⟩
  · exact g.2 gl
  · exact h27 gl
theorem zYB269 {T : List zK} {d : Nat} {K : Option Value → zH → Prop} {M : zH} {a q t m pr en n : Nat} {B : Nat → Nat} {S : Nat → Int32} {A : Int32} {y u : Nat → Nat} {p1 p2 : Int32} (hR : y_RW T M a q t m pr en n B S A y u) (hSA : z_SA q m S A) (m16 : 1 ≤ m ∧ m ≤ 6) (n13 : 1 ≤ n ∧ n ≤ 3) (u1 : 0 ≤ p1.toInt ∧ p1.toInt.toNat < m ^ n) (e2 : p2.toInt = (n : Int)) (kk : ∀ x : Int32, ((x.toInt = 1 ∧ ¬ ∃ k, k < q ∧ ∃ e, e < p1.toInt.toNat ∧ z_vk S m n y u p1.toInt.toNat k e) ∨ (x.toInt = 0 ∧ ∃ k, k < q ∧ ∃ e, e < p1.toInt.toNat ∧ z_vk S m n y u p1.toInt.toNat k e)) → K (some (.int x)) M) : ∀ nn : Nat, (∀ (b3 b4 : Int32) (o5 o6 o7 : Option Value), (0 ≤ b4.toInt ∧ b4.toInt ≤ (q : Int)) → z_i2 S q m n y u p1.toInt.toNat b4.toInt.toNat 0 b3.toInt → (10 - b4.toInt) * 2000 + 1999 < (nn : Int) → z_ev (d + 1) 269 5 [some (.ref 19), some (.int p1), some (.int p2), some (.int b3), some (.int b4), o5, o6, o7] [] M K) ∧ (∀ (b3 b4 b5 : Int32) (o6 o7 : Option Value), (0 ≤ b4.toInt ∧ b4.toInt < (q : Int)) → (0 ≤ b5.toInt ∧ b5.toInt ≤ p1.toInt) → z_i2 S q m n y u p1.toInt.toNat b4.toInt.toNat b5.toInt.toNat b3.toInt → (10 - b4.toInt) * 2000 + (216 - b5.toInt) * 8 + 7 < (nn : Int) → z_ev (d + 1) 269 22 [some (.ref 19), some (.int p1), some (.int p2), some (.int b3), some (.int b4), some (.int b5), o6, o7] [] M K) ∧ (∀ (b3 b4 b5 b6 b7 : Int32), (0 ≤ b4.toInt ∧ b4.toInt < (q : Int)) → (0 ≤ b5.toInt ∧ b5.toInt < p1.toInt) → z_i2 S q m n y u p1.toInt.toNat b4.toInt.toNat b5.toInt.toNat b3.toInt → (0 ≤ b7.toInt ∧ b7.toInt ≤ (n : Int)) → ((b6.toInt = 1 ∧ ∀ j, j < b7.toInt.toNat → (S (z_rw m n b5.toInt.toNat j)).toInt.toNat / 2 ^ b4.toInt.toNat % 2 = (S (z_rw m n p1.toInt.toNat j)).toInt.toNat / 2 ^ b4.toInt.toNat % 2) ∨ (b6.toInt = 0 ∧ ∃ j, j < n ∧ ¬ (S (z_rw m n b5.toInt.toNat j)).toInt.toNat / 2 ^ b4.toInt.toNat % 2 = (S (z_rw m n p1.toInt.toNat j)).toInt.toNat / 2 ^ b4.toInt.toNat % 2)) → (10 - b4.toInt) * 2000 + (216 - b5.toInt) * 8 + (4 - b7.toInt) < (nn : Int) → z_ev (d + 1) 269 34 [some (.ref 19), some (.int p1), some (.int p2), some (.int b3), some (.int b4), some (.int b5), some (.int b6), some (.int b7)] [] M K) := by
  intro nn
  induction nn with
  | zero =>
    have hm := z_mk (k := n) m16.2 n13.2
    obtain ⟨⟨hW, _, _, _, _, q10⟩, _, _⟩ := id hR
    exact ⟨(by intros; exfalso; omega), (by intros; exfalso; omega), (by intros; exfalso; omega)⟩
  | succ nn ih =>
    obtain ⟨⟨hW, ⟨av, hav, ea, a8⟩, hG, hSS, hA, q10⟩, _, hrow⟩ := id hR
    have hm := z_mk (k := n) m16.2 n13.2
    have X : z_X T [] M M := .refl hW
    have f19 : T[19]? = some (.inl (12, 0, 0, 0, 0)) := X.1.k rfl (by decide)
    have q0 : ((0 : Int32)).toInt = 0 := rfl
    have q1 : ((1 : Int32)).toInt = 1 := rfl
    refine ⟨?_, ?_, ?_⟩
    · skip
      intro b3 b4 o5 o6 o7 hb4 hi hE
      refine z_xP zt269 1 8 [some (.ref 19), some (.int p1), some (.int p2), some (.int b3), some (.int b4), o5, o6, o7] [.ref 19, .int b4] rfl rfl ?_
      refine z_xgX (b := 24) zt269 2 rfl zo269 zzf12_22 X f19 (by decide) (by decide) rfl ?_
      refine z_xP zt269 3 12 [some (.ref 19), some (.int p1), some (.int p2), some (.int b3), some (.int b4), o5, o6, o7] [.ref 19, .ref 24, .int b4] rfl rfl ?_
      refine z_xgv zt269 4 rfl zo269 zzf12_242 X f19 (by decide) hav ?_
      have f24 : T[24]? = some (.inr (24, 0, 8, 0, 10)) := X.1.k rfl (by decide)
      refine z_xil zt269 5 rfl X f24 (by decide) (by omega) (by omega) (fun (x5 : Int32) h6 (h7 : 0 ≤ x5.toInt) (h8 : x5.toInt ≤ 10) => ?_)
      have e5 : x5.toInt = (q : Int) := by
        rw [← h6, z_tnA ea]
        exact hG.1
      refine z_xJ zt269 6 rfl rfl (fun (h9 : x5.toInt ≤ b4.toInt) => ?_) (fun (h9 : b4.toInt < x5.toInt) => ?_)
      · skip
        refine z_xP zt269 82 178 [some (.ref 19), some (.int p1), some (.int p2), some (.int b3), some (.int b4), o5, o6, o7] [.int b3] rfl rfl ?_
        have hi2 := hi
        unfold z_i2 at hi2
        refine z_xrz zt269 83 rfl zzr269 (by omega) (by omega) (kk b3 ?_)
        rcases hi2 with ⟨g1, g2⟩ | ⟨g1, k, e, hk, he, g2⟩
        · exact Or.inl ⟨g1, fun ⟨k, hk, e, he, g3⟩ => g2 k e hk he (Or.inl (by omega)) g3⟩
        · exact Or.inr ⟨g1, k, hk, e, he, g2⟩
      refine z_xP zt269 7 22 [some (.ref 19), some (.int p1), some (.int p2), some (.int b3), some (.int b4), some (.int 0), o6, o7] [] rfl rfl ?_
      exact ih.2.1 b3 b4 (0) o6 o7 ⟨by omega, by omega⟩ ⟨by omega, by omega⟩ hi (by omega)
    · skip
      intro b3 b4 b5 o6 o7 hb4 hb5 hi hE
      refine z_xP zt269 8 25 [some (.ref 19), some (.int p1), some (.int p2), some (.int b3), some (.int b4), some (.int b5), o6, o7] [.int p1, .int b5] rfl rfl ?_
      refine z_xJ zt269 9 rfl rfl (fun (h1 : p1.toInt ≤ b5.toInt) => ?_) (fun (h1 : b5.toInt < p1.toInt) => ?_)
      · skip
        refine z_xN zt269 80 rfl rfl (fun (x2 : Int32) (h3 : x2.toInt = b4.toInt + 1) => ?_) (z_pAdd rfl rfl (by omega) (by omega))
        show z_ev (d + 1) 269 174 [some (.ref 19), some (.int p1), some (.int p2), some (.int b3), some (.int x2), some (.int b5), o6, o7] [] M _
        refine z_xP zt269 81 5 [some (.ref 19), some (.int p1), some (.int p2), some (.int b3), some (.int x2), some (.int b5), o6, o7] [] rfl rfl ?_
        have es : x2.toInt.toNat = b4.toInt.toNat + 1 := by omega
        refine ih.1 b3 x2 (some (.int b5)) o6 o7 ⟨by omega, by omega⟩ ?_ (by omega)
        rw [es]
        rcases hi with ⟨g1, g2⟩ | hi
        · exact Or.inl ⟨g1, fun k e hk he hke => g2 k e hk he (by omega)⟩
        · exact Or.inr hi
      refine z_xP zt269 10 34 [some (.ref 19), some (.int p1), some (.int p2), some (.int b3), some (.int b4), some (.int b5), some (.int 1), some (.int 0)] [] rfl rfl ?_
      exact ih.2.2 b3 b4 b5 (1) (0) hb4 ⟨by omega, by omega⟩ hi ⟨by omega, by omega⟩ (Or.inl ⟨rfl, fun j hj => absurd hj (Nat.not_lt_zero j)⟩) (by omega)
    · skip
      intro b3 b4 b5 b6 b7 hb4 hb5 hi hb7 h6 hE
      refine z_xP zt269 11 37 [some (.ref 19), some (.int p1), some (.int p2), some (.int b3), some (.int b4), some (.int b5), some (.int b6), some (.int b7)] [.int p2, .int b7] rfl rfl ?_
      refine z_xJ zt269 12 rfl rfl (fun (h1 : p2.toInt ≤ b7.toInt) => ?_) (fun (h1 : b7.toInt < p2.toInt) => ?_)
      · skip
        have hkT : ∀ (x z : Int32) (o6 o7 : Option Value), z.toInt = b5.toInt + 1 → z_i2 S q m n y u p1.toInt.toNat b4.toInt.toNat z.toInt.toNat x.toInt → z_ev (d + 1) 269 22 [some (.ref 19), some (.int p1), some (.int p2), some (.int x), some (.int b4), some (.int z), o6, o7] [] M K := fun x z o6 o7 ez hz => ih.2.1 x b4 z o6 o7 hb4 ⟨by omega, by omega⟩ hz (by omega)
        have h6w : (b6.toInt = 1 ∧ z_who S (z_rw m n b5.toInt.toNat) b4.toInt.toNat n = z_who S (z_rw m n p1.toInt.toNat) b4.toInt.toNat n) ∨ (b6.toInt = 0 ∧ ¬ z_who S (z_rw m n b5.toInt.toNat) b4.toInt.toNat n = z_who S (z_rw m n p1.toInt.toNat) b4.toInt.toNat n) := by
          rcases h6 with ⟨g1, g2⟩ | ⟨g1, j, hj, g2⟩
          · exact Or.inl ⟨g1, (z_whU n).mpr fun j hj => g2 j (by omega)⟩
          · exact Or.inr ⟨g1, fun g => g2 ((z_whU n).mp g j hj)⟩
        clear h6
        refine z_xP zt269 33 87 [some (.ref 19), some (.int p1), some (.int p2), some (.int b3), some (.int b4), some (.int b5), some (.int b6), some (.int b7)] [.ref 19] rfl rfl ?_
        refine z_xgX (b := 44) zt269 34 rfl zo269 zzf12_82 X f19 (by decide) (by decide) rfl ?_
        refine z_xP zt269 35 91 [some (.ref 19), some (.int p1), some (.int p2), some (.int b3), some (.int b4), some (.int b5), some (.int b6), some (.int b7)] [.int p1, .ref 44] rfl rfl ?_
        have f44 : T[44]? = some (.inr (44, 0, 216, (-2147483648), 2147483647)) := X.1.k rfl (by decide)
        refine z_xil zt269 36 rfl X f44 (by decide) (by omega) (by omega) (fun (xa1 : Int32) wa1 (h4 : (-2147483648) ≤ xa1.toInt) (h5 : xa1.toInt ≤ 2147483647) => ?_)
        have va1 : xa1.toInt = (y p1.toInt.toNat : Int) := (congrArg Int32.toInt wa1).symm.trans (hrow p1.toInt.toNat u1.2).1
        refine z_xP zt269 37 94 [some (.ref 19), some (.int p1), some (.int p2), some (.int b3), some (.int b4), some (.int b5), some (.int b6), some (.int b7)] [.int b4, .int xa1] rfl rfl ?_
        refine z_xI zt269 38 rfl rfl (fun (xa2 : Int32) (wa2 : xa2 = xa1 >>> (b4 &&& 31)) => ?_) rfl
        refine z_xP zt269 39 96 [some (.ref 19), some (.int p1), some (.int p2), some (.int b3), some (.int b4), some (.int b5), some (.int b6), some (.int b7)] [.int 1, .int xa2] rfl rfl ?_
        refine z_xI zt269 40 rfl rfl (fun (xa3 : Int32) (wa3 : xa3 = xa2 &&& 1) => ?_) rfl
        have ta1 := z_sbit wa2 wa3 (by omega) ⟨by omega, by omega⟩
        rw [show xa1.toInt.toNat = y p1.toInt.toNat by omega] at ta1
        refine z_xP zt269 41 98 [some (.ref 19), some (.int p1), some (.int p2), some (.int b3), some (.int b4), some (.int b5), some (.int b6), some (.int b7)] [.ref 19, .int xa3] rfl rfl ?_
        refine z_xgX (b := 44) zt269 42 rfl zo269 zzf12_82 X f19 (by decide) (by decide) rfl ?_
        refine z_xP zt269 43 103 [some (.ref 19), some (.int p1), some (.int p2), some (.int b3), some (.int b4), some (.int b5), some (.int b6), some (.int b7)] [.int b5, .ref 44, .int xa3] rfl rfl ?_
        refine z_xil zt269 44 rfl X f44 (by decide) (by omega) (by omega) (fun (xa4 : Int32) wa4 (h4 : (-2147483648) ≤ xa4.toInt) (h5 : xa4.toInt ≤ 2147483647) => ?_)
        have va4 : xa4.toInt = (y b5.toInt.toNat : Int) := (congrArg Int32.toInt wa4).symm.trans (hrow b5.toInt.toNat (by omega)).1
        refine z_xP zt269 45 106 [some (.ref 19), some (.int p1), some (.int p2), some (.int b3), some (.int b4), some (.int b5), some (.int b6), some (.int b7)] [.int b4, .int xa4, .int xa3] rfl rfl ?_
        refine z_xI zt269 46 rfl rfl (fun (xa5 : Int32) (wa5 : xa5 = xa4 >>> (b4 &&& 31)) => ?_) rfl
        refine z_xP zt269 47 108 [some (.ref 19), some (.int p1), some (.int p2), some (.int b3), some (.int b4), some (.int b5), some (.int b6), some (.int b7)] [.int 1, .int xa5, .int xa3] rfl rfl ?_
        refine z_xI zt269 48 rfl rfl (fun (xa6 : Int32) (wa6 : xa6 = xa5 &&& 1) => ?_) rfl
        have ta2 := z_sbit wa5 wa6 (by omega) ⟨by omega, by omega⟩
        rw [show xa4.toInt.toNat = y b5.toInt.toNat by omega] at ta2
        refine z_xJ zt269 49 rfl rfl (fun (h20 : xa3.toInt ≠ xa6.toInt) => ?_) (fun (h20 : xa3.toInt = xa6.toInt) => ?_)
        · skip
          refine z_xP zt269 68 143 [some (.ref 19), some (.int p1), some (.int p2), some (.int b3), some (.int b4), some (.int b5), some (.int b6), some (.int b7)] [.int 0] rfl rfl ?_
          exact zYV269 hR m16 n13 u1 e2 (by omega) ⟨by omega, by omega⟩ hi h6w (Or.inr ⟨rfl, fun g => h20 (by omega)⟩) hkT
        refine z_xP zt269 50 113 [some (.ref 19), some (.int p1), some (.int p2), some (.int b3), some (.int b4), some (.int b5), some (.int b6), some (.int b7)] [.ref 19] rfl rfl ?_
        refine z_xgX (b := 45) zt269 51 rfl zo269 zzf12_85 X f19 (by decide) (by decide) rfl ?_
        refine z_xP zt269 52 117 [some (.ref 19), some (.int p1), some (.int p2), some (.int b3), some (.int b4), some (.int b5), some (.int b6), some (.int b7)] [.int p1, .ref 45] rfl rfl ?_
        have f45 : T[45]? = some (.inr (45, 0, 216, (-2147483648), 2147483647)) := X.1.k rfl (by decide)
        refine z_xil zt269 53 rfl X f45 (by decide) (by omega) (by omega) (fun (xc1 : Int32) wc1 (h4 : (-2147483648) ≤ xc1.toInt) (h5 : xc1.toInt ≤ 2147483647) => ?_)
        have vc1 : xc1.toInt = (u p1.toInt.toNat : Int) := (congrArg Int32.toInt wc1).symm.trans (hrow p1.toInt.toNat u1.2).2.1
        refine z_xP zt269 54 120 [some (.ref 19), some (.int p1), some (.int p2), some (.int b3), some (.int b4), some (.int b5), some (.int b6), some (.int b7)] [.int b4, .int xc1] rfl rfl ?_
        refine z_xI zt269 55 rfl rfl (fun (xc2 : Int32) (wc2 : xc2 = xc1 >>> (b4 &&& 31)) => ?_) rfl
        refine z_xP zt269 56 122 [some (.ref 19), some (.int p1), some (.int p2), some (.int b3), some (.int b4), some (.int b5), some (.int b6), some (.int b7)] [.int 1, .int xc2] rfl rfl ?_
        refine z_xI zt269 57 rfl rfl (fun (xc3 : Int32) (wc3 : xc3 = xc2 &&& 1) => ?_) rfl
        have tc1 := z_sbit wc2 wc3 (by omega) ⟨by omega, by omega⟩
        rw [show xc1.toInt.toNat = u p1.toInt.toNat by omega] at tc1
        refine z_xP zt269 58 124 [some (.ref 19), some (.int p1), some (.int p2), some (.int b3), some (.int b4), some (.int b5), some (.int b6), some (.int b7)] [.ref 19, .int xc3] rfl rfl ?_
        refine z_xgX (b := 45) zt269 59 rfl zo269 zzf12_85 X f19 (by decide) (by decide) rfl ?_
        refine z_xP zt269 60 129 [some (.ref 19), some (.int p1), some (.int p2), some (.int b3), some (.int b4), some (.int b5), some (.int b6), some (.int b7)] [.int b5, .ref 45, .int xc3] rfl rfl ?_
        refine z_xil zt269 61 rfl X f45 (by decide) (by omega) (by omega) (fun (xc4 : Int32) wc4 (h4 : (-2147483648) ≤ xc4.toInt) (h5 : xc4.toInt ≤ 2147483647) => ?_)
        have vc4 : xc4.toInt = (u b5.toInt.toNat : Int) := (congrArg Int32.toInt wc4).symm.trans (hrow b5.toInt.toNat (by omega)).2.1
        refine z_xP zt269 62 132 [some (.ref 19), some (.int p1), some (.int p2), some (.int b3), some (.int b4), some (.int b5), some (.int b6), some (.int b7)] [.int b4, .int xc4, .int xc3] rfl rfl ?_
        refine z_xI zt269 63 rfl rfl (fun (xc5 : Int32) (wc5 : xc5 = xc4 >>> (b4 &&& 31)) => ?_) rfl
        refine z_xP zt269 64 134 [some (.ref 19), some (.int p1), some (.int p2), some (.int b3), some (.int b4), some (.int b5), some (.int b6), some (.int b7)] [.int 1, .int xc5, .int xc3] rfl rfl ?_
        refine z_xI zt269 65 rfl rfl (fun (xc6 : Int32) (wc6 : xc6 = xc5 &&& 1) => ?_) rfl
        have tc2 := z_sbit wc5 wc6 (by omega) ⟨by omega, by omega⟩
        rw [show xc4.toInt.toNat = u b5.toInt.toNat by omega] at tc2
        refine z_xJ zt269 66 rfl rfl (fun (h48 : xc3.toInt ≠ xc6.toInt) => ?_) (fun (h48 : xc3.toInt = xc6.toInt) => ?_)
        · skip
          refine z_xP zt269 68 143 [some (.ref 19), some (.int p1), some (.int p2), some (.int b3), some (.int b4), some (.int b5), some (.int b6), some (.int b7)] [.int 0] rfl rfl ?_
          exact zYV269 hR m16 n13 u1 e2 (by omega) ⟨by omega, by omega⟩ hi h6w (Or.inr ⟨rfl, fun g => h48 (by omega)⟩) hkT
        refine z_xP zt269 67 143 [some (.ref 19), some (.int p1), some (.int p2), some (.int b3), some (.int b4), some (.int b5), some (.int b6), some (.int b7)] [.int 1] rfl rfl ?_
        exact zYV269 hR m16 n13 u1 e2 (by omega) ⟨by omega, by omega⟩ hi h6w (Or.inl ⟨rfl, by omega, by omega⟩) hkT
      refine z_xP zt269 13 42 [some (.ref 19), some (.int p1), some (.int p2), some (.int b3), some (.int b4), some (.int b5), some (.int b6), some (.int b7)] [.int b6] rfl rfl ?_
      refine z_xZ zt269 14 rfl rfl (fun (h67 : b6.toInt = 0) => ?_) (fun (h67 : b6.toInt ≠ 0) => ?_)
      · skip
        refine z_xP zt269 29 78 [some (.ref 19), some (.int p1), some (.int p2), some (.int b3), some (.int b4), some (.int b5), some (.int b6), some (.int b7)] [.int 0] rfl rfl ?_
        refine z_xP zt269 30 80 [some (.ref 19), some (.int p1), some (.int p2), some (.int b3), some (.int b4), some (.int b5), some (.int 0), some (.int b7)] [] rfl rfl ?_
        refine z_xN zt269 31 rfl rfl (fun (x68 : Int32) (h69 : x68.toInt = b7.toInt + 1) => ?_) (z_pAdd rfl rfl (by omega) (by omega))
        show z_ev (d + 1) 269 83 [some (.ref 19), some (.int p1), some (.int p2), some (.int b3), some (.int b4), some (.int b5), some (.int 0), some (.int x68)] [] M _
        refine z_xP zt269 32 34 [some (.ref 19), some (.int p1), some (.int p2), some (.int b3), some (.int b4), some (.int b5), some (.int 0), some (.int x68)] [] rfl rfl ?_
        refine ih.2.2 b3 b4 b5 (0) x68 hb4 hb5 hi ⟨by omega, by omega⟩ (Or.inr ⟨rfl, ?_⟩) (by omega)
        rcases h6 with ⟨g1, _⟩ | ⟨_, g⟩
        · omega
        · exact g
      have h60 : ∀ j, j < b7.toInt.toNat → (S (z_rw m n b5.toInt.toNat j)).toInt.toNat / 2 ^ b4.toInt.toNat % 2 = (S (z_rw m n p1.toInt.toNat j)).toInt.toNat / 2 ^ b4.toInt.toNat % 2 := by
        rcases h6 with ⟨_, g⟩ | ⟨g1, _⟩
        · exact g
        · exact absurd g1 h67
      refine z_xP zt269 15 49 [some (.ref 19), some (.int p1), some (.int p2), some (.int b3), some (.int b4), some (.int b5), some (.int b6), some (.int b7)] [.int b7, .int p1, .ref 19] rfl rfl ?_
      refine z_xcV (vs := [.ref 19, .int p1, .int b7]) (r := []) (L2 := [some (.ref 19), some (.int p1), some (.int b7)]) zt269 16 rfl zo269 zzcV12_342 (Or.inl rfl) rfl X f19 rfl rfl rfl (Nat.le_of_ble_eq_true rfl) zzm267 (Nat.le_of_ble_eq_true rfl) rfl ?_
      refine zYC267 hR m16 n13 u1 ⟨by omega, by omega⟩ (fun x86 h86 => ?_)
      show z_ev (d + 1) 269 52 [some (.ref 19), some (.int p1), some (.int p2), some (.int b3), some (.int b4), some (.int b5), some (.int b6), some (.int b7)] [.int x86] M _
      have lo1 := hSA.2.2 (z_rw m n p1.toInt.toNat b7.toInt.toNat) (z_rwB m16.1 _)
      refine z_xP zt269 17 54 [some (.ref 19), some (.int p1), some (.int p2), some (.int b3), some (.int b4), some (.int b5), some (.int b6), some (.int b7)] [.int b4, .int x86] rfl rfl ?_
      refine z_xI zt269 18 rfl rfl (fun (x90 : Int32) (h90 : x90 = x86 >>> (b4 &&& 31)) => ?_) rfl
      refine z_xP zt269 19 56 [some (.ref 19), some (.int p1), some (.int p2), some (.int b3), some (.int b4), some (.int b5), some (.int b6), some (.int b7)] [.int 1, .int x90] rfl rfl ?_
      refine z_xI zt269 20 rfl rfl (fun (x92 : Int32) (h92 : x92 = x90 &&& 1) => ?_) rfl
      have t1 := z_sbit h90 h92 (by rw [h86]; exact lo1.1) ⟨by omega, by omega⟩
      rw [h86] at t1
      refine z_xP zt269 21 62 [some (.ref 19), some (.int p1), some (.int p2), some (.int b3), some (.int b4), some (.int b5), some (.int b6), some (.int b7)] [.int b7, .int b5, .ref 19, .int x92] rfl rfl ?_
      refine z_xcV (vs := [.ref 19, .int b5, .int b7]) (r := [.int x92]) (L2 := [some (.ref 19), some (.int b5), some (.int b7)]) zt269 22 rfl zo269 zzcV12_342 (Or.inl rfl) rfl X f19 rfl rfl rfl (Nat.le_of_ble_eq_true rfl) zzm267 (Nat.le_of_ble_eq_true rfl) rfl ?_
      refine zYC267 hR m16 n13 ⟨by omega, by omega⟩ ⟨by omega, by omega⟩ (fun x106 h106 => ?_)
      show z_ev (d + 1) 269 65 [some (.ref 19), some (.int p1), some (.int p2), some (.int b3), some (.int b4), some (.int b5), some (.int b6), some (.int b7)] [.int x106, .int x92] M _
      have lo2 := hSA.2.2 (z_rw m n b5.toInt.toNat b7.toInt.toNat) (z_rwB m16.1 _)
      refine z_xP zt269 23 67 [some (.ref 19), some (.int p1), some (.int p2), some (.int b3), some (.int b4), some (.int b5), some (.int b6), some (.int b7)] [.int b4, .int x106, .int x92] rfl rfl ?_
      refine z_xI zt269 24 rfl rfl (fun (x110 : Int32) (h110 : x110 = x106 >>> (b4 &&& 31)) => ?_) rfl
      refine z_xP zt269 25 69 [some (.ref 19), some (.int p1), some (.int p2), some (.int b3), some (.int b4), some (.int b5), some (.int b6), some (.int b7)] [.int 1, .int x110, .int x92] rfl rfl ?_
      refine z_xI zt269 26 rfl rfl (fun (x112 : Int32) (h112 : x112 = x110 &&& 1) => ?_) rfl
      have t2 := z_sbit h110 h112 (by rw [h106]; exact lo2.1) ⟨by omega, by omega⟩
      rw [h106] at t2
      refine z_xJ zt269 27 rfl rfl (fun (h114 : x92.toInt ≠ x112.toInt) => ?_) (fun (h114 : x92.toInt = x112.toInt) => ?_)
      · skip
        refine z_xP zt269 29 78 [some (.ref 19), some (.int p1), some (.int p2), some (.int b3), some (.int b4), some (.int b5), some (.int b6), some (.int b7)] [.int 0] rfl rfl ?_
        refine z_xP zt269 30 80 [some (.ref 19), some (.int p1), some (.int p2), some (.int b3), some (.int b4), some (.int b5), some (.int 0), some (.int b7)] [] rfl rfl ?_
        refine z_xN zt269 31 rfl rfl (fun (x115 : Int32) (h116 : x115.toInt = b7.toInt + 1) => ?_) (z_pAdd rfl rfl (by omega) (by omega))
        show z_ev (d + 1) 269 83 [some (.ref 19), some (.int p1), some (.int p2), some (.int b3), some (.int b4), some (.int b5), some (.int 0), some (.int x115)] [] M _
        refine z_xP zt269 32 34 [some (.ref 19), some (.int p1), some (.int p2), some (.int b3), some (.int b4), some (.int b5), some (.int 0), some (.int x115)] [] rfl rfl ?_
        exact ih.2.2 b3 b4 b5 (0) x115 hb4 hb5 hi ⟨by omega, by omega⟩ (Or.inr ⟨rfl, b7.toInt.toNat, by omega, fun g => h114 (by omega)⟩) (by omega)
      refine z_xP zt269 28 78 [some (.ref 19), some (.int p1), some (.int p2), some (.int b3), some (.int b4), some (.int b5), some (.int b6), some (.int b7)] [.int 1] rfl rfl ?_
      refine z_xP zt269 30 80 [some (.ref 19), some (.int p1), some (.int p2), some (.int b3), some (.int b4), some (.int b5), some (.int 1), some (.int b7)] [] rfl rfl ?_
      refine z_xN zt269 31 rfl rfl (fun (x117 : Int32) (h118 : x117.toInt = b7.toInt + 1) => ?_) (z_pAdd rfl rfl (by omega) (by omega))
      show z_ev (d + 1) 269 83 [some (.ref 19), some (.int p1), some (.int p2), some (.int b3), some (.int b4), some (.int b5), some (.int 1), some (.int x117)] [] M _
      refine z_xP zt269 32 34 [some (.ref 19), some (.int p1), some (.int p2), some (.int b3), some (.int b4), some (.int b5), some (.int 1), some (.int x117)] [] rfl rfl ?_
      refine ih.2.2 b3 b4 b5 (1) x117 hb4 hb5 hi ⟨by omega, by omega⟩ (Or.inl ⟨rfl, fun j hj => ?_⟩) (by omega)
      by_cases c : j = b7.toInt.toNat
      · rw [c]
        omega
      · exact h60 j (by omega)
theorem zYC269 {T : List zK} {d : Nat} {K : Option Value → zH → Prop} {M : zH} {a q t m pr en n : Nat} {B : Nat → Nat} {S : Nat → Int32} {A : Int32} {y u : Nat → Nat} {p1 p2 : Int32} (hR : y_RW T M a q t m pr en n B S A y u) (hSA : z_SA q m S A) (m16 : 1 ≤ m ∧ m ≤ 6) (n13 : 1 ≤ n ∧ n ≤ 3) (u1 : 0 ≤ p1.toInt ∧ p1.toInt.toNat < m ^ n) (e2 : p2.toInt = (n : Int)) (kk : ∀ x : Int32, ((x.toInt = 1 ∧ ¬ ∃ k, k < q ∧ ∃ e, e < p1.toInt.toNat ∧ z_vk S m n y u p1.toInt.toNat k e) ∨ (x.toInt = 0 ∧ ∃ k, k < q ∧ ∃ e, e < p1.toInt.toNat ∧ z_vk S m n y u p1.toInt.toNat k e)) → K (some (.int x)) M) : z_ev (d + 1) 269 0 [some (.ref 19), some (.int p1), some (.int p2), none, none, none, none, none] [] M K := by
  have q0 : ((0 : Int32)).toInt = 0 := rfl
  refine z_xP zt269 0 5 [some (.ref 19), some (.int p1), some (.int p2), some (.int 1), some (.int 0), none, none, none] [] rfl rfl ?_
  exact (zYB269 hR hSA m16 n13 u1 e2 kk 22000).1 (1) (0) none none none ⟨by omega, by omega⟩ (Or.inl ⟨rfl, fun k e hk he hke => by omega⟩) (by omega)
/-- all of an agenda, of the reference -/
theorem zYC240 {T : List zK} {d : Nat} {K : Option Value → zH → Prop} {M : zH} {a q t m pr en n : Nat} {B : Nat → Nat} {S : Nat → Int32} {A : Int32} {y u : Nat → Nat} (hR : y_RW T M a q t m pr en n B S A y u) (kk : ∀ x : Int32, x = A → K (some (.int x)) M) : z_ev d 240 0 [some (.ref 19)] [] M K := by
  obtain ⟨⟨hW, ⟨av, hav, ea, a8⟩, hG, hSS, hA, q10⟩, _, hrow⟩ := id hR
  have X : z_X T [] M M := .refl hW
  have f19 : T[19]? = some (.inl (12, 0, 0, 0, 0)) := X.1.k rfl (by decide)
  refine z_xP zt240 0 2 [some (.ref 19)] [.ref 19, .int 1] rfl rfl ?_
  refine z_xgX (b := 24) zt240 1 rfl zo240 zzf12_22 X f19 (by decide) (by decide) rfl ?_
  refine z_xP zt240 2 6 [some (.ref 19)] [.ref 19, .ref 24, .int 1] rfl rfl ?_
  refine z_xgv zt240 3 rfl zo240 zzf12_242 X f19 (by decide) hav ?_
  have f24 : T[24]? = some (.inr (24, 0, 8, 0, 10)) := X.1.k rfl (by decide)
  refine z_xil zt240 4 rfl X f24 (by decide) (by omega) (by omega) (fun (x35 : Int32) h36 (h37 : 0 ≤ x35.toInt) (h38 : x35.toInt ≤ 10) => ?_)
  refine z_xI zt240 5 rfl rfl (fun (x39 : Int32) (h40 : x39 = (1 : Int32) <<< (x35 &&& 31) ∧ 1 ≤ x39.toInt ∧ x39.toInt ≤ 1024) => ?_) (⟨rfl, z_pShlB (a := 1) (b := 10) (c := 1024) (r := 1024) rfl rfl (by omega) (by omega) (by omega) (by omega) (by decide) (by decide) (by decide) (by decide)⟩)
  have e35 : x35.toInt = (q : Int) := by
    rw [← h36, z_tnA ea]
    exact hG.1
  refine z_xP zt240 6 12 [some (.ref 19)] [.int 1, .int x39] rfl rfl ?_
  refine z_xI zt240 7 rfl rfl (fun (x41 : Int32) (h42 : x41.toInt = x39.toInt - 1) => ?_) (z_pSub rfl rfl (by omega) (by omega))
  have hA2 := z_all2 e35 q10.2 h40.1 h42
  exact z_xri zt240 8 rfl zzr240 (kk x41 (Int32.toInt_inj.mp (hA2.trans hA.symm)))
theorem zYB270 {T : List zK} {d : Nat} {K : Option Value → zH → Prop} {M : zH} {a q t m pr en n : Nat} {B : Nat → Nat} {S : Nat → Int32} {A : Int32} {y u : Nat → Nat} {p1 p2 : Int32} (hR : y_RW T M a q t m pr en n B S A y u) (hSA : z_SA q m S A) (m16 : 1 ≤ m ∧ m ≤ 6) (n13 : 1 ≤ n ∧ n ≤ 3) (u1 : 0 ≤ p1.toInt ∧ p1.toInt.toNat < m ^ n) (e2 : p2.toInt = (n : Int)) (kk : ∀ x : Int32, ((x.toInt = 1 ∧ ¬ ((∀ j, j < n → z_rw m n p1.toInt.toNat j = z_rw m n p1.toInt.toNat 0) ∧ ¬ z_own S A (z_rw m n p1.toInt.toNat 0) (y p1.toInt.toNat) (u p1.toInt.toNat))) ∨ (x.toInt = 0 ∧ ((∀ j, j < n → z_rw m n p1.toInt.toNat j = z_rw m n p1.toInt.toNat 0) ∧ ¬ z_own S A (z_rw m n p1.toInt.toNat 0) (y p1.toInt.toNat) (u p1.toInt.toNat)))) → K (some (.int x)) M) : ∀ nn : Nat, (∀ (b3 b4 : Int32), (1 ≤ b4.toInt ∧ b4.toInt ≤ (n : Int)) → ((b3.toInt = 1 ∧ ∀ j, j < b4.toInt.toNat → z_rw m n p1.toInt.toNat j = z_rw m n p1.toInt.toNat 0) ∨ (b3.toInt = 0 ∧ ∃ j, j < n ∧ ¬ z_rw m n p1.toInt.toNat j = z_rw m n p1.toInt.toNat 0)) → (4 - b4.toInt) < (nn : Int) → z_ev (d + 1) 270 5 [some (.ref 19), some (.int p1), some (.int p2), some (.int b3), some (.int b4)] [] M K) := by
  intro nn
  induction nn with
  | zero => exact by intros; exfalso; omega
  | succ nn ih =>
    intro b3 b4 hb4 h3 hE
    obtain ⟨⟨hW, ⟨av, hav, ea, a8⟩, hG, hSS, hA, q10⟩, _, hrow⟩ := id hR
    have hm := z_mk (k := n) m16.2 n13.2
    have X : z_X T [] M M := .refl hW
    have f19 : T[19]? = some (.inl (12, 0, 0, 0, 0)) := X.1.k rfl (by decide)
    have q0 : ((0 : Int32)).toInt = 0 := rfl
    have q1 : ((1 : Int32)).toInt = 1 := rfl
    refine z_xP zt270 1 8 [some (.ref 19), some (.int p1), some (.int p2), some (.int b3), some (.int b4)] [.int p2, .int b4] rfl rfl ?_
    refine z_xJ zt270 2 rfl rfl (fun (h1 : p2.toInt ≤ b4.toInt) => ?_) (fun (h1 : b4.toInt < p2.toInt) => ?_)
    · skip
      refine z_xP zt270 23 50 [some (.ref 19), some (.int p1), some (.int p2), some (.int b3), some (.int b4)] [.int b3] rfl rfl ?_
      refine z_xZ zt270 24 rfl rfl (fun (h2 : b3.toInt = 0) => ?_) (fun (h2 : b3.toInt ≠ 0) => ?_)
      · skip
        refine z_xP zt270 44 95 [some (.ref 19), some (.int p1), some (.int p2), some (.int b3), some (.int b4)] [.int 1] rfl rfl ?_
        refine z_xrz zt270 46 rfl zzr270 (by decide) (by decide) (kk 1 (Or.inl ⟨rfl, fun g => ?_⟩))
        rcases h3 with ⟨g3, _⟩ | ⟨_, j, hj, g3⟩
        · omega
        · exact g3 (g.1 j hj)
      have hall : ∀ j, j < n → z_rw m n p1.toInt.toNat j = z_rw m n p1.toInt.toNat 0 := by
        rcases h3 with ⟨_, g3⟩ | ⟨g3, _⟩
        · exact fun j hj => g3 j (by omega)
        · exact absurd g3 h2
      have lo1 := hSA.2.2 (z_rw m n p1.toInt.toNat 0) (z_rwB m16.1 _)
      refine z_xP zt270 25 54 [some (.ref 19), some (.int p1), some (.int p2), some (.int b3), some (.int b4)] [.ref 19] rfl rfl ?_
      refine z_xgX (b := 44) zt270 26 rfl zo270 zzf12_82 X f19 (by decide) (by decide) rfl ?_
      refine z_xP zt270 27 58 [some (.ref 19), some (.int p1), some (.int p2), some (.int b3), some (.int b4)] [.int p1, .ref 44] rfl rfl ?_
      have f44 : T[44]? = some (.inr (44, 0, 216, (-2147483648), 2147483647)) := X.1.k rfl (by decide)
      refine z_xil zt270 28 rfl X f44 (by decide) (by omega) (by omega) (fun (x3 : Int32) h4 (h5 : (-2147483648) ≤ x3.toInt) (h6 : x3.toInt ≤ 2147483647) => ?_)
      have v3 : x3.toInt = (y p1.toInt.toNat : Int) := (congrArg Int32.toInt h4).symm.trans (hrow p1.toInt.toNat u1.2).1
      refine z_xP zt270 29 62 [some (.ref 19), some (.int p1), some (.int p2), some (.int b3), some (.int b4)] [.int 0, .int p1, .ref 19, .int x3] rfl rfl ?_
      refine z_xcV (vs := [.ref 19, .int p1, .int 0]) (r := [.int x3]) (L2 := [some (.ref 19), some (.int p1), some (.int 0)]) zt270 30 rfl zo270 zzcV12_342 (Or.inl rfl) rfl X f19 rfl rfl rfl (Nat.le_of_ble_eq_true rfl) zzm267 (Nat.le_of_ble_eq_true rfl) rfl ?_
      refine zYC267 hR m16 n13 u1 ⟨by omega, by omega⟩ (fun x23 h23 => ?_)
      show z_ev (d + 1) 270 65 [some (.ref 19), some (.int p1), some (.int p2), some (.int b3), some (.int b4)] [.int x23, .int x3] M _
      have h23b : x23 = S (z_rw m n p1.toInt.toNat 0) := h23
      refine z_xJ zt270 31 rfl rfl (fun (h28 : x3.toInt ≠ x23.toInt) => ?_) (fun (h28 : x3.toInt = x23.toInt) => ?_)
      · skip
        refine z_xP zt270 45 95 [some (.ref 19), some (.int p1), some (.int p2), some (.int b3), some (.int b4)] [.int 0] rfl rfl ?_
        refine z_xrz zt270 46 rfl zzr270 (by decide) (by decide) (kk 0 (Or.inr ⟨rfl, hall, fun g => h28 ?_⟩))
        have := g.1
        rw [h23b]
        omega
      refine z_xP zt270 32 69 [some (.ref 19), some (.int p1), some (.int p2), some (.int b3), some (.int b4)] [.ref 19] rfl rfl ?_
      refine z_xgX (b := 45) zt270 33 rfl zo270 zzf12_85 X f19 (by decide) (by decide) rfl ?_
      refine z_xP zt270 34 73 [some (.ref 19), some (.int p1), some (.int p2), some (.int b3), some (.int b4)] [.int p1, .ref 45] rfl rfl ?_
      have f45 : T[45]? = some (.inr (45, 0, 216, (-2147483648), 2147483647)) := X.1.k rfl (by decide)
      refine z_xil zt270 35 rfl X f45 (by decide) (by omega) (by omega) (fun (x29 : Int32) h30 (h31 : (-2147483648) ≤ x29.toInt) (h32 : x29.toInt ≤ 2147483647) => ?_)
      have v29 : x29.toInt = (u p1.toInt.toNat : Int) := (congrArg Int32.toInt h30).symm.trans (hrow p1.toInt.toNat u1.2).2.1
      refine z_xP zt270 36 75 [some (.ref 19), some (.int p1), some (.int p2), some (.int b3), some (.int b4)] [.ref 19, .int x29] rfl rfl ?_
      refine z_xcV (vs := [.ref 19]) (r := [.int x29]) (L2 := [some (.ref 19)]) zt270 37 rfl zo270 zzcV12_248 (Or.inl rfl) rfl X f19 rfl rfl rfl (Nat.le_of_ble_eq_true rfl) zzm240 (Nat.le_of_ble_eq_true rfl) rfl ?_
      refine zYC240 hR (fun x39 h39 => ?_)
      show z_ev (d + 1) 270 78 [some (.ref 19), some (.int p1), some (.int p2), some (.int b3), some (.int b4)] [.int x39, .int x29] M _
      refine z_xP zt270 38 81 [some (.ref 19), some (.int p1), some (.int p2), some (.int b3), some (.int b4)] [.int 0, .int p1, .ref 19, .int x39, .int x29] rfl rfl ?_
      refine z_xcV (vs := [.ref 19, .int p1, .int 0]) (r := [.int x39, .int x29]) (L2 := [some (.ref 19), some (.int p1), some (.int 0)]) zt270 39 rfl zo270 zzcV12_342 (Or.inl rfl) rfl X f19 rfl rfl rfl (Nat.le_of_ble_eq_true rfl) zzm267 (Nat.le_of_ble_eq_true rfl) rfl ?_
      refine zYC267 hR m16 n13 u1 ⟨by omega, by omega⟩ (fun x53 h53 => ?_)
      have h53b : x53 = S (z_rw m n p1.toInt.toNat 0) := h53
      show z_ev (d + 1) 270 84 [some (.ref 19), some (.int p1), some (.int p2), some (.int b3), some (.int b4)] [.int x53, .int x39, .int x29] M _
      refine z_xP zt270 40 85 [some (.ref 19), some (.int p1), some (.int p2), some (.int b3), some (.int b4)] [.int (-1), .int x53, .int x39, .int x29] rfl rfl ?_
      refine z_xI zt270 41 rfl rfl (fun (x57 : Int32) (h57 : x57 = x53 ^^^ (-1 : Int32)) => ?_) rfl
      refine z_xI zt270 42 rfl rfl (fun (x59 : Int32) (h59 : x59 = x39 &&& x57) => ?_) rfl
      have e59 : x59 = A &&& (S (z_rw m n p1.toInt.toNat 0) ^^^ (-1 : Int32)) := by rw [h59, h57, h39, h53b]
      have hA2 := z_p21 hA q10.2
      obtain ⟨n0, _, _⟩ := z_ib_no (x := S (z_rw m n p1.toInt.toNat 0)) (v := A) (y := S (z_rw m n p1.toInt.toNat 0) ^^^ (-1 : Int32)) (z := A &&& (S (z_rw m n p1.toInt.toNat 0) ^^^ (-1 : Int32))) rfl rfl hA2.1 lo1.1
      refine z_xJ zt270 43 rfl rfl (fun (h62 : x29.toInt ≠ x59.toInt) => ?_) (fun (h62 : x29.toInt = x59.toInt) => ?_)
      · skip
        refine z_xP zt270 45 95 [some (.ref 19), some (.int p1), some (.int p2), some (.int b3), some (.int b4)] [.int 0] rfl rfl ?_
        refine z_xrz zt270 46 rfl zzr270 (by decide) (by decide) (kk 0 (Or.inr ⟨rfl, hall, fun g => h62 ?_⟩))
        have := g.2
        rw [e59]
        omega
      refine z_xP zt270 44 95 [some (.ref 19), some (.int p1), some (.int p2), some (.int b3), some (.int b4)] [.int 1] rfl rfl ?_
      refine z_xrz zt270 46 rfl zzr270 (by decide) (by decide) (kk 1 (Or.inl ⟨rfl, fun g => g.2 ⟨?_, ?_⟩⟩))
      · rw [h23b] at h28
        omega
      · rw [e59] at h62
        omega
    refine z_xP zt270 3 12 [some (.ref 19), some (.int p1), some (.int p2), some (.int b3), some (.int b4)] [.int b3] rfl rfl ?_
    refine z_xZ zt270 4 rfl rfl (fun (h63 : b3.toInt = 0) => ?_) (fun (h63 : b3.toInt ≠ 0) => ?_)
    · skip
      refine z_xP zt270 19 42 [some (.ref 19), some (.int p1), some (.int p2), some (.int b3), some (.int b4)] [.int 0] rfl rfl ?_
      refine z_xP zt270 20 43 [some (.ref 19), some (.int p1), some (.int p2), some (.int 0), some (.int b4)] [] rfl rfl ?_
      refine z_xN zt270 21 rfl rfl (fun (x64 : Int32) (h65 : x64.toInt = b4.toInt + 1) => ?_) (z_pAdd rfl rfl (by omega) (by omega))
      show z_ev (d + 1) 270 46 [some (.ref 19), some (.int p1), some (.int p2), some (.int 0), some (.int x64)] [] M _
      refine z_xP zt270 22 5 [some (.ref 19), some (.int p1), some (.int p2), some (.int 0), some (.int x64)] [] rfl rfl ?_
      refine ih (0) x64 ⟨by omega, by omega⟩ (Or.inr ⟨rfl, ?_⟩) (by omega)
      rcases h3 with ⟨g3, _⟩ | ⟨_, g3⟩
      · omega
      · exact g3
    have hall : ∀ j, j < b4.toInt.toNat → z_rw m n p1.toInt.toNat j = z_rw m n p1.toInt.toNat 0 := by
      rcases h3 with ⟨_, g3⟩ | ⟨g3, _⟩
      · exact g3
      · exact absurd g3 h63
    have f46 : T[46]? = some (.inr (46, 0, 648, 0, 1023)) := X.1.k rfl (by decide)
    refine z_xP zt270 5 16 [some (.ref 19), some (.int p1), some (.int p2), some (.int b3), some (.int b4)] [.ref 19] rfl rfl ?_
    refine z_xgX (b := 46) zt270 6 rfl zo270 zzf12_88 X f19 (by decide) (by decide) rfl ?_
    refine z_xP zt270 7 21 [some (.ref 19), some (.int p1), some (.int p2), some (.int b3), some (.int b4)] [.int p1, .int 3, .ref 46] rfl rfl ?_
    refine z_xI zt270 8 rfl rfl (fun (x66 : Int32) (h67 : x66.toInt = 3 * p1.toInt) => ?_) (z_pMul rfl rfl (by omega) (by omega))
    refine z_xP zt270 9 24 [some (.ref 19), some (.int p1), some (.int p2), some (.int b3), some (.int b4)] [.int b4, .int x66, .ref 46] rfl rfl ?_
    refine z_xI zt270 10 rfl rfl (fun (x68 : Int32) (h69 : x68.toInt = x66.toInt + b4.toInt) => ?_) (z_pAdd rfl rfl (by omega) (by omega))
    refine z_xil zt270 11 rfl X f46 (by decide) (by omega) (by omega) (fun (x70 : Int32) h71 (h72 : 0 ≤ x70.toInt) (h73 : x70.toInt ≤ 1023) => ?_)
    have v70 := (hrow p1.toInt.toNat u1.2).2.2 b4.toInt.toNat (by omega)
    rw [show 3 * p1.toInt.toNat + b4.toInt.toNat = x68.toNatClampNeg by show _ = x68.toInt.toNat; omega, h71] at v70
    refine z_xP zt270 12 27 [some (.ref 19), some (.int p1), some (.int p2), some (.int b3), some (.int b4)] [.ref 19, .int x70] rfl rfl ?_
    refine z_xgX (b := 46) zt270 13 rfl zo270 zzf12_88 X f19 (by decide) (by decide) rfl ?_
    refine z_xP zt270 14 32 [some (.ref 19), some (.int p1), some (.int p2), some (.int b3), some (.int b4)] [.int p1, .int 3, .ref 46, .int x70] rfl rfl ?_
    refine z_xI zt270 15 rfl rfl (fun (x74 : Int32) (h75 : x74.toInt = 3 * p1.toInt) => ?_) (z_pMul rfl rfl (by omega) (by omega))
    refine z_xil zt270 16 rfl X f46 (by decide) (by omega) (by omega) (fun (x76 : Int32) h77 (h78 : 0 ≤ x76.toInt) (h79 : x76.toInt ≤ 1023) => ?_)
    have v76 := (hrow p1.toInt.toNat u1.2).2.2 0 (by omega)
    rw [show 3 * p1.toInt.toNat + 0 = x74.toNatClampNeg by show _ = x74.toInt.toNat; omega, h77] at v76
    refine z_xJ zt270 17 rfl rfl (fun (h80 : x70.toInt ≠ x76.toInt) => ?_) (fun (h80 : x70.toInt = x76.toInt) => ?_)
    · skip
      refine z_xP zt270 19 42 [some (.ref 19), some (.int p1), some (.int p2), some (.int b3), some (.int b4)] [.int 0] rfl rfl ?_
      refine z_xP zt270 20 43 [some (.ref 19), some (.int p1), some (.int p2), some (.int 0), some (.int b4)] [] rfl rfl ?_
      refine z_xN zt270 21 rfl rfl (fun (x81 : Int32) (h82 : x81.toInt = b4.toInt + 1) => ?_) (z_pAdd rfl rfl (by omega) (by omega))
      show z_ev (d + 1) 270 46 [some (.ref 19), some (.int p1), some (.int p2), some (.int 0), some (.int x81)] [] M _
      refine z_xP zt270 22 5 [some (.ref 19), some (.int p1), some (.int p2), some (.int 0), some (.int x81)] [] rfl rfl ?_
      exact ih (0) x81 ⟨by omega, by omega⟩ (Or.inr ⟨rfl, b4.toInt.toNat, by omega, fun g => h80 (by omega)⟩) (by omega)
    refine z_xP zt270 18 42 [some (.ref 19), some (.int p1), some (.int p2), some (.int b3), some (.int b4)] [.int 1] rfl rfl ?_
    refine z_xP zt270 20 43 [some (.ref 19), some (.int p1), some (.int p2), some (.int 1), some (.int b4)] [] rfl rfl ?_
    refine z_xN zt270 21 rfl rfl (fun (x83 : Int32) (h84 : x83.toInt = b4.toInt + 1) => ?_) (z_pAdd rfl rfl (by omega) (by omega))
    show z_ev (d + 1) 270 46 [some (.ref 19), some (.int p1), some (.int p2), some (.int 1), some (.int x83)] [] M _
    refine z_xP zt270 22 5 [some (.ref 19), some (.int p1), some (.int p2), some (.int 1), some (.int x83)] [] rfl rfl ?_
    refine ih (1) x83 ⟨by omega, by omega⟩ (Or.inl ⟨rfl, fun j hj => ?_⟩) (by omega)
    by_cases c : j = b4.toInt.toNat
    · rw [c]
      omega
    · exact hall j (by omega)
theorem zYC270 {T : List zK} {d : Nat} {K : Option Value → zH → Prop} {M : zH} {a q t m pr en n : Nat} {B : Nat → Nat} {S : Nat → Int32} {A : Int32} {y u : Nat → Nat} {p1 p2 : Int32} (hR : y_RW T M a q t m pr en n B S A y u) (hSA : z_SA q m S A) (m16 : 1 ≤ m ∧ m ≤ 6) (n13 : 1 ≤ n ∧ n ≤ 3) (u1 : 0 ≤ p1.toInt ∧ p1.toInt.toNat < m ^ n) (e2 : p2.toInt = (n : Int)) (kk : ∀ x : Int32, ((x.toInt = 1 ∧ ¬ ((∀ j, j < n → z_rw m n p1.toInt.toNat j = z_rw m n p1.toInt.toNat 0) ∧ ¬ z_own S A (z_rw m n p1.toInt.toNat 0) (y p1.toInt.toNat) (u p1.toInt.toNat))) ∨ (x.toInt = 0 ∧ ((∀ j, j < n → z_rw m n p1.toInt.toNat j = z_rw m n p1.toInt.toNat 0) ∧ ¬ z_own S A (z_rw m n p1.toInt.toNat 0) (y p1.toInt.toNat) (u p1.toInt.toNat)))) → K (some (.int x)) M) : z_ev (d + 1) 270 0 [some (.ref 19), some (.int p1), some (.int p2), none, none] [] M K := by
  have q1 : ((1 : Int32)).toInt = 1 := rfl
  refine z_xP zt270 0 5 [some (.ref 19), some (.int p1), some (.int p2), some (.int 1), some (.int 1)] [] rfl rfl ?_
  refine zYB270 hR hSA m16 n13 u1 e2 kk 6 (1) (1) ⟨by omega, by omega⟩ (Or.inl ⟨rfl, fun j hj => ?_⟩) (by omega)
  rw [show j = 0 by omega]
