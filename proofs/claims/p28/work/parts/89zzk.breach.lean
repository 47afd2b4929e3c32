/-! laws, the class -/
theorem z_blk.k9 {T : List zK} {M : zH} {b q t m J : Nat} (h : z_blk T M) (hW : z_W M T) (hb : T[b]? = some (.inl (3, q, t, m, J))) : T[b + 9]? = some (.inr (211, 0, 80, (-2147483648), 2147483647)) := z_obf hW hb (h b q t m J hb).2.2.2.2.2.2.2.2.1
def zw136 : List Nat := [210, 211]
theorem z_i32n {v : Int32} {a : Nat} (h : v.toInt = (a : Int)) (h2 : a < 2147483648) : v = Int32.ofNat a := Int32.toInt_inj.mp (h.trans (Int32.toInt_ofNat_of_lt (by omega)).symm)
theorem z_orbi : ∀ x, x < 8 → ∀ b, b < 2 → ∀ j, j < 3 → x < 2 ^ j → (Int32.ofNat x ||| (Int32.ofNat b <<< (Int32.ofNat j &&& 31))).toInt = ((x + b * 2 ^ j : Nat) : Int) := by decide +kernel
theorem z_TSG.low {T : List zK} {a0 : Nat} {M0 : zH} {N q t m pr en sa n : Nat} {B : Nat → Nat} {S : Nat → Int32} {A : Int32} {F G : Nat → Nat} (hS : z_TSG T M0 a0 N q t m pr en sa n B F G S A) : (1 ≤ q ∧ q ≤ 10) ∧ ∀ v, v < m → 0 ≤ (S v).toInt ∧ (S v).toInt < ((2 ^ q : Nat) : Int) := by
  obtain ⟨⟨hWM, hbk⟩, kb, ⟨hN0, hag⟩, ⟨hsa, ksa, hSS⟩, hA, ⟨_, jv4, hj4, ejv4⟩, hnu, har, hln, hlz⟩ := id hS
  have g := hWM.p3 kb
  refine ⟨⟨by omega, by omega⟩, fun v hv => ?_⟩
  have h1 := z_LSlt hag hsa hv
  rw [hSS v hv] at h1
  exact h1
theorem zUB138 {T : List zK} {d : Nat} {K : Option Value → zH → Prop} {a0 : Nat} {p1 : Int32} {M0 : zH} {N q t m pr en sa n : Nat} {B : Nat → Nat} {S : Nat → Int32} {A : Int32} {G : Nat → Nat} {M : zH} {b2 : Int32} (X : z_X T zw138 M0 M) (hS : z_TSG T M a0 N q t m pr en sa n B (z_rw m n p1.toInt.toNat) G S A) (m16 : 1 ≤ m ∧ m ≤ 6) (n13 : 1 ≤ n ∧ n ≤ 3) (u1 : 0 ≤ p1.toInt ∧ p1.toInt.toNat < m ^ n) (e2 : b2.toInt = (m : Int)) (kk : ∀ (x : Int32), x.toInt = ((z_srt m n p1.toInt.toNat : Nat) : Int) → K (some (.int x)) M) : ∀ nn : Nat, (∀ (b3 b4 : Int32) (o5 : Option Value), (0 ≤ b4.toInt ∧ b4.toInt ≤ (m : Int)) → b3.toInt = ((z_srS (z_rw m n p1.toInt.toNat) m n b4.toInt.toNat : Nat) : Int) → (6 - b4.toInt) * 8 + 6 < (nn : Int) → z_ev (d + 2) 138 19 [some (.ref a0), some (.int p1), some (.int b2), some (.int b3), some (.int b4), o5] [] M K) ∧ (∀ (b3 b4 b5 : Int32), (0 ≤ b4.toInt ∧ b4.toInt < (m : Int)) → (0 ≤ b5.toInt ∧ b5.toInt ≤ (n : Int)) → b3.toInt = ((z_srJ (z_rw m n p1.toInt.toNat) m b4.toInt.toNat (z_srS (z_rw m n p1.toInt.toNat) m n b4.toInt.toNat) b5.toInt.toNat : Nat) : Int) → (6 - b4.toInt) * 8 + (4 - b5.toInt) < (nn : Int) → z_ev (d + 2) 138 28 [some (.ref a0), some (.int p1), some (.int b2), some (.int b3), some (.int b4), some (.int b5)] [] M K) := by
  intro nn
  induction nn with
  | zero => exact ⟨(by intros; exfalso; omega), (by intros; exfalso; omega)⟩
  | succ nn ih =>
    obtain ⟨⟨hWM, hbk⟩, kb, ⟨hN0, hag⟩, ⟨hsa, ksa, hSS⟩, hA, ⟨_, jv4, hj4, ejv4⟩, hnu, har, hln, hlz⟩ := id hS
    have k0 := kb
    have g0 := X.1.p3 k0
    have hm := z_mk (k := n) m16.2 n13.2
    have hB : ∀ s, s ≤ m → ∀ j, j ≤ n → z_srS (z_rw m n p1.toInt.toNat) m n s ≤ 215 ∧ z_srJ (z_rw m n p1.toInt.toNat) m s (z_srS (z_rw m n p1.toInt.toNat) m n s) j ≤ 215 := fun s hs j hj => z_sr4 m (by omega) n (by omega) p1.toInt.toNat (by omega) u1.2 s (by omega) hs j (by omega) hj
    refine ⟨?_, ?_⟩
    · skip
      intro b3 b4 o5 hb4 e3 hE
      refine z_xP zt138 7 22 [some (.ref a0), some (.int p1), some (.int b2), some (.int b3), some (.int b4), o5] [.int b2, .int b4] rfl rfl ?_
      refine z_xJ zt138 8 rfl rfl (fun (h1 : b2.toInt ≤ b4.toInt) => ?_) (fun (h1 : b4.toInt < b2.toInt) => ?_)
      · skip
        refine z_xP zt138 28 69 [some (.ref a0), some (.int p1), some (.int b2), some (.int b3), some (.int b4), o5] [.int b3] rfl rfl ?_
        exact z_xri zt138 29 rfl zzr138 (kk b3 (by rw [e3, show b4.toInt.toNat = m by omega]; rfl))
      refine z_xP zt138 9 28 [some (.ref a0), some (.int p1), some (.int b2), some (.int b3), some (.int b4), some (.int 0)] [] rfl rfl ?_
      have q0 : ((0 : Int32)).toInt = 0 := rfl
      exact ih.2 b3 b4 (0) ⟨by omega, by omega⟩ ⟨by omega, by omega⟩ e3 (by omega)
    · skip
      intro b3 b4 b5 hb4 hb5 e3 hE
      refine z_xP zt138 10 31 [some (.ref a0), some (.int p1), some (.int b2), some (.int b3), some (.int b4), some (.int b5)] [.ref a0, .int b5] rfl rfl ?_
      refine z_xgv zt138 11 rfl zo138 zzf3_53 X k0 (by decide) hj4 ?_
      refine z_xJ zt138 12 rfl rfl (fun (h1 : jv4.toInt ≤ b5.toInt) => ?_) (fun (h1 : b5.toInt < jv4.toInt) => ?_)
      · skip
        refine z_xN zt138 26 rfl rfl (fun (x2 : Int32) (h3 : x2.toInt = b4.toInt + 1) => ?_) (z_pAdd rfl rfl (by omega) (by omega))
        show z_ev (d + 2) 138 65 [some (.ref a0), some (.int p1), some (.int b2), some (.int b3), some (.int x2), some (.int b5)] [] M _
        refine z_xP zt138 27 19 [some (.ref a0), some (.int p1), some (.int b2), some (.int b3), some (.int x2), some (.int b5)] [] rfl rfl ?_
        have es : x2.toInt.toNat = b4.toInt.toNat + 1 := by omega
        refine ih.1 b3 x2 (some (.int b5)) ⟨by omega, by omega⟩ ?_ (by omega)
        rw [e3, es, show b5.toInt.toNat = n by omega]
        rfl
      refine z_xP zt138 13 38 [some (.ref a0), some (.int p1), some (.int b2), some (.int b3), some (.int b4), some (.int b5)] [.ref a0] rfl rfl ?_
      refine z_xgR (κ := .inr (210, 0, 5, 0, ((m : Nat) : Int) - 1)) zt138 14 rfl zo138 zzf3_33 X k0 (by decide) (by decide) rfl (fun (a3 : Nat) h2 k4 => ?_)
      obtain rfl : a3 = a0 + 8 := z_rfe h2 (hbk _ _ _ _ _ k0).2.2.2.2.2.2.2.1
      refine z_xP zt138 15 43 [some (.ref a0), some (.int p1), some (.int b2), some (.int b3), some (.int b4), some (.int b5)] [.int b5, .ref (a0 + 8)] rfl rfl ?_
      refine z_xil zt138 16 rfl X k4 (by decide) (by omega) (by omega) (fun (x4 : Int32) h5 (h6 : 0 ≤ x4.toInt) (h7 : x4.toInt ≤ ((m : Nat) : Int) - 1) => ?_)
      have e4 : x4.toInt = (((z_rw m n p1.toInt.toNat) b5.toInt.toNat : Nat) : Int) := (congrArg Int32.toInt h5).symm.trans (hnu b5.toInt.toNat (by omega))
      have h1 := hB b4.toInt.toNat (by omega) b5.toInt.toNat (by omega)
      have h2 := hB b4.toInt.toNat (by omega) (b5.toInt.toNat + 1) (by omega)
      have eJ : z_srJ (z_rw m n p1.toInt.toNat) m b4.toInt.toNat (z_srS (z_rw m n p1.toInt.toNat) m n b4.toInt.toNat) (b5.toInt.toNat + 1) = if (z_rw m n p1.toInt.toNat) b5.toInt.toNat = b4.toInt.toNat then z_srJ (z_rw m n p1.toInt.toNat) m b4.toInt.toNat (z_srS (z_rw m n p1.toInt.toNat) m n b4.toInt.toNat) b5.toInt.toNat * m + b4.toInt.toNat else z_srJ (z_rw m n p1.toInt.toNat) m b4.toInt.toNat (z_srS (z_rw m n p1.toInt.toNat) m n b4.toInt.toNat) b5.toInt.toNat := rfl
      refine z_xP zt138 17 46 [some (.ref a0), some (.int p1), some (.int b2), some (.int b3), some (.int b4), some (.int b5)] [.int b4, .int x4] rfl rfl ?_
      refine z_xJ zt138 18 rfl rfl (fun (h8 : x4.toInt ≠ b4.toInt) => ?_) (fun (h8 : x4.toInt = b4.toInt) => ?_)
      · skip
        refine z_xN zt138 24 rfl rfl (fun (x9 : Int32) (h10 : x9.toInt = b5.toInt + 1) => ?_) (z_pAdd rfl rfl (by omega) (by omega))
        show z_ev (d + 2) 138 59 [some (.ref a0), some (.int p1), some (.int b2), some (.int b3), some (.int b4), some (.int x9)] [] M _
        refine z_xP zt138 25 28 [some (.ref a0), some (.int p1), some (.int b2), some (.int b3), some (.int b4), some (.int x9)] [] rfl rfl ?_
        have es : x9.toInt.toNat = b5.toInt.toNat + 1 := by omega
        exact ih.2 b3 b4 x9 hb4 ⟨by omega, by omega⟩ (by rw [es, eJ, if_neg (by omega)]; exact e3) (by omega)
      rw [if_pos (by omega)] at eJ
      have hmu : z_srJ (z_rw m n p1.toInt.toNat) m b4.toInt.toNat (z_srS (z_rw m n p1.toInt.toNat) m n b4.toInt.toNat) b5.toInt.toNat * m ≤ 2147483647 := by omega
      refine z_xP zt138 19 51 [some (.ref a0), some (.int p1), some (.int b2), some (.int b3), some (.int b4), some (.int b5)] [.int b2, .int b3] rfl rfl ?_
      refine z_xI zt138 20 rfl rfl (fun (x12 : Int32) (h13 : x12.toInt = ((z_srJ (z_rw m n p1.toInt.toNat) m b4.toInt.toNat (z_srS (z_rw m n p1.toInt.toNat) m n b4.toInt.toNat) b5.toInt.toNat * m : Nat) : Int)) => ?_) (z_pMulN e3 e2 hmu)
      refine z_xP zt138 21 54 [some (.ref a0), some (.int p1), some (.int b2), some (.int b3), some (.int b4), some (.int b5)] [.int b4, .int x12] rfl rfl ?_
      refine z_xI zt138 22 rfl rfl (fun (x14 : Int32) (h15 : x14.toInt = x12.toInt + b4.toInt) => ?_) (z_pAdd rfl rfl (by omega) (by omega))
      refine z_xP zt138 23 56 [some (.ref a0), some (.int p1), some (.int b2), some (.int x14), some (.int b4), some (.int b5)] [] rfl rfl ?_
      refine z_xN zt138 24 rfl rfl (fun (x16 : Int32) (h17 : x16.toInt = b5.toInt + 1) => ?_) (z_pAdd rfl rfl (by omega) (by omega))
      show z_ev (d + 2) 138 59 [some (.ref a0), some (.int p1), some (.int b2), some (.int x14), some (.int b4), some (.int x16)] [] M _
      refine z_xP zt138 25 28 [some (.ref a0), some (.int p1), some (.int b2), some (.int x14), some (.int b4), some (.int x16)] [] rfl rfl ?_
      have es : x16.toInt.toNat = b5.toInt.toNat + 1 := by omega
      exact ih.2 x14 b4 x16 hb4 ⟨by omega, by omega⟩ (by rw [es, eJ]; omega) (by omega)
theorem zUC138 {T : List zK} {d : Nat} {K : Option Value → zH → Prop} {a0 : Nat} {p1 : Int32} {M0 : zH} {N q t m pr en sa n : Nat} {B : Nat → Nat} {S : Nat → Int32} {A : Int32} (hS0 : (∃ F G : Nat → Nat, (∀ j, j < n → F j < m) ∧ z_TSG T M0 a0 N q t m pr en sa n B F G S A)) (m16 : 1 ≤ m ∧ m ≤ 6) (n13 : 1 ≤ n ∧ n ≤ 3) (u1 : 0 ≤ p1.toInt ∧ p1.toInt.toNat < m ^ n) (kk : ∀ (x : Int32) (M1 : zH), z_X T zw138 M0 M1 → (∃ F G : Nat → Nat, (∀ j, j < n → F j < m) ∧ z_TSG T M1 a0 N q t m pr en sa n B F G S A) → x.toInt = ((z_srt m n p1.toInt.toNat : Nat) : Int) → K (some (.int x)) M1) : z_ev (d + 2) 138 0 [some (.ref a0), some (.int p1), none, none, none, none] [] M0 K := by
  obtain ⟨F, G, _, hS⟩ := hS0
  obtain ⟨⟨hWM, hbk⟩, kb, ⟨hN0, hag⟩, ⟨hsa, ksa, hSS⟩, hA, ⟨_, jv4, hj4, ejv4⟩, hnu, har, hln, hlz⟩ := id hS
  have X : z_X T zw138 M0 M0 := .refl hWM
  have k0 := kb
  have g0 := X.1.p3 k0
  have hm := z_mk (k := n) m16.2 n13.2
  refine z_xP zt138 0 1 [some (.ref a0), some (.int p1), none, none, none, none] [.ref a0] rfl rfl ?_
  refine z_xgR (κ := .inl (2, q, t, m, 0)) zt138 1 rfl zo138 zzf3_39 X k0 (by decide) (by decide) rfl (fun (a2 : Nat) h1 k3 => ?_)
  have g4 := X.1.p2 k3
  refine z_xgR (κ := .inr (102, 0, m, 0, 1023)) zt138 2 rfl zo138 zzf3_101 X k3 (by decide) (by decide) rfl (fun (a6 : Nat) h5 k7 => ?_)
  refine z_xln zt138 3 rfl X k7 (by decide) (by omega) (fun (x8 : Int32) (h9 : x8.toInt = ((m : Nat) : Int)) => ?_)
  refine z_xP zt138 4 13 [some (.ref a0), some (.int p1), some (.int x8), some (.int 0), none, none] [.int p1, .ref a0] rfl rfl ?_
  refine z_xcV (vs := [.ref a0, .int p1]) (r := []) (L2 := [some (.ref a0), some (.int p1), none]) zt138 5 rfl zo138 zzcV3_157 (Or.inl rfl) rfl X k0 rfl rfl rfl (Nat.le_of_ble_eq_true rfl) zzm134 (Nat.le_of_ble_eq_true rfl) rfl ?_
  refine zUC134 m16.1 ⟨by omega, by omega⟩ hS (fun M10 X11 hS10 => ?_)
  have X15 := X.go X11 (z_sb (by decide))
  show z_ev (d + 2) 138 16 [some (.ref a0), some (.int p1), some (.int x8), some (.int 0), none, none] [] M10 _
  refine z_xP zt138 6 19 [some (.ref a0), some (.int p1), some (.int x8), some (.int 0), some (.int 0), none] [] rfl rfl ?_
  have q0 : ((0 : Int32)).toInt = 0 := rfl
  exact (zUB138 X15 hS10 m16 n13 u1 h9 (fun x h => kk x M10 X15 ⟨_, _, fun j _ => z_rwB m16.1 j, hS10⟩ h) 100).1 (0) (0) none ⟨by omega, by omega⟩ rfl (by omega)
section ZBRL
variable {law : Nat} {B : Nat → Nat} {q m n r : Nat} {S : Nat → Int32} {A : Int32} {y u : Nat → Nat}
theorem z_br0 : z_brP 0 B q m n S A y u r ↔ ¬ (y r = y (z_srt m n r) ∧ u r = u (z_srt m n r)) := ⟨fun h => (by
  rcases h with ⟨_, h⟩ | ⟨h, _⟩ | ⟨h, _⟩ | ⟨h, _⟩ | ⟨h, _⟩
  · exact h
  · cases h
  · cases h
  · cases h
  · cases h), fun h => Or.inl ⟨rfl, h⟩⟩
theorem z_br1 : z_brP 1 B q m n S A y u r ↔ ∃ k, k < q ∧ ∃ e, e < r ∧ z_who S (z_rw m n e) k n = z_who S (z_rw m n r) k n ∧ ¬ (y e / 2 ^ k % 2 = y r / 2 ^ k % 2 ∧ u e / 2 ^ k % 2 = u r / 2 ^ k % 2) := ⟨fun h => (by
  rcases h with ⟨h, _⟩ | ⟨_, h⟩ | ⟨h, _⟩ | ⟨h, _⟩ | ⟨h, _⟩
  · cases h
  · exact h
  · cases h
  · cases h
  · cases h), fun h => Or.inr (Or.inl ⟨rfl, h⟩)⟩
theorem z_br2 : z_brP 2 B q m n S A y u r ↔ (∀ j, j < n → z_rw m n r j = z_rw m n r 0) ∧ ¬ z_own S A (z_rw m n r 0) (y r) (u r) := ⟨fun h => (by
  rcases h with ⟨h, _⟩ | ⟨h, _⟩ | ⟨_, h⟩ | ⟨h, _⟩ | ⟨h, _⟩
  · cases h
  · cases h
  · exact h
  · cases h
  · cases h), fun h => Or.inr (Or.inr (Or.inl ⟨rfl, h⟩))⟩
theorem z_br3 : z_brP 3 B q m n S A y u r ↔ ¬ z_cs B q (y r) (u r) := ⟨fun h => (by
  rcases h with ⟨h, _⟩ | ⟨h, _⟩ | ⟨h, _⟩ | ⟨_, h⟩ | ⟨h, _⟩
  · cases h
  · cases h
  · cases h
  · exact h
  · cases h), fun h => Or.inr (Or.inr (Or.inr (Or.inl ⟨rfl, h⟩)))⟩
theorem z_br4 : z_brP 4 B q m n S A y u r ↔ ∀ e, e < m ^ n → z_own S A (z_rw m n e r) (y e) (u e) := ⟨fun h => by
  rcases h with ⟨h, _⟩ | ⟨h, _⟩ | ⟨h, _⟩ | ⟨h, _⟩ | ⟨_, h⟩
  · cases h
  · cases h
  · cases h
  · cases h
  · exact h, fun h => Or.inr (Or.inr (Or.inr (Or.inr ⟨rfl, h⟩)))⟩
end ZBRL
theorem zUB137 {T : List zK} {d : Nat} {K : Option Value → zH → Prop} {a0 : Nat} {p2 : Int32} {M0 : zH} {N q t m pr en sa n : Nat} {B : Nat → Nat} {S : Nat → Int32} {A : Int32} {o : Nat → Int32} (m16 : 1 ≤ m ∧ m ≤ 6) (n13 : 1 ≤ n ∧ n ≤ 3) (ho : z_Ar M0 18 = o) (hob : ∀ r, r < m ^ n → 0 ≤ (o r).toInt ∧ (o r).toInt < 1048576) (e2 : p2.toInt = ((m ^ n : Nat) : Int)) (kk : ∀ (x : Int32) (M1 : zH), z_X T zw137 M0 M1 → (∃ F G : Nat → Nat, (∀ j, j < n → F j < m) ∧ z_TSG T M1 a0 N q t m pr en sa n B F G S A) → z_ft (z_brP 0 B q m n S A (fun r => (o r).toInt.toNat % 1024) (fun r => (o r).toInt.toNat / 1024)) (m ^ n) x.toInt → K (some (.int x)) M1) : ∀ nn : Nat, (∀ (M : zH) (b3 : Int32), z_X T zw137 M0 M → (∃ F G : Nat → Nat, (∀ j, j < n → F j < m) ∧ z_TSG T M a0 N q t m pr en sa n B F G S A) → (0 ≤ b3.toInt ∧ b3.toInt ≤ p2.toInt) → (∀ e, e < b3.toInt.toNat → ¬ (z_brP 0 B q m n S A (fun r => (o r).toInt.toNat % 1024) (fun r => (o r).toInt.toNat / 1024)) e) → (216 - b3.toInt) < (nn : Int) → z_ev (d + 3) 137 2 [some (.ref a0), some (.ref 18), some (.int p2), some (.int b3)] [] M K) := by
  intro nn
  induction nn with
  | zero =>
    intro M b3 X hSx hb3 hI hE
    have hm := z_mk (k := n) m16.2 n13.2
    exfalso
    omega
  | succ nn ih =>
    intro M b3 X hSx hb3 hI hE
    have hm := z_mk (k := n) m16.2 n13.2
    obtain ⟨F, G, hF, hS⟩ := id hSx
    obtain ⟨⟨hWM, hbk⟩, kb, ⟨hN0, hag⟩, ⟨hsa, ksa, hSS⟩, hA, ⟨_, jv4, hj4, ejv4⟩, hnu, har, hln, hlz⟩ := id hS
    have k0 := kb
    have g0 := X.1.p3 k0
    refine z_xP zt137 1 4 [some (.ref a0), some (.ref 18), some (.int p2), some (.int b3)] [.int p2, .int b3] rfl rfl ?_
    refine z_xJ zt137 2 rfl rfl (fun (h2 : p2.toInt ≤ b3.toInt) => ?_) (fun (h2 : b3.toInt < p2.toInt) => ?_)
    · skip
      refine z_xP zt137 13 30 [some (.ref a0), some (.ref 18), some (.int p2), some (.int b3)] [.int (-2)] rfl rfl ?_
      exact z_xri zt137 14 rfl zzr137 (kk (-2) M X hSx (Or.inl ⟨rfl, fun r hr => hI r (by omega)⟩))
    have f18 : T[18]? = some (.inr (18, 0, 216, (-2147483648), 2147483647)) := X.1.k rfl (by decide)
    have eo : z_Ar M 18 = o := (X.2.a f18 (by decide)).trans ho
    refine z_xP zt137 3 9 [some (.ref a0), some (.ref 18), some (.int p2), some (.int b3)] [.int b3, .ref 18] rfl rfl ?_
    refine z_xil zt137 4 rfl X f18 (by decide) (by omega) (by omega) (fun (x3 : Int32) h4 (h5 : (-2147483648) ≤ x3.toInt) (h6 : x3.toInt ≤ 2147483647) => ?_)
    rw [eo] at h4
    refine z_xP zt137 5 13 [some (.ref a0), some (.ref 18), some (.int p2), some (.int b3)] [.int b3, .ref a0, .ref 18, .int x3] rfl rfl ?_
    refine z_xcV (vs := [.ref a0, .int b3]) (r := [.ref 18, .int x3]) (L2 := [some (.ref a0), some (.int b3), none, none, none, none]) zt137 6 rfl zo137 zzcV3_183 (Or.inl rfl) rfl X k0 rfl rfl rfl (Nat.le_of_ble_eq_true rfl) zzm138 (Nat.le_of_ble_eq_true rfl) rfl ?_
    refine zUC138 hSx m16 n13 ⟨by omega, by omega⟩ (fun x13 M7 X8 hS7 h13 => ?_)
    have hsB := z_srB m (by omega) n (by omega) b3.toInt.toNat (by omega) (by omega)
    have X16 := X.go X8 (z_sb (by decide))
    show z_ev (d + 3) 137 16 [some (.ref a0), some (.ref 18), some (.int p2), some (.int b3)] [.int x13, .ref 18, .int x3] M7 _
    refine z_xil zt137 7 rfl X16 f18 (by decide) (by omega) (by omega) (fun (x18 : Int32) h19 (h20 : (-2147483648) ≤ x18.toInt) (h21 : x18.toInt ≤ 2147483647) => ?_)
    rw [X8.2.a f18 (by decide), eo] at h19
    have e3 : o b3.toInt.toNat = x3 := h4
    have e18 : o (z_srt m n b3.toInt.toNat) = x18 := by
      rw [← h19, show x13.toNatClampNeg = z_srt m n b3.toInt.toNat by show x13.toInt.toNat = _; omega]
    have o1 := hob _ (show b3.toInt.toNat < m ^ n by omega)
    have o2 := hob _ hsB
    rw [e3] at o1
    rw [e18] at o2
    refine z_xJ zt137 8 rfl rfl (fun (h24 : x3.toInt = x18.toInt) => ?_) (fun (h24 : x3.toInt ≠ x18.toInt) => ?_)
    · skip
      refine z_xN zt137 11 rfl rfl (fun (x25 : Int32) (h26 : x25.toInt = b3.toInt + 1) => ?_) (z_pAdd rfl rfl (by omega) (by omega))
      show z_ev (d + 3) 137 25 [some (.ref a0), some (.ref 18), some (.int p2), some (.int x25)] [] M7 _
      refine z_xP zt137 12 2 [some (.ref a0), some (.ref 18), some (.int p2), some (.int x25)] [] rfl rfl ?_
      refine ih M7 x25 X16 hS7 ⟨by omega, by omega⟩ (fun e he => ?_) (by omega)
      by_cases c : e = b3.toInt.toNat
      · rw [c, z_br0]
        (try dsimp only)
        rw [e3, e18]
        intro g
        exact g ⟨by omega, by omega⟩
      · exact hI e (by omega)
    refine z_xP zt137 9 21 [some (.ref a0), some (.ref 18), some (.int p2), some (.int b3)] [.int b3] rfl rfl ?_
    refine z_xri zt137 10 rfl zzr137 (kk b3 M7 X16 hS7 (Or.inr ⟨b3.toInt.toNat, by omega, by omega, ?_, hI⟩))
    rw [z_br0]
    (try dsimp only)
    rw [e3, e18]
    intro ⟨g1, g2⟩
    omega
theorem zUC137 {T : List zK} {d : Nat} {K : Option Value → zH → Prop} {a0 : Nat} {p2 : Int32} {M0 : zH} {N q t m pr en sa n : Nat} {B : Nat → Nat} {S : Nat → Int32} {A : Int32} {o : Nat → Int32} (hS0 : (∃ F G : Nat → Nat, (∀ j, j < n → F j < m) ∧ z_TSG T M0 a0 N q t m pr en sa n B F G S A))  (m16 : 1 ≤ m ∧ m ≤ 6) (n13 : 1 ≤ n ∧ n ≤ 3) (ho : z_Ar M0 18 = o) (hob : ∀ r, r < m ^ n → 0 ≤ (o r).toInt ∧ (o r).toInt < 1048576) (e2 : p2.toInt = ((m ^ n : Nat) : Int)) (kk : ∀ (x : Int32) (M1 : zH), z_X T zw137 M0 M1 → (∃ F G : Nat → Nat, (∀ j, j < n → F j < m) ∧ z_TSG T M1 a0 N q t m pr en sa n B F G S A) → z_ft (z_brP 0 B q m n S A (fun r => (o r).toInt.toNat % 1024) (fun r => (o r).toInt.toNat / 1024)) (m ^ n) x.toInt → K (some (.int x)) M1) : z_ev (d + 3) 137 0 [some (.ref a0), some (.ref 18), some (.int p2), none] [] M0 K := by
  obtain ⟨F, G, hF, hS⟩ := id hS0
  have X : z_X T zw137 M0 M0 := .refl hS.1.1
  have hm := z_mk (k := n) m16.2 n13.2
  refine z_xP zt137 0 2 [some (.ref a0), some (.ref 18), some (.int p2), some (.int 0)] [] rfl rfl ?_
  have q0 : ((0 : Int32)).toInt = 0 := rfl
  exact zUB137 m16 n13 ho hob e2 kk 434 M0 (0) X hS0 ⟨by omega, by omega⟩ (fun e he => absurd he (Nat.not_lt_zero e)) (by omega)
theorem zUB142 {T : List zK} {d : Nat} {K : Option Value → zH → Prop} {a0 : Nat} {p2 : Int32} {M0 : zH} {N q t m pr en sa n : Nat} {B : Nat → Nat} {S : Nat → Int32} {A : Int32} {o : Nat → Int32} (m16 : 1 ≤ m ∧ m ≤ 6) (n13 : 1 ≤ n ∧ n ≤ 3) (ho : z_Ar M0 18 = o) (hob : ∀ r, r < m ^ n → 0 ≤ (o r).toInt ∧ (o r).toInt < 1048576) (e2 : p2.toInt = ((m ^ n : Nat) : Int)) (hud : ∀ r, r < m ^ n → (o r).toInt.toNat % 1024 < 2 ^ q ∧ (o r).toInt.toNat / 1024 < 2 ^ q) (kk : ∀ (x : Int32) (M1 : zH), z_X T zw142 M0 M1 → (∃ F G : Nat → Nat, (∀ j, j < n → F j < m) ∧ z_TSG T M1 a0 N q t m pr en sa n B F G S A) → z_ft (z_brP 3 B q m n S A (fun r => (o r).toInt.toNat % 1024) (fun r => (o r).toInt.toNat / 1024)) (m ^ n) x.toInt → K (some (.int x)) M1) : ∀ nn : Nat, (∀ (M : zH) (b3 : Int32), z_X T zw142 M0 M → (∃ F G : Nat → Nat, (∀ j, j < n → F j < m) ∧ z_TSG T M a0 N q t m pr en sa n B F G S A) → (0 ≤ b3.toInt ∧ b3.toInt ≤ p2.toInt) → (∀ e, e < b3.toInt.toNat → ¬ (z_brP 3 B q m n S A (fun r => (o r).toInt.toNat % 1024) (fun r => (o r).toInt.toNat / 1024)) e) → (216 - b3.toInt) < (nn : Int) → z_ev (d + 3) 142 2 [some (.ref a0), some (.ref 18), some (.int p2), some (.int b3)] [] M K) := by
  intro nn
  induction nn with
  | zero =>
    intro M b3 X hSx hb3 hI hE
    have hm := z_mk (k := n) m16.2 n13.2
    exfalso
    omega
  | succ nn ih =>
    intro M b3 X hSx hb3 hI hE
    have hm := z_mk (k := n) m16.2 n13.2
    obtain ⟨F, G, hF, hS⟩ := id hSx
    obtain ⟨⟨hWM, hbk⟩, kb, ⟨hN0, hag⟩, ⟨hsa, ksa, hSS⟩, hA, ⟨_, jv4, hj4, ejv4⟩, hnu, har, hln, hlz⟩ := id hS
    have k0 := kb
    have g0 := X.1.p3 k0
    refine z_xP zt142 1 4 [some (.ref a0), some (.ref 18), some (.int p2), some (.int b3)] [.int p2, .int b3] rfl rfl ?_
    refine z_xJ zt142 2 rfl rfl (fun (h2 : p2.toInt ≤ b3.toInt) => ?_) (fun (h2 : b3.toInt < p2.toInt) => ?_)
    · skip
      refine z_xP zt142 13 30 [some (.ref a0), some (.ref 18), some (.int p2), some (.int b3)] [.int (-2)] rfl rfl ?_
      exact z_xri zt142 14 rfl zzr142 (kk (-2) M X hSx (Or.inl ⟨rfl, fun r hr => hI r (by omega)⟩))
    have f18 : T[18]? = some (.inr (18, 0, 216, (-2147483648), 2147483647)) := X.1.k rfl (by decide)
    have eo : z_Ar M 18 = o := (X.2.a f18 (by decide)).trans ho
    refine z_xP zt142 3 8 [some (.ref a0), some (.ref 18), some (.int p2), some (.int b3)] [.ref a0] rfl rfl ?_
    refine z_xgR (κ := .inl (2, q, t, m, 0)) zt142 4 rfl zo142 zzf3_39 X k0 (by decide) (by decide) rfl (fun (a4 : Nat) h3 k5 => ?_)
    obtain rfl : a4 = N := z_rfe h3 hN0
    refine z_xP zt142 5 13 [some (.ref a0), some (.ref 18), some (.int p2), some (.int b3)] [.int b3, .ref 18, .ref a4] rfl rfl ?_
    refine z_xil zt142 6 rfl X f18 (by decide) (by omega) (by omega) (fun (x7 : Int32) h8 (h9 : (-2147483648) ≤ x7.toInt) (h10 : x7.toInt ≤ 2147483647) => ?_)
    rw [eo] at h8
    have e7 : o b3.toInt.toNat = x7 := h8
    have o1 := hob _ (show b3.toInt.toNat < m ^ n by omega)
    rw [e7] at o1
    have hd := hud b3.toInt.toNat (by omega)
    rw [e7] at hd
    refine z_xcV (vs := [.ref a4, .int x7]) (r := []) (L2 := [some (.ref a4), some (.int x7), none]) zt142 7 rfl zo142 zzcV3_192 (Or.inl rfl) rfl X k5 rfl rfl rfl (Nat.le_of_ble_eq_true rfl) zzm44 (Nat.le_of_ble_eq_true rfl) rfl ?_
    refine zUC44 (uy := x7.toInt.toNat % 1024) (un := x7.toInt.toNat / 1024) X.1 k5 hag ⟨by omega, by omega, by omega⟩ hd (fun x13 M11 X12 h15 h16 h14 => ?_)
    have hS11 : (∃ F G : Nat → Nat, (∀ j, j < n → F j < m) ∧ z_TSG T M11 a0 a4 q t m pr en sa n B F G S A) := ⟨F, G, hF, hS.ke X12 (by decide)⟩
    have X16 := X.go X12 (z_sb (by decide))
    show z_ev (d + 3) 142 17 [some (.ref a0), some (.ref 18), some (.int p2), some (.int b3)] [.int x13] M11 _
    refine z_xZ zt142 8 rfl rfl (fun (h18 : x13.toInt ≠ 0) => ?_) (fun (h18 : x13.toInt = 0) => ?_)
    · skip
      refine z_xN zt142 11 rfl rfl (fun (x19 : Int32) (h20 : x19.toInt = b3.toInt + 1) => ?_) (z_pAdd rfl rfl (by omega) (by omega))
      show z_ev (d + 3) 142 25 [some (.ref a0), some (.ref 18), some (.int p2), some (.int x19)] [] M11 _
      refine z_xP zt142 12 2 [some (.ref a0), some (.ref 18), some (.int p2), some (.int x19)] [] rfl rfl ?_
      refine ih M11 x19 X16 hS11 ⟨by omega, by omega⟩ (fun e he => ?_) (by omega)
      by_cases c : e = b3.toInt.toNat
      · rw [c, z_br3]
        (try dsimp only)
        rw [e7]
        intro g
        rcases h14 with ⟨_, h14⟩ | ⟨h14, _⟩
        · exact g h14
        · exact h18 h14
      · exact hI e (by omega)
    refine z_xP zt142 9 21 [some (.ref a0), some (.ref 18), some (.int p2), some (.int b3)] [.int b3] rfl rfl ?_
    refine z_xri zt142 10 rfl zzr142 (kk b3 M11 X16 hS11 (Or.inr ⟨b3.toInt.toNat, by omega, by omega, ?_, hI⟩))
    rw [z_br3]
    (try dsimp only)
    rw [e7]
    rcases h14 with ⟨h14, _⟩ | ⟨_, h14⟩
    · omega
    · exact h14
theorem zUC142 {T : List zK} {d : Nat} {K : Option Value → zH → Prop} {a0 : Nat} {p2 : Int32} {M0 : zH} {N q t m pr en sa n : Nat} {B : Nat → Nat} {S : Nat → Int32} {A : Int32} {o : Nat → Int32} (hS0 : (∃ F G : Nat → Nat, (∀ j, j < n → F j < m) ∧ z_TSG T M0 a0 N q t m pr en sa n B F G S A))  (m16 : 1 ≤ m ∧ m ≤ 6) (n13 : 1 ≤ n ∧ n ≤ 3) (ho : z_Ar M0 18 = o) (hob : ∀ r, r < m ^ n → 0 ≤ (o r).toInt ∧ (o r).toInt < 1048576) (e2 : p2.toInt = ((m ^ n : Nat) : Int)) (hud : ∀ r, r < m ^ n → (o r).toInt.toNat % 1024 < 2 ^ q ∧ (o r).toInt.toNat / 1024 < 2 ^ q) (kk : ∀ (x : Int32) (M1 : zH), z_X T zw142 M0 M1 → (∃ F G : Nat → Nat, (∀ j, j < n → F j < m) ∧ z_TSG T M1 a0 N q t m pr en sa n B F G S A) → z_ft (z_brP 3 B q m n S A (fun r => (o r).toInt.toNat % 1024) (fun r => (o r).toInt.toNat / 1024)) (m ^ n) x.toInt → K (some (.int x)) M1) : z_ev (d + 3) 142 0 [some (.ref a0), some (.ref 18), some (.int p2), none] [] M0 K := by
  obtain ⟨F, G, hF, hS⟩ := id hS0
  have X : z_X T zw142 M0 M0 := .refl hS.1.1
  have hm := z_mk (k := n) m16.2 n13.2
  refine z_xP zt142 0 2 [some (.ref a0), some (.ref 18), some (.int p2), some (.int 0)] [] rfl rfl ?_
  have q0 : ((0 : Int32)).toInt = 0 := rfl
  exact zUB142 m16 n13 ho hob e2 hud kk 434 M0 (0) X hS0 ⟨by omega, by omega⟩ (fun e he => absurd he (Nat.not_lt_zero e)) (by omega)
theorem zUB141 {T : List zK} {d : Nat} {K : Option Value → zH → Prop} {a0 : Nat} {p2 : Int32} {M0 : zH} {N q t m pr en sa n : Nat} {B : Nat → Nat} {S : Nat → Int32} {A : Int32} {o : Nat → Int32} (m16 : 1 ≤ m ∧ m ≤ 6) (n13 : 1 ≤ n ∧ n ≤ 3) (ho : z_Ar M0 18 = o) (hob : ∀ r, r < m ^ n → 0 ≤ (o r).toInt ∧ (o r).toInt < 1048576) (e2 : p2.toInt = ((m ^ n : Nat) : Int)) (kk : ∀ (x : Int32) (M1 : zH), z_X T zw141 M0 M1 → (∃ F G : Nat → Nat, (∀ j, j < n → F j < m) ∧ z_TSG T M1 a0 N q t m pr en sa n B F G S A) → z_ft (z_brP 2 B q m n S A (fun r => (o r).toInt.toNat % 1024) (fun r => (o r).toInt.toNat / 1024)) (m ^ n) x.toInt → K (some (.int x)) M1) {b3 : Int32} (e3 : b3.toInt = (m : Int)) : ∀ nn : Nat, (∀ (M : zH) (b4 : Int32) (o5 o6 : Option Value), z_X T zw141 M0 M → (∃ F G : Nat → Nat, (∀ j, j < n → F j < m) ∧ z_TSG T M a0 N q t m pr en sa n B F G S A) → (0 ≤ b4.toInt ∧ b4.toInt ≤ (m : Int)) → (∀ w, w < b4.toInt.toNat → z_own S A w ((o (z_una m w n)).toInt.toNat % 1024) ((o (z_una m w n)).toInt.toNat / 1024)) → (6 - b4.toInt) * 8 + 6 < (nn : Int) → z_ev (d + 1) 141 12 [some (.ref a0), some (.ref 18), some (.int p2), some (.int b3), some (.int b4), o5, o6] [] M K) ∧ (∀ (M : zH) (b4 b5 b6 : Int32), z_X T zw141 M0 M → (∃ F G : Nat → Nat, (∀ j, j < n → F j < m) ∧ z_TSG T M a0 N q t m pr en sa n B F G S A) → (0 ≤ b4.toInt ∧ b4.toInt < (m : Int)) → (∀ w, w < b4.toInt.toNat → z_own S A w ((o (z_una m w n)).toInt.toNat % 1024) ((o (z_una m w n)).toInt.toNat / 1024)) → (0 ≤ b6.toInt ∧ b6.toInt ≤ (n : Int)) → b5.toInt = ((z_una m b4.toInt.toNat b6.toInt.toNat : Nat) : Int) → (6 - b4.toInt) * 8 + (4 - b6.toInt) < (nn : Int) → z_ev (d + 1) 141 24 [some (.ref a0), some (.ref 18), some (.int p2), some (.int b3), some (.int b4), some (.int b5), some (.int b6)] [] M K) := by
  intro nn
  induction nn with
  | zero => exact ⟨(by intros; exfalso; omega), (by intros; exfalso; omega)⟩
  | succ nn ih =>
    have hm := z_mk (k := n) m16.2 n13.2
    refine ⟨?_, ?_⟩
    · skip
      intro M b4 o5 o6 X hSx hb4 hI hE
      refine z_xP zt141 5 15 [some (.ref a0), some (.ref 18), some (.int p2), some (.int b3), some (.int b4), o5, o6] [.int b3, .int b4] rfl rfl ?_
      refine z_xJ zt141 6 rfl rfl (fun (h1 : b3.toInt ≤ b4.toInt) => ?_) (fun (h1 : b4.toInt < b3.toInt) => ?_)
      · skip
        refine z_xP zt141 35 89 [some (.ref a0), some (.ref 18), some (.int p2), some (.int b3), some (.int b4), o5, o6] [.int (-2)] rfl rfl ?_
        refine z_xri zt141 36 rfl zzr141 (kk (-2) M X hSx (Or.inl ⟨rfl, fun r hr => ?_⟩))
        rw [z_br2]
        intro ⟨g1, g2⟩
        have hu := z_unR m (by omega) n (by omega) n13.1 r (by omega) hr g1
        have hv := z_rwB (m := m) (n := n) (r := r) m16.1 0
        have h := hI (z_rw m n r 0) (by omega)
        rw [← hu] at h
        exact g2 h
      refine z_xP zt141 7 24 [some (.ref a0), some (.ref 18), some (.int p2), some (.int b3), some (.int b4), some (.int 0), some (.int 0)] [] rfl rfl ?_
      have q0 : ((0 : Int32)).toInt = 0 := rfl
      exact ih.2 M b4 (0) (0) X hSx ⟨by omega, by omega⟩ hI ⟨by omega, by omega⟩ rfl (by omega)
    · skip
      intro M b4 b5 b6 X hSx hb4 hI hb6 e5 hE
      obtain ⟨F, G, hF, hS⟩ := id hSx
      obtain ⟨⟨hWM, hbk⟩, kb, ⟨hN0, hag⟩, ⟨hsa, ksa, hSS⟩, hA, ⟨_, jv4, hj4, ejv4⟩, hnu, har, hln, hlz⟩ := id hS
      have k0 := kb
      have g0 := X.1.p3 k0
      have hU := z_unB m (by omega) n (by omega) b4.toInt.toNat (by omega) (by omega)
      refine z_xP zt141 8 27 [some (.ref a0), some (.ref 18), some (.int p2), some (.int b3), some (.int b4), some (.int b5), some (.int b6)] [.ref a0, .int b6] rfl rfl ?_
      refine z_xgv zt141 9 rfl zo141 zzf3_53 X k0 (by decide) hj4 ?_
      refine z_xJ zt141 10 rfl rfl (fun (h1 : jv4.toInt ≤ b6.toInt) => ?_) (fun (h1 : b6.toInt < jv4.toInt) => ?_)
      · skip
        rw [show b6.toInt.toNat = n by omega] at e5
        refine z_xP zt141 18 51 [some (.ref a0), some (.ref 18), some (.int p2), some (.int b3), some (.int b4), some (.int b5), some (.int b6)] [.int p2, .int b5] rfl rfl ?_
        refine z_xJ zt141 19 rfl rfl (fun (h3 : p2.toInt ≤ b5.toInt) => by exfalso; omega) (fun (h3 : b5.toInt < p2.toInt) => ?_)
        refine z_xP zt141 20 57 [some (.ref a0), some (.ref 18), some (.int p2), some (.int b3), some (.int b4), some (.int b5), some (.int b6)] [.int b5, .ref 18] rfl rfl ?_
        have f18 : T[18]? = some (.inr (18, 0, 216, (-2147483648), 2147483647)) := X.1.k rfl (by decide)
        have eo : z_Ar M 18 = o := (X.2.a f18 (by decide)).trans ho
        refine z_xil zt141 21 rfl X f18 (by decide) (by omega) (by omega) (fun (x6 : Int32) h7 (h8 : (-2147483648) ≤ x6.toInt) (h9 : x6.toInt ≤ 2147483647) => ?_)
        rw [eo] at h7
        have e6 : o (z_una m b4.toInt.toNat n) = x6 := by
          rw [← h7, show b5.toNatClampNeg = z_una m b4.toInt.toNat n by show b5.toInt.toNat = _; omega]
        have o1 := hob _ hU.1
        rw [e6] at o1
        refine z_xP zt141 22 59 [some (.ref a0), some (.ref 18), some (.int p2), some (.int b3), some (.int b4), some (.int b5), some (.int b6)] [.ref a0, .int x6] rfl rfl ?_
        refine z_xgR (κ := .inl (2, q, t, m, 0)) zt141 23 rfl zo141 zzf3_39 X k0 (by decide) (by decide) rfl (fun (a11 : Nat) h10 k12 => ?_)
        obtain rfl : a11 = N := z_rfe h10 hN0
        have g13 := X.1.p2 k12
        refine z_xP zt141 24 63 [some (.ref a0), some (.ref 18), some (.int p2), some (.int b3), some (.int b4), some (.int b5), some (.int b6)] [.ref a0, .ref a11, .int x6] rfl rfl ?_
        refine z_xgv zt141 25 rfl zo141 zzf3_39 X k0 (by decide) h10 ?_
        refine z_xgR (κ := .inr (102, 0, m, 0, 1023)) zt141 26 rfl zo141 zzf3_101 X k12 (by decide) (by decide) rfl (fun (a15 : Nat) h14 k16 => ?_)
        obtain rfl : a15 = sa := z_rfe h14 hsa
        refine z_xP zt141 27 71 [some (.ref a0), some (.ref 18), some (.int p2), some (.int b3), some (.int b4), some (.int b5), some (.int b6)] [.int b4, .ref a15, .ref a11, .int x6] rfl rfl ?_
        refine z_xil zt141 28 rfl X k16 (by decide) (by omega) (by omega) (fun (x17 : Int32) h18 (h19 : 0 ≤ x17.toInt) (h20 : x17.toInt ≤ 1023) => ?_)
        have e17 : x17 = S b4.toInt.toNat := h18.symm.trans (hSS b4.toInt.toNat (by omega))
        refine z_xcV (vs := [.ref a11, .int x17]) (r := [.int x6]) (L2 := [some (.ref a11), some (.int x17)]) zt141 29 rfl zo141 zzcV3_189 (Or.inl rfl) rfl X k12 rfl rfl rfl (Nat.le_of_ble_eq_true rfl) zzm39 (Nat.le_of_ble_eq_true rfl) rfl ?_
        refine z_xP zt39 0 2 [some (.ref a11), some (.int x17)] [.ref a11, .int x17] rfl rfl ?_
        refine z_xgI zt39 1 rfl zo39 zzf2_32 X k12 (by decide) (by decide) rfl (fun (v1 : Int32) w1 (w2 : ((z_po q : Nat) : Int) - 1 ≤ v1.toInt) (w3 : v1.toInt ≤ ((z_po q : Nat) : Int) - 1) => ?_)
        refine z_xP zt39 2 7 [some (.ref a11), some (.int x17)] [.int (-1), .int x17, .int v1, .int x17] rfl rfl ?_
        refine z_xI zt39 3 rfl rfl (fun (v2 : Int32) (w4 : v2 = x17 ^^^ (-1 : Int32)) => ?_) rfl
        refine z_xI zt39 4 rfl rfl (fun (v3 : Int32) (w5 : v3 = v1 &&& v2) => ?_) rfl
        refine z_xP zt39 5 11 [some (.ref a11), some (.int x17)] [.int 10, .int v3, .int x17] rfl rfl ?_
        refine z_xI zt39 6 rfl rfl (fun (v4 : Int32) (w6 : v4 = v3 <<< ((10 : Int32) &&& 31)) => ?_) rfl
        refine z_xI zt39 7 rfl rfl (fun (v5 : Int32) (w7 : v5 = x17 ||| v4) => ?_) rfl
        have hA2 : v1.toInt = ((2 ^ q : Nat) : Int) - 1 := by
          have e : z_po q = 2 ^ q := rfl
          rw [← e]
          omega
        have hlo := hS.low
        have hs1 := hlo.2 (b4.toInt.toNat) (by omega)
        have hmi := z_answo hA2 hlo.1.2 (v := x17) (by rw [e17]; exact hs1.1) (by rw [e17]; exact hs1.2) w4 w5 w6 w7
        rw [e17] at hmi
        have hE5 := z_ansE (A := A) hA hlo.1.2 hs1.1 hs1.2 hmi
        refine z_xri zt39 8 rfl zzr39 ?_
        show z_ev (d + 1) 141 75 [some (.ref a0), some (.ref 18), some (.int p2), some (.int b3), some (.int b4), some (.int b5), some (.int b6)] [.int v5, .int x6] M _
        have hW := z_ownW (S := S) (A := A) (v := b4.toInt.toNat) (q := q) o1.1 hmi.1.1 hE5
        refine z_xJ zt141 30 rfl rfl (fun (h34 : x6.toInt = v5.toInt) => ?_) (fun (h34 : x6.toInt ≠ v5.toInt) => ?_)
        · skip
          refine z_xN zt141 33 rfl rfl (fun (x35 : Int32) (h36 : x35.toInt = b4.toInt + 1) => ?_) (z_pAdd rfl rfl (by omega) (by omega))
          show z_ev (d + 1) 141 84 [some (.ref a0), some (.ref 18), some (.int p2), some (.int b3), some (.int x35), some (.int b5), some (.int b6)] [] M _
          refine z_xP zt141 34 12 [some (.ref a0), some (.ref 18), some (.int p2), some (.int b3), some (.int x35), some (.int b5), some (.int b6)] [] rfl rfl ?_
          refine ih.1 M x35 (some (.int b5)) (some (.int b6)) X hSx ⟨by omega, by omega⟩ (fun w hw => ?_) (by omega)
          by_cases c : w = b4.toInt.toNat
          · rw [c, e6]
            exact hW.mp h34
          · exact hI w (by omega)
        refine z_xP zt141 31 80 [some (.ref a0), some (.ref 18), some (.int p2), some (.int b3), some (.int b4), some (.int b5), some (.int b6)] [.int b5] rfl rfl ?_
        refine z_xri zt141 32 rfl zzr141 (kk b5 M X hSx (Or.inr ⟨z_una m b4.toInt.toNat n, hU.1, e5, ?_, fun e he => ?_⟩))
        · rw [z_br2]
          (try dsimp only)
          rw [e6]
          have u0 := (hU.2 0 (by omega)).2
          refine ⟨fun j hj => ?_, ?_⟩
          · rw [(hU.2 j hj).2, u0]
          · rw [u0]
            exact fun g => h34 (hW.mpr g)
        · rw [z_br2]
          intro ⟨g1, g2⟩
          have hu := z_unR m (by omega) n (by omega) n13.1 e (by omega) (by omega) g1
          have hv := z_rwB (m := m) (n := n) (r := e) m16.1 0
          by_cases c : z_rw m n e 0 < b4.toInt.toNat
          · have h := hI (z_rw m n e 0) c
            rw [← hu] at h
            exact g2 h
          · have h := z_unM m (by omega) n (by omega) b4.toInt.toNat (by omega) (z_rw m n e 0) (by omega) (by omega)
            omega
      have hU6 := (hU.2 b6.toInt.toNat (by omega)).1
      refine z_xP zt141 11 36 [some (.ref a0), some (.ref 18), some (.int p2), some (.int b3), some (.int b4), some (.int b5), some (.int b6)] [.int b3, .int b5] rfl rfl ?_
      have hmu : z_una m b4.toInt.toNat b6.toInt.toNat * m ≤ 215 * 6 := Nat.mul_le_mul hU6 m16.2
      refine z_xI zt141 12 rfl rfl (fun (x37 : Int32) (h38 : x37.toInt = ((z_una m b4.toInt.toNat b6.toInt.toNat * m : Nat) : Int)) => ?_) (z_pMulN e5 e3 (by omega))
      refine z_xP zt141 13 39 [some (.ref a0), some (.ref 18), some (.int p2), some (.int b3), some (.int b4), some (.int b5), some (.int b6)] [.int b4, .int x37] rfl rfl ?_
      refine z_xI zt141 14 rfl rfl (fun (x39 : Int32) (h40 : x39.toInt = x37.toInt + b4.toInt) => ?_) (z_pAdd rfl rfl (by omega) (by omega))
      refine z_xP zt141 15 42 [some (.ref a0), some (.ref 18), some (.int p2), some (.int b3), some (.int b4), some (.int x39), some (.int b6)] [] rfl rfl ?_
      refine z_xN zt141 16 rfl rfl (fun (x41 : Int32) (h42 : x41.toInt = b6.toInt + 1) => ?_) (z_pAdd rfl rfl (by omega) (by omega))
      show z_ev (d + 1) 141 45 [some (.ref a0), some (.ref 18), some (.int p2), some (.int b3), some (.int b4), some (.int x39), some (.int x41)] [] M _
      refine z_xP zt141 17 24 [some (.ref a0), some (.ref 18), some (.int p2), some (.int b3), some (.int b4), some (.int x39), some (.int x41)] [] rfl rfl ?_
      have es : x41.toInt.toNat = b6.toInt.toNat + 1 := by omega
      refine ih.2 M b4 x39 x41 X hSx hb4 hI ⟨by omega, by omega⟩ ?_ (by omega)
      rw [es]
      show x39.toInt = ((z_una m b4.toInt.toNat b6.toInt.toNat * m + b4.toInt.toNat : Nat) : Int)
      omega
theorem zUC141 {T : List zK} {d : Nat} {K : Option Value → zH → Prop} {a0 : Nat} {p2 : Int32} {M0 : zH} {N q t m pr en sa n : Nat} {B : Nat → Nat} {S : Nat → Int32} {A : Int32} {o : Nat → Int32} (hS0 : (∃ F G : Nat → Nat, (∀ j, j < n → F j < m) ∧ z_TSG T M0 a0 N q t m pr en sa n B F G S A))  (m16 : 1 ≤ m ∧ m ≤ 6) (n13 : 1 ≤ n ∧ n ≤ 3) (ho : z_Ar M0 18 = o) (hob : ∀ r, r < m ^ n → 0 ≤ (o r).toInt ∧ (o r).toInt < 1048576) (e2 : p2.toInt = ((m ^ n : Nat) : Int)) (kk : ∀ (x : Int32) (M1 : zH), z_X T zw141 M0 M1 → (∃ F G : Nat → Nat, (∀ j, j < n → F j < m) ∧ z_TSG T M1 a0 N q t m pr en sa n B F G S A) → z_ft (z_brP 2 B q m n S A (fun r => (o r).toInt.toNat % 1024) (fun r => (o r).toInt.toNat / 1024)) (m ^ n) x.toInt → K (some (.int x)) M1) : z_ev (d + 1) 141 0 [some (.ref a0), some (.ref 18), some (.int p2), none, none, none, none] [] M0 K := by
  obtain ⟨F, G, hF, hS⟩ := id hS0
  have X : z_X T zw141 M0 M0 := .refl hS.1.1
  have k0 := hS.2.1
  have g0 := X.1.p3 k0
  refine z_xP zt141 0 1 [some (.ref a0), some (.ref 18), some (.int p2), none, none, none, none] [.ref a0] rfl rfl ?_
  refine z_xgR (κ := .inl (2, q, t, m, 0)) zt141 1 rfl zo141 zzf3_39 X k0 (by decide) (by decide) rfl (fun (a2 : Nat) h1 k3 => ?_)
  have g4 := X.1.p2 k3
  refine z_xgR (κ := .inr (102, 0, m, 0, 1023)) zt141 2 rfl zo141 zzf3_101 X k3 (by decide) (by decide) rfl (fun (a6 : Nat) h5 k7 => ?_)
  refine z_xln zt141 3 rfl X k7 (by decide) (by omega) (fun (x8 : Int32) (h9 : x8.toInt = ((m : Nat) : Int)) => ?_)
  refine z_xP zt141 4 12 [some (.ref a0), some (.ref 18), some (.int p2), some (.int x8), some (.int 0), none, none] [] rfl rfl ?_
  have q0 : ((0 : Int32)).toInt = 0 := rfl
  exact (zUB141 m16 n13 ho hob e2 kk h9 100).1 M0 (0) none none X hS0 ⟨by omega, by omega⟩ (fun w hw => absurd hw (Nat.not_lt_zero w)) (by omega)
theorem zUB143 {T : List zK} {d : Nat} {K : Option Value → zH → Prop} {a0 : Nat} {p2 : Int32} {M0 : zH} {N q t m pr en sa n : Nat} {B : Nat → Nat} {S : Nat → Int32} {A : Int32} {o : Nat → Int32} (m16 : 1 ≤ m ∧ m ≤ 6) (n13 : 1 ≤ n ∧ n ≤ 3) (ho : z_Ar M0 18 = o) (hob : ∀ r, r < m ^ n → 0 ≤ (o r).toInt ∧ (o r).toInt < 1048576) (e2 : p2.toInt = ((m ^ n : Nat) : Int)) (kk : ∀ (x : Int32) (M1 : zH), z_X T zw143 M0 M1 → (∃ F G : Nat → Nat, (∀ j, j < n → F j < m) ∧ z_TSG T M1 a0 N q t m pr en sa n B F G S A) → z_ft (z_brP 4 B q m n S A (fun r => (o r).toInt.toNat % 1024) (fun r => (o r).toInt.toNat / 1024)) (n) x.toInt → K (some (.int x)) M1) : ∀ nn : Nat, (∀ (M : zH) (b3 : Int32) (o4 o5 : Option Value), z_X T zw143 M0 M → (∃ F G : Nat → Nat, (∀ j, j < n → F j < m) ∧ z_TSG T M a0 N q t m pr en sa n B F G S A) → (0 ≤ b3.toInt ∧ b3.toInt ≤ (n : Int)) → (∀ e, e < b3.toInt.toNat → ¬ (z_brP 4 B q m n S A (fun r => (o r).toInt.toNat % 1024) (fun r => (o r).toInt.toNat / 1024)) e) → (3 - b3.toInt) * 300 + 250 < (nn : Int) → z_ev (d + 1) 143 2 [some (.ref a0), some (.ref 18), some (.int p2), some (.int b3), o4, o5] [] M K) ∧ (∀ (M : zH) (b3 b4 b5 : Int32), z_X T zw143 M0 M → (∃ F G : Nat → Nat, (∀ j, j < n → F j < m) ∧ z_TSG T M a0 N q t m pr en sa n B F G S A) → (0 ≤ b3.toInt ∧ b3.toInt < (n : Int)) → (∀ e, e < b3.toInt.toNat → ¬ (z_brP 4 B q m n S A (fun r => (o r).toInt.toNat % 1024) (fun r => (o r).toInt.toNat / 1024)) e) → (0 ≤ b5.toInt ∧ b5.toInt ≤ p2.toInt) → ((b4.toInt = 1 ∧ ∀ r, r < b5.toInt.toNat → z_own S A (z_rw m n r b3.toInt.toNat) ((o r).toInt.toNat % 1024) ((o r).toInt.toNat / 1024)) ∨ (b4.toInt = 0 ∧ ∃ r, r < m ^ n ∧ ¬ z_own S A (z_rw m n r b3.toInt.toNat) ((o r).toInt.toNat % 1024) ((o r).toInt.toNat / 1024))) → (3 - b3.toInt) * 300 + (220 - b5.toInt) < (nn : Int) → z_ev (d + 1) 143 16 [some (.ref a0), some (.ref 18), some (.int p2), some (.int b3), some (.int b4), some (.int b5)] [] M K) := by
  intro nn
  induction nn with
  | zero =>
    have hm := z_mk (k := n) m16.2 n13.2
    exact ⟨(by intros; exfalso; omega), (by intros; exfalso; omega)⟩
  | succ nn ih =>
    have hm := z_mk (k := n) m16.2 n13.2
    refine ⟨?_, ?_⟩
    · skip
      intro M b3 o4 o5 X hSx hb3 hI hE
      obtain ⟨F, G, hF, hS⟩ := id hSx
      obtain ⟨⟨hWM, hbk⟩, kb, ⟨hN0, hag⟩, ⟨hsa, ksa, hSS⟩, hA, ⟨_, jv4, hj4, ejv4⟩, hnu, har, hln, hlz⟩ := id hS
      have k0 := kb
      refine z_xP zt143 1 4 [some (.ref a0), some (.ref 18), some (.int p2), some (.int b3), o4, o5] [.ref a0, .int b3] rfl rfl ?_
      refine z_xgv zt143 2 rfl zo143 zzf3_53 X k0 (by decide) hj4 ?_
      refine z_xJ zt143 3 rfl rfl (fun (h1 : jv4.toInt ≤ b3.toInt) => ?_) (fun (h1 : b3.toInt < jv4.toInt) => ?_)
      · skip
        refine z_xP zt143 32 84 [some (.ref a0), some (.ref 18), some (.int p2), some (.int b3), o4, o5] [.int (-2)] rfl rfl ?_
        exact z_xri zt143 33 rfl zzr143 (kk (-2) M X hSx (Or.inl ⟨rfl, fun r hr => hI r (by omega)⟩))
      refine z_xP zt143 4 16 [some (.ref a0), some (.ref 18), some (.int p2), some (.int b3), some (.int 1), some (.int 0)] [] rfl rfl ?_
      have q0 : ((0 : Int32)).toInt = 0 := rfl
      have q1 : ((1 : Int32)).toInt = 1 := rfl
      exact ih.2 M b3 (1) (0) X hSx ⟨by omega, by omega⟩ hI ⟨by omega, by omega⟩ (Or.inl ⟨rfl, fun r hr => absurd hr (Nat.not_lt_zero r)⟩) (by omega)
    · skip
      intro M b3 b4 b5 X hSx hb3 hI hb5 h4 hE
      obtain ⟨F, G, hF, hS⟩ := id hSx
      obtain ⟨⟨hWM, hbk⟩, kb, ⟨hN0, hag⟩, ⟨hsa, ksa, hSS⟩, hA, ⟨_, jv4, hj4, ejv4⟩, hnu, har, hln, hlz⟩ := id hS
      have k0 := kb
      have g0 := X.1.p3 k0
      refine z_xP zt143 5 19 [some (.ref a0), some (.ref 18), some (.int p2), some (.int b3), some (.int b4), some (.int b5)] [.int p2, .int b5] rfl rfl ?_
      refine z_xJ zt143 6 rfl rfl (fun (h2 : p2.toInt ≤ b5.toInt) => ?_) (fun (h2 : b5.toInt < p2.toInt) => ?_)
      · skip
        refine z_xP zt143 26 71 [some (.ref a0), some (.ref 18), some (.int p2), some (.int b3), some (.int b4), some (.int b5)] [.int b4] rfl rfl ?_
        refine z_xZ zt143 27 rfl rfl (fun (h3 : b4.toInt = 0) => ?_) (fun (h3 : b4.toInt ≠ 0) => ?_)
        · skip
          refine z_xN zt143 30 rfl rfl (fun (x4 : Int32) (h5 : x4.toInt = b3.toInt + 1) => ?_) (z_pAdd rfl rfl (by omega) (by omega))
          show z_ev (d + 1) 143 79 [some (.ref a0), some (.ref 18), some (.int p2), some (.int x4), some (.int b4), some (.int b5)] [] M _
          refine z_xP zt143 31 2 [some (.ref a0), some (.ref 18), some (.int p2), some (.int x4), some (.int b4), some (.int b5)] [] rfl rfl ?_
          refine ih.1 M x4 (some (.int b4)) (some (.int b5)) X hSx ⟨by omega, by omega⟩ (fun e he => ?_) (by omega)
          by_cases c : e = b3.toInt.toNat
          · rw [c, z_br4]
            intro g
            rcases h4 with ⟨g4, _⟩ | ⟨_, r, hr, g4⟩
            · omega
            · exact g4 (g r hr)
          · exact hI e (by omega)
        refine z_xP zt143 28 75 [some (.ref a0), some (.ref 18), some (.int p2), some (.int b3), some (.int b4), some (.int b5)] [.int b3] rfl rfl ?_
        refine z_xri zt143 29 rfl zzr143 (kk b3 M X hSx (Or.inr ⟨b3.toInt.toNat, by omega, by omega, ?_, hI⟩))
        rw [z_br4]
        intro e he
        rcases h4 with ⟨_, g4⟩ | ⟨g4, _⟩
        · exact g4 e (by omega)
        · omega
      refine z_xP zt143 7 24 [some (.ref a0), some (.ref 18), some (.int p2), some (.int b3), some (.int b4), some (.int b5)] [.int b4] rfl rfl ?_
      refine z_xZ zt143 8 rfl rfl (fun (h6 : b4.toInt = 0) => ?_) (fun (h6 : b4.toInt ≠ 0) => ?_)
      · skip
        refine z_xP zt143 26 71 [some (.ref a0), some (.ref 18), some (.int p2), some (.int b3), some (.int b4), some (.int b5)] [.int b4] rfl rfl ?_
        refine z_xZ zt143 27 rfl rfl (fun (h7 : b4.toInt = 0) => ?_) (fun (h7 : b4.toInt ≠ 0) => absurd h7 (by omega))
        refine z_xN zt143 30 rfl rfl (fun (x4 : Int32) (h5 : x4.toInt = b3.toInt + 1) => ?_) (z_pAdd rfl rfl (by omega) (by omega))
        show z_ev (d + 1) 143 79 [some (.ref a0), some (.ref 18), some (.int p2), some (.int x4), some (.int b4), some (.int b5)] [] M _
        refine z_xP zt143 31 2 [some (.ref a0), some (.ref 18), some (.int p2), some (.int x4), some (.int b4), some (.int b5)] [] rfl rfl ?_
        refine ih.1 M x4 (some (.int b4)) (some (.int b5)) X hSx ⟨by omega, by omega⟩ (fun e he => ?_) (by omega)
        by_cases c : e = b3.toInt.toNat
        · rw [c, z_br4]
          intro g
          rcases h4 with ⟨g4, _⟩ | ⟨_, r, hr, g4⟩
          · omega
          · exact g4 (g r hr)
        · exact hI e (by omega)
      refine z_xP zt143 9 30 [some (.ref a0), some (.ref 18), some (.int p2), some (.int b3), some (.int b4), some (.int b5)] [.int b5, .ref 18] rfl rfl ?_
      have f18 : T[18]? = some (.inr (18, 0, 216, (-2147483648), 2147483647)) := X.1.k rfl (by decide)
      have eo : z_Ar M 18 = o := (X.2.a f18 (by decide)).trans ho
      refine z_xil zt143 10 rfl X f18 (by decide) (by omega) (by omega) (fun (x10 : Int32) h11 (h12 : (-2147483648) ≤ x10.toInt) (h13 : x10.toInt ≤ 2147483647) => ?_)
      rw [eo] at h11
      have e10 : o b5.toInt.toNat = x10 := h11
      have o1 := hob _ (show b5.toInt.toNat < m ^ n by omega)
      rw [e10] at o1
      refine z_xP zt143 11 32 [some (.ref a0), some (.ref 18), some (.int p2), some (.int b3), some (.int b4), some (.int b5)] [.ref a0, .int x10] rfl rfl ?_
      refine z_xgR (κ := .inl (2, q, t, m, 0)) zt143 12 rfl zo143 zzf3_39 X k0 (by decide) (by decide) rfl (fun (a15 : Nat) h14 k16 => ?_)
      obtain rfl : a15 = N := z_rfe h14 hN0
      have g17 := X.1.p2 k16
      refine z_xP zt143 13 36 [some (.ref a0), some (.ref 18), some (.int p2), some (.int b3), some (.int b4), some (.int b5)] [.ref a0, .ref a15, .int x10] rfl rfl ?_
      refine z_xgv zt143 14 rfl zo143 zzf3_39 X k0 (by decide) h14 ?_
      refine z_xgR (κ := .inr (102, 0, m, 0, 1023)) zt143 15 rfl zo143 zzf3_101 X k16 (by decide) (by decide) rfl (fun (a19 : Nat) h18 k20 => ?_)
      obtain rfl : a19 = sa := z_rfe h18 hsa
      refine z_xP zt143 16 46 [some (.ref a0), some (.ref 18), some (.int p2), some (.int b3), some (.int b4), some (.int b5)] [.int b3, .int b5, .ref a0, .ref a19, .ref a15, .int x10] rfl rfl ?_
      refine z_xcV (vs := [.ref a0, .int b5, .int b3]) (r := [.ref a19, .ref a15, .int x10]) (L2 := [some (.ref a0), some (.int b5), some (.int b3), none, none, none]) zt143 17 rfl zo143 zzcV3_154 (Or.inl rfl) rfl X k0 rfl rfl rfl (Nat.le_of_ble_eq_true rfl) zzm135 (Nat.le_of_ble_eq_true rfl) rfl ?_
      refine zUC135 hS m16.1 ⟨by omega, by omega⟩ ⟨by omega, by omega⟩ (fun x24 M21 X22 h24 => ?_)
      have hrB := z_rwB (m := m) (n := n) (r := b5.toInt.toNat) m16.1 b3.toInt.toNat
      have hS21 : (∃ F G : Nat → Nat, (∀ j, j < n → F j < m) ∧ z_TSG T M21 a0 a15 q t m pr en a19 n B F G S A) := ⟨F, G, hF, hS.ke X22 (by decide)⟩
      have X27 := X.go X22 (z_sb (by decide))
      show z_ev (d + 1) 143 49 [some (.ref a0), some (.ref 18), some (.int p2), some (.int b3), some (.int b4), some (.int b5)] [.int x24, .ref a19, .ref a15, .int x10] M21 _
      refine z_xil zt143 18 rfl X27 k20 (by decide) (by omega) (by omega) (fun (x29 : Int32) h30 (h31 : 0 ≤ x29.toInt) (h32 : x29.toInt ≤ 1023) => ?_)
      have e29 : x29 = S (z_rw m n b5.toInt.toNat b3.toInt.toNat) := by
        rw [X22.2.a k20 (by decide), show x24.toNatClampNeg = z_rw m n b5.toInt.toNat b3.toInt.toNat by show x24.toInt.toNat = _; omega] at h30
        exact h30.symm.trans (hSS _ hrB)
      refine z_xcV (vs := [.ref a15, .int x29]) (r := [.int x10]) (L2 := [some (.ref a15), some (.int x29)]) zt143 19 rfl zo143 zzcV3_189 (Or.inl rfl) rfl X27 k16 rfl rfl rfl (Nat.le_of_ble_eq_true rfl) zzm39 (Nat.le_of_ble_eq_true rfl) rfl ?_
      refine z_xP zt39 0 2 [some (.ref a15), some (.int x29)] [.ref a15, .int x29] rfl rfl ?_
      refine z_xgI zt39 1 rfl zo39 zzf2_32 X27 k16 (by decide) (by decide) rfl (fun (v1 : Int32) w1 (w2 : ((z_po q : Nat) : Int) - 1 ≤ v1.toInt) (w3 : v1.toInt ≤ ((z_po q : Nat) : Int) - 1) => ?_)
      refine z_xP zt39 2 7 [some (.ref a15), some (.int x29)] [.int (-1), .int x29, .int v1, .int x29] rfl rfl ?_
      refine z_xI zt39 3 rfl rfl (fun (v2 : Int32) (w4 : v2 = x29 ^^^ (-1 : Int32)) => ?_) rfl
      refine z_xI zt39 4 rfl rfl (fun (v3 : Int32) (w5 : v3 = v1 &&& v2) => ?_) rfl
      refine z_xP zt39 5 11 [some (.ref a15), some (.int x29)] [.int 10, .int v3, .int x29] rfl rfl ?_
      refine z_xI zt39 6 rfl rfl (fun (v4 : Int32) (w6 : v4 = v3 <<< ((10 : Int32) &&& 31)) => ?_) rfl
      refine z_xI zt39 7 rfl rfl (fun (v5 : Int32) (w7 : v5 = x29 ||| v4) => ?_) rfl
      have hA2 : v1.toInt = ((2 ^ q : Nat) : Int) - 1 := by
        have e : z_po q = 2 ^ q := rfl
        rw [← e]
        omega
      have hlo := hS.low
      have hs1 := hlo.2 (z_rw m n b5.toInt.toNat b3.toInt.toNat) hrB
      have hmi := z_answo hA2 hlo.1.2 (v := x29) (by rw [e29]; exact hs1.1) (by rw [e29]; exact hs1.2) w4 w5 w6 w7
      rw [e29] at hmi
      have hE5 := z_ansE (A := A) hA hlo.1.2 hs1.1 hs1.2 hmi
      refine z_xri zt39 8 rfl zzr39 ?_
      show z_ev (d + 1) 143 53 [some (.ref a0), some (.ref 18), some (.int p2), some (.int b3), some (.int b4), some (.int b5)] [.int v5, .int x10] M21 _
      have hW := z_ownW (S := S) (A := A) (v := z_rw m n b5.toInt.toNat b3.toInt.toNat) (q := q) o1.1 hmi.1.1 hE5
      refine z_xJ zt143 20 rfl rfl (fun (h46 : x10.toInt ≠ v5.toInt) => ?_) (fun (h46 : x10.toInt = v5.toInt) => ?_)
      · skip
        refine z_xP zt143 22 61 [some (.ref a0), some (.ref 18), some (.int p2), some (.int b3), some (.int b4), some (.int b5)] [.int 0] rfl rfl ?_
        refine z_xP zt143 23 63 [some (.ref a0), some (.ref 18), some (.int p2), some (.int b3), some (.int 0), some (.int b5)] [] rfl rfl ?_
        refine z_xN zt143 24 rfl rfl (fun (x47 : Int32) (h48 : x47.toInt = b5.toInt + 1) => ?_) (z_pAdd rfl rfl (by omega) (by omega))
        show z_ev (d + 1) 143 66 [some (.ref a0), some (.ref 18), some (.int p2), some (.int b3), some (.int 0), some (.int x47)] [] M21 _
        refine z_xP zt143 25 16 [some (.ref a0), some (.ref 18), some (.int p2), some (.int b3), some (.int 0), some (.int x47)] [] rfl rfl ?_
        have q0 : ((0 : Int32)).toInt = 0 := rfl
        refine ih.2 M21 b3 (0) x47 X27 hS21 hb3 hI ⟨by omega, by omega⟩ (Or.inr ⟨rfl, b5.toInt.toNat, by omega, ?_⟩) (by omega)
        rw [e10]
        exact fun g => h46 (hW.mpr g)
      refine z_xP zt143 21 61 [some (.ref a0), some (.ref 18), some (.int p2), some (.int b3), some (.int b4), some (.int b5)] [.int 1] rfl rfl ?_
      refine z_xP zt143 23 63 [some (.ref a0), some (.ref 18), some (.int p2), some (.int b3), some (.int 1), some (.int b5)] [] rfl rfl ?_
      refine z_xN zt143 24 rfl rfl (fun (x50 : Int32) (h51 : x50.toInt = b5.toInt + 1) => ?_) (z_pAdd rfl rfl (by omega) (by omega))
      show z_ev (d + 1) 143 66 [some (.ref a0), some (.ref 18), some (.int p2), some (.int b3), some (.int 1), some (.int x50)] [] M21 _
      refine z_xP zt143 25 16 [some (.ref a0), some (.ref 18), some (.int p2), some (.int b3), some (.int 1), some (.int x50)] [] rfl rfl ?_
      have q1 : ((1 : Int32)).toInt = 1 := rfl
      refine ih.2 M21 b3 (1) x50 X27 hS21 hb3 hI ⟨by omega, by omega⟩ (Or.inl ⟨rfl, fun r hr => ?_⟩) (by omega)
      by_cases c : r = b5.toInt.toNat
      · rw [c, e10]
        exact hW.mp h46
      · rcases h4 with ⟨_, g4⟩ | ⟨g4, _⟩
        · exact g4 r (by omega)
        · omega
theorem zUC143 {T : List zK} {d : Nat} {K : Option Value → zH → Prop} {a0 : Nat} {p2 : Int32} {M0 : zH} {N q t m pr en sa n : Nat} {B : Nat → Nat} {S : Nat → Int32} {A : Int32} {o : Nat → Int32} (hS0 : (∃ F G : Nat → Nat, (∀ j, j < n → F j < m) ∧ z_TSG T M0 a0 N q t m pr en sa n B F G S A))  (m16 : 1 ≤ m ∧ m ≤ 6) (n13 : 1 ≤ n ∧ n ≤ 3) (ho : z_Ar M0 18 = o) (hob : ∀ r, r < m ^ n → 0 ≤ (o r).toInt ∧ (o r).toInt < 1048576) (e2 : p2.toInt = ((m ^ n : Nat) : Int)) (kk : ∀ (x : Int32) (M1 : zH), z_X T zw143 M0 M1 → (∃ F G : Nat → Nat, (∀ j, j < n → F j < m) ∧ z_TSG T M1 a0 N q t m pr en sa n B F G S A) → z_ft (z_brP 4 B q m n S A (fun r => (o r).toInt.toNat % 1024) (fun r => (o r).toInt.toNat / 1024)) (n) x.toInt → K (some (.int x)) M1) : z_ev (d + 1) 143 0 [some (.ref a0), some (.ref 18), some (.int p2), none, none, none] [] M0 K := by
  obtain ⟨F, G, hF, hS⟩ := id hS0
  have X : z_X T zw143 M0 M0 := .refl hS.1.1
  have hm := z_mk (k := n) m16.2 n13.2
  refine z_xP zt143 0 2 [some (.ref a0), some (.ref 18), some (.int p2), some (.int 0), none, none] [] rfl rfl ?_
  have q0 : ((0 : Int32)).toInt = 0 := rfl
  exact (zUB143 m16 n13 ho hob e2 kk 1300).1 M0 (0) none none X hS0 ⟨by omega, by omega⟩ (fun e he => absurd he (Nat.not_lt_zero e)) (by omega)
theorem zUB140 {T : List zK} {d : Nat} {K : Option Value → zH → Prop} {a0 : Nat} {p1 : Int32} {M0 : zH} {N q t m pr en sa n : Nat} {B : Nat → Nat} {S : Nat → Int32} {A : Int32} {F G : Nat → Nat} (hS : z_TSG T M0 a0 N q t m pr en sa n B F G S A) (hF : ∀ j, j < n → F j < m) (n13 : 1 ≤ n ∧ n ≤ 3) (u1 : 0 ≤ p1.toInt ∧ p1.toInt ≤ 9) (kk : ∀ (x : Int32) (M1 : zH), z_X T zw140 M0 M1 → x.toInt = ((z_who S F p1.toInt.toNat n : Nat) : Int) → K (some (.int x)) M1) : ∀ nn : Nat, (∀ (b2 b3 : Int32), (0 ≤ b3.toInt ∧ b3.toInt ≤ (n : Int)) → b2.toInt = ((z_who S F p1.toInt.toNat b3.toInt.toNat : Nat) : Int) → (4 - b3.toInt) < (nn : Int) → z_ev d 140 4 [some (.ref a0), some (.int p1), some (.int b2), some (.int b3)] [] M0 K) := by
  intro nn
  induction nn with
  | zero => exact by intros; exfalso; omega
  | succ nn ih =>
    intro b2 b3 hb3 e2 hE
    obtain ⟨⟨hWM, hbk⟩, kb, ⟨hN0, hag⟩, ⟨hsa, ksa, hSS⟩, hA, ⟨_, jv4, hj4, ejv4⟩, hnu, har, hln, hlz⟩ := id hS
    have X : z_X T zw140 M0 M0 := .refl hWM
    have k0 := kb
    have g0 := X.1.p3 k0
    refine z_xP zt140 1 6 [some (.ref a0), some (.int p1), some (.int b2), some (.int b3)] [.ref a0, .int b3] rfl rfl ?_
    refine z_xgv zt140 2 rfl zo140 zzf3_53 X k0 (by decide) hj4 ?_
    refine z_xJ zt140 3 rfl rfl (fun (h1 : jv4.toInt ≤ b3.toInt) => ?_) (fun (h1 : b3.toInt < jv4.toInt) => ?_)
    · skip
      refine z_xP zt140 22 42 [some (.ref a0), some (.int p1), some (.int b2), some (.int b3)] [.int b2] rfl rfl ?_
      exact z_xri zt140 23 rfl zzr140 (kk b2 M0 X (by rw [e2, show b3.toInt.toNat = n by omega]))
    have hj : b3.toInt.toNat < n := by omega
    have hFj := hF _ hj
    have hlo := hS.low.2 _ hFj
    refine z_xP zt140 4 14 [some (.ref a0), some (.int p1), some (.int b2), some (.int b3)] [.ref a0, .int b2] rfl rfl ?_
    refine z_xgR (κ := .inl (2, q, t, m, 0)) zt140 5 rfl zo140 zzf3_39 X k0 (by decide) (by decide) rfl (fun (a3 : Nat) h2 k4 => ?_)
    obtain rfl : a3 = N := z_rfe h2 hN0
    have g5 := X.1.p2 k4
    refine z_xgR (κ := .inr (102, 0, m, 0, 1023)) zt140 6 rfl zo140 zzf3_101 X k4 (by decide) (by decide) rfl (fun (a7 : Nat) h6 k8 => ?_)
    obtain rfl : a7 = sa := z_rfe h6 hsa
    refine z_xP zt140 7 21 [some (.ref a0), some (.int p1), some (.int b2), some (.int b3)] [.ref a0, .ref a7, .int b2] rfl rfl ?_
    refine z_xgR (κ := .inr (210, 0, 5, 0, ((m : Nat) : Int) - 1)) zt140 8 rfl zo140 zzf3_33 X k0 (by decide) (by decide) rfl (fun (a10 : Nat) h9 k11 => ?_)
    obtain rfl : a10 = a0 + 8 := z_rfe h9 (hbk _ _ _ _ _ k0).2.2.2.2.2.2.2.1
    refine z_xP zt140 9 25 [some (.ref a0), some (.int p1), some (.int b2), some (.int b3)] [.int b3, .ref (a0 + 8), .ref a7, .int b2] rfl rfl ?_
    refine z_xil zt140 10 rfl X k11 (by decide) (by omega) (by omega) (fun (x12 : Int32) h13 (h14 : 0 ≤ x12.toInt) (h15 : x12.toInt ≤ ((m : Nat) : Int) - 1) => ?_)
    have e12 : x12.toInt = ((F b3.toInt.toNat : Nat) : Int) := (congrArg Int32.toInt h13).symm.trans (hnu b3.toInt.toNat hj)
    refine z_xil zt140 11 rfl X k8 (by decide) (by omega) (by omega) (fun (x16 : Int32) h17 (h18 : 0 ≤ x16.toInt) (h19 : x16.toInt ≤ 1023) => ?_)
    have e16 : x16 = S (F b3.toInt.toNat) := by
      rw [show x12.toNatClampNeg = F b3.toInt.toNat by show x12.toInt.toNat = _; omega] at h17
      exact h17.symm.trans (hSS _ hFj)
    refine z_xP zt140 12 28 [some (.ref a0), some (.int p1), some (.int b2), some (.int b3)] [.int p1, .int x16, .int b2] rfl rfl ?_
    refine z_xI zt140 13 rfl rfl (fun (x20 : Int32) (h20 : x20 = x16 >>> (p1 &&& 31)) => ?_) rfl
    refine z_xP zt140 14 30 [some (.ref a0), some (.int p1), some (.int b2), some (.int b3)] [.int 1, .int x20, .int b2] rfl rfl ?_
    refine z_xI zt140 15 rfl rfl (fun (x22 : Int32) (h22 : x22 = x20 &&& 1) => ?_) rfl
    have hbit := z_sbit h20 h22 h18 ⟨by omega, by omega⟩
    rw [e16] at hbit
    refine z_xP zt140 16 32 [some (.ref a0), some (.int p1), some (.int b2), some (.int b3)] [.int b3, .int x22, .int b2] rfl rfl ?_
    refine z_xI zt140 17 rfl rfl (fun (x24 : Int32) (h24 : x24 = x22 <<< (b3 &&& 31)) => ?_) rfl
    refine z_xI zt140 18 rfl rfl (fun (x26 : Int32) (h26 : x26 = b2 ||| x24) => ?_) rfl
    have hB2 := z_whB (S := S) (F := F) (k := p1.toInt.toNat) b3.toInt.toNat
    have hB8 : 2 ^ b3.toInt.toNat ≤ 2 ^ 2 := Nat.pow_le_pow_right (by decide) (by omega)
    have e4 : (2 : Nat) ^ 2 = 4 := rfl
    have e26 : x26.toInt = ((z_who S F p1.toInt.toNat b3.toInt.toNat + (S (F b3.toInt.toNat)).toInt.toNat / 2 ^ p1.toInt.toNat % 2 * 2 ^ b3.toInt.toNat : Nat) : Int) := by
      have hlt2 := Nat.mod_lt ((S (F b3.toInt.toNat)).toInt.toNat / 2 ^ p1.toInt.toNat) (show 0 < 2 by decide)
      have hb3e : b3 = Int32.ofNat b3.toInt.toNat := z_i32n (by omega) (by omega)
      have g := z_orbi (z_who S F p1.toInt.toNat b3.toInt.toNat) (by omega) ((S (F b3.toInt.toNat)).toInt.toNat / 2 ^ p1.toInt.toNat % 2) hlt2 b3.toInt.toNat (by omega) hB2
      rw [← z_i32n e2 (by omega), ← z_i32n hbit (by omega), ← hb3e] at g
      rw [h26, h24]
      exact g
    refine z_xP zt140 19 35 [some (.ref a0), some (.int p1), some (.int x26), some (.int b3)] [] rfl rfl ?_
    refine z_xN zt140 20 rfl rfl (fun (x28 : Int32) (h29 : x28.toInt = b3.toInt + 1) => ?_) (z_pAdd rfl rfl (by omega) (by omega))
    show z_ev d 140 38 [some (.ref a0), some (.int p1), some (.int x26), some (.int x28)] [] M0 _
    refine z_xP zt140 21 4 [some (.ref a0), some (.int p1), some (.int x26), some (.int x28)] [] rfl rfl ?_
    have es : x28.toInt.toNat = b3.toInt.toNat + 1 := by omega
    exact ih x26 x28 ⟨by omega, by omega⟩ (by rw [es]; exact e26) (by omega)
theorem zUC140 {T : List zK} {d : Nat} {K : Option Value → zH → Prop} {a0 : Nat} {p1 : Int32} {M0 : zH} {N q t m pr en sa n : Nat} {B : Nat → Nat} {S : Nat → Int32} {A : Int32} {F G : Nat → Nat} (hS : z_TSG T M0 a0 N q t m pr en sa n B F G S A) (hF : ∀ j, j < n → F j < m) (n13 : 1 ≤ n ∧ n ≤ 3) (u1 : 0 ≤ p1.toInt ∧ p1.toInt ≤ 9) (kk : ∀ (x : Int32) (M1 : zH), z_X T zw140 M0 M1 → x.toInt = ((z_who S F p1.toInt.toNat n : Nat) : Int) → K (some (.int x)) M1) : z_ev d 140 0 [some (.ref a0), some (.int p1), none, none] [] M0 K := by
  have X : z_X T zw140 M0 M0 := .refl hS.1.1
  refine z_xP zt140 0 4 [some (.ref a0), some (.int p1), some (.int 0), some (.int 0)] [] rfl rfl ?_
  have q0 : ((0 : Int32)).toInt = 0 := rfl
  exact zUB140 hS hF n13 u1 kk 8 (0) (0) ⟨by omega, by omega⟩ rfl (by omega)
theorem z_mdC (x : Nat) {k : Nat} (hk : k < 10) : x % 1024 / 2 ^ k % 2 = x / 2 ^ k % 2 := by
  have h1 := z_m2c (x % 1024 / 2 ^ k)
  have h2 := z_m2c (x / 2 ^ k)
  have h3 := z_md1024 x k hk
  by_cases c : x / 2 ^ k % 2 = 1
  · rw [h3.mpr c, c]
  · have : ¬ x % 1024 / 2 ^ k % 2 = 1 := fun g => c (h3.mp g)
    omega
/-- what a row says of a question, as it is noted -/
def z_ansn (y u : Nat → Nat) (e k : Nat) : Int := ((1 + y e / 2 ^ k % 2 + 2 * (u e / 2 ^ k % 2) : Nat) : Int)
theorem z_anU {y u : Nat → Nat} {e r k : Nat} : z_ansn y u e k = z_ansn y u r k ↔ (y e / 2 ^ k % 2 = y r / 2 ^ k % 2 ∧ u e / 2 ^ k % 2 = u r / 2 ^ k % 2) := by
  have h1 := z_m2c (y e / 2 ^ k)
  have h2 := z_m2c (y r / 2 ^ k)
  have h3 := z_m2c (u e / 2 ^ k)
  have h4 := z_m2c (u r / 2 ^ k)
  unfold z_ansn
  generalize y e / 2 ^ k % 2 = a1 at *
  generalize y r / 2 ^ k % 2 = a2 at *
  generalize u e / 2 ^ k % 2 = a3 at *
  generalize u r / 2 ^ k % 2 = a4 at *
  constructor
  · intro h
    omega
  · intro ⟨e1, e2⟩
    rw [e1, e2]
/-- what is noted of the rows ahead of question kk of row r -/
def z_Tab (tab : Nat → Int32) (S : Nat → Int32) (q m n : Nat) (y u : Nat → Nat) (r kk : Nat) : Prop := ∀ k, k < q → ∀ w, w < 8 → (∀ e, (e < r ∨ (e = r ∧ k < kk)) → z_who S (z_rw m n e) k n = w → (tab (8 * k + w)).toInt = z_ansn y u e k) ∧ ((tab (8 * k + w)).toInt ≠ 0 → ∃ e, (e < r ∨ (e = r ∧ k < kk)) ∧ z_who S (z_rw m n e) k n = w)
section ZT1
variable {tab tab2 : Nat → Int32} {S : Nat → Int32} {q m n r kk k : Nat} {y u : Nat → Nat}
theorem z_TabZ (q10 : q ≤ 10) (h : ∀ i, i < 80 → tab i = 0) : z_Tab tab S q m n y u 0 0 := fun k hk w hw => ⟨fun e he => by omega, fun g => by
  rw [h (8 * k + w) (by omega)] at g
  exact absurd rfl g⟩
theorem z_Tab.row (h : z_Tab tab S q m n y u r q) : z_Tab tab S q m n y u (r + 1) 0 := fun k hk w hw => ⟨fun e he => (h k hk w hw).1 e (by omega), fun g => by
  obtain ⟨e, he, g2⟩ := (h k hk w hw).2 g
  exact ⟨e, by omega, g2⟩⟩
theorem z_Tab.step (h : z_Tab tab S q m n y u r kk) (hk : kk < q) (hW : z_who S (z_rw m n r) kk n < 8) (h0 : (tab (8 * kk + z_who S (z_rw m n r) kk n)).toInt = 0 ∨ (tab (8 * kk + z_who S (z_rw m n r) kk n)).toInt = z_ansn y u r kk) (e1 : (tab2 (8 * kk + z_who S (z_rw m n r) kk n)).toInt = z_ansn y u r kk) (e2 : ∀ i, i ≠ 8 * kk + z_who S (z_rw m n r) kk n → tab2 i = tab i) : z_Tab tab2 S q m n y u r (kk + 1) := fun k hk2 w hw => by
  by_cases c : k = kk
  · subst c
    by_cases d : w = z_who S (z_rw m n r) k n
    · subst d
      refine ⟨fun e he hwe => ?_, fun _ => ⟨r, Or.inr ⟨rfl, Nat.lt_succ_self k⟩, rfl⟩⟩
      rw [e1]
      by_cases c2 : e = r
      · rw [c2]
      · have h3 := (h k hk2 _ hw).1 e (by omega) hwe
        rcases h0 with h0 | h0
        · have h4 : (1 : Int) ≤ z_ansn y u e k := by
            unfold z_ansn
            omega
          omega
        · rw [← h0, h3]
    · rw [e2 _ (by omega)]
      refine ⟨fun e he hwe => (h k hk2 w hw).1 e ?_ hwe, fun g => ?_⟩
      · rcases he with he | ⟨he, _⟩
        · exact Or.inl he
        · rw [he] at hwe
          exact absurd hwe.symm d
      · obtain ⟨e, he, g2⟩ := (h k hk2 w hw).2 g
        exact ⟨e, by omega, g2⟩
  · rw [e2 _ (by omega)]
    refine ⟨fun e he hwe => (h k hk2 w hw).1 e (by omega) hwe, fun g => ?_⟩
    obtain ⟨e, he, g2⟩ := (h k hk2 w hw).2 g
    exact ⟨e, by omega, g2⟩
theorem z_Tab.bad (h : z_Tab tab S q m n y u r kk) (hk : kk < q) (hW : z_who S (z_rw m n r) kk n < 8) (h0 : (tab (8 * kk + z_who S (z_rw m n r) kk n)).toInt ≠ 0) (h1 : (tab (8 * kk + z_who S (z_rw m n r) kk n)).toInt ≠ z_ansn y u r kk) : ∃ k, k < q ∧ ∃ e, e < r ∧ z_who S (z_rw m n e) k n = z_who S (z_rw m n r) k n ∧ ¬ (y e / 2 ^ k % 2 = y r / 2 ^ k % 2 ∧ u e / 2 ^ k % 2 = u r / 2 ^ k % 2) := by
  obtain ⟨e, he, g⟩ := (h kk hk _ hW).2 h0
  refine ⟨kk, hk, e, by omega, g, fun g2 => h1 ?_⟩
  rw [(h kk hk _ hW).1 e he g]
  exact z_anU.mpr g2
theorem z_Tab.ok (h : z_Tab tab S q m n y u r 0) (n3 : n ≤ 3) : ∀ e2, e2 < r → ¬ ∃ k, k < q ∧ ∃ e, e < e2 ∧ z_who S (z_rw m n e) k n = z_who S (z_rw m n e2) k n ∧ ¬ (y e / 2 ^ k % 2 = y e2 / 2 ^ k % 2 ∧ u e / 2 ^ k % 2 = u e2 / 2 ^ k % 2) := fun e2 he2 ⟨k, hk, e, he, g1, g2⟩ => by
  have hB := z_whB (S := S) (F := z_rw m n e2) (k := k) n
  have h8 : 2 ^ n ≤ 2 ^ 3 := Nat.pow_le_pow_right (by decide) n3
  have h88 : (2 : Nat) ^ 3 = 8 := rfl
  have a1 := (h k hk (z_who S (z_rw m n e2) k n) (by omega)).1 e2 (Or.inl he2) rfl
  have a2 := (h k hk (z_who S (z_rw m n e2) k n) (by omega)).1 e (Or.inl (by omega)) g1
  exact g2 (z_anU.mp (a2.symm.trans a1))
end ZT1
theorem zUB139 {T : List zK} {d : Nat} {K : Option Value → zH → Prop} {a0 : Nat} {p2 : Int32} {M0 : zH} {N q t m pr en sa n : Nat} {B : Nat → Nat} {S : Nat → Int32} {A : Int32} {o : Nat → Int32} (m16 : 1 ≤ m ∧ m ≤ 6) (n13 : 1 ≤ n ∧ n ≤ 3) (ho : z_Ar M0 18 = o) (hob : ∀ r, r < m ^ n → 0 ≤ (o r).toInt ∧ (o r).toInt < 1048576) (e2 : p2.toInt = ((m ^ n : Nat) : Int)) (kk : ∀ (x : Int32) (M1 : zH), z_X T zw139 M0 M1 → (∃ F G : Nat → Nat, (∀ j, j < n → F j < m) ∧ z_TSG T M1 a0 N q t m pr en sa n B F G S A) → z_ft (z_brP 1 B q m n S A (fun r => (o r).toInt.toNat % 1024) (fun r => (o r).toInt.toNat / 1024)) (m ^ n) x.toInt → K (some (.int x)) M1) : ∀ nn : Nat, (∀ (M : zH) (b3 : Int32) (o4 o5 o6 : Option Value), z_X T zw139 M0 M → (∃ F G : Nat → Nat, (∀ j, j < n → F j < m) ∧ z_TSG T M a0 N q t m pr en sa n B F G S A) → (0 ≤ b3.toInt ∧ b3.toInt ≤ p2.toInt) → z_Tab (z_Ar M (a0 + 9)) S q m n (fun r => (o r).toInt.toNat % 1024) (fun r => (o r).toInt.toNat / 1024) b3.toInt.toNat 0 → (216 - b3.toInt) * 20 + 15 < (nn : Int) → z_ev (d + 2) 139 10 [some (.ref a0), some (.ref 18), some (.int p2), some (.int b3), o4, o5, o6] [] M K) ∧ (∀ (M : zH) (b3 b4 : Int32) (o5 o6 : Option Value), z_X T zw139 M0 M → (∃ G : Nat → Nat, z_TSG T M a0 N q t m pr en sa n B (z_rw m n b3.toInt.toNat) G S A) → (0 ≤ b3.toInt ∧ b3.toInt < p2.toInt) → (0 ≤ b4.toInt ∧ b4.toInt ≤ (q : Int)) → z_Tab (z_Ar M (a0 + 9)) S q m n (fun r => (o r).toInt.toNat % 1024) (fun r => (o r).toInt.toNat / 1024) b3.toInt.toNat b4.toInt.toNat → (216 - b3.toInt) * 20 + (11 - b4.toInt) < (nn : Int) → z_ev (d + 2) 139 23 [some (.ref a0), some (.ref 18), some (.int p2), some (.int b3), some (.int b4), o5, o6] [] M K) := by
  intro nn
  induction nn with
  | zero =>
    have hm := z_mk (k := n) m16.2 n13.2
    refine ⟨(by intros; exfalso; omega), ?_⟩
    intro M b3 b4 o5 o6 X hSx hb3 hb4 hT hE
    obtain ⟨G, hS⟩ := hSx
    have := hS.low.1
    exfalso
    omega
  | succ nn ih =>
    have hm := z_mk (k := n) m16.2 n13.2
    refine ⟨?_, ?_⟩
    · skip
      intro M b3 o4 o5 o6 X hSx hb3 hT hE
      obtain ⟨F, G, hF, hS⟩ := id hSx
      have k0 := hS.2.1
      have hok := hT.ok n13.2
      refine z_xP zt139 5 12 [some (.ref a0), some (.ref 18), some (.int p2), some (.int b3), o4, o5, o6] [.int p2, .int b3] rfl rfl ?_
      refine z_xJ zt139 6 rfl rfl (fun (h2 : p2.toInt ≤ b3.toInt) => ?_) (fun (h2 : b3.toInt < p2.toInt) => ?_)
      · skip
        refine z_xP zt139 56 121 [some (.ref a0), some (.ref 18), some (.int p2), some (.int b3), o4, o5, o6] [.int (-2)] rfl rfl ?_
        refine z_xri zt139 57 rfl zzr139 (kk (-2) M X hSx (Or.inl ⟨rfl, fun r hr => ?_⟩))
        rw [z_br1]
        exact hok r (by omega)
      refine z_xP zt139 7 17 [some (.ref a0), some (.ref 18), some (.int p2), some (.int b3), o4, o5, o6] [.int b3, .ref a0] rfl rfl ?_
      refine z_xcV (vs := [.ref a0, .int b3]) (r := []) (L2 := [some (.ref a0), some (.int b3), none]) zt139 8 rfl zo139 zzcV3_157 (Or.inl rfl) rfl X k0 rfl rfl rfl (Nat.le_of_ble_eq_true rfl) zzm134 (Nat.le_of_ble_eq_true rfl) rfl ?_
      refine zUC134 m16.1 ⟨by omega, by omega⟩ hS (fun M3 X4 hS3 => ?_)
      have X8 := X.go X4 (z_sb (by decide))
      show z_ev (d + 2) 139 20 [some (.ref a0), some (.ref 18), some (.int p2), some (.int b3), o4, o5, o6] [] M3 _
      refine z_xP zt139 9 23 [some (.ref a0), some (.ref 18), some (.int p2), some (.int b3), some (.int 0), o5, o6] [] rfl rfl ?_
      have q0 : ((0 : Int32)).toInt = 0 := rfl
      have etb : z_Ar M3 (a0 + 9) = z_Ar M (a0 + 9) := X4.2.a (hS.1.2.k9 hS.1.1 k0) (by decide)
      exact ih.2 M3 b3 (0) o5 o6 X8 ⟨G, hS3⟩ ⟨by omega, by omega⟩ ⟨by omega, by omega⟩ (by rw [etb]; exact hT) (by omega)
    · skip
      intro M b3 b4 o5 o6 X hSx hb3 hb4 hT hE
      obtain ⟨G, hS⟩ := id hSx
      have hF : ∀ j, j < n → z_rw m n b3.toInt.toNat j < m := fun j _ => z_rwB m16.1 j
      obtain ⟨⟨hWM, hbk⟩, kb, ⟨hN0, hag⟩, ⟨hsa, ksa, hSS⟩, hA, ⟨_, jv4, hj4, ejv4⟩, hnu, har, hln, hlz⟩ := id hS
      have k0 := kb
      have g0 := X.1.p3 k0
      have hlo := hS.low
      refine z_xP zt139 10 26 [some (.ref a0), some (.ref 18), some (.int p2), some (.int b3), some (.int b4), o5, o6] [.ref a0, .int b4] rfl rfl ?_
      refine z_xgR (κ := .inl (2, q, t, m, 0)) zt139 11 rfl zo139 zzf3_39 X k0 (by decide) (by decide) rfl (fun (a2 : Nat) h1 k3 => ?_)
      have g4 := X.1.p2 k3
      refine z_xgI zt139 12 rfl zo139 zzf3_63 X k3 (by decide) (by decide) rfl (fun (x6 : Int32) h5 (h7 : (q : Int) ≤ x6.toInt) (h8 : x6.toInt ≤ (q : Int)) => ?_)
      refine z_xJ zt139 13 rfl rfl (fun (h9 : x6.toInt ≤ b4.toInt) => ?_) (fun (h9 : b4.toInt < x6.toInt) => ?_)
      · skip
        refine z_xN zt139 54 rfl rfl (fun (x10 : Int32) (h11 : x10.toInt = b3.toInt + 1) => ?_) (z_pAdd rfl rfl (by omega) (by omega))
        show z_ev (d + 2) 139 116 [some (.ref a0), some (.ref 18), some (.int p2), some (.int x10), some (.int b4), o5, o6] [] M _
        refine z_xP zt139 55 10 [some (.ref a0), some (.ref 18), some (.int p2), some (.int x10), some (.int b4), o5, o6] [] rfl rfl ?_
        have es : x10.toInt.toNat = b3.toInt.toNat + 1 := by omega
        rw [show b4.toInt.toNat = q by omega] at hT
        exact ih.1 M x10 (some (.int b4)) o5 o6 X ⟨_, G, hF, hS⟩ ⟨by omega, by omega⟩ (by rw [es]; exact hT.row) (by omega)
      refine z_xP zt139 14 38 [some (.ref a0), some (.ref 18), some (.int p2), some (.int b3), some (.int b4), o5, o6] [.int 3, .int b4] rfl rfl ?_
      refine z_xI zt139 15 rfl rfl (fun (x12 : Int32) (h13 : x12.toInt = b4.toInt * 8) => ?_) (z_pShl 3 rfl rfl (by decide) (by decide) (by omega) rfl (by omega))
      refine z_xP zt139 16 42 [some (.ref a0), some (.ref 18), some (.int p2), some (.int b3), some (.int b4), o5, o6] [.int b4, .ref a0, .int x12] rfl rfl ?_
      refine z_xcV (vs := [.ref a0, .int b4]) (r := [.int x12]) (L2 := [some (.ref a0), some (.int b4), none, none]) zt139 17 rfl zo139 zzcV3_186 (Or.inl rfl) rfl X k0 rfl rfl rfl (Nat.le_of_ble_eq_true rfl) zzm140 (Nat.le_of_ble_eq_true rfl) rfl ?_
      refine zUC140 hS hF n13 ⟨by omega, by omega⟩ (fun x19 M14 X15 h19 => ?_)
      have hB := z_whB (S := S) (F := z_rw m n b3.toInt.toNat) (k := b4.toInt.toNat) n
      have h8 : 2 ^ n ≤ 2 ^ 3 := Nat.pow_le_pow_right (by decide) n13.2
      have h88 : (2 : Nat) ^ 3 = 8 := rfl
      have hW8 : z_who S (z_rw m n b3.toInt.toNat) b4.toInt.toNat n < 8 := by omega
      have hS14 := hS.ke X15 (by decide)
      have etb : z_Ar M14 (a0 + 9) = z_Ar M (a0 + 9) := X15.2.a (hbk.k9 hWM k0) (by decide)
      have hT14 := hT
      rw [← etb] at hT14
      have X22 := X.go X15 (z_sb (by decide))
      show z_ev (d + 2) 139 45 [some (.ref a0), some (.ref 18), some (.int p2), some (.int b3), some (.int b4), o5, o6] [.int x19, .int x12] M14 _
      refine z_xI zt139 18 rfl rfl (fun (x24 : Int32) (h25 : x24.toInt = x12.toInt + x19.toInt) => ?_) (z_pOrA (b4.toInt) rfl rfl (by omega) (by omega) (by omega) (by omega) (by omega))
      refine z_xP zt139 19 51 [some (.ref a0), some (.ref 18), some (.int p2), some (.int b3), some (.int b4), some (.int x24), o6] [.int b3, .ref 18, .int 1] rfl rfl ?_
      have f18 : T[18]? = some (.inr (18, 0, 216, (-2147483648), 2147483647)) := X22.1.k rfl (by decide)
      have eo : z_Ar M14 18 = o := (X22.2.a f18 (by decide)).trans ho
      refine z_xil zt139 20 rfl X22 f18 (by decide) (by omega) (by omega) (fun (x26 : Int32) h27 (h28 : (-2147483648) ≤ x26.toInt) (h29 : x26.toInt ≤ 2147483647) => ?_)
      rw [eo] at h27
      have e26 : o b3.toInt.toNat = x26 := h27
      have o1 := hob _ (show b3.toInt.toNat < m ^ n by omega)
      rw [e26] at o1
      refine z_xP zt139 21 54 [some (.ref a0), some (.ref 18), some (.int p2), some (.int b3), some (.int b4), some (.int x24), o6] [.int b4, .int x26, .int 1] rfl rfl ?_
      refine z_xI zt139 22 rfl rfl (fun (x31 : Int32) (h31 : x31 = x26 >>> (b4 &&& 31)) => ?_) rfl
      refine z_xP zt139 23 56 [some (.ref a0), some (.ref 18), some (.int p2), some (.int b3), some (.int b4), some (.int x24), o6] [.int 1, .int x31, .int 1] rfl rfl ?_
      refine z_xI zt139 24 rfl rfl (fun (x33 : Int32) (h33 : x33 = x31 &&& 1) => ?_) rfl
      have hb1 := z_sbit h31 h33 o1.1 ⟨by omega, by omega⟩
      have hc1 := z_m2c (x26.toInt.toNat / 2 ^ b4.toInt.toNat)
      refine z_xI zt139 25 rfl rfl (fun (x35 : Int32) (h36 : x35.toInt = 1 + x33.toInt) => ?_) (z_pAdd rfl rfl (by omega) (by omega))
      refine z_xP zt139 26 61 [some (.ref a0), some (.ref 18), some (.int p2), some (.int b3), some (.int b4), some (.int x24), o6] [.int b3, .ref 18, .int 2, .int x35] rfl rfl ?_
      refine z_xil zt139 27 rfl X22 f18 (by decide) (by omega) (by omega) (fun (x37 : Int32) h38 (h39 : (-2147483648) ≤ x37.toInt) (h40 : x37.toInt ≤ 2147483647) => ?_)
      rw [eo] at h38
      have e37 : x37 = x26 := h38.symm.trans h27
      refine z_xP zt139 28 66 [some (.ref a0), some (.ref 18), some (.int p2), some (.int b3), some (.int b4), some (.int x24), o6] [.int 10, .int b4, .int x37, .int 2, .int x35] rfl rfl ?_
      refine z_xI zt139 29 rfl rfl (fun (x42 : Int32) (h43 : x42.toInt = b4.toInt + 10) => ?_) (z_pAdd rfl rfl (by omega) (by omega))
      refine z_xI zt139 30 rfl rfl (fun (x45 : Int32) (h45 : x45 = x37 >>> (x42 &&& 31)) => ?_) rfl
      refine z_xP zt139 31 69 [some (.ref a0), some (.ref 18), some (.int p2), some (.int b3), some (.int b4), some (.int x24), o6] [.int 1, .int x45, .int 2, .int x35] rfl rfl ?_
      refine z_xI zt139 32 rfl rfl (fun (x47 : Int32) (h47 : x47 = x45 &&& 1) => ?_) rfl
      have hb2 := z_sbit h45 h47 (by rw [e37]; exact o1.1) ⟨by omega, by omega⟩
      rw [e37, show x42.toInt.toNat = b4.toInt.toNat + 10 by omega, ← z_md10] at hb2
      have hc2 := z_m2c (x26.toInt.toNat / 1024 / 2 ^ b4.toInt.toNat)
      refine z_xI zt139 33 rfl rfl (fun (x49 : Int32) (h50 : x49.toInt = 2 * x47.toInt) => ?_) (z_pMul rfl rfl (by omega) (by omega))
      refine z_xI zt139 34 rfl rfl (fun (x51 : Int32) (h52 : x51.toInt = x35.toInt + x49.toInt) => ?_) (z_pAdd rfl rfl (by omega) (by omega))
      have han : x51.toInt = z_ansn (fun r => (o r).toInt.toNat % 1024) (fun r => (o r).toInt.toNat / 1024) b3.toInt.toNat b4.toInt.toNat := by
        unfold z_ansn
        (try dsimp only)
        rw [e26, z_mdC _ (show b4.toInt.toNat < 10 by omega)]
        omega
      refine z_xP zt139 35 75 [some (.ref a0), some (.ref 18), some (.int p2), some (.int b3), some (.int b4), some (.int x24), some (.int x51)] [.ref a0] rfl rfl ?_
      refine z_xgR (κ := .inr (211, 0, 80, (-2147483648), 2147483647)) zt139 36 rfl zo139 zzf3_36 X22 k0 (by decide) (by decide) rfl (fun (a54 : Nat) h53 k55 => ?_)
      obtain rfl : a54 = a0 + 9 := z_rfe h53 (hS14.1.2 _ _ _ _ _ k0).2.2.2.2.2.2.2.2.1
      have i24 : x24.toInt.toNat = 8 * b4.toInt.toNat + z_who S (z_rw m n b3.toInt.toNat) b4.toInt.toNat n := by omega
      refine z_xP zt139 37 80 [some (.ref a0), some (.ref 18), some (.int p2), some (.int b3), some (.int b4), some (.int x24), some (.int x51)] [.int x24, .ref (a0 + 9)] rfl rfl ?_
      refine z_xil zt139 38 rfl X22 k55 (by decide) (by omega) (by omega) (fun (x56 : Int32) h57 (h58 : (-2147483648) ≤ x56.toInt) (h59 : x56.toInt ≤ 2147483647) => ?_)
      have e56 : z_Ar M14 (a0 + 9) (8 * b4.toInt.toNat + z_who S (z_rw m n b3.toInt.toNat) b4.toInt.toNat n) = x56 := by
        rw [← i24]
        exact h57
      refine z_xZ zt139 39 rfl rfl (fun (h60 : x56.toInt = 0) => ?_) (fun (h60 : x56.toInt ≠ 0) => ?_)
      · skip
        refine z_xP zt139 48 99 [some (.ref a0), some (.ref 18), some (.int p2), some (.int b3), some (.int b4), some (.int x24), some (.int x51)] [.ref a0] rfl rfl ?_
        refine z_xgv zt139 49 rfl zo139 zzf3_36 X22 k0 (by decide) h53 ?_
        refine z_xP zt139 50 106 [some (.ref a0), some (.ref 18), some (.int p2), some (.int b3), some (.int b4), some (.int x24), some (.int x51)] [.int x51, .int x24, .ref (a0 + 9)] rfl rfl ?_
        refine z_xis zt139 51 rfl X22 k55 (by decide) (X22.1.g4 k55 (by decide)) (by omega) (by omega) (Int32.le_toInt _) (Int32.toInt_le _) (by decide) (fun M61 X62 e63 h64 => ?_)
        refine z_xN zt139 52 rfl rfl (fun (x65 : Int32) (h66 : x65.toInt = b4.toInt + 1) => ?_) (z_pAdd rfl rfl (by omega) (by omega))
        show z_ev (d + 2) 139 110 [some (.ref a0), some (.ref 18), some (.int p2), some (.int b3), some (.int x65), some (.int x24), some (.int x51)] [] M61 _
        refine z_xP zt139 53 23 [some (.ref a0), some (.ref 18), some (.int p2), some (.int b3), some (.int x65), some (.int x24), some (.int x51)] [] rfl rfl ?_
        have es : x65.toInt.toNat = b4.toInt.toNat + 1 := by omega
        refine ih.2 M61 b3 x65 (some (.int x24)) (some (.int x51)) X62 ⟨G, hS14.ke ⟨X62.1, e63⟩ (by decide)⟩ hb3 ⟨by omega, by omega⟩ ?_ (by omega)
        rw [es]
        refine hT14.step (by omega) hW8 (Or.inl (by rw [e56]; exact h60)) ?_ (fun i hi => ?_)
        · rw [h64]
          show (if 8 * b4.toInt.toNat + z_who S (z_rw m n b3.toInt.toNat) b4.toInt.toNat n = x24.toInt.toNat then x51 else _).toInt = _
          rw [if_pos (by omega)]
          exact han
        · rw [h64]
          show (if i = x24.toInt.toNat then x51 else z_Ar M14 (a0 + 9) i) = z_Ar M14 (a0 + 9) i
          rw [if_neg (by omega)]
      refine z_xP zt139 40 85 [some (.ref a0), some (.ref 18), some (.int p2), some (.int b3), some (.int b4), some (.int x24), some (.int x51)] [.ref a0] rfl rfl ?_
      refine z_xgv zt139 41 rfl zo139 zzf3_36 X22 k0 (by decide) h53 ?_
      refine z_xP zt139 42 90 [some (.ref a0), some (.ref 18), some (.int p2), some (.int b3), some (.int b4), some (.int x24), some (.int x51)] [.int x24, .ref (a0 + 9)] rfl rfl ?_
      refine z_xil zt139 43 rfl X22 k55 (by decide) (by omega) (by omega) (fun (x68 : Int32) h69 (h70 : (-2147483648) ≤ x68.toInt) (h71 : x68.toInt ≤ 2147483647) => ?_)
      have e68 : x68 = x56 := h69.symm.trans h57
      refine z_xP zt139 44 93 [some (.ref a0), some (.ref 18), some (.int p2), some (.int b3), some (.int b4), some (.int x24), some (.int x51)] [.int x51, .int x68] rfl rfl ?_
      refine z_xJ zt139 45 rfl rfl (fun (h74 : x68.toInt = x51.toInt) => ?_) (fun (h74 : x68.toInt ≠ x51.toInt) => ?_)
      · skip
        refine z_xP zt139 48 99 [some (.ref a0), some (.ref 18), some (.int p2), some (.int b3), some (.int b4), some (.int x24), some (.int x51)] [.ref a0] rfl rfl ?_
        refine z_xgv zt139 49 rfl zo139 zzf3_36 X22 k0 (by decide) h53 ?_
        refine z_xP zt139 50 106 [some (.ref a0), some (.ref 18), some (.int p2), some (.int b3), some (.int b4), some (.int x24), some (.int x51)] [.int x51, .int x24, .ref (a0 + 9)] rfl rfl ?_
        refine z_xis zt139 51 rfl X22 k55 (by decide) (X22.1.g4 k55 (by decide)) (by omega) (by omega) (Int32.le_toInt _) (Int32.toInt_le _) (by decide) (fun M61 X62 e63 h64 => ?_)
        refine z_xN zt139 52 rfl rfl (fun (x65 : Int32) (h66 : x65.toInt = b4.toInt + 1) => ?_) (z_pAdd rfl rfl (by omega) (by omega))
        show z_ev (d + 2) 139 110 [some (.ref a0), some (.ref 18), some (.int p2), some (.int b3), some (.int x65), some (.int x24), some (.int x51)] [] M61 _
        refine z_xP zt139 53 23 [some (.ref a0), some (.ref 18), some (.int p2), some (.int b3), some (.int x65), some (.int x24), some (.int x51)] [] rfl rfl ?_
        have es : x65.toInt.toNat = b4.toInt.toNat + 1 := by omega
        refine ih.2 M61 b3 x65 (some (.int x24)) (some (.int x51)) X62 ⟨G, hS14.ke ⟨X62.1, e63⟩ (by decide)⟩ hb3 ⟨by omega, by omega⟩ ?_ (by omega)
        rw [es]
        refine hT14.step (by omega) hW8 (Or.inr (by rw [e56, ← e68, ← han]; exact h74)) ?_ (fun i hi => ?_)
        · rw [h64]
          show (if 8 * b4.toInt.toNat + z_who S (z_rw m n b3.toInt.toNat) b4.toInt.toNat n = x24.toInt.toNat then x51 else _).toInt = _
          rw [if_pos (by omega)]
          exact han
        · rw [h64]
          show (if i = x24.toInt.toNat then x51 else z_Ar M14 (a0 + 9) i) = z_Ar M14 (a0 + 9) i
          rw [if_neg (by omega)]
      refine z_xP zt139 46 97 [some (.ref a0), some (.ref 18), some (.int p2), some (.int b3), some (.int b4), some (.int x24), some (.int x51)] [.int b3] rfl rfl ?_
      refine z_xri zt139 47 rfl zzr139 (kk b3 M14 X22 ⟨_, G, hF, hS14⟩ (Or.inr ⟨b3.toInt.toNat, by omega, by omega, ?_, fun e he => ?_⟩))
      · rw [z_br1]
        refine hT14.bad (by omega) hW8 ?_ ?_
        · rw [e56]
          exact h60
        · rw [e56, ← e68, ← han]
          exact h74
      · rw [z_br1]
        rintro ⟨k, hk, e3, he3, w1, w2⟩
        have hB3 := z_whB (S := S) (F := z_rw m n e) (k := k) n
        have a1 := (hT14 k hk (z_who S (z_rw m n e) k n) (by omega)).1 e (Or.inl he) rfl
        have a2 := (hT14 k hk (z_who S (z_rw m n e) k n) (by omega)).1 e3 (Or.inl (by omega)) w1
        exact w2 (z_anU.mp (a2.symm.trans a1))
theorem zUC139 {T : List zK} {d : Nat} {K : Option Value → zH → Prop} {a0 : Nat} {p2 : Int32} {M0 : zH} {N q t m pr en sa n : Nat} {B : Nat → Nat} {S : Nat → Int32} {A : Int32} {o : Nat → Int32} (hS0 : (∃ F G : Nat → Nat, (∀ j, j < n → F j < m) ∧ z_TSG T M0 a0 N q t m pr en sa n B F G S A))  (m16 : 1 ≤ m ∧ m ≤ 6) (n13 : 1 ≤ n ∧ n ≤ 3) (ho : z_Ar M0 18 = o) (hob : ∀ r, r < m ^ n → 0 ≤ (o r).toInt ∧ (o r).toInt < 1048576) (e2 : p2.toInt = ((m ^ n : Nat) : Int)) (kk : ∀ (x : Int32) (M1 : zH), z_X T zw139 M0 M1 → (∃ F G : Nat → Nat, (∀ j, j < n → F j < m) ∧ z_TSG T M1 a0 N q t m pr en sa n B F G S A) → z_ft (z_brP 1 B q m n S A (fun r => (o r).toInt.toNat % 1024) (fun r => (o r).toInt.toNat / 1024)) (m ^ n) x.toInt → K (some (.int x)) M1) : z_ev (d + 2) 139 0 [some (.ref a0), some (.ref 18), some (.int p2), none, none, none, none] [] M0 K := by
  obtain ⟨F, G, hF, hS⟩ := id hS0
  obtain ⟨⟨hWM, hbk⟩, kb, ⟨hN0, hag⟩, ⟨hsa, ksa, hSS⟩, hA, ⟨_, jv4, hj4, ejv4⟩, hnu, har, hln, hlz⟩ := id hS
  have X : z_X T zw139 M0 M0 := .refl hWM
  have k0 := kb
  have g0 := X.1.p3 k0
  have hm := z_mk (k := n) m16.2 n13.2
  refine z_xP zt139 0 1 [some (.ref a0), some (.ref 18), some (.int p2), none, none, none, none] [.ref a0] rfl rfl ?_
  refine z_xgR (κ := .inr (211, 0, 80, (-2147483648), 2147483647)) zt139 1 rfl zo139 zzf3_36 X k0 (by decide) (by decide) rfl (fun (a2 : Nat) h1 k3 => ?_)
  obtain rfl : a2 = a0 + 9 := z_rfe h1 (hbk _ _ _ _ _ k0).2.2.2.2.2.2.2.2.1
  refine z_xP zt139 2 5 [some (.ref a0), some (.ref 18), some (.int p2), none, none, none, none] [.int 0, .ref (a0 + 9)] rfl rfl ?_
  refine z_xcS (vs := [.ref (a0 + 9), .int 0]) (r := []) (L2 := [some (.ref (a0 + 9)), some (.int 0), none, none]) zt139 3 rfl zo139 zzcS3_66 (Or.inl rfl) (Nat.le_of_ble_eq_true rfl) rfl rfl (Nat.le_of_ble_eq_true rfl) zzm7 (Nat.le_of_ble_eq_true rfl) rfl ?_
  have q0 : ((0 : Int32)).toInt = 0 := rfl
  refine zUC7 X.1 ⟨(by decide), (X.1.g4 k3 (by decide))⟩ k3 (by decide) (by decide) (fun M4 X5 hfl => ?_)
  have X6 := X.go X5 (z_sb (by decide))
  show z_ev (d + 2) 139 8 [some (.ref a0), some (.ref 18), some (.int p2), none, none, none, none] [] M4 _
  refine z_xP zt139 4 10 [some (.ref a0), some (.ref 18), some (.int p2), some (.int 0), none, none, none] [] rfl rfl ?_
  exact (zUB139 m16 n13 ho hob e2 kk 4400).1 M4 (0) none none none X6 ⟨F, G, hF, hS.ke X5 (by decide)⟩ ⟨by omega, by omega⟩ (z_TabZ (by have := hS.low.1; omega) hfl) (by omega)
theorem zUC136 {T : List zK} {d : Nat} {K : Option Value → zH → Prop} {a0 : Nat} {p1 : Int32} {M0 : zH} {N q t m pr en sa n : Nat} {B : Nat → Nat} {S : Nat → Int32} {A : Int32} {o : Nat → Int32} (hS0 : (∃ F G : Nat → Nat, (∀ j, j < n → F j < m) ∧ z_TSG T M0 a0 N q t m pr en sa n B F G S A)) (m16 : 1 ≤ m ∧ m ≤ 6) (n13 : 1 ≤ n ∧ n ≤ 3) (u1 : 0 ≤ p1.toInt ∧ p1.toInt ≤ 4) (ho : z_Ar M0 18 = o) (hob : ∀ r, r < m ^ n → 0 ≤ (o r).toInt ∧ (o r).toInt < 1048576) (hud : ∀ r, r < m ^ n → (o r).toInt.toNat % 1024 < 2 ^ q ∧ (o r).toInt.toNat / 1024 < 2 ^ q) (kk : ∀ (x : Int32) (M1 : zH), z_X T zw136 M0 M1 → (∃ F G : Nat → Nat, (∀ j, j < n → F j < m) ∧ z_TSG T M1 a0 N q t m pr en sa n B F G S A) → z_ft (z_brP p1.toInt.toNat B q m n S A (fun r => (o r).toInt.toNat % 1024) (fun r => (o r).toInt.toNat / 1024)) (z_brK p1.toInt.toNat m n) x.toInt → K (some (.int x)) M1) : z_ev (d + 4) 136 0 [some (.ref a0), some (.int p1), some (.ref 18), none] [] M0 K := by
  obtain ⟨F, G, hF, hS⟩ := id hS0
  have hm := z_mk (k := n) m16.2 n13.2
  have X : z_X T zw136 M0 M0 := .refl hS.1.1
  have k0 := hS.2.1
  refine z_xP zt136 0 1 [some (.ref a0), some (.int p1), some (.ref 18), none] [.ref a0] rfl rfl ?_
  refine z_xcV (vs := [.ref a0]) (r := []) (L2 := [some (.ref a0), none, none]) zt136 1 rfl zo136 zzcV3_164 (Or.inl rfl) rfl X k0 rfl rfl rfl (Nat.le_of_ble_eq_true rfl) zzm132 (Nat.le_of_ble_eq_true rfl) rfl ?_
  refine zUC132 hS m16.2 n13.2 (fun x6 M1 X2 h6 => ?_)
  have X7 := X.go X2 (z_sb (by decide))
  have hS1 : (∃ F G : Nat → Nat, (∀ j, j < n → F j < m) ∧ z_TSG T M1 a0 N q t m pr en sa n B F G S A) := ⟨F, G, hF, hS.ke X2 (by decide)⟩
  show z_ev (d + 4) 136 4 [some (.ref a0), some (.int p1), some (.ref 18), none] [.int x6] M1 _
  refine z_xP zt136 2 5 [some (.ref a0), some (.int p1), some (.ref 18), none] [.ref 18, .int x6] rfl rfl ?_
  have f18 : T[18]? = some (.inr (18, 0, 216, (-2147483648), 2147483647)) := X7.1.k rfl (by decide)
  have ho1 : z_Ar M1 18 = o := (X2.2.a f18 (by decide)).trans ho
  refine z_xln zt136 3 rfl X7 f18 (by decide) (by decide) (fun (x9 : Int32) (h10 : x9.toInt = ((216 : Nat) : Int)) => ?_)
  refine z_xmn zt136 4 rfl zo136 zzcS3_78 (Nat.le_of_ble_eq_true rfl) (fun (x11 : Int32) h12 => ?_)
  have e11 : x11.toInt = ((m ^ n : Nat) : Int) := by omega
  refine z_xP zt136 5 11 [some (.ref a0), some (.int p1), some (.ref 18), some (.int x11)] [.int p1] rfl rfl ?_
  by_cases h90 : p1.toInt = 0
  · refine z_xSC zt136 6 (z_sub (k := 0) h90 rfl) 40 rfl rfl ?_
    have eL : p1.toInt.toNat = 0 := by omega
    refine z_xP zt136 7 43 [some (.ref a0), some (.int p1), some (.ref 18), some (.int x11)] [.int x11, .ref 18, .ref a0] rfl rfl ?_
    refine z_xcV (vs := [.ref a0, .ref 18, .int x11]) (r := []) (L2 := [some (.ref a0), some (.ref 18), some (.int x11), none]) zt136 8 rfl zo136 zzcV3_167 (Or.inl rfl) rfl X7 k0 rfl rfl rfl (Nat.le_of_ble_eq_true rfl) zzm137 (Nat.le_of_ble_eq_true rfl) rfl ?_
    refine zUC137 hS1 m16 n13 ho1 hob e11 (fun x21 M16 X17 hS16 hft => ?_)
    have X24 := X7.go X17 (z_sb (by decide))
    show z_ev (d + 4) 136 46 [some (.ref a0), some (.int p1), some (.ref 18), some (.int x11)] [.int x21] M16 _
    exact z_xri zt136 9 rfl zzr136 (kk x21 M16 X24 hS16 (by rw [eL]; exact hft))
  by_cases h91 : p1.toInt = 1
  · refine z_xSC zt136 6 (z_sub (k := 1) h91 rfl) 47 rfl rfl ?_
    have eL : p1.toInt.toNat = 1 := by omega
    refine z_xP zt136 10 50 [some (.ref a0), some (.int p1), some (.ref 18), some (.int x11)] [.int x11, .ref 18, .ref a0] rfl rfl ?_
    refine z_xcV (vs := [.ref a0, .ref 18, .int x11]) (r := []) (L2 := [some (.ref a0), some (.ref 18), some (.int x11), none, none, none, none]) zt136 11 rfl zo136 zzcV3_171 (Or.inl rfl) rfl X7 k0 rfl rfl rfl (Nat.le_of_ble_eq_true rfl) zzm139 (Nat.le_of_ble_eq_true rfl) rfl ?_
    refine zUC139 hS1 m16 n13 ho1 hob e11 (fun x21 M16 X17 hS16 hft => ?_)
    have X24 := X7.go X17 (z_sb (by decide))
    show z_ev (d + 4) 136 53 [some (.ref a0), some (.int p1), some (.ref 18), some (.int x11)] [.int x21] M16 _
    exact z_xri zt136 12 rfl zzr136 (kk x21 M16 X24 hS16 (by rw [eL]; exact hft))
  by_cases h92 : p1.toInt = 2
  · refine z_xSC zt136 6 (z_sub (k := 2) h92 rfl) 54 rfl rfl ?_
    have eL : p1.toInt.toNat = 2 := by omega
    refine z_xP zt136 13 57 [some (.ref a0), some (.int p1), some (.ref 18), some (.int x11)] [.int x11, .ref 18, .ref a0] rfl rfl ?_
    refine z_xcV (vs := [.ref a0, .ref 18, .int x11]) (r := []) (L2 := [some (.ref a0), some (.ref 18), some (.int x11), none, none, none, none]) zt136 14 rfl zo136 zzcV3_174 (Or.inl rfl) rfl X7 k0 rfl rfl rfl (Nat.le_of_ble_eq_true rfl) zzm141 (Nat.le_of_ble_eq_true rfl) rfl ?_
    refine zUC141 hS1 m16 n13 ho1 hob e11 (fun x21 M16 X17 hS16 hft => ?_)
    have X24 := X7.go X17 (z_sb (by decide))
    show z_ev (d + 4) 136 60 [some (.ref a0), some (.int p1), some (.ref 18), some (.int x11)] [.int x21] M16 _
    exact z_xri zt136 15 rfl zzr136 (kk x21 M16 X24 hS16 (by rw [eL]; exact hft))
  by_cases h93 : p1.toInt = 3
  · refine z_xSC zt136 6 (z_sub (k := 3) h93 rfl) 61 rfl rfl ?_
    have eL : p1.toInt.toNat = 3 := by omega
    refine z_xP zt136 16 64 [some (.ref a0), some (.int p1), some (.ref 18), some (.int x11)] [.int x11, .ref 18, .ref a0] rfl rfl ?_
    refine z_xcV (vs := [.ref a0, .ref 18, .int x11]) (r := []) (L2 := [some (.ref a0), some (.ref 18), some (.int x11), none]) zt136 17 rfl zo136 zzcV3_177 (Or.inl rfl) rfl X7 k0 rfl rfl rfl (Nat.le_of_ble_eq_true rfl) zzm142 (Nat.le_of_ble_eq_true rfl) rfl ?_
    refine zUC142 hS1 m16 n13 ho1 hob e11 hud (fun x21 M16 X17 hS16 hft => ?_)
    have X24 := X7.go X17 (z_sb (by decide))
    show z_ev (d + 4) 136 67 [some (.ref a0), some (.int p1), some (.ref 18), some (.int x11)] [.int x21] M16 _
    exact z_xri zt136 18 rfl zzr136 (kk x21 M16 X24 hS16 (by rw [eL]; exact hft))
  refine z_xSD zt136 6 rfl rfl (by omega) ?_
  have eL : p1.toInt.toNat = 4 := by omega
  refine z_xP zt136 19 71 [some (.ref a0), some (.int p1), some (.ref 18), some (.int x11)] [.int x11, .ref 18, .ref a0] rfl rfl ?_
  refine z_xcV (vs := [.ref a0, .ref 18, .int x11]) (r := []) (L2 := [some (.ref a0), some (.ref 18), some (.int x11), none, none, none]) zt136 20 rfl zo136 zzcV3_180 (Or.inl rfl) rfl X7 k0 rfl rfl rfl (Nat.le_of_ble_eq_true rfl) zzm143 (Nat.le_of_ble_eq_true rfl) rfl ?_
  refine zUC143 hS1 m16 n13 ho1 hob e11 (fun x21 M16 X17 hS16 hft => ?_)
  have X24 := X7.go X17 (z_sb (by decide))
  show z_ev (d + 4) 136 74 [some (.ref a0), some (.int p1), some (.ref 18), some (.int x11)] [.int x21] M16 _
  exact z_xri zt136 21 rfl zzr136 (kk x21 M16 X24 hS16 (by rw [eL]; exact hft))
