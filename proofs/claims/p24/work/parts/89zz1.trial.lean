/-! a trial bench on which judges sit that have lawful sets -/
def z_TSG (T : List zK) (M : zH) (b N q t m pr en sa n : Nat) (B F G : Nat → Nat) (S : Nat → Int32) (A : Int32) : Prop :=
  (z_W M T ∧ z_blk T M) ∧ T[b]? = some (.inl (3, q, t, m, 5)) ∧ (z_F M b 0 = some (.ref N) ∧ z_AGO T M N q t m pr en B) ∧ (z_F M N 5 = some (.ref sa) ∧ T[sa]? = some (.inr (102, 0, m, 0, 1023)) ∧ ∀ k, k < m → z_Ar M sa k = S k) ∧ A.toInt = ((2 ^ q : Nat) : Int) - 1 ∧ (n ≤ 5 ∧ ∃ jv : Int32, z_F M b 4 = some (.int jv) ∧ jv.toInt = (n : Int)) ∧ (∀ j, j < n → (z_Ar M (b + 8) j).toInt = (F j : Int)) ∧ (∀ j, j < n → z_Ar M (b + 1) j = 1 ∧ z_Ar M (b + 2) j = S (G j) ∧ z_Ar M (b + 3) j = A &&& (S (G j) ^^^ (-1 : Int32))) ∧ z_LN M b q ∧ z_lz M b
section ZTSG
variable {T : List zK} {M M1 : zH} {b N q t m pr en sa n : Nat} {B F G F2 G2 : Nat → Nat} {S : Nat → Int32} {A : Int32} {rs : List Nat}
theorem z_blk.k8 (h : z_blk T M) (hW : z_W M T) {J : Nat} (hb : T[b]? = some (.inl (3, q, t, m, J))) : T[b + 8]? = some (.inr (210, 0, 5, 0, ((m : Nat) : Int) - 1)) := z_obf hW hb (h b q t m J hb).2.2.2.2.2.2.2.1
theorem z_TSG.C (h : z_TSG T M b N q t m pr en sa n B F G S A) (hF : ∀ j, j < n → F j = F2 j) (hG : ∀ j, j < n → S (G j) = S (G2 j)) : z_TSG T M b N q t m pr en sa n B F2 G2 S A := by
  obtain ⟨h1, h2, h3, h4, h5, h6, h7, h8, h9, h10⟩ := h
  exact ⟨h1, h2, h3, h4, h5, h6, fun j hj => by rw [← hF j hj]; exact h7 j hj, fun j hj => by rw [← hG j hj]; exact h8 j hj, h9, h10⟩
/-- only the numbers change -/
theorem z_TSG.nu (h : z_TSG T M b N q t m pr en sa n B F G S A) (hW1 : z_W M1 T) (ke : z_ke T [210] M M1) (e : ∀ j, j < n → (z_Ar M1 (b + 8) j).toInt = (F2 j : Int)) : z_TSG T M1 b N q t m pr en sa n B F2 G S A := by
  obtain ⟨⟨hW, hbk⟩, kb, ⟨hN0, hag⟩, ⟨hsa, ksa, hSS⟩, hA, ⟨n5, jv, hj4, ejv⟩, hnu, har, hln, hlz⟩ := h
  refine ⟨⟨hW1, hbk.ke ke (by decide)⟩, kb, ⟨ke.f kb (by decide) hN0, hag.ke (fun _ _ h => h) ke (by decide)⟩, ⟨ke.f hag.1 (by decide) hsa, ksa, fun k hk => (congrFun (ke.a ksa (by decide)) k).trans (hSS k hk)⟩, hA, ⟨n5, jv, ke.f kb (by decide) hj4, ejv⟩, e, fun j hj => ?_, hln.ke hbk hW kb ke (by decide), hlz.ke hbk hW kb ke (by decide)⟩
  rw [ke.a (hbk.k1 hW kb) (by decide), ke.a (hbk.k2 hW kb) (by decide), ke.a (hbk.k3 hW kb) (by decide)]
  exact har j hj
/-- a judge has another set -/
theorem z_TSG.al {i Y No : Int32} {w : Nat} (h : z_TSG T M b N q t m pr en sa n B F G S A) (X : z_X T zw54 M M1) (ha : z_alt M M1 b i Y No) (hl : z_LN M1 b q) (hY : Y = S w) (hN : No = A &&& (Y ^^^ (-1 : Int32))) : z_TSG T M1 b N q t m pr en sa n B F (fun j => if j = i.toInt.toNat then w else G j) S A := by
  obtain ⟨⟨hW, hbk⟩, kb, ⟨hN0, hag⟩, ⟨hsa, ksa, hSS⟩, hA, ⟨n5, jv, hj4, ejv⟩, hnu, har, hln, hlz⟩ := h
  refine ⟨⟨X.1, hbk.ke X.2 (by decide)⟩, kb, ⟨X.2.f kb (by decide) hN0, hag.ke (fun _ _ h => h) X.2 (by decide)⟩, ⟨X.2.f hag.1 (by decide) hsa, ksa, fun k hk => (congrFun (X.2.a ksa (by decide)) k).trans (hSS k hk)⟩, hA, ⟨n5, jv, X.2.f kb (by decide) hj4, ejv⟩, fun j hj => ?_, fun j hj => ?_, hl, hlz.ke hbk hW kb X.2 (by decide)⟩
  · rw [X.2.a (hbk.k8 hW kb) (by decide)]
    exact hnu j hj
  · obtain ⟨g1, g2, g3⟩ := har j hj
    rw [X.2.a (hbk.k1 hW kb) (by decide), ha.1, ha.2]
    refine ⟨g1, ?_⟩
    show (if j = i.toInt.toNat then Y else z_Ar M (b + 2) j) = _ ∧ (if j = i.toInt.toNat then No else z_Ar M (b + 3) j) = _
    dsimp only
    by_cases c : j = i.toInt.toNat
    · rw [if_pos c, if_pos c, if_pos c, ← hY]
      exact ⟨rfl, hN⟩
    · rw [if_neg c, if_neg c, if_neg c]
      exact ⟨g2, g3⟩
/-- one more sits down -/
theorem z_TSG.se {jv w Y No : Int32} {u : Nat} (h : z_TSG T M b N q t m pr en sa n B F G S A) (X : z_X T zw53 M M1) (hj : z_F M b 4 = some (.int jv)) (ha : z_se M M1 b jv w Y No) (hl : z_LN M1 b q) (n4 : n < 5) (hw : w = 1) (hY : Y = S u) (hN : No = A &&& (Y ^^^ (-1 : Int32))) (hnx : (z_Ar M (b + 8) n).toInt = (F n : Int)) : z_TSG T M1 b N q t m pr en sa (n + 1) B F (fun j => if j = n then u else G j) S A := by
  obtain ⟨⟨hW, hbk⟩, kb, ⟨hN0, hag⟩, ⟨hsa, ksa, hSS⟩, hA, ⟨n5, jv2, hj4, ejv⟩, hnu, har, hln, hlz⟩ := h
  have ej := z_ive hj hj4
  rw [← ej] at ejv
  obtain ⟨⟨x, f4, ex⟩, a1, a2, a3⟩ := ha
  have en : jv.toNatClampNeg = n := by
    show jv.toInt.toNat = n
    omega
  rw [en] at a1 a2 a3
  refine ⟨⟨X.1, hbk.ke X.2 (by decide)⟩, kb, ⟨X.2.f kb (by decide) hN0, hag.ke (fun _ _ h => h) X.2 (by decide)⟩, ⟨X.2.f hag.1 (by decide) hsa, ksa, fun k hk => (congrFun (X.2.a ksa (by decide)) k).trans (hSS k hk)⟩, hA, ⟨by omega, x, f4, by omega⟩, fun j hj => ?_, fun j hj => ?_, hl, hlz.ke hbk hW kb X.2 (by decide)⟩
  · rw [X.2.a (hbk.k8 hW kb) (by decide)]
    by_cases c : j = n
    · rw [c]
      exact hnx
    · exact hnu j (by omega)
  · rw [a1, a2, a3]
    show (if j = n then w else z_Ar M (b + 1) j) = 1 ∧ (if j = n then Y else if j = n then 0 else z_Ar M (b + 2) j) = _ ∧ (if j = n then No else if j = n then 0 else z_Ar M (b + 3) j) = _
    dsimp only
    by_cases c : j = n
    · rw [if_pos c, if_pos c, if_pos c, if_pos c, ← hY]
      exact ⟨hw, rfl, hN⟩
    · rw [if_neg c, if_neg c, if_neg c, if_neg c, if_neg c, if_neg c]
      exact har j (by omega)
end ZTSG
theorem zUB111 {T : List zK} {d : Nat} {K : Option Value → zH → Prop} {a0 : Nat} {q : Nat} {t : Nat} {m : Nat} {M0 : zH} (k0 : T[a0]? = some (.inl (3, q, t, m, 5))) {N pr en sa n : Nat} {B F G : Nat → Nat} {S : Nat → Int32} {A : Int32} (hF : ∀ j, j < n → F j < m) (kk : ∀ (M1 : zH), z_X T zw111 M0 M1 → z_TSG T M1 a0 N q t m pr en sa n B F F S A → K none M1) : ∀ nn : Nat, (∀ (M : zH) (b1 : Int32) (o2 : Option Value), z_X T zw111 M0 M → 0 ≤ b1.toInt ∧ b1.toInt ≤ 5 → b1.toInt ≤ (n : Int) → z_TSG T M a0 N q t m pr en sa n B F (fun j => if j < b1.toInt.toNat then F j else G j) S A → ((0) * 2 + 0) * 6 + (5 - b1.toInt) < (nn : Int) → z_ev (d + 1) 111 2 [some (.ref a0), some (.int b1), o2] [] M K) := by
  intro nn
  induction nn with
  | zero => exact by intros; exfalso; omega
  | succ nn ih =>
    intro M b1 o2 X hh0 hb1 hS hE
    obtain ⟨⟨hWM, hbk⟩, kb, ⟨hN0, hag⟩, ⟨hsa, ksa, hSS⟩, hA, ⟨n5, jv, hj4, ejv⟩, hnu, har, hln, hlz⟩ := id hS
    have g0 := X.1.p3 k0
    refine z_xP zt111 1 4 [some (.ref a0), some (.int b1), o2] [.ref a0, .int b1] rfl rfl ?_
    refine z_xgI zt111 2 rfl zo111 zzf3_53 X k0 (by decide) (by decide) rfl (fun (x2 : Int32) h1 (h3 : 0 ≤ x2.toInt) (h4 : x2.toInt ≤ (5 : Int)) => ?_)
    have e2 : x2.toInt = (n : Int) := by
      rw [z_ive h1 hj4]
      exact ejv
    refine z_xJ zt111 3 rfl rfl (fun (h5 : x2.toInt ≤ b1.toInt) => ?_) (fun (h5 : b1.toInt < x2.toInt) => ?_)
    · skip
      exact z_xrv zt111 27 rfl zzr111 (kk M X (hS.C (fun _ _ => rfl) fun j hj => by (try dsimp only); rw [if_pos (by omega)]))
    refine z_xP zt111 4 11 [some (.ref a0), some (.int b1), o2] [.ref a0] rfl rfl ?_
    refine z_xgR (κ := .inl (2, q, t, m, 0)) zt111 5 rfl zo111 zzf3_39 X k0 (by decide) (by decide) rfl (fun (a7 : Nat) h6 k8 => ?_)
    have g9 := X.1.p2 k8
    refine z_xgR (κ := .inr (102, 0, m, 0, 1023)) zt111 6 rfl zo111 zzf3_101 X k8 (by decide) (by decide) rfl (fun (a11 : Nat) h10 k12 => ?_)
    refine z_xP zt111 7 18 [some (.ref a0), some (.int b1), o2] [.ref a0, .ref a11] rfl rfl ?_
    refine z_xgR (κ := .inr (210, 0, 5, 0, ((m : Nat) : Int) - 1)) zt111 8 rfl zo111 zzf3_33 X k0 (by decide) (by decide) rfl (fun (a14 : Nat) h13 k15 => ?_)
    refine z_xP zt111 9 22 [some (.ref a0), some (.int b1), o2] [.int b1, .ref a14, .ref a11] rfl rfl ?_
    refine z_xil zt111 10 rfl X k15 (by decide) (by omega) (by omega) (fun (x16 : Int32) h17 (h18 : 0 ≤ x16.toInt) (h19 : x16.toInt ≤ ((m : Nat) : Int) - 1) => ?_)
    refine z_xil zt111 11 rfl X k12 (by decide) (by omega) (by omega) (fun (x20 : Int32) h21 (h22 : 0 ≤ x20.toInt) (h23 : x20.toInt ≤ 1023) => ?_)
    refine z_xP zt111 12 26 [some (.ref a0), some (.int b1), some (.int x20)] [.ref a0] rfl rfl ?_
    refine z_xgR (κ := .inr (202, 0, 9, (-2147483648), 2147483647)) zt111 13 rfl zo111 zzf3_15 X k0 (by decide) (by decide) rfl (fun (a25 : Nat) h24 k26 => ?_)
    refine z_xP zt111 14 30 [some (.ref a0), some (.int b1), some (.int x20)] [.int b1, .ref a25] rfl rfl ?_
    refine z_xil zt111 15 rfl X k26 (by decide) (by omega) (by omega) (fun (x27 : Int32) h28 (h29 : (-2147483648) ≤ x27.toInt) (h30 : x27.toInt ≤ 2147483647) => ?_)
    have ia7 := z_rfe h6 hN0
    have ia14 := z_rfe h13 (hbk _ _ _ _ _ k0).2.2.2.2.2.2.2.1
    have ia25 := z_rfe h24 (hbk _ _ _ _ _ k0).2.1
    rw [ia7] at h10
    have ia11 := z_rfe h10 hsa
    rw [ia14] at h17
    rw [ia11] at h21
    rw [ia25] at h28
    have hF1 := hF b1.toInt.toNat (by omega)
    have e16 : x16.toInt = (F b1.toInt.toNat : Int) := (congrArg Int32.toInt h17).symm.trans (hnu b1.toInt.toNat (by omega))
    have e20 : x20 = S (F b1.toInt.toNat) := by
      rw [← hSS _ hF1, ← h21]
      refine congrArg _ ?_
      show x16.toInt.toNat = _
      omega
    have e27 : x27 = S (G b1.toInt.toNat) := by
      rw [← h28]
      have h := (har b1.toInt.toNat (by omega)).2.1
      dsimp only at h
      rw [if_neg (Nat.lt_irrefl _)] at h
      exact h
    refine z_xP zt111 16 32 [some (.ref a0), some (.int b1), some (.int x20)] [.int x20, .int x27] rfl rfl ?_
    have h31 := z_b32 x27
    refine z_xJ zt111 17 rfl rfl (fun (h32 : x27.toInt = x20.toInt) => ?_) (fun (h32 : x27.toInt ≠ x20.toInt) => ?_)
    · skip
      refine z_xN zt111 25 rfl rfl (fun (x33 : Int32) (h34 : x33.toInt = b1.toInt + 1) => ?_) (z_pAdd rfl rfl (by omega) (by omega))
      show z_ev (d + 1) 111 55 [some (.ref a0), some (.int x33), some (.int x20)] [] M _
      refine z_xP zt111 26 2 [some (.ref a0), some (.int x33), some (.int x20)] [] rfl rfl ?_
      have es : x33.toInt.toNat = b1.toInt.toNat + 1 := by omega
      refine ih M x33 (some (.int x20)) X ⟨by omega, by omega⟩ (by omega) (hS.C (fun _ _ => rfl) fun j hj => ?_) (by omega)
      (try dsimp only)
      rw [es]
      by_cases cj : j = b1.toInt.toNat
      · rw [cj, if_neg (by omega), if_pos (by omega), ← e27, ← e20]
        exact Int32.toInt_inj.mp h32
      · by_cases cj2 : j < b1.toInt.toNat
        · rw [if_pos cj2, if_pos (by omega)]
        · rw [if_neg cj2, if_neg (by omega)]
    refine z_xP zt111 18 39 [some (.ref a0), some (.int b1), some (.int x20)] [.ref a0, .int x20, .int b1, .ref a0] rfl rfl ?_
    refine z_xgv zt111 19 rfl zo111 zzf3_39 X k0 (by decide) h6 ?_
    refine z_xgI zt111 20 rfl zo111 zzf3_56 X k8 (by decide) (by decide) rfl (fun (x36 : Int32) h35 (h37 : ((z_po q : Nat) : Int) - 1 ≤ x36.toInt) (h38 : x36.toInt ≤ ((z_po q : Nat) : Int) - 1) => ?_)
    refine z_xP zt111 21 47 [some (.ref a0), some (.int b1), some (.int x20)] [.int (-1), .int x20, .int x36, .int x20, .int b1, .ref a0] rfl rfl ?_
    refine z_xI zt111 22 rfl rfl (fun (x39 : Int32) (h39 : x39 = x20 ^^^ (-1 : Int32)) => ?_) rfl
    refine z_xI zt111 23 rfl rfl (fun (x41 : Int32) (h42 : x41 = x36 &&& x39) => ?_) rfl
    refine z_xcV (vs := [.ref a0, .int b1, .int x20, .int x41]) (r := []) (L2 := [some (.ref a0), some (.int b1), some (.int x20), some (.int x41), none, none, none, none]) zt111 24 rfl zo111 zzcV3_59 (Or.inl rfl) rfl X k0 rfl rfl rfl (Nat.le_of_ble_eq_true rfl) zzm54 (Nat.le_of_ble_eq_true rfl) rfl ?_
    have eA : x36 = A := by
      have e : z_po q = 2 ^ q := rfl
      refine Int32.toInt_inj.mp ?_
      rw [hA, ← e]
      omega
    refine zUC54 X.1 k0 (by omega) X.1 hbk hln hj4 (by omega) (fun M43 X44 ha43 hl43 => ?_)
    have X45 := X.go X44 (z_sb (by decide))
    show z_ev (d + 1) 111 52 [some (.ref a0), some (.int b1), some (.int x20)] [] M43 _
    refine z_xN zt111 25 rfl rfl (fun (x47 : Int32) (h48 : x47.toInt = b1.toInt + 1) => ?_) (z_pAdd rfl rfl (by omega) (by omega))
    show z_ev (d + 1) 111 55 [some (.ref a0), some (.int x47), some (.int x20)] [] M43 _
    refine z_xP zt111 26 2 [some (.ref a0), some (.int x47), some (.int x20)] [] rfl rfl ?_
    have es : x47.toInt.toNat = b1.toInt.toNat + 1 := by omega
    refine ih M43 x47 (some (.int x20)) X45 ⟨by omega, by omega⟩ (by omega) ((hS.al X44 ha43 hl43 e20 (by rw [h42, h39, eA])).C (fun _ _ => rfl) fun j hj => ?_) (by omega)
    (try dsimp only)
    rw [es]
    by_cases cj : j = b1.toInt.toNat
    · rw [if_pos cj, if_pos (by omega), cj]
    · rw [if_neg cj]
      by_cases cj2 : j < b1.toInt.toNat
      · rw [if_pos cj2, if_pos (by omega)]
      · rw [if_neg cj2, if_neg (by omega)]
theorem zUC111 {T : List zK} {d : Nat} {K : Option Value → zH → Prop} {a0 : Nat} {q : Nat} {t : Nat} {m : Nat} {M0 : zH} (hW : z_W M0 T) (k0 : T[a0]? = some (.inl (3, q, t, m, 5))) {N pr en sa n : Nat} {B F G : Nat → Nat} {S : Nat → Int32} {A : Int32} (hS : z_TSG T M0 a0 N q t m pr en sa n B F G S A) (hF : ∀ j, j < n → F j < m) (kk : ∀ (M1 : zH), z_X T zw111 M0 M1 → z_TSG T M1 a0 N q t m pr en sa n B F F S A → K none M1) : z_ev (d + 1) 111 0 [some (.ref a0), none, none] [] M0 K := by
  have X : z_X T zw111 M0 M0 := .refl hW
  have g0 := X.1.p3 k0
  refine z_xP zt111 0 2 [some (.ref a0), some (.int 0), none] [] rfl rfl ?_
  have q0 : ((0 : Int32)).toInt = 0 := rfl
  exact (zUB111 (G := G) k0 hF kk 12) M0 (0) none X (by decide) (by omega) (hS.C (fun _ _ => rfl) fun j _ => by rw [if_neg (show ¬ j < ((0 : Int32).toInt).toNat from Nat.not_lt_zero j)]) (by omega)
theorem zUB110 {T : List zK} {d : Nat} {K : Option Value → zH → Prop} {a0 : Nat} {q : Nat} {t : Nat} {m : Nat} {M0 : zH} (k0 : T[a0]? = some (.inl (3, q, t, m, 5))) {N pr en sa n : Nat} {B F : Nat → Nat} {S : Nat → Int32} {A : Int32} (hS0 : z_TSG T M0 a0 N q t m pr en sa n B F F S A) (hF : ∀ j, j < n → F j < m) (n1 : 1 ≤ n) (kk : ∀ (M1 : zH), z_X T zw110 M0 M1 → z_TSG T M1 a0 N q t m pr en sa n B (z_nxb m n F) (z_nxb m n F) S A → K none M1) : ∀ nn : Nat, (∀ (M : zH) (b1 : Int32) (b2 : Int32), z_X T zw110 M0 M → (-1) ≤ b1.toInt ∧ b1.toInt ≤ 1023 → (-1) ≤ b2.toInt ∧ b2.toInt ≤ 4 → b1.toInt = ((m : Nat) : Int) - 1 → b1.toInt = (m : Int) - 1 → b2.toInt < (n : Int) → M = M0 → (∀ i : Nat, b2.toInt < (i : Int) → i < n → ¬ F i + 1 < m) → ((0) * 3 + 1) * 6 + (b2.toInt - (-1)) < (nn : Int) → z_ev (d + 2) 110 18 [some (.ref a0), some (.int b1), some (.int b2), none, none] [] M K) ∧ (∀ (M : zH) (b1 : Int32) (b2 : Int32) (b3 : Int32) (b4 : Int32), z_X T zw110 M0 M → 1 ≤ b1.toInt ∧ b1.toInt ≤ 1023 → 0 ≤ b2.toInt ∧ b2.toInt ≤ 4 → 1 ≤ b3.toInt ∧ b3.toInt ≤ 1023 → 0 ≤ b4.toInt ∧ b4.toInt ≤ 5 → b3.toInt < ((m : Nat) : Int) → (0 ≤ b2.toInt ∧ b2.toInt ≤ b4.toInt ∧ b4.toInt ≤ (n : Int)) → z_rz m F n = b2.toInt.toNat + 1 → b3.toInt = (F b2.toInt.toNat : Int) + 1 → z_TSG T M a0 N q t m pr en sa n B (fun j => if b2.toInt.toNat ≤ j ∧ j < b4.toInt.toNat then F b2.toInt.toNat + 1 else F j) F S A → ((0) * 3 + 0) * 6 + (5 - b4.toInt) < (nn : Int) → z_ev (d + 2) 110 55 [some (.ref a0), some (.int b1), some (.int b2), some (.int b3), some (.int b4)] [] M K) := by
  intro nn
  induction nn with
  | zero => exact ⟨(by intros; exfalso; omega), (by intros; exfalso; omega)⟩
  | succ nn ih =>
    refine ⟨?_, ?_⟩
    · skip
      intro M b1 b2 X hh0 hh1 hh2 hb1 hb2 hM hr hE
      have hS := hS0
      rw [← hM] at hS
      obtain ⟨⟨hWM, hbk⟩, kb, ⟨hN0, hag⟩, ⟨hsa, ksa, hSS⟩, hA, ⟨n5, jv, hj4, ejv⟩, hnu, har, hln, hlz⟩ := id hS
      have g0 := X.1.p3 k0
      refine z_xP zt110 11 19 [some (.ref a0), some (.int b1), some (.int b2), none, none] [.int b2] rfl rfl ?_
      refine z_xZ zt110 12 rfl rfl (fun (h1 : b2.toInt < 0) => ?_) (fun (h1 : 0 ≤ b2.toInt) => ?_)
      · skip
        refine z_xP zt110 21 39 [some (.ref a0), some (.int b1), some (.int b2), none, none] [.int b2] rfl rfl ?_
        refine z_xZ zt110 22 rfl rfl (fun (h2 : 0 ≤ b2.toInt) => absurd h2 (by omega)) (fun (h2 : b2.toInt < 0) => ?_)
        exact z_xrv zt110 23 rfl zzr110 (kk M X (by
          have e0 : z_rz m F n = 0 := z_rz0 fun i hi => hr i (by omega) hi
          have e : z_nxb m n F = F := by
            funext i
            show (if z_rz m F n = 0 then F i else _) = F i
            rw [if_pos e0]
          rw [e]
          exact hS))
      refine z_xP zt110 13 23 [some (.ref a0), some (.int b1), some (.int b2), none, none] [.ref a0] rfl rfl ?_
      refine z_xgR (κ := .inr (210, 0, 5, 0, ((m : Nat) : Int) - 1)) zt110 14 rfl zo110 zzf3_33 X k0 (by decide) (by decide) rfl (fun (a4 : Nat) h3 k5 => ?_)
      refine z_xP zt110 15 27 [some (.ref a0), some (.int b1), some (.int b2), none, none] [.int b2, .ref a4] rfl rfl ?_
      refine z_xil zt110 16 rfl X k5 (by decide) (by omega) (by omega) (fun (x6 : Int32) h7 (h8 : 0 ≤ x6.toInt) (h9 : x6.toInt ≤ ((m : Nat) : Int) - 1) => ?_)
      have ia := z_rfe h3 (hbk _ _ _ _ _ k0).2.2.2.2.2.2.2.1
      have h7b := h7
      rw [ia] at h7b
      have e6 : x6.toInt = (F b2.toInt.toNat : Int) := (congrArg Int32.toInt h7b).symm.trans (hnu b2.toInt.toNat (by omega))
      refine z_xP zt110 17 29 [some (.ref a0), some (.int b1), some (.int b2), none, none] [.int b1, .int x6] rfl rfl ?_
      refine z_xJ zt110 18 rfl rfl (fun (h10 : x6.toInt < b1.toInt) => ?_) (fun (h10 : b1.toInt ≤ x6.toInt) => ?_)
      · skip
        refine z_xP zt110 21 39 [some (.ref a0), some (.int b1), some (.int b2), none, none] [.int b2] rfl rfl ?_
        refine z_xZ zt110 22 rfl rfl (fun (h11 : 0 ≤ b2.toInt) => ?_) (fun (h11 : b2.toInt < 0) => absurd h11 (by omega))
        refine z_xP zt110 24 44 [some (.ref a0), some (.int b1), some (.int b2), none, none] [.ref a0] rfl rfl ?_
        refine z_xgv zt110 25 rfl zo110 zzf3_33 X k0 (by decide) h3 ?_
        refine z_xP zt110 26 48 [some (.ref a0), some (.int b1), some (.int b2), none, none] [.int b2, .ref a4] rfl rfl ?_
        refine z_xil zt110 27 rfl X k5 (by decide) (by omega) (by omega) (fun (x12 : Int32) h13 (h14 : 0 ≤ x12.toInt) (h15 : x12.toInt ≤ ((m : Nat) : Int) - 1) => ?_)
        have h16 := congrArg Int32.toInt (h13.symm.trans h7)
        refine z_xP zt110 28 50 [some (.ref a0), some (.int b1), some (.int b2), none, none] [.int 1, .int x12] rfl rfl ?_
        refine z_xI zt110 29 rfl rfl (fun (x17 : Int32) (h18 : x17.toInt = x12.toInt + 1) => ?_) (z_pAdd rfl rfl (by omega) (by omega))
        refine z_xP zt110 30 55 [some (.ref a0), some (.int b1), some (.int b2), some (.int x17), some (.int b2)] [] rfl rfl ?_
        refine ih.2 M b1 b2 x17 b2 X ⟨by omega, by omega⟩ ⟨by omega, by omega⟩ ⟨by omega, by omega⟩ ⟨by omega, by omega⟩ (by omega) ⟨by omega, by omega, by omega⟩ (z_rzE (by omega) (by omega) fun i g1 g2 => hr i (by omega) g2) (by omega) (hS.C (fun j hj => ?_) fun _ _ => rfl) (by omega)
        (try dsimp only)
        rw [if_neg (by omega)]
      refine z_xN zt110 19 rfl rfl (fun (x19 : Int32) (h20 : x19.toInt = b2.toInt + (-1)) => ?_) (z_pAdd rfl rfl (by omega) (by omega))
      show z_ev (d + 2) 110 35 [some (.ref a0), some (.int b1), some (.int x19), none, none] [] M _
      refine z_xP zt110 20 18 [some (.ref a0), some (.int b1), some (.int x19), none, none] [] rfl rfl ?_
      refine ih.1 M b1 x19 X ⟨by omega, by omega⟩ ⟨by omega, by omega⟩ (by omega) hb1 (by omega) hM (fun i g1 g2 => ?_) (by omega)
      by_cases ci : i = b2.toInt.toNat
      · rw [ci]
        omega
      · exact hr i (by omega) g2
    · skip
      intro M b1 b2 b3 b4 X hh0 hh1 hh2 hh3 hh4 hb hz hv hS hE
      obtain ⟨⟨hWM, hbk⟩, kb, ⟨hN0, hag⟩, ⟨hsa, ksa, hSS⟩, hA, ⟨n5, jv, hj4, ejv⟩, hnu, har, hln, hlz⟩ := id hS
      have hrm := z_nxbR (m := m) (f := F) n (by omega)
      rw [hz, Nat.add_sub_cancel] at hrm
      have g0 := X.1.p3 k0
      refine z_xP zt110 31 58 [some (.ref a0), some (.int b1), some (.int b2), some (.int b3), some (.int b4)] [.ref a0, .int b4] rfl rfl ?_
      refine z_xgI zt110 32 rfl zo110 zzf3_53 X k0 (by decide) (by decide) rfl (fun (x2 : Int32) h1 (h3 : 0 ≤ x2.toInt) (h4 : x2.toInt ≤ (5 : Int)) => ?_)
      have e2 : x2.toInt = (n : Int) := by
        rw [z_ive h1 hj4]
        exact ejv
      refine z_xJ zt110 33 rfl rfl (fun (h5 : x2.toInt ≤ b4.toInt) => ?_) (fun (h5 : b4.toInt < x2.toInt) => ?_)
      · skip
        refine z_xP zt110 40 79 [some (.ref a0), some (.int b1), some (.int b2), some (.int b3), some (.int b4)] [.ref a0] rfl rfl ?_
        refine z_xcV (vs := [.ref a0]) (r := []) (L2 := [some (.ref a0), none, none]) zt110 41 rfl zo110 zzcV3_148 (Or.inl rfl) rfl X k0 rfl rfl rfl (Nat.le_of_ble_eq_true rfl) zzm111 (Nat.le_of_ble_eq_true rfl) rfl ?_
        have hS2 : z_TSG T M a0 N q t m pr en sa n B (z_nxb m n F) F S A := hS.C (fun j hj => by
          (try dsimp only)
          show _ = (if z_rz m F n = 0 then F j else if j + 1 < z_rz m F n then F j else F (z_rz m F n - 1) + 1)
          rw [hz, if_neg (Nat.succ_ne_zero _), Nat.add_sub_cancel]
          by_cases cj : j + 1 < b2.toInt.toNat + 1
          · rw [if_pos cj, if_neg (by omega)]
          · rw [if_neg cj, if_pos (by omega)]) fun _ _ => rfl
        refine zUC111 X.1 k0 hS2 (fun j hj => ?_) (fun M6 X7 hS6 => ?_)
        · show (if z_rz m F n = 0 then F j else if j + 1 < z_rz m F n then F j else F (z_rz m F n - 1) + 1) < m
          rw [hz, if_neg (Nat.succ_ne_zero _), Nat.add_sub_cancel]
          split
          · exact hF j hj
          · exact hrm
        have X8 := X.go X7 (z_sb (by decide))
        show z_ev (d + 2) 110 82 [some (.ref a0), some (.int b1), some (.int b2), some (.int b3), some (.int b4)] [] M6 _
        exact z_xrv zt110 42 rfl zzr110 (kk M6 X8 hS6)
      refine z_xP zt110 34 65 [some (.ref a0), some (.int b1), some (.int b2), some (.int b3), some (.int b4)] [.ref a0] rfl rfl ?_
      refine z_xgR (κ := .inr (210, 0, 5, 0, ((m : Nat) : Int) - 1)) zt110 35 rfl zo110 zzf3_33 X k0 (by decide) (by decide) rfl (fun (a11 : Nat) h10 k12 => ?_)
      refine z_xP zt110 36 71 [some (.ref a0), some (.int b1), some (.int b2), some (.int b3), some (.int b4)] [.int b3, .int b4, .ref a11] rfl rfl ?_
      refine z_xis zt110 37 rfl X k12 (by decide) (X.1.g4 k12 (by decide)) (by omega) (by omega) (by omega) (by omega) (by decide) (fun M13 X14 e15 h16 => ?_)
      refine z_xN zt110 38 rfl rfl (fun (x17 : Int32) (h18 : x17.toInt = b4.toInt + 1) => ?_) (z_pAdd rfl rfl (by omega) (by omega))
      show z_ev (d + 2) 110 75 [some (.ref a0), some (.int b1), some (.int b2), some (.int b3), some (.int x17)] [] M13 _
      refine z_xP zt110 39 55 [some (.ref a0), some (.int b1), some (.int b2), some (.int b3), some (.int x17)] [] rfl rfl ?_
      have ia := z_rfe h10 (hbk _ _ _ _ _ k0).2.2.2.2.2.2.2.1
      rw [ia] at h16
      have es : x17.toInt.toNat = b4.toInt.toNat + 1 := by omega
      refine ih.2 M13 b1 b2 b3 x17 X14 ⟨by omega, by omega⟩ ⟨by omega, by omega⟩ ⟨by omega, by omega⟩ ⟨by omega, by omega⟩ (by omega) ⟨by omega, by omega, by omega⟩ hz hv (hS.nu X14.1 e15 fun j hj => ?_) (by omega)
      (try dsimp only)
      rw [h16, es]
      show (if j = b4.toInt.toNat then b3 else z_Ar M (a0 + 8) j).toInt = _
      by_cases cj : j = b4.toInt.toNat
      · rw [if_pos cj, if_pos (by omega), hv]
        rfl
      · rw [if_neg cj, hnu j hj]
        (try dsimp only)
        by_cases cj2 : b2.toInt.toNat ≤ j ∧ j < b4.toInt.toNat
        · rw [if_pos cj2, if_pos (by omega)]
        · rw [if_neg cj2, if_neg (by omega)]
theorem zUC110 {T : List zK} {d : Nat} {K : Option Value → zH → Prop} {a0 : Nat} {q : Nat} {t : Nat} {m : Nat} {M0 : zH} (hW : z_W M0 T) (k0 : T[a0]? = some (.inl (3, q, t, m, 5))) {N pr en sa n : Nat} {B F : Nat → Nat} {S : Nat → Int32} {A : Int32} (hS : z_TSG T M0 a0 N q t m pr en sa n B F F S A) (hF : ∀ j, j < n → F j < m) (n1 : 1 ≤ n) (kk : ∀ (M1 : zH), z_X T zw110 M0 M1 → z_TSG T M1 a0 N q t m pr en sa n B (z_nxb m n F) (z_nxb m n F) S A → K none M1) : z_ev (d + 2) 110 0 [some (.ref a0), none, none, none, none] [] M0 K := by
  have X : z_X T zw110 M0 M0 := .refl hW
  have g0 := X.1.p3 k0
  obtain ⟨⟨hWM, hbk⟩, kb, ⟨hN0, hag⟩, ⟨hsa, ksa, hSS⟩, hA, ⟨n5, jv, hj4, ejv⟩, hnu, har, hln, hlz⟩ := id hS
  refine z_xP zt110 0 1 [some (.ref a0), none, none, none, none] [.ref a0] rfl rfl ?_
  refine z_xgR (κ := .inl (2, q, t, m, 0)) zt110 1 rfl zo110 zzf3_39 X k0 (by decide) (by decide) rfl (fun (a2 : Nat) h1 k3 => ?_)
  have g4 := X.1.p2 k3
  refine z_xgR (κ := .inr (102, 0, m, 0, 1023)) zt110 2 rfl zo110 zzf3_101 X k3 (by decide) (by decide) rfl (fun (a6 : Nat) h5 k7 => ?_)
  refine z_xln zt110 3 rfl X k7 (by decide) (by omega) (fun (x8 : Int32) (h9 : x8.toInt = ((m : Nat) : Int)) => ?_)
  refine z_xP zt110 4 9 [some (.ref a0), none, none, none, none] [.int 1, .int x8] rfl rfl ?_
  refine z_xI zt110 5 rfl rfl (fun (x10 : Int32) (h11 : x10.toInt = x8.toInt - 1) => ?_) (z_pSub rfl rfl (by omega) (by omega))
  refine z_xP zt110 6 12 [some (.ref a0), some (.int x10), none, none, none] [.ref a0] rfl rfl ?_
  refine z_xgI zt110 7 rfl zo110 zzf3_53 X k0 (by decide) (by decide) rfl (fun (x13 : Int32) h12 (h14 : 0 ≤ x13.toInt) (h15 : x13.toInt ≤ (5 : Int)) => ?_)
  refine z_xP zt110 8 16 [some (.ref a0), some (.int x10), none, none, none] [.int 1, .int x13] rfl rfl ?_
  refine z_xI zt110 9 rfl rfl (fun (x16 : Int32) (h17 : x16.toInt = x13.toInt - 1) => ?_) (z_pSub rfl rfl (by omega) (by omega))
  refine z_xP zt110 10 18 [some (.ref a0), some (.int x10), some (.int x16), none, none] [] rfl rfl ?_
  have e13 : x13.toInt = (n : Int) := by
    rw [z_ive h12 hj4]
    exact ejv
  exact (zUB110 k0 hS hF n1 kk 18).1 M0 x10 x16 X ⟨by omega, by omega⟩ ⟨by omega, by omega⟩ (by omega) (by omega) (by omega) rfl (fun i g1 g2 => by omega) (by omega)
