/-! over all benches, the class -/
section ZALLB
variable {T : List zK} {M M1 : zH} {b N q t m pr en sa n : Nat} {B F G : Nat → Nat} {S : Nat → Int32} {A : Int32} {rs : List Nat}
def z_tsr : List Nat := z_agf ++ z_bkf ++ [1300, 1304, 201, 202, 203, 205, 206, 207, 210]
theorem z_TSG.ke (h : z_TSG T M b N q t m pr en sa n B F G S A) (X : z_X T rs M M1) (hr : (z_tsr.all fun x => !rs.elem x) = true) : z_TSG T M1 b N q t m pr en sa n B F G S A := by
  obtain ⟨⟨hW, hbk⟩, kb, ⟨hN0, hag⟩, ⟨hsa, ksa, hSS⟩, hA, ⟨n5, jv, hj4, ejv⟩, hnu, har, hln, hlz⟩ := h
  have n0 := z_nin hr
  have sub : ∀ l : List Nat, (l.all fun x => z_tsr.elem x) = true → (l.all fun x => !rs.elem x) = true := fun l hl => List.all_eq_true.mpr fun x hx => List.all_eq_true.mp hr x (List.elem_iff.mp (List.all_eq_true.mp hl x hx))
  refine ⟨⟨X.1, hbk.ke X.2 (sub _ rfl)⟩, kb, ⟨X.2.f kb (n0 _ rfl) hN0, hag.ke (fun _ _ h => h) X.2 (sub _ rfl)⟩, ⟨X.2.f hag.1 (n0 _ rfl) hsa, ksa, fun k hk => (congrFun (X.2.a ksa (n0 _ rfl)) k).trans (hSS k hk)⟩, hA, ⟨n5, jv, X.2.f kb (n0 _ rfl) hj4, ejv⟩, fun j hj => ?_, fun j hj => ?_, hln.ke hbk hW kb X.2 (sub _ rfl), hlz.ke hbk hW kb X.2 (sub _ rfl)⟩
  · rw [X.2.a (hbk.k8 hW kb) (n0 _ rfl)]
    exact hnu j hj
  · rw [X.2.a (hbk.k1 hW kb) (n0 _ rfl), X.2.a (hbk.k2 hW kb) (n0 _ rfl), X.2.a (hbk.k3 hW kb) (n0 _ rfl)]
    exact har j hj
/-- a way has decided -/
theorem z_TSG.dc (h : z_TSG T M b N q t m pr en sa n B F G S A) (X : z_X T zwVdecide M M1) (hz : z_lz M1 b) : z_TSG T M1 b N q t m pr en sa n B F G S A := by
  obtain ⟨⟨hW, hbk⟩, kb, ⟨hN0, hag⟩, ⟨hsa, ksa, hSS⟩, hA, ⟨n5, jv, hj4, ejv⟩, hnu, har, hln, hlz⟩ := h
  refine ⟨⟨X.1, hbk.ke X.2 (by decide)⟩, kb, ⟨X.2.f kb (by decide) hN0, hag.ke (fun _ _ h => h) X.2 (by decide)⟩, ⟨X.2.f hag.1 (by decide) hsa, ksa, fun k hk => (congrFun (X.2.a ksa (by decide)) k).trans (hSS k hk)⟩, hA, ⟨n5, jv, X.2.f kb (by decide) hj4, ejv⟩, fun j hj => ?_, fun j hj => ?_, hln.ke hbk hW kb X.2 (by decide), hz⟩
  · rw [X.2.a (hbk.k8 hW kb) (by decide)]
    exact hnu j hj
  · rw [X.2.a (hbk.k1 hW kb) (by decide), X.2.a (hbk.k2 hW kb) (by decide), X.2.a (hbk.k3 hW kb) (by decide)]
    exact har j hj
def z_w1 : Nat → Int32 := fun _ => 1
def z_yS (S : Nat → Int32) (F : Nat → Nat) : Nat → Int32 := fun j => S (F j)
def z_nS (S : Nat → Int32) (A : Int32) (F : Nat → Nat) : Nat → Int32 := fun j => A &&& (S (F j) ^^^ (-1 : Int32))
theorem z_TSG.jok (h : z_TSG T M b N q t m pr en sa n B F F S A) (hF : ∀ j, j < n → F j < m) : ∀ j, j < n → z_jok q (z_w1 j) (z_yS S F j) (z_nS S A F j) := fun j hj => by
  obtain ⟨⟨hW, hbk⟩, kb, ⟨hN0, hag⟩, ⟨hsa, ksa, hSS⟩, hA, _⟩ := h
  have q10 : q ≤ 10 := by have := hW.p3 kb; omega
  have h1 := z_LSlt hag hsa (hF j hj)
  rw [hSS _ (hF j hj)] at h1
  exact ⟨z_ansNo hA q10 h1, show 1 ≤ (1 : Int32).toInt ∧ (1 : Int32).toInt ≤ 9 by decide⟩
/-- what decides on it -/
theorem z_TSG.dp {w : Nat} {sh ch : Int32} (h : z_TSG T M b N q t m pr en sa n B F F S A) (hF : ∀ j, j < n → F j < m) (hpe : pr < 1024 ∧ en < 1024) (fs : z_F M w 1 = some (.int sh)) (fc : z_F M w 2 = some (.int ch)) : ∃ jv : Int32, jv.toInt = (n : Int) ∧ z_DP T M w b N q t m 5 pr en B sh jv ch ∧ (∀ k : Nat, k < q → (z_Ar M (b + 4) k).toInt = z_LW z_w1 (z_yS S F) (z_nS S A F) n k) ∧ ∀ j, j < n → z_Ar M (b + 1) j = z_w1 j ∧ z_Ar M (b + 2) j = z_yS S F j ∧ z_Ar M (b + 3) j = z_nS S A F j := by
  have jok := h.jok hF
  obtain ⟨⟨hW, hbk⟩, kb, ⟨hN0, hag⟩, ⟨hsa, ksa, hSS⟩, hA, ⟨n5, jv, hj4, ejv⟩, hnu, har, hln, hlz⟩ := h
  have q10 : q ≤ 10 := by have := hW.p3 kb; omega
  have cj : ∀ j, j < n → z_Ar M (b + 1) j = z_w1 j ∧ z_Ar M (b + 2) j = z_yS S F j ∧ z_Ar M (b + 3) j = z_nS S A F j := har
  have hl := z_lnW hln hj4 ejv (by omega) q10 cj jok
  refine ⟨jv, ejv, ⟨⟨hW, hbk⟩, kb, hN0, hag, hpe, hlz, fun k hk => (hl k hk).2, ⟨hj4, by omega, fun j hj => ?_⟩, fs, fc⟩, fun k hk => (hl k hk).1, cj⟩
  obtain ⟨_, u2, u3⟩ := cj j (by omega)
  rw [u2, u3]
  exact (jok j (by omega)).1
/-- the outcome of a way at a bench -/
def z_oF (c : Nat) (B : Nat → Nat) (q pr en sh ch m n : Nat) (S : Nat → Int32) (A : Int32) (k y u : Nat) : Prop := z_oJ c B q pr en sh n ch z_w1 (z_yS S (z_bk m n k)) (z_nS S A (z_bk m n k)) y u
def z_pUn (c : Nat) (B : Nat → Nat) (q pr en sh ch m n : Nat) (S : Nat → Int32) (A : Int32) (k : Nat) : Prop := ∃ y u, z_oF c B q pr en sh ch m n S A k y u ∧ ¬ z_cs B q y u
end ZALLB
theorem zUB107 {T : List zK} {d : Nat} {K : Option Value → zH → Prop} {a0 : Nat} {ci : Nat} {a1 : Nat} {q1 : Nat} {t1 : Nat} {m1 : Nat} {p2 : Int32} {p3 : Int32} {M0 : zH} (w0 : 4 ≤ ci ∧ ci ≤ 11) (k0 : T[a0]? = some (.inl (ci, 0, 0, 0, 0))) (k1 : T[a1]? = some (.inl (3, q1, t1, m1, 5))) (u2 : 1 ≤ p2.toInt ∧ p2.toInt ≤ 5) (u3 : 0 ≤ p3.toInt ∧ p3.toInt ≤ 1) {N pr en sa : Nat} {B : Nat → Nat} {S : Nat → Int32} {A sh ch : Int32} (hpe : pr < 1024 ∧ en < 1024) (fs : z_F M0 a0 1 = some (.int sh)) (fc : z_F M0 a0 2 = some (.int ch)) (m12 : 1 ≤ m1 ∧ m1 ≤ 12) (kk : ∀ (x : Int32) (M1 : zH), z_X T zw107 M0 M1 → z_kA (z_pUn ci B q1 pr en sh.toInt.toNat ch.toInt.toNat m1 p2.toInt.toNat S A) (fun k => (z_cdB (z_bk m1 p2.toInt.toNat k) p2.toInt.toNat : Int)) (z_T m1 p2.toInt.toNat) p3.toInt x.toInt → z_lz M1 a1 → K (some (.int x)) M1) : ∀ nn : Nat, (∀ (M : zH) (b4 : Int32) (b5 : Int32) (b6 : Int32), z_X T zw107 M0 M → 0 ≤ b5.toInt ∧ b5.toInt ≤ 4368 → 0 ≤ b6.toInt ∧ b6.toInt ≤ 8191 → b5.toInt = (z_T m1 p2.toInt.toNat : Int) → b6.toInt ≤ b5.toInt → z_TSG T M a1 N q1 t1 m1 pr en sa p2.toInt.toNat B (z_bk m1 p2.toInt.toNat b6.toInt.toNat) (z_bk m1 p2.toInt.toNat b6.toInt.toNat) S A → (∃ (cc : Nat) (yy : Int), z_kr (z_pUn ci B q1 pr en sh.toInt.toNat ch.toInt.toNat m1 p2.toInt.toNat S A) (fun k => (z_cdB (z_bk m1 p2.toInt.toNat k) p2.toInt.toNat : Int)) b6.toInt.toNat cc yy ∧ (p3.toInt = 0 → b4.toInt = (cc : Int)) ∧ (p3.toInt ≠ 0 → cc = 0)) → ((0) * 2 + 0) * 8192 + (8191 - b6.toInt) < (nn : Int) → z_ev (d + 4) 107 13 [some (.ref a0), some (.ref a1), some (.int p2), some (.int p3), some (.int b4), some (.int b5), some (.int b6)] [] M K) := by
  intro nn
  induction nn with
  | zero => exact by intros; exfalso; omega
  | succ nn ih =>
    intro M b4 b5 b6 X hh0 hh1 hb5 hb6 hS hI hE
    obtain ⟨cc, yy, hK, hk0, hk1⟩ := hI
    obtain ⟨⟨hWM, hbk⟩, kb, ⟨hN0, hag⟩, ⟨hsa, ksa, hSS⟩, hA, ⟨n5, jv4, hj4, ejv4⟩, hnu, har, hln, hlz⟩ := id hS
    have hFb : ∀ j, j < p2.toInt.toNat → z_bk m1 p2.toInt.toNat b6.toInt.toNat j < m1 := fun j _ => z_bkB m12.1 _ j
    have g1 := X.1.p3 k1
    refine z_xP zt107 3 17 [some (.ref a0), some (.ref a1), some (.int p2), some (.int p3), some (.int b4), some (.int b5), some (.int b6)] [.int b5, .int b6] rfl rfl ?_
    refine z_xJ zt107 4 rfl rfl (fun (h1 : b5.toInt ≤ b6.toInt) => ?_) (fun (h1 : b6.toInt < b5.toInt) => ?_)
    · skip
      refine z_xP zt107 21 58 [some (.ref a0), some (.ref a1), some (.int p2), some (.int p3), some (.int b4), some (.int b5), some (.int b6)] [.int p3] rfl rfl ?_
      refine z_xZ zt107 22 rfl rfl (fun (h2 : p3.toInt = 0) => ?_) (fun (h2 : p3.toInt ≠ 0) => ?_)
      · skip
        refine z_xP zt107 24 68 [some (.ref a0), some (.ref a1), some (.int p2), some (.int p3), some (.int b4), some (.int b5), some (.int b6)] [.int b4] rfl rfl ?_
        exact z_xri zt107 25 rfl zzr107 (kk b4 M X ⟨cc, yy, by rw [show z_T m1 p2.toInt.toNat = b6.toInt.toNat by omega]; exact hK, Or.inl ⟨h2, hk0 h2⟩⟩ hlz)
      refine z_xP zt107 23 68 [some (.ref a0), some (.ref a1), some (.int p2), some (.int p3), some (.int b4), some (.int b5), some (.int b6)] [.int (-2)] rfl rfl ?_
      have qm2 : (((-2) : Int32)).toInt = (-2) := rfl
      exact z_xri zt107 25 rfl zzr107 (kk (-2) M X ⟨cc, yy, by rw [show z_T m1 p2.toInt.toNat = b6.toInt.toNat by omega]; exact hK, Or.inr ⟨h2, (z_kr0 hK (hk1 h2)).symm⟩⟩ hlz)
    refine z_xP zt107 5 21 [some (.ref a0), some (.ref a1), some (.int p2), some (.int p3), some (.int b4), some (.int b5), some (.int b6)] [.ref a1] rfl rfl ?_
    refine z_xgR (κ := .inl (2, q1, t1, m1, 0)) zt107 6 rfl zo107 zzf4_50 X k1 (by decide) (by decide) rfl (fun (a4 : Nat) h3 k5 => ?_)
    have g6 := X.1.p2 k5
    refine z_xP zt107 7 26 [some (.ref a0), some (.ref a1), some (.int p2), some (.int p3), some (.int b4), some (.int b5), some (.int b6)] [.ref a1, .ref a0, .ref a4] rfl rfl ?_
    have hw : ∀ k, k < 4 → ¬ (1000 + 100 * ci + k) ∈ zw107 := fun k hk hm => by
      have h : ∀ x ∈ zw107, x < 1400 := by decide
      have := h _ hm
      omega
    obtain ⟨jv, ejv, hD, hLL, hcj⟩ := hS.dp hFb hpe (X.2.f k0 (hw 1 (by decide)) fs) (X.2.f k0 (hw 2 (by decide)) fc)
    refine zWdecide zt107 8 rfl zo107 zzcV4_54 X k0 w0 (Nat.le_of_ble_eq_true rfl) hD (fun x9 M7 X8 hdq hlz7 _ => ?_)
    have q1b : 1 ≤ q1 ∧ q1 ≤ 10 := by omega
    have hoJ := z_oJdq ejv hcj hLL hdq
    have hdl := z_outL hdq.2 q1b.1
    have hb9 := hdq.1
    have hS7 := hS.dc X8 hlz7
    have X10 := X.go X8 (z_sb (by decide))
    show z_ev (d + 4) 107 29 [some (.ref a0), some (.ref a1), some (.int p2), some (.int p3), some (.int b4), some (.int b5), some (.int b6)] [.int x9, .ref a4] M7 _
    refine z_xcV (vs := [.ref a4, .int x9]) (r := []) (L2 := [some (.ref a4), some (.int x9), none]) zt107 9 rfl zo107 zzcV4_58 (Or.inl rfl) rfl X10 k5 rfl rfl rfl (Nat.le_of_ble_eq_true rfl) zzm44 (Nat.le_of_ble_eq_true rfl) rfl ?_
    have ia4 := z_rfe h3 hN0
    rw [ia4] at k5 ⊢
    refine zUC44 (uy := x9.toInt.toNat % 1024) (un := x9.toInt.toNat / 1024) X10.1 k5 hS7.2.2.1.2 ⟨by omega, by omega, by omega⟩ hdl (fun x14 M12 X13 h15 h16 h14 => ?_)
    have hS12 := hS7.ke X13 (by decide)
    have hP : (z_pUn ci B q1 pr en sh.toInt.toNat ch.toInt.toNat m1 p2.toInt.toNat S A) b6.toInt.toNat ↔ x14.toInt = 0 := by
      constructor
      · rintro ⟨y, u, g1, g2⟩
        obtain ⟨rfl, rfl⟩ := z_oJU g1 hoJ q1b.1
        rcases h14 with ⟨g3, g4⟩ | ⟨g3, g4⟩
        · exact absurd g4 g2
        · exact g3
      · intro g3
        rcases h14 with ⟨g4, _⟩ | ⟨_, g4⟩
        · omega
        · exact ⟨_, _, hoJ, g4⟩
    have X17 := X10.go X13 (z_sb (by decide))
    show z_ev (d + 4) 107 32 [some (.ref a0), some (.ref a1), some (.int p2), some (.int p3), some (.int b4), some (.int b5), some (.int b6)] [.int x14] M12 _
    refine z_xZ zt107 10 rfl rfl (fun (h19 : x14.toInt ≠ 0) => ?_) (fun (h19 : x14.toInt = 0) => ?_)
    · skip
      refine z_xP zt107 17 48 [some (.ref a0), some (.ref a1), some (.int p2), some (.int p3), some (.int b4), some (.int b5), some (.int b6)] [.ref a1] rfl rfl ?_
      refine z_xcV (vs := [.ref a1]) (r := []) (L2 := [some (.ref a1), none, none, none, none]) zt107 18 rfl zo107 zzcV4_68 (Or.inl rfl) rfl X17 k1 rfl rfl rfl (Nat.le_of_ble_eq_true rfl) zzm110 (Nat.le_of_ble_eq_true rfl) rfl ?_
      refine zUC110 X17.1 k1 hS12 hFb (by omega) (fun M20 X21 hS20 => ?_)
      have X22 := X17.go X21 (z_sb (by decide))
      show z_ev (d + 4) 107 51 [some (.ref a0), some (.ref a1), some (.int p2), some (.int p3), some (.int b4), some (.int b5), some (.int b6)] [] M20 _
      refine z_xN zt107 19 rfl rfl (fun (x24 : Int32) (h25 : x24.toInt = b6.toInt + 1) => ?_) (z_pAdd rfl rfl (by omega) (by omega))
      show z_ev (d + 4) 107 54 [some (.ref a0), some (.ref a1), some (.int p2), some (.int p3), some (.int b4), some (.int b5), some (.int x24)] [] M20 _
      refine z_xP zt107 20 13 [some (.ref a0), some (.ref a1), some (.int p2), some (.int p3), some (.int b4), some (.int b5), some (.int x24)] [] rfl rfl ?_
      have es : x24.toInt.toNat = b6.toInt.toNat + 1 := by omega
      exact ih M20 b4 b5 x24 X22 ⟨by omega, by omega⟩ ⟨by omega, by omega⟩ hb5 (by omega) (by rw [es]; exact hS20) ⟨cc, yy, by rw [es]; exact z_krN hK (fun g => h19 (hP.mp g)), hk0, hk1⟩ (by omega)
    refine z_xP zt107 11 36 [some (.ref a0), some (.ref a1), some (.int p2), some (.int p3), some (.int b4), some (.int b5), some (.int b6)] [.int p3] rfl rfl ?_
    refine z_xZ zt107 12 rfl rfl (fun (h26 : p3.toInt = 0) => ?_) (fun (h26 : p3.toInt ≠ 0) => ?_)
    · skip
      have h27 := z_b32 b4
      have hcM := z_krM hK
      have hc0 := hk0 h26
      refine z_xN zt107 16 rfl rfl (fun (x28 : Int32) (h29 : x28.toInt = b4.toInt + 1) => ?_) (z_pAdd rfl rfl (by omega) (by omega))
      show z_ev (d + 4) 107 47 [some (.ref a0), some (.ref a1), some (.int p2), some (.int p3), some (.int x28), some (.int b5), some (.int b6)] [] M12 _
      refine z_xP zt107 17 48 [some (.ref a0), some (.ref a1), some (.int p2), some (.int p3), some (.int x28), some (.int b5), some (.int b6)] [.ref a1] rfl rfl ?_
      refine z_xcV (vs := [.ref a1]) (r := []) (L2 := [some (.ref a1), none, none, none, none]) zt107 18 rfl zo107 zzcV4_68 (Or.inl rfl) rfl X17 k1 rfl rfl rfl (Nat.le_of_ble_eq_true rfl) zzm110 (Nat.le_of_ble_eq_true rfl) rfl ?_
      refine zUC110 X17.1 k1 hS12 hFb (by omega) (fun M30 X31 hS20 => ?_)
      have X32 := X17.go X31 (z_sb (by decide))
      show z_ev (d + 4) 107 51 [some (.ref a0), some (.ref a1), some (.int p2), some (.int p3), some (.int x28), some (.int b5), some (.int b6)] [] M30 _
      refine z_xN zt107 19 rfl rfl (fun (x34 : Int32) (h35 : x34.toInt = b6.toInt + 1) => ?_) (z_pAdd rfl rfl (by omega) (by omega))
      show z_ev (d + 4) 107 54 [some (.ref a0), some (.ref a1), some (.int p2), some (.int p3), some (.int x28), some (.int b5), some (.int x34)] [] M30 _
      refine z_xP zt107 20 13 [some (.ref a0), some (.ref a1), some (.int p2), some (.int p3), some (.int x28), some (.int b5), some (.int x34)] [] rfl rfl ?_
      have es : x34.toInt.toNat = b6.toInt.toNat + 1 := by omega
      exact ih M30 x28 b5 x34 X32 ⟨by omega, by omega⟩ ⟨by omega, by omega⟩ hb5 (by omega) (by rw [es]; exact hS20) ⟨cc + 1, _, by rw [es]; exact z_krS hK (hP.mpr h19), fun _ => by omega, fun g => absurd h26 g⟩ (by omega)
    refine z_xP zt107 13 40 [some (.ref a0), some (.ref a1), some (.int p2), some (.int p3), some (.int b4), some (.int b5), some (.int b6)] [.ref a1] rfl rfl ?_
    refine z_xcV (vs := [.ref a1]) (r := []) (L2 := [some (.ref a1), none, none]) zt107 14 rfl zo107 zzcV4_64 (Or.inl rfl) rfl X17 k1 rfl rfl rfl (Nat.le_of_ble_eq_true rfl) zzm109 (Nat.le_of_ble_eq_true rfl) rfl ?_
    refine zUC109 X17.1 k1 hS12 (fun j hj => by have := hFb j hj; omega) (fun x38 M36 X37 h38 => ?_)
    have X41 := X17.go X37 (z_sb (by decide))
    show z_ev (d + 4) 107 43 [some (.ref a0), some (.ref a1), some (.int p2), some (.int p3), some (.int b4), some (.int b5), some (.int b6)] [.int x38] M36 _
    exact z_xri zt107 15 rfl zzr107 (kk x38 M36 X41 (by
      rw [hk1 h26] at hK
      obtain ⟨c2, g⟩ := z_krF hK (hP.mpr h19) (K := z_T m1 p2.toInt.toNat) (by omega)
      exact ⟨c2, _, g, Or.inr ⟨h26, h38⟩⟩) (hS12.ke X37 (by decide)).2.2.2.2.2.2.2.2.2)
theorem zUC107 {T : List zK} {d : Nat} {K : Option Value → zH → Prop} {a0 : Nat} {ci : Nat} {a1 : Nat} {q1 : Nat} {t1 : Nat} {m1 : Nat} {p2 : Int32} {p3 : Int32} {M0 : zH} (hW : z_W M0 T) (w0 : 4 ≤ ci ∧ ci ≤ 11) (k0 : T[a0]? = some (.inl (ci, 0, 0, 0, 0))) (k1 : T[a1]? = some (.inl (3, q1, t1, m1, 5))) (u2 : 1 ≤ p2.toInt ∧ p2.toInt ≤ 5) (u3 : 0 ≤ p3.toInt ∧ p3.toInt ≤ 1) {N pr en sa : Nat} {B : Nat → Nat} {S : Nat → Int32} {A sh ch : Int32} (hbk : z_blk T M0) (hN0 : z_F M0 a1 0 = some (.ref N)) (hag : z_AGO T M0 N q1 t1 m1 pr en B) (hsa : z_F M0 N 5 = some (.ref sa)) (ksa : T[sa]? = some (.inr (102, 0, m1, 0, 1023))) (hSS : ∀ k, k < m1 → z_Ar M0 sa k = S k) (hA : A.toInt = ((2 ^ q1 : Nat) : Int) - 1) (hlz : z_lz M0 a1) (hch : z_chO M0) (hpe : pr < 1024 ∧ en < 1024) (fs : z_F M0 a0 1 = some (.int sh)) (fc : z_F M0 a0 2 = some (.int ch)) (m12 : 1 ≤ m1 ∧ m1 ≤ 12) (kk : ∀ (x : Int32) (M1 : zH), z_X T zw107 M0 M1 → z_kA (z_pUn ci B q1 pr en sh.toInt.toNat ch.toInt.toNat m1 p2.toInt.toNat S A) (fun k => (z_cdB (z_bk m1 p2.toInt.toNat k) p2.toInt.toNat : Int)) (z_T m1 p2.toInt.toNat) p3.toInt x.toInt → z_lz M1 a1 → K (some (.int x)) M1) : z_ev (d + 4) 107 0 [some (.ref a0), some (.ref a1), some (.int p2), some (.int p3), none, none, none] [] M0 K := by
  have X : z_X T zw107 M0 M0 := .refl hW
  have g1 := X.1.p3 k1
  refine z_xP zt107 0 5 [some (.ref a0), some (.ref a1), some (.int p2), some (.int p3), some (.int 0), none, none] [.int p2, .ref a1] rfl rfl ?_
  refine z_xcV (vs := [.ref a1, .int p2]) (r := []) (L2 := [some (.ref a1), some (.int p2), none]) zt107 1 rfl zo107 zzcV4_45 (Or.inl rfl) rfl X k1 rfl rfl rfl (Nat.le_of_ble_eq_true rfl) zzm108 (Nat.le_of_ble_eq_true rfl) rfl ?_
  refine zUC108 X.1 k1 (by omega) hbk hN0 hag hsa ksa hSS hA hlz hch m12 (fun x11 M5 X6 h12 hS5 => ?_)
  have hTb := z_Tb m1 (by omega) p2.toInt.toNat (by omega)
  have X14 := X.go X6 (z_sb (by decide))
  show z_ev (d + 4) 107 8 [some (.ref a0), some (.ref a1), some (.int p2), some (.int p3), some (.int 0), none, none] [.int x11] M5 _
  refine z_xP zt107 2 13 [some (.ref a0), some (.ref a1), some (.int p2), some (.int p3), some (.int 0), some (.int x11), some (.int 0)] [] rfl rfl ?_
  have q0 : ((0 : Int32)).toInt = 0 := rfl
  exact (zUB107 w0 k0 k1 u2 u3 hpe fs fc m12 kk 16384) M5 (0) x11 (0) X14 ⟨by omega, by omega⟩ (by decide) h12 (by omega) hS5 ⟨0, -2, ⟨rfl, rfl⟩, fun _ => rfl, fun _ => rfl⟩ (by omega)
