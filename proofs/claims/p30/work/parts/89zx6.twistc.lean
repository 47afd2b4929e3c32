/-! twist of the class, told -/
theorem z_lnW {M : zH} {b q J : Nat} {jv : Int32} {ww yy nn : Nat → Int32} (hln : z_LN M b q) (fj : z_F M b 4 = some (.int jv)) (ej : jv.toInt = (J : Int)) (J9 : J ≤ 9) (q10 : q ≤ 10) (cj : ∀ j, j < J → z_Ar M (b + 1) j = ww j ∧ z_Ar M (b + 2) j = yy j ∧ z_Ar M (b + 3) j = nn j) (jok : ∀ j, j < J → z_jok q (ww j) (yy j) (nn j)) : ∀ k : Nat, k < q → (z_Ar M (b + 4) k).toInt = z_LW ww yy nn J k ∧ -81 ≤ (z_Ar M (b + 4) k).toInt ∧ (z_Ar M (b + 4) k).toInt ≤ 81 := fun k hk => by
  have ok := z_jokJ q10 jok
  obtain ⟨jv2, fj2, j9, hL⟩ := hln
  have ejv := z_ivL fj fj2
  rw [← ejv] at j9 hL
  have eJ : jv.toInt.toNat = J := by omega
  rw [eJ] at hL
  have e := z_ofN k (by omega)
  have h1 := hL (Int32.ofNat k) (by omega) (by omega)
  have h2 : (Int32.ofNat k).toNatClampNeg = k := by
    show (Int32.ofNat k).toInt.toNat = k
    omega
  rw [h2] at h1
  have h3 : z_lj (z_Ar M (b + 1)) (z_Ar M (b + 2)) (z_Ar M (b + 3)) (Int32.ofNat k) J = z_lj ww yy nn (Int32.ofNat k) J := z_ljC fun j hj => cj j hj
  have h4 := z_ljI (k := Int32.ofNat k) (by omega) J J9 ok
  have h5 := z_ljV (k := Int32.ofNat k) (by omega) J9 ok
  rw [h3] at h1
  rw [h1]
  exact ⟨h5, by omega, by omega⟩
/-- the bench with other answers: to decide for, and what its lean says -/
theorem z_DPalt {T : List zK} {M0 M : zH} {w c b N q t m J1 pr en J : Nat} {B : Nat → Nat} {sh jv ch : Int32} {ww yy nn : Nat → Int32} {rs : List Nat} (hD : z_DP T M0 w b N q t m J1 pr en B sh jv ch) (kw : T[w]? = some (.inl (c, 0, 0, 0, 0))) (hc : 4 ≤ c ∧ c ≤ 11) (X : z_X T rs M0 M) (hr : ((z_agf ++ z_bkf ++ [201, 1304, 1300]).all fun x => !rs.elem x) = true) (hr2 : ∀ x ∈ rs, x < 1400 ∨ 2104 ≤ x) (ej : jv.toInt = (J : Int)) (J9 : J ≤ 9) (hln : z_LN M b q) (hlz : z_lz M b) (cj : ∀ j, j < J → z_Ar M (b + 1) j = ww j ∧ z_Ar M (b + 2) j = yy j ∧ z_Ar M (b + 3) j = nn j) (jok : ∀ j, j < J → z_jok q (ww j) (yy j) (nn j)) : z_DP T M w b N q t m J1 pr en B sh jv ch ∧ ∀ k : Nat, k < q → (z_Ar M (b + 4) k).toInt = z_LW ww yy nn J k := by
  obtain ⟨⟨hW, hbk⟩, k1, hN, hag, hpe, _, _, ⟨fj, jb, _⟩, fs, fc⟩ := hD
  have sub : ∀ l : List Nat, (l.all fun x => (z_agf ++ z_bkf ++ [201, 1304, 1300]).elem x) = true → (l.all fun x => !rs.elem x) = true := fun l hl => List.all_eq_true.mpr fun x hx => List.all_eq_true.mp hr x (List.elem_iff.mp (List.all_eq_true.mp hl x hx))
  have n0 := z_nin hr
  have hcc : ∀ k, k < 4 → ¬ (1000 + 100 * c + k) ∈ rs := fun k hk hm => by
    have := hr2 _ hm
    omega
  have q10 : q ≤ 10 := by have := hW.p3 k1; omega
  have fj1 := X.2.f k1 (n0 _ rfl) fj
  have hl := z_lnW hln fj1 ej J9 q10 cj jok
  refine ⟨⟨⟨X.1, hbk.ke X.2 (sub _ rfl)⟩, k1, X.2.f k1 (n0 _ rfl) hN, hag.ke (fun _ _ h => h) X.2 (sub _ rfl), hpe, hlz, fun k hk => (hl k hk).2, ⟨fj1, jb, fun j hj => ?_⟩, X.2.f kw (hcc 1 (by decide)) fs, X.2.f kw (hcc 2 (by decide)) fc⟩, fun k hk => (hl k hk).1⟩
  obtain ⟨_, u2, u3⟩ := cj j (by omega)
  rw [u2, u3]
  exact (jok j (by omega)).1
theorem z_oJdq {M : zH} {b q pr en J c sh ch : Nat} {B : Nat → Nat} {jv : Int32} {ww yy nn : Nat → Int32} {x : Int} (ej : jv.toInt = (J : Int)) (cj : ∀ j, j < J → z_Ar M (b + 1) j = ww j ∧ z_Ar M (b + 2) j = yy j ∧ z_Ar M (b + 3) j = nn j) (hL : ∀ k : Nat, k < q → (z_Ar M (b + 4) k).toInt = z_LW ww yy nn J k) (h : z_dq c M b B q pr en sh jv.toInt.toNat ch x) : z_oJ c B q pr en sh J ch ww yy nn (x.toNat % 1024) (x.toNat / 1024) := by
  have eJ : jv.toInt.toNat = J := by omega
  rw [eJ] at h
  exact ⟨_, _, _, fun k hk => hL k hk, fun j hj => ⟨by rw [(cj j hj).2.1], by rw [(cj j hj).2.2]⟩, h.2⟩
/-- the arrays of a bench one of whose judges is altered -/
theorem z_altJ {M0 M M1 : zH} {b J : Nat} {j Y N : Int32} {ww yy nn : Nat → Int32} (hcb : ∀ i, i < J → z_Ar M0 (b + 1) i = ww i ∧ z_Ar M0 (b + 2) i = yy i ∧ z_Ar M0 (b + 3) i = nn i) (h1 : z_Ar M1 (b + 1) = z_Ar M0 (b + 1)) (hE : ∀ i : Nat, i ≠ j.toNatClampNeg → z_Ar M (b + 2) i = z_Ar M0 (b + 2) i ∧ z_Ar M (b + 3) i = z_Ar M0 (b + 3) i) (ha : z_alt M M1 b j Y N) : ∀ i, i < J → z_Ar M1 (b + 1) i = ww i ∧ z_Ar M1 (b + 2) i = z_set1 yy j.toInt.toNat Y i ∧ z_Ar M1 (b + 3) i = z_set1 nn j.toInt.toNat N i := fun i hi => by
  obtain ⟨c1, c2, c3⟩ := hcb i hi
  refine ⟨by rw [h1]; exact c1, ?_⟩
  show _ = (if i = j.toInt.toNat then Y else yy i) ∧ _ = (if i = j.toInt.toNat then N else nn i)
  by_cases c : i = j.toNatClampNeg
  · have c4 : i = j.toInt.toNat := c
    rw [if_pos c4, if_pos c4, c]
    exact z_alt.eq ha
  · have c4 : ¬ i = j.toInt.toNat := c
    rw [if_neg c4, if_neg c4]
    obtain ⟨e1, e2⟩ := z_alt.ne ha c
    obtain ⟨e3, e4⟩ := hE i c
    exact ⟨(e1.trans e3).trans c2, (e2.trans e4).trans c3⟩
theorem zUB118 {T : List zK} {d : Nat} {K : Option Value → zH → Prop} {a0 ci a1 N q1 t1 m1 J1 pr en J sa : Nat} {B : Nat → Nat} {sh jv ch : Int32} {ww yy nn : Nat → Int32} {p2 : Int32} {M0 : zH} (w0 : 4 ≤ ci ∧ ci ≤ 11) (k0 : T[a0]? = some (.inl (ci, 0, 0, 0, 0))) (u2 : 0 ≤ p2.toInt ∧ p2.toInt ≤ 8) (hD : z_DP T M0 a0 a1 N q1 t1 m1 J1 pr en B sh jv ch) (ej : jv.toInt = (J : Int)) (J9 : J ≤ 9) (hcb : z_CB M0 a1 J ww yy nn) (jok : ∀ j, j < J → z_jok q1 (ww j) (yy j) (nn j)) (hj : p2.toInt < jv.toInt) (hsa : z_F M0 N 5 = some (.ref sa)) {f0 : Nat} (kk : ∀ (x : Int32) (M1 : zH), z_X T zw118 M0 M1 → z_tw M0 M1 a1 p2 q1 → z_LN M1 a1 q1 → z_lz M1 a1 → (∃ mo, z_bsI (z_lkJ ci B q1 pr en sh.toInt.toNat J ch.toInt.toNat ww yy nn p2.toInt.toNat (yy p2.toInt.toNat).toInt.toNat) (fun k => (z_Ar M0 sa k).toInt.toNat) f0 m1 mo x.toInt) → K (some (.int x)) M1) : ∀ n : Nat, (∀ (M : zH) (r3 : Nat) (b4 : Int32) (b5 : Int32) (b6 : Int32) (b7 : Int32) (b8 : Int32) (o9 : Option Value) (o10 : Option Value), z_X T zw118 M0 M → T[r3]? = some (.inl (2, q1, t1, m1, 0)) → r3 = N → 0 ≤ b6.toInt ∧ b6.toInt ≤ 63 → (-2) ≤ b7.toInt ∧ b7.toInt ≤ 1023 → 0 ≤ b8.toInt ∧ b8.toInt ≤ 1024 → b8.toInt ≤ (m1 : Int) → (∀ i : Nat, i ≠ p2.toNatClampNeg → z_Ar M (a1 + 2) i = z_Ar M0 (a1 + 2) i ∧ z_Ar M (a1 + 3) i = z_Ar M0 (a1 + 3) i) → z_Ar M0 (a1 + 2) p2.toNatClampNeg = b4 → z_w2 (fun k => (yy p2.toInt.toNat).toInt.toNat / 2 ^ k % 2 = 1) (fun k => ¬ (yy p2.toInt.toNat).toInt.toNat / 2 ^ k % 2 = 1) q1 b5.toInt → z_LN M a1 q1 → z_lz M a1 → z_bsI (z_lkJ ci B q1 pr en sh.toInt.toNat J ch.toInt.toNat ww yy nn p2.toInt.toNat (yy p2.toInt.toNat).toInt.toNat) (fun k => (z_Ar M0 sa k).toInt.toNat) f0 b8.toInt.toNat b6.toInt.toNat b7.toInt → ((0) * 2 + 0) * 1025 + (1024 - b8.toInt) < (n : Int) → z_ev (d + 4) 118 41 [some (.ref a0), some (.ref a1), some (.int p2), some (.ref r3), some (.int b4), some (.int b5), some (.int b6), some (.int b7), some (.int b8), o9, o10] [] M K) := by
  intro n
  induction n with
  | zero => exact by intros; exfalso; omega
  | succ n ih =>
    intro M r3 b4 b5 b6 b7 b8 o9 o10 X hk3 er3 hh1 hh2 hh3 hm3 hEo hO hmi hln hlz hbs hE
    obtain ⟨⟨hW0, hbk⟩, k1, hN0, hag, hpe, _, _, ⟨fj, jb, hans⟩, fs, fc⟩ := id hD
    have g1 := X.1.p3 k1
    have hg3 := X.1.p2 hk3
    have q1b : 1 ≤ q1 ∧ q1 ≤ 10 := by omega
    have hz1 : z_W M T := X.1
    have hjJ : p2.toInt.toNat < J := by omega
    have hy0 := (jok _ hjJ).1.1
    have fjM := X.2.f k1 (by decide) fj
    have hkb := hbk.ke X.2 (by decide)
    refine z_xP zt118 14 44 [some (.ref a0), some (.ref a1), some (.int p2), some (.ref r3), some (.int b4), some (.int b5), some (.int b6), some (.int b7), some (.int b8), o9, o10] [.ref r3, .int b8] rfl rfl ?_
    refine z_xgR (κ := .inr (102, 0, m1, 0, 1023)) zt118 15 rfl zo118 zzf4_82 X hk3 (by decide) (by decide) rfl (fun (a2 : Nat) h1 k3 => ?_)
    refine z_xln zt118 16 rfl X k3 (by decide) (by omega) (fun (x4 : Int32) (h5 : x4.toInt = ((m1 : Nat) : Int)) => ?_)
    refine z_xJ zt118 17 rfl rfl (fun (h6 : x4.toInt ≤ b8.toInt) => ?_) (fun (h6 : b8.toInt < x4.toInt) => ?_)
    · skip
      refine z_xP zt118 41 124 [some (.ref a0), some (.ref a1), some (.int p2), some (.ref r3), some (.int b4), some (.int b5), some (.int b6), some (.int b7), some (.int b8), o9, o10] [.ref r3, .int b4, .int p2, .ref a1] rfl rfl ?_
      refine z_xgI zt118 42 rfl zo118 zzf4_88 X hk3 (by decide) (by decide) rfl (fun (x8 : Int32) h7 (h9 : ((z_po q1 : Nat) : Int) - 1 ≤ x8.toInt) (h10 : x8.toInt ≤ ((z_po q1 : Nat) : Int) - 1) => ?_)
      refine z_xP zt118 43 130 [some (.ref a0), some (.ref a1), some (.int p2), some (.ref r3), some (.int b4), some (.int b5), some (.int b6), some (.int b7), some (.int b8), o9, o10] [.int (-1), .int b4, .int x8, .int b4, .int p2, .ref a1] rfl rfl ?_
      refine z_xI zt118 44 rfl rfl (fun (x11 : Int32) (hx11 : x11 = b4 ^^^ (-1 : Int32)) => ?_) rfl
      refine z_xI zt118 45 rfl rfl (fun (x13 : Int32) (h14 : x13 = x8 &&& x11) => ?_) rfl
      refine z_xcV (vs := [.ref a1, .int p2, .int b4, .int x13]) (r := []) (L2 := [some (.ref a1), some (.int p2), some (.int b4), some (.int x13), none, none, none, none]) zt118 46 rfl zo118 zzcV4_91 (Or.inl rfl) rfl X k1 rfl rfl rfl (Nat.le_of_ble_eq_true rfl) zzm54 (Nat.le_of_ble_eq_true rfl) rfl ?_
      refine zUC54 X.1 k1 (by omega) X.1 hkb hln fjM hj (fun M15 X16 haM15 hlM15 => ?_)
      have X17 := X.go X16 (z_sb (by decide))
      show z_ev (d + 4) 118 135 [some (.ref a0), some (.ref a1), some (.int p2), some (.ref r3), some (.int b4), some (.int b5), some (.int b6), some (.int b7), some (.int b8), o9, o10] [] M15 _
      refine z_xP zt118 47 137 [some (.ref a0), some (.ref a1), some (.int p2), some (.ref r3), some (.int b4), some (.int b5), some (.int b6), some (.int b7), some (.int b8), o9, o10] [.int b7] rfl rfl ?_
      exact z_xri zt118 48 rfl zzr118 (kk b7 M15 X17 ⟨fun i hi => z_tw1 (z_alt.ne haM15 hi) (hEo i hi), (z_alt.eq haM15).1.trans hO.symm, x8, by unfold z_po at *; omega, by rw [(z_alt.eq haM15).2, h14, hx11, hO]⟩ hlM15 (hlz.ke hkb X.1 k1 X16.2 (by decide)) ⟨_, by rw [show m1 = b8.toInt.toNat by omega]; exact hbs⟩)
    refine z_xP zt118 18 54 [some (.ref a0), some (.ref a1), some (.int p2), some (.ref r3), some (.int b4), some (.int b5), some (.int b6), some (.int b7), some (.int b8), o9, o10] [.ref r3, .int b6] rfl rfl ?_
    refine z_xgI zt118 19 rfl zo118 zzf4_85 X hk3 (by decide) (by decide) rfl (fun (x20 : Int32) h19 (h21 : (q1 : Int) ≤ x20.toInt) (h22 : x20.toInt ≤ (q1 : Int)) => ?_)
    refine z_xJ zt118 20 rfl rfl (fun (h23 : x20.toInt ≤ b6.toInt) => ?_) (fun (h23 : b6.toInt < x20.toInt) => ?_)
    · skip
      refine z_xP zt118 41 124 [some (.ref a0), some (.ref a1), some (.int p2), some (.ref r3), some (.int b4), some (.int b5), some (.int b6), some (.int b7), some (.int b8), o9, o10] [.ref r3, .int b4, .int p2, .ref a1] rfl rfl ?_
      refine z_xgI zt118 42 rfl zo118 zzf4_88 X hk3 (by decide) (by decide) rfl (fun (x25 : Int32) h24 (h26 : ((z_po q1 : Nat) : Int) - 1 ≤ x25.toInt) (h27 : x25.toInt ≤ ((z_po q1 : Nat) : Int) - 1) => ?_)
      refine z_xP zt118 43 130 [some (.ref a0), some (.ref a1), some (.int p2), some (.ref r3), some (.int b4), some (.int b5), some (.int b6), some (.int b7), some (.int b8), o9, o10] [.int (-1), .int b4, .int x25, .int b4, .int p2, .ref a1] rfl rfl ?_
      refine z_xI zt118 44 rfl rfl (fun (x28 : Int32) (hx28 : x28 = b4 ^^^ (-1 : Int32)) => ?_) rfl
      refine z_xI zt118 45 rfl rfl (fun (x30 : Int32) (h31 : x30 = x25 &&& x28) => ?_) rfl
      refine z_xcV (vs := [.ref a1, .int p2, .int b4, .int x30]) (r := []) (L2 := [some (.ref a1), some (.int p2), some (.int b4), some (.int x30), none, none, none, none]) zt118 46 rfl zo118 zzcV4_91 (Or.inl rfl) rfl X k1 rfl rfl rfl (Nat.le_of_ble_eq_true rfl) zzm54 (Nat.le_of_ble_eq_true rfl) rfl ?_
      refine zUC54 X.1 k1 (by omega) X.1 hkb hln fjM hj (fun M32 X33 haM32 hlM32 => ?_)
      have X34 := X.go X33 (z_sb (by decide))
      show z_ev (d + 4) 118 135 [some (.ref a0), some (.ref a1), some (.int p2), some (.ref r3), some (.int b4), some (.int b5), some (.int b6), some (.int b7), some (.int b8), o9, o10] [] M32 _
      refine z_xP zt118 47 137 [some (.ref a0), some (.ref a1), some (.int p2), some (.ref r3), some (.int b4), some (.int b5), some (.int b6), some (.int b7), some (.int b8), o9, o10] [.int b7] rfl rfl ?_
      exact z_xri zt118 48 rfl zzr118 (kk b7 M32 X34 ⟨fun i hi => z_tw1 (z_alt.ne haM32 hi) (hEo i hi), (z_alt.eq haM32).1.trans hO.symm, x25, by unfold z_po at *; omega, by rw [(z_alt.eq haM32).2, h31, hx28, hO]⟩ hlM32 (hlz.ke hkb X.1 k1 X33.2 (by decide)) ⟨_, z_bsE (z_lkJq q1b.1) hbs (by omega) (by omega)⟩)
    refine z_xP zt118 21 61 [some (.ref a0), some (.ref a1), some (.int p2), some (.ref r3), some (.int b4), some (.int b5), some (.int b6), some (.int b7), some (.int b8), o9, o10] [.ref r3] rfl rfl ?_
    refine z_xgv zt118 22 rfl zo118 zzf4_82 X hk3 (by decide) h1 ?_
    refine z_xP zt118 23 66 [some (.ref a0), some (.ref a1), some (.int p2), some (.ref r3), some (.int b4), some (.int b5), some (.int b6), some (.int b7), some (.int b8), o9, o10] [.int b8, .ref a2] rfl rfl ?_
    refine z_xil zt118 24 rfl X k3 (by decide) (by omega) (by omega) (fun (x36 : Int32) h37 (h38 : 0 ≤ x36.toInt) (h39 : x36.toInt ≤ 1023) => ?_)
    refine z_xP zt118 25 74 [some (.ref a0), some (.ref a1), some (.int p2), some (.ref r3), some (.int b4), some (.int b5), some (.int b6), some (.int b7), some (.int b8), some (.int x36), o10] [.ref r3, .int x36, .int p2, .ref a1] rfl rfl ?_
    refine z_xgI zt118 26 rfl zo118 zzf4_88 X hk3 (by decide) (by decide) rfl (fun (x41 : Int32) h40 (h42 : ((z_po q1 : Nat) : Int) - 1 ≤ x41.toInt) (h43 : x41.toInt ≤ ((z_po q1 : Nat) : Int) - 1) => ?_)
    refine z_xP zt118 27 80 [some (.ref a0), some (.ref a1), some (.int p2), some (.ref r3), some (.int b4), some (.int b5), some (.int b6), some (.int b7), some (.int b8), some (.int x36), o10] [.int (-1), .int x36, .int x41, .int x36, .int p2, .ref a1] rfl rfl ?_
    refine z_xI zt118 28 rfl rfl (fun (x44 : Int32) (h44 : x44 = x36 ^^^ (-1 : Int32)) => ?_) rfl
    refine z_xI zt118 29 rfl rfl (fun (x46 : Int32) (h47 : x46 = x41 &&& x44) => ?_) rfl
    refine z_xcV (vs := [.ref a1, .int p2, .int x36, .int x46]) (r := []) (L2 := [some (.ref a1), some (.int p2), some (.int x36), some (.int x46), none, none, none, none]) zt118 30 rfl zo118 zzcV4_91 (Or.inl rfl) rfl X k1 rfl rfl rfl (Nat.le_of_ble_eq_true rfl) zzm54 (Nat.le_of_ble_eq_true rfl) rfl ?_
    have ea2 : a2 = sa := z_rfe h1 (by rw [er3]; exact X.2.f hag.1 (by decide) hsa)
    have ksa : T[sa]? = some (.inr (102, 0, m1, 0, 1023)) := by
      rw [← ea2]
      exact k3
    have hsx : z_Ar M0 sa b8.toInt.toNat = x36 := by
      rw [← h37, ea2, X.2.a ksa (by decide)]
      rfl
    obtain ⟨sn, sn1, sn2⟩ : ∃ s : Nat, s < 2 ^ q1 ∧ x36.toInt = (s : Int) := by
      obtain ⟨_, _, hm1, _, _, _, ⟨sa2, f5, _, hSS⟩, _⟩ := hag
      obtain rfl : sa = sa2 := z_rfe hsa f5
      obtain ⟨s, s1, s2, s3⟩ := z_lc_ex (B := B) (2 ^ q1) b8.toInt.toNat (by omega)
      have e := hSS s s1 s2
      rw [s3, hsx] at e
      exact ⟨s, s1, e⟩
    have hA : x41.toInt = ((2 ^ q1 : Nat) : Int) - 1 := by
      have e : z_po q1 = 2 ^ q1 := rfl
      rw [← e]
      omega
    have hax := z_ansNo (Y := x36) hA q1b.2 ⟨by omega, by generalize 2 ^ q1 = Pq at *; omega⟩
    refine zUC54 X.1 k1 (by omega) X.1 hkb hln fjM hj (fun M48 X49 ha48 hl48 => ?_)
    have X50 := X.go X49 (z_sb (by decide))
    show z_ev (d + 4) 118 85 [some (.ref a0), some (.ref a1), some (.int p2), some (.ref r3), some (.int b4), some (.int b5), some (.int b6), some (.int b7), some (.int b8), some (.int x36), o10] [] M48 _
    refine z_xP zt118 31 87 [some (.ref a0), some (.ref a1), some (.int p2), some (.ref r3), some (.int b4), some (.int b5), some (.int b6), some (.int b7), some (.int b8), some (.int x36), o10] [.ref a1, .ref a0] rfl rfl ?_
    have cj48 := z_altJ hcb.2 (X50.2.a (hbk.k1 hW0 k1) (by decide)) hEo ha48
    rw [h47, h44] at cj48
    obtain ⟨hD48, hL48⟩ := z_DPalt hD k0 w0 X50 (by decide) (by decide) ej J9 hl48 (hlz.ke hkb X.1 k1 X49.2 (by decide)) cj48 (z_jok.al jok hax)
    refine zWdecide zt118 32 rfl zo118 zzcV4_54 X50 k0 w0 (Nat.le_of_ble_eq_true rfl) hD48 (fun x54 M52 X53 hdq hlz52 _ => ?_)
    have hoJ := z_oJdq ej cj48 hL48 hdq
    have hdl := z_outL hdq.2 q1b.1
    have X55 := X50.go X53 (z_sb (by decide))
    show z_ev (d + 4) 118 90 [some (.ref a0), some (.ref a1), some (.int p2), some (.ref r3), some (.int b4), some (.int b5), some (.int b6), some (.int b7), some (.int b8), some (.int x36), o10] [.int x54] M52 _
    refine z_xP zt118 33 92 [some (.ref a0), some (.ref a1), some (.int p2), some (.ref r3), some (.int b4), some (.int b5), some (.int b6), some (.int b7), some (.int b8), some (.int x36), o10] [.int b5, .int x54] rfl rfl ?_
    refine z_xI zt118 34 rfl rfl (fun (x57 : Int32) (h57 : x57 = x54 &&& b5) => ?_) rfl
    have hlk := z_lkC hdq.1 hdl.2 (show (yy p2.toInt.toNat).toInt.toNat < 2 ^ q1 by generalize 2 ^ q1 = Pq at *; omega) hmi h57
    refine z_xcS (vs := [.int x57]) (r := []) (L2 := [some (.int x57)]) zt118 35 rfl zo118 zzcS4_77 (Or.inl rfl) (Nat.le_of_ble_eq_true rfl) rfl rfl (Nat.le_of_ble_eq_true rfl) zzm31 (Nat.le_of_ble_eq_true rfl) rfl ?_
    refine zUC31 X55.1 hlk.1 (fun x61 M59 X60 h62 h63 h61 => ?_)
    have hLk : (z_lkJ ci B q1 pr en sh.toInt.toNat J ch.toInt.toNat ww yy nn p2.toInt.toNat (yy p2.toInt.toNat).toInt.toNat) ((fun k => (z_Ar M0 sa k).toInt.toNat) b8.toInt.toNat) x61.toInt.toNat := ⟨x36, x41, _, _, by show x36.toInt = (((z_Ar M0 sa b8.toInt.toNat).toInt.toNat : Nat) : Int); rw [hsx]; omega, hA, hoJ, by rw [← hlk.2]; omega⟩
    have hln59 := ((hl48.ke (hbk.ke X50.2 (by decide)) X50.1 k1 X53.2 (by decide)).ke (hbk.ke X55.2 (by decide)) X55.1 k1 X60.2 (by decide))
    have hlz59 := hlz52.ke (hbk.ke X55.2 (by decide)) X55.1 k1 X60.2 (by decide)
    have hEo59 : ∀ i : Nat, i ≠ p2.toNatClampNeg → z_Ar M59 (a1 + 2) i = z_Ar M0 (a1 + 2) i ∧ z_Ar M59 (a1 + 3) i = z_Ar M0 (a1 + 3) i := fun i hi => z_tw1 ⟨congrFun (X60.2.a (hbk.k2 hW0 k1) (by decide)) i, congrFun (X60.2.a (hbk.k3 hW0 k1) (by decide)) i⟩ (z_tw1 ⟨congrFun (X53.2.a (hbk.k2 hW0 k1) (by decide)) i, congrFun (X53.2.a (hbk.k3 hW0 k1) (by decide)) i⟩ (z_tw1 (z_alt.ne ha48 hi) (hEo i hi)))
    have X64 := X55.go X60 (z_sb (by decide))
    show z_ev (d + 4) 118 96 [some (.ref a0), some (.ref a1), some (.int p2), some (.ref r3), some (.int b4), some (.int b5), some (.int b6), some (.int b7), some (.int b8), some (.int x36), o10] [.int x61] M59 _
    refine z_xP zt118 36 102 [some (.ref a0), some (.ref a1), some (.int p2), some (.ref r3), some (.int b4), some (.int b5), some (.int b6), some (.int b7), some (.int b8), some (.int x36), some (.int x61)] [.int b6, .int x61] rfl rfl ?_
    refine z_xJ zt118 37 rfl rfl (fun (h66 : x61.toInt ≤ b6.toInt) => ?_) (fun (h66 : b6.toInt < x61.toInt) => ?_)
    · skip
      refine z_xN zt118 39 rfl rfl (fun (x67 : Int32) (h68 : x67.toInt = b8.toInt + 1) => ?_) (z_pAdd rfl rfl (by omega) (by omega))
      show z_ev (d + 4) 118 116 [some (.ref a0), some (.ref a1), some (.int p2), some (.ref r3), some (.int b4), some (.int b5), some (.int b6), some (.int b7), some (.int x67), some (.int x36), some (.int x61)] [] M59 _
      refine z_xP zt118 40 41 [some (.ref a0), some (.ref a1), some (.int p2), some (.ref r3), some (.int b4), some (.int b5), some (.int b6), some (.int b7), some (.int x67), some (.int x36), some (.int x61)] [] rfl rfl ?_
      have hs := z_bsN hbs fun l hl => by rw [z_lkJU q1b.1 _ _ _ hl hLk]; omega
      rw [show b8.toInt.toNat + 1 = x67.toInt.toNat by omega] at hs
      exact ih M59 r3 b4 b5 b6 b7 x67 (some (.int x36)) (some (.int x61)) X64 hk3 er3 ⟨by omega, by omega⟩ ⟨by omega, by omega⟩ ⟨by omega, by omega⟩ (by omega) hEo59 hO hmi hln59 hlz59 hs (by omega)
    refine z_xP zt118 38 113 [some (.ref a0), some (.ref a1), some (.int p2), some (.ref r3), some (.int b4), some (.int b5), some (.int x61), some (.int x36), some (.int b8), some (.int x36), some (.int x61)] [] rfl rfl ?_
    refine z_xN zt118 39 rfl rfl (fun (x69 : Int32) (h70 : x69.toInt = b8.toInt + 1) => ?_) (z_pAdd rfl rfl (by omega) (by omega))
    show z_ev (d + 4) 118 116 [some (.ref a0), some (.ref a1), some (.int p2), some (.ref r3), some (.int b4), some (.int b5), some (.int x61), some (.int x36), some (.int x69), some (.int x36), some (.int x61)] [] M59 _
    refine z_xP zt118 40 41 [some (.ref a0), some (.ref a1), some (.int p2), some (.ref r3), some (.int b4), some (.int b5), some (.int x61), some (.int x36), some (.int x69), some (.int x36), some (.int x61)] [] rfl rfl ?_
    have hs := z_bsB (z_lkJU q1b.1) hbs hLk (by omega) (x2 := x36.toInt) (by show x36.toInt = (((z_Ar M0 sa b8.toInt.toNat).toInt.toNat : Nat) : Int); rw [hsx]; omega)
    rw [show b8.toInt.toNat + 1 = x69.toInt.toNat by omega] at hs
    exact ih M59 r3 b4 b5 x61 x36 x69 (some (.int x36)) (some (.int x61)) X64 hk3 er3 ⟨by omega, by omega⟩ ⟨by omega, by omega⟩ ⟨by omega, by omega⟩ (by omega) hEo59 hO hmi hln59 hlz59 hs (by omega)
theorem zUC118 {T : List zK} {d : Nat} {K : Option Value → zH → Prop} {a0 ci a1 N q1 t1 m1 J1 pr en J sa : Nat} {B : Nat → Nat} {sh jv ch : Int32} {ww yy nn : Nat → Int32} {p2 : Int32} {M0 : zH} (w0 : 4 ≤ ci ∧ ci ≤ 11) (k0 : T[a0]? = some (.inl (ci, 0, 0, 0, 0))) (u2 : 0 ≤ p2.toInt ∧ p2.toInt ≤ 8) (hD : z_DP T M0 a0 a1 N q1 t1 m1 J1 pr en B sh jv ch) (ej : jv.toInt = (J : Int)) (J9 : J ≤ 9) (hcb : z_CB M0 a1 J ww yy nn) (jok : ∀ j, j < J → z_jok q1 (ww j) (yy j) (nn j)) (hj : p2.toInt < jv.toInt) (hsa : z_F M0 N 5 = some (.ref sa)) (hln : z_LN M0 a1 q1) (kk : ∀ (x : Int32) (M1 : zH), z_X T zw118 M0 M1 → z_tw M0 M1 a1 p2 q1 → z_LN M1 a1 q1 → z_lz M1 a1 → (∃ y n mo, z_oJ ci B q1 pr en sh.toInt.toNat J ch.toInt.toNat ww yy nn y n ∧ z_bsI (z_lkJ ci B q1 pr en sh.toInt.toNat J ch.toInt.toNat ww yy nn p2.toInt.toNat (yy p2.toInt.toNat).toInt.toNat) (fun k => (z_Ar M0 sa k).toInt.toNat) (z_lke (yy p2.toInt.toNat).toInt.toNat y n 10) m1 mo x.toInt) → K (some (.int x)) M1) : z_ev (d + 4) 118 0 [some (.ref a0), some (.ref a1), some (.int p2), none, none, none, none, none, none, none, none] [] M0 K := by
  obtain ⟨⟨hW, hbk⟩, k1, hN0, hag, hpe, hlz, _, ⟨fj, jb, hans⟩, fs, fc⟩ := id hD
  have X : z_X T zw118 M0 M0 := .refl hW
  have g1 := X.1.p3 k1
  refine z_xP zt118 0 1 [some (.ref a0), some (.ref a1), some (.int p2), none, none, none, none, none, none, none, none] [.ref a1] rfl rfl ?_
  refine z_xgR (κ := .inl (2, q1, t1, m1, 0)) zt118 1 rfl zo118 zzf4_50 X k1 (by decide) (by decide) rfl (fun (a2 : Nat) h1 k3 => ?_)
  have g4 := X.1.p2 k3
  have eN : a2 = N := z_rfe h1 hN0
  have q1b : 1 ≤ q1 ∧ q1 ≤ 10 := by omega
  have hjJ : p2.toInt.toNat < J := by omega
  have hy0 := (jok _ hjJ).1.1
  refine z_xP zt118 2 6 [some (.ref a0), some (.ref a1), some (.int p2), some (.ref a2), none, none, none, none, none, none, none] [.ref a1] rfl rfl ?_
  refine z_xgR (κ := .inr (202, 0, 9, (-2147483648), 2147483647)) zt118 3 rfl zo118 zzf4_71 X k1 (by decide) (by decide) rfl (fun (a6 : Nat) h5 k7 => ?_)
  refine z_xP zt118 4 10 [some (.ref a0), some (.ref a1), some (.int p2), some (.ref a2), none, none, none, none, none, none, none] [.int p2, .ref a6] rfl rfl ?_
  refine z_xil zt118 5 rfl X k7 (by decide) (by omega) (by omega) (fun (x8 : Int32) h9 (h10 : (-2147483648) ≤ x8.toInt) (h11 : x8.toInt ≤ 2147483647) => ?_)
  have ea6 : a6 = a1 + 2 := z_rfe h5 (hbk _ _ _ _ _ k1).2.1
  have hO : z_Ar M0 (a1 + 2) p2.toNatClampNeg = x8 := by rw [← ea6]; exact h9
  have ex8 : x8 = yy p2.toInt.toNat := hO.symm.trans (hcb.2 _ hjJ).2.1
  refine z_xP zt118 6 16 [some (.ref a0), some (.ref a1), some (.int p2), some (.ref a2), some (.int x8), none, none, none, none, none, none] [.int x8, .ref a2] rfl rfl ?_
  refine z_xcV (vs := [.ref a2, .int x8]) (r := []) (L2 := [some (.ref a2), some (.int x8)]) zt118 7 rfl zo118 zzcV4_74 (Or.inl rfl) rfl X k3 rfl rfl rfl (Nat.le_of_ble_eq_true rfl) zzm39 (Nat.le_of_ble_eq_true rfl) rfl ?_
  refine z_xP zt39 0 2 [some (.ref a2), some (.int x8)] [.ref a2, .int x8] rfl rfl ?_
  refine z_xgI zt39 1 rfl zo39 zzf2_32 X k3 (by decide) (by decide) rfl (fun (x13 : Int32) h12 (h14 : ((z_po q1 : Nat) : Int) - 1 ≤ x13.toInt) (h15 : x13.toInt ≤ ((z_po q1 : Nat) : Int) - 1) => ?_)
  refine z_xP zt39 2 7 [some (.ref a2), some (.int x8)] [.int (-1), .int x8, .int x13, .int x8] rfl rfl ?_
  refine z_xI zt39 3 rfl rfl (fun (x16 : Int32) (h16 : x16 = x8 ^^^ (-1 : Int32)) => ?_) rfl
  refine z_xI zt39 4 rfl rfl (fun (x18 : Int32) (h19 : x18 = x13 &&& x16) => ?_) rfl
  refine z_xP zt39 5 11 [some (.ref a2), some (.int x8)] [.int 10, .int x18, .int x8] rfl rfl ?_
  refine z_xI zt39 6 rfl rfl (fun (x20 : Int32) (h21 : x20 = x18 <<< ((10 : Int32) &&& 31)) => ?_) rfl
  refine z_xI zt39 7 rfl rfl (fun (x22 : Int32) (h22 : x22 = x8 ||| x20) => ?_) rfl
  have hA : x13.toInt = ((2 ^ q1 : Nat) : Int) - 1 := by
    have e : z_po q1 = 2 ^ q1 := rfl
    rw [← e]
    omega
  have hmi := z_answo hA q1b.2 (v := x8) (by rw [ex8]; exact hy0.1) (by rw [ex8]; exact hy0.2) h16 h19 h21 h22
  rw [ex8] at hmi
  refine z_xri zt39 8 rfl zzr39 ?_
  show z_ev (d + 4) 118 19 [some (.ref a0), some (.ref a1), some (.int p2), some (.ref a2), some (.int x8), none, none, none, none, none, none] [.int x22] M0 _
  refine z_xP zt118 8 23 [some (.ref a0), some (.ref a1), some (.int p2), some (.ref a2), some (.int x8), some (.int x22), none, none, none, none, none] [.ref a1, .ref a0] rfl rfl ?_
  refine zWdecide zt118 9 rfl zo118 zzcV4_54 X k0 w0 (Nat.le_of_ble_eq_true rfl) hD (fun x26 M24 X25 hdq hlz24 _ => ?_)
  have hlw := z_lnW hln fj ej J9 q1b.2 hcb.2 jok
  have hoJ := z_oJdq ej hcb.2 (fun k hk => (hlw k hk).1) hdq
  have hdl := z_outL hdq.2 q1b.1
  have X27 := X.go X25 (z_sb (by decide))
  show z_ev (d + 4) 118 26 [some (.ref a0), some (.ref a1), some (.int p2), some (.ref a2), some (.int x8), some (.int x22), none, none, none, none, none] [.int x26] M24 _
  refine z_xP zt118 10 28 [some (.ref a0), some (.ref a1), some (.int p2), some (.ref a2), some (.int x8), some (.int x22), none, none, none, none, none] [.int x22, .int x26] rfl rfl ?_
  refine z_xI zt118 11 rfl rfl (fun (x29 : Int32) (h29 : x29 = x26 &&& x22) => ?_) rfl
  have hlk := z_lkC hdq.1 hdl.2 (show (yy p2.toInt.toNat).toInt.toNat < 2 ^ q1 by generalize 2 ^ q1 = Pq at *; omega) hmi h29
  refine z_xcS (vs := [.int x29]) (r := []) (L2 := [some (.int x29)]) zt118 12 rfl zo118 zzcS4_77 (Or.inl rfl) (Nat.le_of_ble_eq_true rfl) rfl rfl (Nat.le_of_ble_eq_true rfl) zzm31 (Nat.le_of_ble_eq_true rfl) rfl ?_
  refine zUC31 X27.1 hlk.1 (fun x33 M31 X32 h34 h35 h33 => ?_)
  have X36 := X27.go X32 (z_sb (by decide))
  show z_ev (d + 4) 118 32 [some (.ref a0), some (.ref a1), some (.int p2), some (.ref a2), some (.int x8), some (.int x22), none, none, none, none, none] [.int x33] M31 _
  refine z_xP zt118 13 41 [some (.ref a0), some (.ref a1), some (.int p2), some (.ref a2), some (.int x8), some (.int x22), some (.int x33), some (.int (-2)), some (.int 0), none, none] [] rfl rfl ?_
  have qm2 : (((-2) : Int32)).toInt = (-2) := rfl
  have q0 : ((0 : Int32)).toInt = 0 := rfl
  have e33 : x33.toInt.toNat = z_lke (yy p2.toInt.toNat).toInt.toNat (x26.toInt.toNat % 1024) (x26.toInt.toNat / 1024) 10 := by
    rw [← hlk.2]
    omega
  refine (zUB118 w0 k0 u2 hD ej J9 hcb jok hj hsa (f0 := x33.toInt.toNat) (fun x M1 X1 g1 g2 g3 g4 => ?_) 2050) M31 a2 x8 x22 x33 ((-2)) (0) none none X36 k3 eN ⟨by omega, by omega⟩ (by decide) (by decide) (by omega) (fun i _ => ⟨?_, ?_⟩) hO hmi ((hln.ke hbk hW k1 X25.2 (by decide)).ke (hbk.ke X27.2 (by decide)) X27.1 k1 X32.2 (by decide)) (hlz24.ke (hbk.ke X27.2 (by decide)) X27.1 k1 X32.2 (by decide)) z_bs0 (by omega)
  · obtain ⟨mo, g4⟩ := g4
    rw [e33] at g4
    exact kk x M1 X1 g1 g2 g3 ⟨_, _, mo, hoJ, g4⟩
  · exact congrFun ((X32.2.a (hbk.k2 hW k1) (by decide)).trans (X25.2.a (hbk.k2 hW k1) (by decide))) i
  · exact congrFun ((X32.2.a (hbk.k3 hW k1) (by decide)).trans (X25.2.a (hbk.k3 hW k1) (by decide))) i
def z_vT (M : zH) (p1 p2 : Int32) : Prop := (0 ≤ p1.toInt ∧ p1.toInt < (z_Fv M 4 5).toInt) ∧ (0 ≤ p2.toInt ∧ p2.toInt < (z_Fv M 4 3).toInt)
/-- twist of a told bench: what it answers -/
def z_tA (q c pr en sh J ch m j : Nat) (B : Nat → Nat) (ww yy nn : Nat → Int32) (S : Nat → Nat) (x : Int) : Prop := (∃ A : Int32, A.toInt = ((2 ^ q : Nat) : Int) - 1 ∧ (yy j ||| nn j).toInt = A.toInt ∧ nn j = A &&& (yy j ^^^ (-1 : Int32))) ∧ ∃ y n mo, z_oJ c B q pr en sh J ch ww yy nn y n ∧ z_bsI (z_lkJ c B q pr en sh J ch ww yy nn j (yy j).toInt.toNat) S (z_lke (yy j).toInt.toNat y n 10) m mo x
def z_cT (T : List zK) (M0 M1 : zH) (p1 p2 p3 : Int32) (x : Int) : Prop := (x = -1 ∧ ¬ z_vT M0 p1 p2 ∧ z_ke T [] M0 M1) ∨ (z_vT M0 p1 p2 ∧ ∃ (w c b N q t m pr en J sa : Nat) (B : Nat → Nat) (sh jv ch : Int32) (ww yy nn : Nat → Int32), z_O M0 12 p1.toNatClampNeg = some w ∧ T[w]? = some (.inl (c, 0, 0, 0, 0)) ∧ z_DP T M0 w b N q t m 9 pr en B sh jv ch ∧ z_tob T M0 p2.toNatClampNeg b N q t m pr en J B jv ww yy nn ∧ z_F M0 N 5 = some (.ref sa) ∧ ((x = -1 ∧ (¬ (0 ≤ p3.toInt ∧ p3.toInt < (J : Int)) ∨ (0 ≤ p3.toInt ∧ p3.toInt < (J : Int) ∧ (yy p3.toInt.toNat ||| nn p3.toInt.toNat).toInt ≠ ((2 ^ q : Nat) : Int) - 1)) ∧ z_ke T [] M0 M1) ∨ ((0 ≤ p3.toInt ∧ p3.toInt < (J : Int)) ∧ z_tA q c pr en sh.toInt.toNat J ch.toInt.toNat m p3.toInt.toNat B ww yy nn (fun k => (z_Ar M0 sa k).toInt.toNat) x ∧ z_oth T (fun u => u = b) M0 M1 ∧ z_tw M0 M1 b p3 q ∧ z_LN M1 b q ∧ z_lz M1 b)))
theorem z_cT0 {T : List zK} {M : zH} {p1 p2 p3 : Int32} {x : Int} (h : ¬ z_vT M p1 p2) (hx : x = -1) : z_cT T M M p1 p2 p3 x := Or.inl ⟨hx, h, .refl⟩
theorem zUC116 {T : List zK} {d : Nat} {K : Option Value → zH → Prop} {p1 : Int32} {p2 : Int32} {p3 : Int32} {M0 : zH} (hW : z_W M0 T) (hR : z_RR T M0) (h9 : z_R89 T M0) (hG : z_GG T M0) (kk : ∀ (x : Int32) (M1 : zH), z_X T zw116 M0 M1 → z_cT T M0 M1 p1 p2 p3 x.toInt → K (some (.int x)) M1) : z_ev (d + 5) 116 0 [some (.ref 4), some (.int p1), some (.int p2), some (.int p3), none, none] [] M0 K := by
  have X : z_X T zw116 M0 M0 := .refl hW
  refine z_xP zt116 0 2 [some (.ref 4), some (.int p1), some (.int p2), some (.int p3), none, none] [.int p1, .ref 4] rfl rfl ?_
  have f4 : T[4]? = some (.inl (0, 0, 0, 0, 0)) := X.1.k rfl (by decide)
  refine z_xcV (vs := [.ref 4, .int p1]) (r := []) (L2 := [some (.ref 4), some (.int p1)]) zt116 1 rfl zo116 zzcV0_221 (Or.inl rfl) rfl X f4 rfl rfl rfl (Nat.le_of_ble_eq_true rfl) zzm84 (Nat.le_of_ble_eq_true rfl) rfl ?_
  refine z_xP zt84 0 1 [some (.ref 4), some (.int p1)] [.int p1] rfl rfl ?_
  refine z_xZ zt84 1 rfl rfl (fun (h1 : p1.toInt < 0) => ?_) (fun (h1 : 0 ≤ p1.toInt) => ?_)
  · skip
    refine z_xP zt84 5 22 [some (.ref 4), some (.int p1)] [.null] rfl rfl ?_
    refine z_xrn zt84 10 rfl zzr84 ?_
    show z_ev (d + 5) 116 5 [some (.ref 4), some (.int p1), some (.int p2), some (.int p3), none, none] [.null] M0 _
    refine z_xP zt116 2 9 [some (.ref 4), some (.int p1), some (.int p2), some (.int p3), some (.null), none] [.int p2, .ref 4] rfl rfl ?_
    refine z_xcV (vs := [.ref 4, .int p2]) (r := []) (L2 := [some (.ref 4), some (.int p2)]) zt116 3 rfl zo116 zzcV0_85 (Or.inl rfl) rfl X f4 rfl rfl rfl (Nat.le_of_ble_eq_true rfl) zzm35 (Nat.le_of_ble_eq_true rfl) rfl ?_
    refine z_xP zt35 0 1 [some (.ref 4), some (.int p2)] [.int p2] rfl rfl ?_
    refine z_xZ zt35 1 rfl rfl (fun (h2 : p2.toInt < 0) => ?_) (fun (h2 : 0 ≤ p2.toInt) => ?_)
    · skip
      refine z_xP zt35 5 22 [some (.ref 4), some (.int p2)] [.null] rfl rfl ?_
      refine z_xrn zt35 10 rfl zzr35 ?_
      show z_ev (d + 5) 116 12 [some (.ref 4), some (.int p1), some (.int p2), some (.int p3), some (.null), none] [.null] M0 _
      refine z_xP zt116 4 42 [some (.ref 4), some (.int p1), some (.int p2), some (.int p3), some (.null), some (.null)] [] rfl rfl ?_
      refine z_xP zt116 12 43 [some (.ref 4), some (.int p1), some (.int p2), some (.int p3), some (.null), some (.null)] [.int (-1)] rfl rfl ?_
      have qm1 : (((-1) : Int32)).toInt = (-1) := rfl
      exact z_xri zt116 13 rfl zzr116 (kk (-1) M0 X (z_cT0 (by unfold z_vT; omega) rfl))
    refine z_xP zt35 2 6 [some (.ref 4), some (.int p2)] [.ref 4, .int p2] rfl rfl ?_
    refine z_xgI zt35 3 rfl zo35 zzf0_59 X f4 (by decide) (by decide) rfl (fun (x4 : Int32) h3 (h5 : 0 ≤ x4.toInt) (h6 : x4.toInt ≤ 8) => ?_)
    have ex4 : (z_Fv M0 4 3).toInt = x4.toInt := by rw [z_Fv.of h3]
    have h7 := z_b32 p2
    refine z_xJ zt35 4 rfl rfl (fun (h8 : p2.toInt < x4.toInt) => ?_) (fun (h8 : x4.toInt ≤ p2.toInt) => ?_)
    · skip
      refine z_xP zt35 6 17 [some (.ref 4), some (.int p2)] [.ref 4] rfl rfl ?_
      refine z_xgX (b := 10) zt35 7 rfl zo35 zzf0_18 X f4 (by decide) (by decide) rfl ?_
      refine z_xP zt35 8 21 [some (.ref 4), some (.int p2)] [.int p2, .ref 10] rfl rfl ?_
      have f10 : T[10]? = some (.inr (10, 2, 8, 9, 0)) := X.1.k rfl (by decide)
      refine z_xal zt35 9 rfl X f10 (by decide) (by decide) (by decide) (by omega) (by omega) (fun (a9 : Nat) h10 h11 => ?_) (fun h12 => absurd h12 (z_Gs (hG.go X (by decide)).2.1 h3 (by omega) (by omega)))
      obtain ⟨q13, t14, m15, k16⟩ : ∃ q t m, T[a9]? = some (.inl (3, q, t, m, 9)) := h11
      have g17 := X.1.p3 k16
      refine z_xra zt35 10 rfl zzr35 ?_
      show z_ev (d + 5) 116 12 [some (.ref 4), some (.int p1), some (.int p2), some (.int p3), some (.null), none] [.ref a9] M0 _
      refine z_xP zt116 4 42 [some (.ref 4), some (.int p1), some (.int p2), some (.int p3), some (.null), some (.ref a9)] [] rfl rfl ?_
      refine z_xP zt116 12 43 [some (.ref 4), some (.int p1), some (.int p2), some (.int p3), some (.null), some (.ref a9)] [.int (-1)] rfl rfl ?_
      have qm1 : (((-1) : Int32)).toInt = (-1) := rfl
      exact z_xri zt116 13 rfl zzr116 (kk (-1) M0 X (z_cT0 (by unfold z_vT; omega) rfl))
    refine z_xP zt35 5 22 [some (.ref 4), some (.int p2)] [.null] rfl rfl ?_
    refine z_xrn zt35 10 rfl zzr35 ?_
    show z_ev (d + 5) 116 12 [some (.ref 4), some (.int p1), some (.int p2), some (.int p3), some (.null), none] [.null] M0 _
    refine z_xP zt116 4 42 [some (.ref 4), some (.int p1), some (.int p2), some (.int p3), some (.null), some (.null)] [] rfl rfl ?_
    refine z_xP zt116 12 43 [some (.ref 4), some (.int p1), some (.int p2), some (.int p3), some (.null), some (.null)] [.int (-1)] rfl rfl ?_
    have qm1 : (((-1) : Int32)).toInt = (-1) := rfl
    exact z_xri zt116 13 rfl zzr116 (kk (-1) M0 X (z_cT0 (by unfold z_vT; omega) rfl))
  refine z_xP zt84 2 6 [some (.ref 4), some (.int p1)] [.ref 4, .int p1] rfl rfl ?_
  refine z_xgI zt84 3 rfl zo84 zzf0_188 X f4 (by decide) (by decide) rfl (fun (x19 : Int32) h18 (h20 : 0 ≤ x19.toInt) (h21 : x19.toInt ≤ 20) => ?_)
  have ex19 : (z_Fv M0 4 5).toInt = x19.toInt := by rw [z_Fv.of h18]
  have h22 := z_b32 p1
  refine z_xJ zt84 4 rfl rfl (fun (h23 : p1.toInt < x19.toInt) => ?_) (fun (h23 : x19.toInt ≤ p1.toInt) => ?_)
  · skip
    refine z_xP zt84 6 17 [some (.ref 4), some (.int p1)] [.ref 4] rfl rfl ?_
    refine z_xgX (b := 12) zt84 7 rfl zo84 zzf0_27 X f4 (by decide) (by decide) rfl ?_
    refine z_xP zt84 8 21 [some (.ref 4), some (.int p1)] [.int p1, .ref 12] rfl rfl ?_
    have f12 : T[12]? = some (.inr (12, 3, 20, 0, 0)) := X.1.k rfl (by decide)
    refine z_xal zt84 9 rfl X f12 (by decide) (by decide) (by decide) (by omega) (by omega) (fun (a24 : Nat) h25 h26 => ?_) (fun h27 => absurd h27 (z_Gb (hG.go X (by decide)).2.1 h18 (by omega) (by omega)))
    obtain ⟨c28, w29l, w29u, k30⟩ : ∃ ci, 4 ≤ ci ∧ ci ≤ 11 ∧ T[a24]? = some (.inl (ci, 0, 0, 0, 0)) := h26
    have w29 := And.intro w29l w29u
    refine z_xra zt84 10 rfl zzr84 ?_
    show z_ev (d + 5) 116 5 [some (.ref 4), some (.int p1), some (.int p2), some (.int p3), none, none] [.ref a24] M0 _
    refine z_xP zt116 2 9 [some (.ref 4), some (.int p1), some (.int p2), some (.int p3), some (.ref a24), none] [.int p2, .ref 4] rfl rfl ?_
    refine z_xcV (vs := [.ref 4, .int p2]) (r := []) (L2 := [some (.ref 4), some (.int p2)]) zt116 3 rfl zo116 zzcV0_85 (Or.inl rfl) rfl X f4 rfl rfl rfl (Nat.le_of_ble_eq_true rfl) zzm35 (Nat.le_of_ble_eq_true rfl) rfl ?_
    refine z_xP zt35 0 1 [some (.ref 4), some (.int p2)] [.int p2] rfl rfl ?_
    refine z_xZ zt35 1 rfl rfl (fun (h31 : p2.toInt < 0) => ?_) (fun (h31 : 0 ≤ p2.toInt) => ?_)
    · skip
      refine z_xP zt35 5 22 [some (.ref 4), some (.int p2)] [.null] rfl rfl ?_
      refine z_xrn zt35 10 rfl zzr35 ?_
      show z_ev (d + 5) 116 12 [some (.ref 4), some (.int p1), some (.int p2), some (.int p3), some (.ref a24), none] [.null] M0 _
      refine z_xP zt116 4 19 [some (.ref 4), some (.int p1), some (.int p2), some (.int p3), some (.ref a24), some (.null)] [] rfl rfl ?_
      refine z_xP zt116 5 42 [some (.ref 4), some (.int p1), some (.int p2), some (.int p3), some (.ref a24), some (.null)] [] rfl rfl ?_
      refine z_xP zt116 12 43 [some (.ref 4), some (.int p1), some (.int p2), some (.int p3), some (.ref a24), some (.null)] [.int (-1)] rfl rfl ?_
      have qm1 : (((-1) : Int32)).toInt = (-1) := rfl
      exact z_xri zt116 13 rfl zzr116 (kk (-1) M0 X (z_cT0 (by unfold z_vT; omega) rfl))
    refine z_xP zt35 2 6 [some (.ref 4), some (.int p2)] [.ref 4, .int p2] rfl rfl ?_
    refine z_xgI zt35 3 rfl zo35 zzf0_59 X f4 (by decide) (by decide) rfl (fun (x33 : Int32) h32 (h34 : 0 ≤ x33.toInt) (h35 : x33.toInt ≤ 8) => ?_)
    have ex33 : (z_Fv M0 4 3).toInt = x33.toInt := by rw [z_Fv.of h32]
    have h36 := z_b32 p2
    refine z_xJ zt35 4 rfl rfl (fun (h37 : p2.toInt < x33.toInt) => ?_) (fun (h37 : x33.toInt ≤ p2.toInt) => ?_)
    · skip
      refine z_xP zt35 6 17 [some (.ref 4), some (.int p2)] [.ref 4] rfl rfl ?_
      refine z_xgX (b := 10) zt35 7 rfl zo35 zzf0_18 X f4 (by decide) (by decide) rfl ?_
      refine z_xP zt35 8 21 [some (.ref 4), some (.int p2)] [.int p2, .ref 10] rfl rfl ?_
      have f10 : T[10]? = some (.inr (10, 2, 8, 9, 0)) := X.1.k rfl (by decide)
      refine z_xal zt35 9 rfl X f10 (by decide) (by decide) (by decide) (by omega) (by omega) (fun (a38 : Nat) h39 h40 => ?_) (fun h41 => absurd h41 (z_Gs (hG.go X (by decide)).2.1 h32 (by omega) (by omega)))
      obtain ⟨q42, t43, m44, k45⟩ : ∃ q t m, T[a38]? = some (.inl (3, q, t, m, 9)) := h40
      have g46 := X.1.p3 k45
      refine z_xra zt35 10 rfl zzr35 ?_
      show z_ev (d + 5) 116 12 [some (.ref 4), some (.int p1), some (.int p2), some (.int p3), some (.ref a24), none] [.ref a38] M0 _
      refine z_xP zt116 4 19 [some (.ref 4), some (.int p1), some (.int p2), some (.int p3), some (.ref a24), some (.ref a38)] [] rfl rfl ?_
      refine z_xP zt116 5 24 [some (.ref 4), some (.int p1), some (.int p2), some (.int p3), some (.ref a24), some (.ref a38)] [] rfl rfl ?_
      obtain ⟨N, pr, en, J, B, sh, jv, ch, ww, yy, nn, hD, hTB⟩ := z_DPof hW hR h9 h32 ⟨by omega, by omega⟩ h39 k45 w29 k30
      have hvT : z_vT M0 p1 p2 := by unfold z_vT; omega
      have hbk := hD.1.2
      have hag := hD.2.2.2.1
      have ej := hTB.2.1
      have fj := hTB.2.2.2.1
      have hcb := hTB.2.2.2.2.1
      have jok := hTB.2.2.2.2.2.2.1
      obtain ⟨sa, f5, _, _⟩ := hag.2.2.2.2.2.2.1
      have q1 : 1 ≤ q42 ∧ q42 ≤ 10 := by omega
      refine z_xP zt116 6 27 [some (.ref 4), some (.int p1), some (.int p2), some (.int p3), some (.ref a24), some (.ref a38)] [.int p3, .ref a38] rfl rfl ?_
      refine z_xcV (vs := [.ref a38, .int p3]) (r := []) (L2 := [some (.ref a38), some (.int p3)]) zt116 7 rfl zo116 zzcV0_142 (Or.inl rfl) rfl X k45 rfl rfl rfl (Nat.le_of_ble_eq_true rfl) zzm56 (Nat.le_of_ble_eq_true rfl) rfl ?_
      refine z_xP zt56 0 1 [some (.ref a38), some (.int p3)] [.int p3] rfl rfl ?_
      refine z_xZ zt56 1 rfl rfl (fun (h47 : p3.toInt < 0) => ?_) (fun (h47 : 0 ≤ p3.toInt) => ?_)
      · skip
        refine z_xP zt56 6 17 [some (.ref a38), some (.int p3)] [.int 0] rfl rfl ?_
        refine z_xrz zt56 7 rfl zzr56 (by decide) (by decide) ?_
        show z_ev (d + 5) 116 30 [some (.ref 4), some (.int p1), some (.int p2), some (.int p3), some (.ref a24), some (.ref a38)] [.int 0] M0 _
        refine z_xZ zt116 8 rfl rfl (fun (h48 : (0 : Int) = 0) => ?_) (fun (h48 : (0 : Int) ≠ 0) => absurd h48 (by omega))
        refine z_xP zt116 12 43 [some (.ref 4), some (.int p1), some (.int p2), some (.int p3), some (.ref a24), some (.ref a38)] [.int (-1)] rfl rfl ?_
        have qm1 : (((-1) : Int32)).toInt = (-1) := rfl
        exact z_xri zt116 13 rfl zzr116 (kk (-1) M0 X (Or.inr ⟨hvT, a24, _, a38, N, q42, t43, m44, pr, en, J, sa, B, sh, jv, ch, ww, yy, nn, h25, k30, hD, hTB, f5, Or.inl ⟨rfl, Or.inl (by omega), .refl⟩⟩))
      refine z_xP zt56 2 6 [some (.ref a38), some (.int p3)] [.ref a38, .int p3] rfl rfl ?_
      refine z_xgI zt56 3 rfl zo56 zzf3_53 X k45 (by decide) (by decide) rfl (fun (x50 : Int32) h49 (h51 : 0 ≤ x50.toInt) (h52 : x50.toInt ≤ (9 : Int)) => ?_)
      have h53 := z_b32 p3
      refine z_xJ zt56 4 rfl rfl (fun (h54 : x50.toInt ≤ p3.toInt) => ?_) (fun (h54 : p3.toInt < x50.toInt) => ?_)
      · skip
        refine z_xP zt56 6 17 [some (.ref a38), some (.int p3)] [.int 0] rfl rfl ?_
        refine z_xrz zt56 7 rfl zzr56 (by decide) (by decide) ?_
        show z_ev (d + 5) 116 30 [some (.ref 4), some (.int p1), some (.int p2), some (.int p3), some (.ref a24), some (.ref a38)] [.int 0] M0 _
        refine z_xZ zt116 8 rfl rfl (fun (h55 : (0 : Int) = 0) => ?_) (fun (h55 : (0 : Int) ≠ 0) => absurd h55 (by omega))
        refine z_xP zt116 12 43 [some (.ref 4), some (.int p1), some (.int p2), some (.int p3), some (.ref a24), some (.ref a38)] [.int (-1)] rfl rfl ?_
        have qm1 : (((-1) : Int32)).toInt = (-1) := rfl
        exact z_xri zt116 13 rfl zzr116 (kk (-1) M0 X (Or.inr ⟨hvT, a24, _, a38, N, q42, t43, m44, pr, en, J, sa, B, sh, jv, ch, ww, yy, nn, h25, k30, hD, hTB, f5, Or.inl ⟨rfl, Or.inl (by have := congrArg Int32.toInt (z_ive h49 fj); omega), .refl⟩⟩))
      refine z_xP zt56 5 17 [some (.ref a38), some (.int p3)] [.int 1] rfl rfl ?_
      refine z_xrz zt56 7 rfl zzr56 (by decide) (by decide) ?_
      show z_ev (d + 5) 116 30 [some (.ref 4), some (.int p1), some (.int p2), some (.int p3), some (.ref a24), some (.ref a38)] [.int 1] M0 _
      refine z_xZ zt116 8 rfl rfl (fun (h56 : (1 : Int) = 0) => absurd h56 (by omega)) (fun (h56 : (1 : Int) ≠ 0) => ?_)
      refine z_xP zt116 9 36 [some (.ref 4), some (.int p1), some (.int p2), some (.int p3), some (.ref a24), some (.ref a38)] [.int p3, .ref a38] rfl rfl ?_
      refine z_xcV (vs := [.ref a38, .int p3]) (r := []) (L2 := [some (.ref a38), some (.int p3)]) zt116 10 rfl zo116 zzcV0_260 (Or.inl rfl) rfl X k45 rfl rfl rfl (Nat.le_of_ble_eq_true rfl) zzm117 (Nat.le_of_ble_eq_true rfl) rfl ?_
      refine z_xP zt117 0 1 [some (.ref a38), some (.int p3)] [.ref a38] rfl rfl ?_
      refine z_xgR (κ := .inr (202, 0, 9, (-2147483648), 2147483647)) zt117 1 rfl zo117 zzf3_15 X k45 (by decide) (by decide) rfl (fun (a58 : Nat) h57 k59 => ?_)
      refine z_xP zt117 2 5 [some (.ref a38), some (.int p3)] [.int p3, .ref a58] rfl rfl ?_
      refine z_xil zt117 3 rfl X k59 (by decide) (by omega) (by omega) (fun (x60 : Int32) h61 (h62 : (-2147483648) ≤ x60.toInt) (h63 : x60.toInt ≤ 2147483647) => ?_)
      refine z_xP zt117 4 7 [some (.ref a38), some (.int p3)] [.ref a38, .int x60] rfl rfl ?_
      refine z_xgR (κ := .inr (203, 0, 9, (-2147483648), 2147483647)) zt117 5 rfl zo117 zzf3_18 X k45 (by decide) (by decide) rfl (fun (a65 : Nat) h64 k66 => ?_)
      refine z_xP zt117 6 11 [some (.ref a38), some (.int p3)] [.int p3, .ref a65, .int x60] rfl rfl ?_
      refine z_xil zt117 7 rfl X k66 (by decide) (by omega) (by omega) (fun (x67 : Int32) h68 (h69 : (-2147483648) ≤ x67.toInt) (h70 : x67.toInt ≤ 2147483647) => ?_)
      refine z_xI zt117 8 rfl rfl (fun (x71 : Int32) (h72 : x71 = x60 ||| x67) => ?_) rfl
      refine z_xP zt117 9 14 [some (.ref a38), some (.int p3)] [.ref a38, .int x71] rfl rfl ?_
      refine z_xgR (κ := .inl (2, q42, t43, m44, 0)) zt117 10 rfl zo117 zzf3_39 X k45 (by decide) (by decide) rfl (fun (a74 : Nat) h73 k75 => ?_)
      have g76 := X.1.p2 k75
      refine z_xgI zt117 11 rfl zo117 zzf3_56 X k75 (by decide) (by decide) rfl (fun (x78 : Int32) h77 (h79 : ((z_po q42 : Nat) : Int) - 1 ≤ x78.toInt) (h80 : x78.toInt ≤ ((z_po q42 : Nat) : Int) - 1) => ?_)
      have hjj := congrArg Int32.toInt (z_ive h49 fj)
      have hA : x78.toInt = ((2 ^ q42 : Nat) : Int) - 1 := by
        have e : z_po q42 = 2 ^ q42 := rfl
        rw [← e]
        omega
      have eyy : x60 = yy p3.toInt.toNat := by
        rw [← h61, z_rfe h57 (hbk _ _ _ _ _ k45).2.1]
        exact (hcb.2 p3.toInt.toNat (by omega)).2.1
      have enn : x67 = nn p3.toInt.toNat := by
        rw [← h68, z_rfe h64 (hbk _ _ _ _ _ k45).2.2.1]
        exact (hcb.2 p3.toInt.toNat (by omega)).2.2
      have h81 := z_b32 x71
      refine z_xJ zt117 12 rfl rfl (fun (h82 : x71.toInt = x78.toInt) => ?_) (fun (h82 : x71.toInt ≠ x78.toInt) => ?_)
      · skip
        refine z_xP zt117 14 28 [some (.ref a38), some (.int p3)] [.int 0] rfl rfl ?_
        refine z_xrz zt117 15 rfl zzr117 (by decide) (by decide) ?_
        show z_ev (d + 5) 116 39 [some (.ref 4), some (.int p1), some (.int p2), some (.int p3), some (.ref a24), some (.ref a38)] [.int 0] M0 _
        refine z_xZ zt116 11 rfl rfl (fun (h83 : (0 : Int) = 0) => ?_) (fun (h83 : (0 : Int) ≠ 0) => absurd h83 (by omega))
        refine z_xP zt116 14 49 [some (.ref 4), some (.int p1), some (.int p2), some (.int p3), some (.ref a24), some (.ref a38)] [.int p3, .ref a38, .ref a24] rfl rfl ?_
        refine z_xcV (vs := [.ref a24, .ref a38, .int p3]) (r := []) (L2 := [some (.ref a24), some (.ref a38), some (.int p3), none, none, none, none, none, none, none, none]) zt116 15 rfl zo116 zzcV0_263 (Or.inr rfl) rfl X k30 (z_w8 (fun c => (([(4, 118), (10, 118), (7, 118), (5, 118), (11, 118), (8, 118), (6, 118), (9, 118)] : List (Nat × Nat)).find? fun t => t.1 == c) = some (c, 118)) rfl rfl rfl rfl rfl rfl rfl rfl w29) rfl rfl (Nat.le_of_ble_eq_true rfl) zzm118 (Nat.le_of_ble_eq_true rfl) rfl ?_
        have hyn : (yy p3.toInt.toNat ||| nn p3.toInt.toNat).toInt = x78.toInt := by
          rw [← eyy, ← enn, ← h72]
          exact h82
        have hnn : nn p3.toInt.toNat = x78 &&& (yy p3.toInt.toNat ^^^ (-1 : Int32)) := (z_silent (hyn) (jok p3.toInt.toNat (by omega)).1.2.2).symm
        refine z_ev.told (fun w => w = a38) (hbk.ke X.2 (by decide)) X.1 (z_qLc (z_rvr (z_pb.way w29 k30)) (z_qLc (z_rvr (z_pb.ben k45 rfl)) (z_qLc z_rvi (z_qLn (z_qLn (z_qLn (z_qLn (z_qLn (z_qLn (z_qLn (z_qLn z_qL0))))))))))) z_qS0 ?_
        refine zUC118 (p2 := p3) w29 k30 (by omega) hD ej hTB.2.2.1 hcb jok (by omega) f5 (h9 _ _ _ _ k45).1 (fun x86 M84 X85 g1 g2 g3 g4 => ?_)
        intro ho94
        have X89 := X.go X85 (z_sb (by decide))
        show z_ev (d + 5) 116 52 [some (.ref 4), some (.int p1), some (.int p2), some (.int p3), some (.ref a24), some (.ref a38)] [.int x86] M84 _
        exact z_xri zt116 16 rfl zzr116 (kk x86 M84 X89 (Or.inr ⟨hvT, a24, _, a38, N, q42, t43, m44, pr, en, J, sa, B, sh, jv, ch, ww, yy, nn, h25, k30, hD, hTB, f5, Or.inr ⟨⟨by omega, by omega⟩, ⟨⟨x78, hA, hyn, hnn⟩, g4⟩, ho94, g1, g2, g3⟩⟩))
      refine z_xP zt117 13 28 [some (.ref a38), some (.int p3)] [.int 1] rfl rfl ?_
      refine z_xrz zt117 15 rfl zzr117 (by decide) (by decide) ?_
      show z_ev (d + 5) 116 39 [some (.ref 4), some (.int p1), some (.int p2), some (.int p3), some (.ref a24), some (.ref a38)] [.int 1] M0 _
      refine z_xZ zt116 11 rfl rfl (fun (h91 : (1 : Int) = 0) => absurd h91 (by omega)) (fun (h91 : (1 : Int) ≠ 0) => ?_)
      refine z_xP zt116 12 43 [some (.ref 4), some (.int p1), some (.int p2), some (.int p3), some (.ref a24), some (.ref a38)] [.int (-1)] rfl rfl ?_
      have qm1 : (((-1) : Int32)).toInt = (-1) := rfl
      have hsl : (yy p3.toInt.toNat ||| nn p3.toInt.toNat).toInt ≠ ((2 ^ q42 : Nat) : Int) - 1 := by
        rw [← hA, ← eyy, ← enn, ← h72]
        exact h82
      exact z_xri zt116 13 rfl zzr116 (kk (-1) M0 X (Or.inr ⟨hvT, a24, _, a38, N, q42, t43, m44, pr, en, J, sa, B, sh, jv, ch, ww, yy, nn, h25, k30, hD, hTB, f5, Or.inl ⟨rfl, Or.inr ⟨by omega, by omega, hsl⟩, .refl⟩⟩))
    refine z_xP zt35 5 22 [some (.ref 4), some (.int p2)] [.null] rfl rfl ?_
    refine z_xrn zt35 10 rfl zzr35 ?_
    show z_ev (d + 5) 116 12 [some (.ref 4), some (.int p1), some (.int p2), some (.int p3), some (.ref a24), none] [.null] M0 _
    refine z_xP zt116 4 19 [some (.ref 4), some (.int p1), some (.int p2), some (.int p3), some (.ref a24), some (.null)] [] rfl rfl ?_
    refine z_xP zt116 5 42 [some (.ref 4), some (.int p1), some (.int p2), some (.int p3), some (.ref a24), some (.null)] [] rfl rfl ?_
    refine z_xP zt116 12 43 [some (.ref 4), some (.int p1), some (.int p2), some (.int p3), some (.ref a24), some (.null)] [.int (-1)] rfl rfl ?_
    have qm1 : (((-1) : Int32)).toInt = (-1) := rfl
    exact z_xri zt116 13 rfl zzr116 (kk (-1) M0 X (z_cT0 (by unfold z_vT; omega) rfl))
  refine z_xP zt84 5 22 [some (.ref 4), some (.int p1)] [.null] rfl rfl ?_
  refine z_xrn zt84 10 rfl zzr84 ?_
  show z_ev (d + 5) 116 5 [some (.ref 4), some (.int p1), some (.int p2), some (.int p3), none, none] [.null] M0 _
  refine z_xP zt116 2 9 [some (.ref 4), some (.int p1), some (.int p2), some (.int p3), some (.null), none] [.int p2, .ref 4] rfl rfl ?_
  refine z_xcV (vs := [.ref 4, .int p2]) (r := []) (L2 := [some (.ref 4), some (.int p2)]) zt116 3 rfl zo116 zzcV0_85 (Or.inl rfl) rfl X f4 rfl rfl rfl (Nat.le_of_ble_eq_true rfl) zzm35 (Nat.le_of_ble_eq_true rfl) rfl ?_
  refine z_xP zt35 0 1 [some (.ref 4), some (.int p2)] [.int p2] rfl rfl ?_
  refine z_xZ zt35 1 rfl rfl (fun (h92 : p2.toInt < 0) => ?_) (fun (h92 : 0 ≤ p2.toInt) => ?_)
  · skip
    refine z_xP zt35 5 22 [some (.ref 4), some (.int p2)] [.null] rfl rfl ?_
    refine z_xrn zt35 10 rfl zzr35 ?_
    show z_ev (d + 5) 116 12 [some (.ref 4), some (.int p1), some (.int p2), some (.int p3), some (.null), none] [.null] M0 _
    refine z_xP zt116 4 42 [some (.ref 4), some (.int p1), some (.int p2), some (.int p3), some (.null), some (.null)] [] rfl rfl ?_
    refine z_xP zt116 12 43 [some (.ref 4), some (.int p1), some (.int p2), some (.int p3), some (.null), some (.null)] [.int (-1)] rfl rfl ?_
    have qm1 : (((-1) : Int32)).toInt = (-1) := rfl
    exact z_xri zt116 13 rfl zzr116 (kk (-1) M0 X (z_cT0 (by unfold z_vT; omega) rfl))
  refine z_xP zt35 2 6 [some (.ref 4), some (.int p2)] [.ref 4, .int p2] rfl rfl ?_
  refine z_xgI zt35 3 rfl zo35 zzf0_59 X f4 (by decide) (by decide) rfl (fun (x94 : Int32) h93 (h95 : 0 ≤ x94.toInt) (h96 : x94.toInt ≤ 8) => ?_)
  have ex94 : (z_Fv M0 4 3).toInt = x94.toInt := by rw [z_Fv.of h93]
  have h97 := z_b32 p2
  refine z_xJ zt35 4 rfl rfl (fun (h98 : p2.toInt < x94.toInt) => ?_) (fun (h98 : x94.toInt ≤ p2.toInt) => ?_)
  · skip
    refine z_xP zt35 6 17 [some (.ref 4), some (.int p2)] [.ref 4] rfl rfl ?_
    refine z_xgX (b := 10) zt35 7 rfl zo35 zzf0_18 X f4 (by decide) (by decide) rfl ?_
    refine z_xP zt35 8 21 [some (.ref 4), some (.int p2)] [.int p2, .ref 10] rfl rfl ?_
    have f10 : T[10]? = some (.inr (10, 2, 8, 9, 0)) := X.1.k rfl (by decide)
    refine z_xal zt35 9 rfl X f10 (by decide) (by decide) (by decide) (by omega) (by omega) (fun (a99 : Nat) h100 h101 => ?_) (fun h102 => absurd h102 (z_Gs (hG.go X (by decide)).2.1 h93 (by omega) (by omega)))
    obtain ⟨q103, t104, m105, k106⟩ : ∃ q t m, T[a99]? = some (.inl (3, q, t, m, 9)) := h101
    have g107 := X.1.p3 k106
    refine z_xra zt35 10 rfl zzr35 ?_
    show z_ev (d + 5) 116 12 [some (.ref 4), some (.int p1), some (.int p2), some (.int p3), some (.null), none] [.ref a99] M0 _
    refine z_xP zt116 4 42 [some (.ref 4), some (.int p1), some (.int p2), some (.int p3), some (.null), some (.ref a99)] [] rfl rfl ?_
    refine z_xP zt116 12 43 [some (.ref 4), some (.int p1), some (.int p2), some (.int p3), some (.null), some (.ref a99)] [.int (-1)] rfl rfl ?_
    have qm1 : (((-1) : Int32)).toInt = (-1) := rfl
    exact z_xri zt116 13 rfl zzr116 (kk (-1) M0 X (z_cT0 (by unfold z_vT; omega) rfl))
  refine z_xP zt35 5 22 [some (.ref 4), some (.int p2)] [.null] rfl rfl ?_
  refine z_xrn zt35 10 rfl zzr35 ?_
  show z_ev (d + 5) 116 12 [some (.ref 4), some (.int p1), some (.int p2), some (.int p3), some (.null), none] [.null] M0 _
  refine z_xP zt116 4 42 [some (.ref 4), some (.int p1), some (.int p2), some (.int p3), some (.null), some (.null)] [] rfl rfl ?_
  refine z_xP zt116 12 43 [some (.ref 4), some (.int p1), some (.int p2), some (.int p3), some (.null), some (.null)] [.int (-1)] rfl rfl ?_
  have qm1 : (((-1) : Int32)).toInt = (-1) := rfl
  exact z_xri zt116 13 rfl zzr116 (kk (-1) M0 X (z_cT0 (by unfold z_vT; omega) rfl))
