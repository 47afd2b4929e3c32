/-! over all benches, the reference -/
section ZRALL
variable {T : List zK} {M M1 : zH} {a q t m pr en n : Nat} {B F F2 : Nat → Nat} {S : Nat → Int32} {A : Int32} {rs : List Nat}
/-- an agenda of the reference, as all benches ask it -/
def y_tnb (M : zH) (a q t m pr en : Nat) (B : Nat → Nat) (S : Nat → Int32) (A : Int32) : Prop := (1 ≤ q ∧ q ≤ 10) ∧ y_AGO M a q t m pr en B ∧ (m = z_lc B (2 ^ q) ∧ 1 ≤ m) ∧ (∀ k, k < m → z_Ar M 30 (1024 * a + k) = S k) ∧ A.toInt = ((2 ^ q : Nat) : Int) - 1
/-- what sits there can decide -/
theorem y_TN.rp (hT : y_TN T M a q t m pr en n B F S A) (hS : y_ST M n F S A) (hm : m = z_lc B (2 ^ q) ∧ 1 ≤ m) {av : Int32} (hav : z_F M 19 29 = some (.int av)) : ∃ sv : Int32, z_RP T M a q m pr en B av sv ∧ sv.toInt.toNat = n := by
  obtain ⟨hW, ⟨av2, h1, ea, a8⟩, ⟨sv, h3, esv, n5⟩, hG, hSS, hA, q10, hnu⟩ := id hT
  have eav := z_ive hav h1
  rw [← eav] at ea h1
  have jok : ∀ j, j < n → z_jok q (z_w1 j) (z_yS S F j) (z_nS S A F j) := fun j hj => by
    have hF := (hnu j hj).2
    obtain ⟨s, s1, s2, s3⟩ := z_lc_ex (B := B) (2 ^ q) (F j) (by omega)
    have e : (z_Ar M 30 (1024 * a + z_lc B s)).toInt = (s : Int) := hG.2.2.2.2.2.2 s s1 s2
    rw [s3, hSS _ hF] at e
    exact ⟨z_ansNo (Y := S (F j)) hA q10.2 ⟨by omega, by rw [e]; exact Int.ofNat_lt.mpr s1⟩, show 1 ≤ (1 : Int32).toInt ∧ (1 : Int32).toInt ≤ 9 by decide⟩
  have ok := z_jokJ q10.2 jok
  refine ⟨sv, ⟨hW, ⟨h1, ea, a8⟩, ⟨h3, by omega, by omega⟩, q10, ⟨t, hG⟩, hm, fun j hj => ?_, fun j hj => ?_⟩, by omega⟩
  · obtain ⟨_, u2, u3⟩ := hS j (by omega)
    rw [u2, u3]
    exact (jok j (by omega)).1
  · obtain ⟨u1, u2, u3⟩ := hS j (by omega)
    rw [u1, u2, u3]
    exact ok j (by omega)
/-- whether it can stand -/
theorem y_TN.cs (hT : y_TN T M a q t m pr en n B F S A) (hm : m = z_lc B (2 ^ q) ∧ 1 ≤ m) {av yv nv : Int32} {x : Int} (hav : z_F M 19 29 = some (.int av)) (hy : 0 ≤ yv.toInt ∧ yv.toInt < 1024) (hn : 0 ≤ nv.toInt ∧ nv.toInt < 1024) (h : y_cb (fun j => z_Ar M 30 (1024 * av.toNatClampNeg + j)) yv nv (z_Ar M 31 av.toNatClampNeg).toInt.toNat x) : (x = 1 ∧ z_cs B q yv.toInt.toNat nv.toInt.toNat) ∨ (x = 0 ∧ ¬ z_cs B q yv.toInt.toNat nv.toInt.toNat) := by
  obtain ⟨hW, ⟨av2, h1, ea, a8⟩, _, hG, hSS, hA, q10, hnu⟩ := id hT
  have eav := z_ive hav h1
  rw [← eav] at ea
  rw [z_tnA ea] at h
  have e31 := hG.2.2.2.2.1
  have e := y_csE (y := yv) (n := nv) hG.2.2.2.2.2.2 hm.1 q10.2 hy hn
  rw [← e, show m = (z_Ar M 31 a).toInt.toNat by omega]
  exact h
/-- what is answered: a refusal, too big, or so -/
def z_aA (v r : Prop) (m : Nat) (P : Prop) (x : Int) : Prop := (x = -1 ∧ ¬ (v ∧ r)) ∨ ((v ∧ r) ∧ ((x = -4 ∧ 12 < m) ∨ (m ≤ 12 ∧ P)))
def y_vW (M : zH) (p1 p2 : Int32) : Prop := (0 ≤ p1.toInt ∧ p1.toInt < (z_Fv M 19 21).toInt) ∧ (0 ≤ p2.toInt ∧ p2.toInt < (z_Fv M 19 13).toInt)
/-- a way of the reference -/
def y_wy (M : zH) (p : Int32) (kd sh ch : Nat) : Prop := (z_Ar M 36 p.toNatClampNeg).toInt = (kd : Int) ∧ (z_Ar M 37 p.toNatClampNeg).toInt = (sh : Int) ∧ (z_Ar M 38 p.toNatClampNeg).toInt = (ch : Int)
theorem y_wy.ke {p : Int32} {kd sh ch : Nat} (h : y_wy M p kd sh ch) (hW : z_W M T) (ke : z_ke T rs M M1) (hr : (([36, 37, 38] : List Nat).all fun x => !rs.elem x) = true) : y_wy M1 p kd sh ch := by
  have n0 := z_nin hr
  unfold y_wy
  rw [ke.a (hW.k (k := 36) (κ := z_ai 36 20 0 7) rfl (by decide)) (n0 _ rfl), ke.a (hW.k (k := 37) (κ := z_ai 37 20 0 9) rfl (by decide)) (n0 _ rfl), ke.a (hW.k (k := 38) (κ := z_ai 38 20 0 8) rfl (by decide)) (n0 _ rfl)]
  exact h
theorem y_wyX (hW : z_W M T) {p : Int32} (h : p.toNatClampNeg < 20) : ∃ kd sh ch : Nat, y_wy M p kd sh ch := by
  obtain ⟨kd, e1⟩ := z_aiN hW (r := 36) (n := 20) (hi := 7) 36 rfl (by decide) (by decide) p.toNatClampNeg h
  obtain ⟨sh, e2⟩ := z_aiN hW (r := 37) (n := 20) (hi := 9) 37 rfl (by decide) (by decide) p.toNatClampNeg h
  obtain ⟨ch, e3⟩ := z_aiN hW (r := 38) (n := 20) (hi := 8) 38 rfl (by decide) (by decide) p.toNatClampNeg h
  exact ⟨kd, sh, ch, e1, e2, e3⟩
end ZRALL
theorem zYB256 {T : List zK} {d : Nat} {K : Option Value → zH → Prop} {p1 : Int32} {p2 : Int32} {p3 : Int32} {p4 : Int32} {M0 : zH} {a q t m pr en kd sh ch : Nat} {B : Nat → Nat} {S : Nat → Int32} {A : Int32} (hW0 : z_W M0 T) (hwp1 : y_wy M0 p1 kd sh ch) (hm : m = z_lc B (2 ^ q) ∧ 1 ≤ m) (m12 : m ≤ 12) (up1 : 0 ≤ p1.toInt ∧ p1.toInt ≤ 19) (un : 1 ≤ p3.toInt ∧ p3.toInt ≤ 5) (kk : ∀ (x : Int32) (M1 : zH), z_X T zw256 M0 M1 → z_kA (z_pUn (kd + 4) B q pr en sh ch m p3.toInt.toNat S A) (fun k => (z_cdB (z_bk m p3.toInt.toNat k) p3.toInt.toNat : Int)) (z_T m p3.toInt.toNat) p4.toInt x.toInt → K (some (.int x)) M1) : ∀ nn : Nat, (∀ (M : zH) (b5 : Int32) (b6 : Int32) (b7 : Int32) (b8 : Int32) (o9 : Option Value) (k : Nat), z_X T zw256 M0 M → 0 ≤ b8.toInt ∧ b8.toInt ≤ 1 → ((b8.toInt = 0 ∧ k = z_T m p3.toInt.toNat) ∨ (b8.toInt = 1 ∧ k < z_T m p3.toInt.toNat ∧ y_TN T M a q t m pr en p3.toInt.toNat B (z_bk m p3.toInt.toNat k) S A ∧ y_ST M p3.toInt.toNat (z_bk m p3.toInt.toNat k) S A)) → (∃ (cc : Nat) (yy : Int), z_kr (z_pUn (kd + 4) B q pr en sh ch m p3.toInt.toNat S A) (fun k => (z_cdB (z_bk m p3.toInt.toNat k) p3.toInt.toNat : Int)) k cc yy ∧ b6.toInt = (cc : Int) ∧ b7.toInt = yy) → 2 * ((z_T m p3.toInt.toNat : Int) - (k : Int)) + b8.toInt < (nn : Int) → z_ev (d + 5) 256 53 [some (.ref 19), some (.int p1), some (.int p2), some (.int p3), some (.int p4), some (.int b5), some (.int b6), some (.int b7), some (.int b8), o9] [] M K) := by
  intro nn
  induction nn with
  | zero => exact by intro M b5 b6 b7 b8 o9 k X hb8 hst hI hE; clear hI; rcases hst with ⟨g1, g2⟩ | ⟨g1, g2, _⟩ <;> (exfalso; omega)
  | succ nn ih =>
    intro M b5 b6 b7 b8 o9 k X hb8 hst hI hE
    obtain ⟨cc, yy, hK, hk0, hk1⟩ := hI
    have hcM := z_krM hK
    have hTb := z_Tb m (by omega) p3.toInt.toNat (by omega)
    refine z_xP zt256 19 55 [some (.ref 19), some (.int p1), some (.int p2), some (.int p3), some (.int p4), some (.int b5), some (.int b6), some (.int b7), some (.int b8), o9] [.int b8] rfl rfl ?_
    refine z_xZ zt256 20 rfl rfl (fun (h1 : b8.toInt = 0) => ?_) (fun (h1 : b8.toInt ≠ 0) => ?_)
    · skip
      have hkT : k = z_T m p3.toInt.toNat := by
        rcases hst with ⟨_, g⟩ | ⟨g, _⟩
        · exact g
        · exact absurd g (by omega)
      refine z_xP zt256 41 117 [some (.ref 19), some (.int p1), some (.int p2), some (.int p3), some (.int p4), some (.int b5), some (.int b6), some (.int b7), some (.int b8), o9] [.int p4] rfl rfl ?_
      refine z_xZ zt256 42 rfl rfl (fun (h2 : p4.toInt ≠ 0) => ?_) (fun (h2 : p4.toInt = 0) => ?_)
      · skip
        refine z_xP zt256 44 127 [some (.ref 19), some (.int p1), some (.int p2), some (.int p3), some (.int p4), some (.int b5), some (.int b6), some (.int b7), some (.int b8), o9] [.int b7] rfl rfl ?_
        exact z_xri zt256 45 rfl zzr256 (kk b7 M X ⟨cc, yy, by rw [← hkT]; exact hK, Or.inr ⟨h2, hk1⟩⟩)
      refine z_xP zt256 43 127 [some (.ref 19), some (.int p1), some (.int p2), some (.int p3), some (.int p4), some (.int b5), some (.int b6), some (.int b7), some (.int b8), o9] [.int b6] rfl rfl ?_
      exact z_xri zt256 45 rfl zzr256 (kk b6 M X ⟨cc, yy, by rw [← hkT]; exact hK, Or.inl ⟨h2, hk0⟩⟩)
    obtain ⟨hkL, hTM, hSM⟩ : k < z_T m p3.toInt.toNat ∧ y_TN T M a q t m pr en p3.toInt.toNat B (z_bk m p3.toInt.toNat k) S A ∧ y_ST M p3.toInt.toNat (z_bk m p3.toInt.toNat k) S A := by
      rcases hst with ⟨g, _⟩ | ⟨_, g⟩
      · exact absurd g (by omega)
      · exact g
    have hWM := hTM.1
    obtain ⟨_, ⟨z0, hp0, ea, a8⟩, ⟨z1, hp1, esv, n5⟩, hG, hSS, hA, q10, hnu⟩ := id hTM
    obtain ⟨sv, hRP, eJ⟩ := hTM.rp hSM hm hp0
    refine z_xP zt256 21 60 [some (.ref 19), some (.int p1), some (.int p2), some (.int p3), some (.int p4), some (.int b5), some (.int b6), some (.int b7), some (.int b8), o9] [.int p1, .ref 19] rfl rfl ?_
    have f19 : T[19]? = some (.inl (12, 0, 0, 0, 0)) := X.1.k rfl (by decide)
    refine z_xcV (vs := [.ref 19, .int p1]) (r := []) (L2 := [some (.ref 19), some (.int p1), none]) zt256 22 rfl zo256 zzcV12_303 (Or.inl rfl) rfl X f19 rfl rfl rfl (Nat.le_of_ble_eq_true rfl) zzm239 (Nat.le_of_ble_eq_true rfl) rfl ?_
    obtain ⟨gkd, gsh, gch⟩ := hwp1.ke hW0 X.2 (by decide)
    refine zUC239 hRP (by omega) gkd gsh gch (fun M3 yv nv X4 hyv hnv hyn hout => ?_)
    rw [eJ] at hout
    have hoJ : z_oJ (kd + 4) B q pr en sh p3.toInt.toNat ch z_w1 (z_yS S (z_bk m p3.toInt.toNat k)) (z_nS S A (z_bk m p3.toInt.toNat k)) yv.toInt.toNat nv.toInt.toNat := ⟨_, _, _, fun k2 _ => z_LVof eJ hSM k2, fun j hj => ⟨by rw [(hSM j hj).2.1], by rw [(hSM j hj).2.2]⟩, hout⟩
    have hT3 := hTM.ke X4 (by decide)
    have X5 := X.go X4 (z_sb (by decide))
    show z_ev (d + 5) 256 63 [some (.ref 19), some (.int p1), some (.int p2), some (.int p3), some (.int p4), some (.int b5), some (.int b6), some (.int b7), some (.int b8), o9] [] M3 _
    refine z_xP zt256 23 64 [some (.ref 19), some (.int p1), some (.int p2), some (.int p3), some (.int p4), some (.int b5), some (.int b6), some (.int b7), some (.int b8), o9] [.ref 19] rfl rfl ?_
    refine z_xcV (vs := [.ref 19]) (r := []) (L2 := [some (.ref 19)]) zt256 24 rfl zo256 zzcV12_309 (Or.inl rfl) rfl X5 f19 rfl rfl rfl (Nat.le_of_ble_eq_true rfl) zzm249 (Nat.le_of_ble_eq_true rfl) rfl ?_
    refine z_xP zt249 0 2 [some (.ref 19)] [.ref 19, .ref 19] rfl rfl ?_
    have h7 := X4.2.f f19 (by decide) hp0
    refine z_xgv zt249 1 rfl zo249 zzf12_242 X5 f19 (by decide) h7 ?_
    refine z_xP zt249 2 6 [some (.ref 19)] [.ref 19, .int z0, .ref 19] rfl rfl ?_
    refine z_xgv zt249 3 rfl zo249 zzf12_275 X5 f19 (by decide) hyv ?_
    refine z_xP zt249 4 10 [some (.ref 19)] [.ref 19, .int yv, .int z0, .ref 19] rfl rfl ?_
    refine z_xgv zt249 5 rfl zo249 zzf12_278 X5 f19 (by decide) hnv ?_
    refine z_xcV (vs := [.ref 19, .int z0, .int yv, .int nv]) (r := []) (L2 := [some (.ref 19), some (.int z0), some (.int yv), some (.int nv), none, none]) zt249 6 rfl zo249 zzcV12_222 (Or.inl rfl) rfl X5 f19 rfl rfl rfl (Nat.le_of_ble_eq_true rfl) zzm215 (Nat.le_of_ble_eq_true rfl) rfl ?_
    refine zUC215 X5.1 (by omega) (fun x18 M16 X17 h19 h20 h18 => ?_)
    have h18b := hT3.cs hm h7 hyn.1 hyn.2 h18
    have hT16 := hT3.ke X17 (by decide)
    have hP : (z_pUn (kd + 4) B q pr en sh ch m p3.toInt.toNat S A) k ↔ x18.toInt = 0 := by
      constructor
      · rintro ⟨y, u, g1, g2⟩
        obtain ⟨rfl, rfl⟩ := z_oJU g1 hoJ q10.1
        rcases h18b with ⟨_, g4⟩ | ⟨g3, _⟩
        · exact absurd g4 g2
        · exact g3
      · intro g3
        rcases h18b with ⟨g4, _⟩ | ⟨_, g4⟩
        · exact absurd g4 (by omega)
        · exact ⟨_, _, hoJ, g4⟩
    have X21 := X5.go X17 (z_sb (by decide))
    show z_ev (d + 4) 249 16 [some (.ref 19)] [.int x18] M16 _
    refine z_xZ zt249 7 rfl rfl (fun (h23 : x18.toInt ≠ 0) => ?_) (fun (h23 : x18.toInt = 0) => ?_)
    · skip
      refine z_xP zt249 9 24 [some (.ref 19)] [.int 0] rfl rfl ?_
      refine z_xrz zt249 10 rfl zzr249 (by decide) (by decide) ?_
      show z_ev (d + 5) 256 67 [some (.ref 19), some (.int p1), some (.int p2), some (.int p3), some (.int p4), some (.int b5), some (.int b6), some (.int b7), some (.int b8), o9] [.int 0] M16 _
      refine z_xP zt256 25 71 [some (.ref 19), some (.int p1), some (.int p2), some (.int p3), some (.int p4), some (.int b5), some (.int b6), some (.int b7), some (.int b8), some (.int 0)] [.int 0] rfl rfl ?_
      refine z_xZ zt256 26 rfl rfl (fun (h24 : (0 : Int) = 0) => ?_) (fun (h24 : (0 : Int) ≠ 0) => absurd h24 (by omega))
      refine z_xP zt256 32 88 [some (.ref 19), some (.int p1), some (.int p2), some (.int p3), some (.int p4), some (.int b5), some (.int b6), some (.int b7), some (.int b8), some (.int 0)] [.int b7] rfl rfl ?_
      refine z_xP zt256 33 94 [some (.ref 19), some (.int p1), some (.int p2), some (.int p3), some (.int p4), some (.int b5), some (.int b6), some (.int b7), some (.int b8), some (.int 0)] [.int 0, .int b6] rfl rfl ?_
      refine z_xZ zt256 34 rfl rfl (fun (h25 : (0 : Int) = 0) => ?_) (fun (h25 : (0 : Int) ≠ 0) => absurd h25 (by omega))
      refine z_xP zt256 36 102 [some (.ref 19), some (.int p1), some (.int p2), some (.int p3), some (.int p4), some (.int b5), some (.int b6), some (.int b7), some (.int b8), some (.int 0)] [.int 0, .int b6] rfl rfl ?_
      have h26 := z_b32 b6
      refine z_xI zt256 37 rfl rfl (fun (x27 : Int32) (h28 : x27.toInt = b6.toInt + 0) => ?_) (z_pAdd rfl rfl (by omega) (by omega))
      refine z_xP zt256 38 107 [some (.ref 19), some (.int p1), some (.int p2), some (.int p3), some (.int p4), some (.int b5), some (.int x27), some (.int b7), some (.int b8), some (.int 0)] [.int 0, .ref 19] rfl rfl ?_
      refine z_xcV (vs := [.ref 19, .int 0]) (r := []) (L2 := [some (.ref 19), some (.int 0), none, none, none]) zt256 39 rfl zo256 zzcV12_326 (Or.inl rfl) rfl X21 f19 rfl rfl rfl (Nat.le_of_ble_eq_true rfl) zzm255 (Nat.le_of_ble_eq_true rfl) rfl ?_
      have q0 : ((0 : Int32)).toInt = 0 := rfl
      have q0 : ((0 : Int32)).toInt = 0 := rfl
      refine zYD255 (by decide) hT16 (by omega) ⟨hm.2, m12⟩ hkL (fun x49 M36 X37 hgo => ?_)
      have hx49 : 0 ≤ x49.toInt ∧ x49.toInt ≤ 1 := by rcases hgo with ⟨g, _⟩ | ⟨g, _⟩ <;> omega
      have hms : 2 * ((z_T m p3.toInt.toNat : Int) - ((k + 1 : Nat) : Int)) + x49.toInt < (nn : Int) := by rcases hgo with ⟨g1, g2⟩ | ⟨g1, g2, _⟩ <;> omega
      have X52 := X21.go X37 (z_sb (by decide))
      show z_ev (d + 5) 256 110 [some (.ref 19), some (.int p1), some (.int p2), some (.int p3), some (.int p4), some (.int b5), some (.int x27), some (.int b7), some (.int b8), some (.int 0)] [.int x49] M36 _
      refine z_xP zt256 40 53 [some (.ref 19), some (.int p1), some (.int p2), some (.int p3), some (.int p4), some (.int b5), some (.int x27), some (.int b7), some (.int x49), some (.int 0)] [] rfl rfl ?_
      have q0 : ((0 : Int32)).toInt = 0 := rfl
      exact ih M36 b5 x27 b7 x49 (some (.int 0)) (k + 1) X52 hx49 hgo ⟨cc, yy, z_krN hK (fun g => h23 (hP.mp g)), by omega, hk1⟩ hms
    refine z_xP zt249 8 24 [some (.ref 19)] [.int 1] rfl rfl ?_
    refine z_xrz zt249 10 rfl zzr249 (by decide) (by decide) ?_
    show z_ev (d + 5) 256 67 [some (.ref 19), some (.int p1), some (.int p2), some (.int p3), some (.int p4), some (.int b5), some (.int b6), some (.int b7), some (.int b8), o9] [.int 1] M16 _
    refine z_xP zt256 25 71 [some (.ref 19), some (.int p1), some (.int p2), some (.int p3), some (.int p4), some (.int b5), some (.int b6), some (.int b7), some (.int b8), some (.int 1)] [.int 1] rfl rfl ?_
    refine z_xZ zt256 26 rfl rfl (fun (h58 : (1 : Int) = 0) => absurd h58 (by omega)) (fun (h58 : (1 : Int) ≠ 0) => ?_)
    refine z_xP zt256 27 76 [some (.ref 19), some (.int p1), some (.int p2), some (.int p3), some (.int p4), some (.int b5), some (.int b6), some (.int b7), some (.int b8), some (.int 1)] [.int b6] rfl rfl ?_
    refine z_xZ zt256 28 rfl rfl (fun (h59 : b6.toInt ≠ 0) => ?_) (fun (h59 : b6.toInt = 0) => ?_)
    · skip
      refine z_xP zt256 32 88 [some (.ref 19), some (.int p1), some (.int p2), some (.int p3), some (.int p4), some (.int b5), some (.int b6), some (.int b7), some (.int b8), some (.int 1)] [.int b7] rfl rfl ?_
      refine z_xP zt256 33 94 [some (.ref 19), some (.int p1), some (.int p2), some (.int p3), some (.int p4), some (.int b5), some (.int b6), some (.int b7), some (.int b8), some (.int 1)] [.int 1, .int b6] rfl rfl ?_
      refine z_xZ zt256 34 rfl rfl (fun (h60 : (1 : Int) = 0) => absurd h60 (by omega)) (fun (h60 : (1 : Int) ≠ 0) => ?_)
      refine z_xP zt256 35 102 [some (.ref 19), some (.int p1), some (.int p2), some (.int p3), some (.int p4), some (.int b5), some (.int b6), some (.int b7), some (.int b8), some (.int 1)] [.int 1, .int b6] rfl rfl ?_
      have h61 := z_b32 b6
      refine z_xI zt256 37 rfl rfl (fun (x62 : Int32) (h62 : x62.toInt = b6.toInt + 1) => ?_) (z_pAdd rfl rfl (by omega) (by omega))
      refine z_xP zt256 38 107 [some (.ref 19), some (.int p1), some (.int p2), some (.int p3), some (.int p4), some (.int b5), some (.int x62), some (.int b7), some (.int b8), some (.int 1)] [.int 0, .ref 19] rfl rfl ?_
      refine z_xcV (vs := [.ref 19, .int 0]) (r := []) (L2 := [some (.ref 19), some (.int 0), none, none, none]) zt256 39 rfl zo256 zzcV12_326 (Or.inl rfl) rfl X21 f19 rfl rfl rfl (Nat.le_of_ble_eq_true rfl) zzm255 (Nat.le_of_ble_eq_true rfl) rfl ?_
      have q0 : ((0 : Int32)).toInt = 0 := rfl
      have q0 : ((0 : Int32)).toInt = 0 := rfl
      refine zYD255 (by decide) hT16 (by omega) ⟨hm.2, m12⟩ hkL (fun x84 M71 X72 hgo => ?_)
      have hx84 : 0 ≤ x84.toInt ∧ x84.toInt ≤ 1 := by rcases hgo with ⟨g, _⟩ | ⟨g, _⟩ <;> omega
      have hms : 2 * ((z_T m p3.toInt.toNat : Int) - ((k + 1 : Nat) : Int)) + x84.toInt < (nn : Int) := by rcases hgo with ⟨g1, g2⟩ | ⟨g1, g2, _⟩ <;> omega
      have X87 := X21.go X72 (z_sb (by decide))
      show z_ev (d + 5) 256 110 [some (.ref 19), some (.int p1), some (.int p2), some (.int p3), some (.int p4), some (.int b5), some (.int x62), some (.int b7), some (.int b8), some (.int 1)] [.int x84] M71 _
      refine z_xP zt256 40 53 [some (.ref 19), some (.int p1), some (.int p2), some (.int p3), some (.int p4), some (.int b5), some (.int x62), some (.int b7), some (.int x84), some (.int 1)] [] rfl rfl ?_
      have q1 : ((1 : Int32)).toInt = 1 := rfl
      exact ih M71 b5 x62 b7 x84 (some (.int 1)) (k + 1) X87 hx84 hgo ⟨cc + 1, yy, by have g := z_krS hK (hP.mpr h23); rw [if_neg (by omega)] at g; exact g, by omega, hk1⟩ hms
    refine z_xP zt256 29 80 [some (.ref 19), some (.int p1), some (.int p2), some (.int p3), some (.int p4), some (.int b5), some (.int b6), some (.int b7), some (.int b8), some (.int 1)] [.ref 19] rfl rfl ?_
    refine z_xcV (vs := [.ref 19]) (r := []) (L2 := [some (.ref 19), none, none]) zt256 30 rfl zo256 zzcV12_330 (Or.inl rfl) rfl X21 f19 rfl rfl rfl (Nat.le_of_ble_eq_true rfl) zzm257 (Nat.le_of_ble_eq_true rfl) rfl ?_
    refine zUC257 X21.1 hT16 (fun i => by have := z_bkB (m := m) (n := p3.toInt.toNat) hm.2 k i; omega) (fun x95 M93 X94 h95 => ?_)
    have hT93 := hT16.ke X94 (by decide)
    have X96 := X21.go X94 (z_sb (by decide))
    show z_ev (d + 5) 256 83 [some (.ref 19), some (.int p1), some (.int p2), some (.int p3), some (.int p4), some (.int b5), some (.int b6), some (.int b7), some (.int b8), some (.int 1)] [.int x95] M93 _
    refine z_xP zt256 31 88 [some (.ref 19), some (.int p1), some (.int p2), some (.int p3), some (.int p4), some (.int b5), some (.int b6), some (.int b7), some (.int b8), some (.int 1)] [.int x95] rfl rfl ?_
    refine z_xP zt256 33 94 [some (.ref 19), some (.int p1), some (.int p2), some (.int p3), some (.int p4), some (.int b5), some (.int b6), some (.int x95), some (.int b8), some (.int 1)] [.int 1, .int b6] rfl rfl ?_
    refine z_xZ zt256 34 rfl rfl (fun (h98 : (1 : Int) = 0) => absurd h98 (by omega)) (fun (h98 : (1 : Int) ≠ 0) => ?_)
    refine z_xP zt256 35 102 [some (.ref 19), some (.int p1), some (.int p2), some (.int p3), some (.int p4), some (.int b5), some (.int b6), some (.int x95), some (.int b8), some (.int 1)] [.int 1, .int b6] rfl rfl ?_
    refine z_xI zt256 37 rfl rfl (fun (x99 : Int32) (h100 : x99.toInt = b6.toInt + 1) => ?_) (z_pAdd rfl rfl (by omega) (by omega))
    refine z_xP zt256 38 107 [some (.ref 19), some (.int p1), some (.int p2), some (.int p3), some (.int p4), some (.int b5), some (.int x99), some (.int x95), some (.int b8), some (.int 1)] [.int 0, .ref 19] rfl rfl ?_
    refine z_xcV (vs := [.ref 19, .int 0]) (r := []) (L2 := [some (.ref 19), some (.int 0), none, none, none]) zt256 39 rfl zo256 zzcV12_326 (Or.inl rfl) rfl X96 f19 rfl rfl rfl (Nat.le_of_ble_eq_true rfl) zzm255 (Nat.le_of_ble_eq_true rfl) rfl ?_
    have q0 : ((0 : Int32)).toInt = 0 := rfl
    have h101 := (X94.2.f f19 (by decide) (X17.2.f f19 (by decide) h7))
    have q0 : ((0 : Int32)).toInt = 0 := rfl
    refine zYD255 (by decide) hT93 (by omega) ⟨hm.2, m12⟩ hkL (fun x123 M110 X111 hgo => ?_)
    have hx123 : 0 ≤ x123.toInt ∧ x123.toInt ≤ 1 := by rcases hgo with ⟨g, _⟩ | ⟨g, _⟩ <;> omega
    have hms : 2 * ((z_T m p3.toInt.toNat : Int) - ((k + 1 : Nat) : Int)) + x123.toInt < (nn : Int) := by rcases hgo with ⟨g1, g2⟩ | ⟨g1, g2, _⟩ <;> omega
    have X126 := X96.go X111 (z_sb (by decide))
    show z_ev (d + 5) 256 110 [some (.ref 19), some (.int p1), some (.int p2), some (.int p3), some (.int p4), some (.int b5), some (.int x99), some (.int x95), some (.int b8), some (.int 1)] [.int x123] M110 _
    refine z_xP zt256 40 53 [some (.ref 19), some (.int p1), some (.int p2), some (.int p3), some (.int p4), some (.int b5), some (.int x99), some (.int x95), some (.int x123), some (.int 1)] [] rfl rfl ?_
    have q1 : ((1 : Int32)).toInt = 1 := rfl
    exact ih M110 b5 x99 x95 x123 (some (.int 1)) (k + 1) X126 hx123 hgo ⟨cc + 1, x95.toInt, by have g := z_krS hK (hP.mpr h23); rw [if_pos (by omega)] at g; rw [h95]; exact g, by omega, rfl⟩ hms
theorem zYC256 {T : List zK} {d : Nat} {K : Option Value → zH → Prop} {p1 : Int32} {p2 : Int32} {p3 : Int32} {p4 : Int32} {M0 : zH} (hW : z_W M0 T) (hR : z_G4 M0) {q t m pr en : Nat} {B : Nat → Nat} {S : Nat → Int32} {A : Int32} (hTB : y_vW M0 p1 p2 → y_tnb M0 p2.toNatClampNeg q t m pr en B S A) (kk : ∀ (x : Int32) (M1 : zH), z_X T zw256 M0 M1 → z_aA (y_vW M0 p1 p2) ((1 ≤ p3.toInt ∧ p3.toInt ≤ 5) ∧ 0 ≤ p4.toInt ∧ p4.toInt ≤ 1) m (∃ kd sh ch : Nat, y_wy M0 p1 kd sh ch ∧ z_kA (z_pUn (kd + 4) B q pr en sh ch m p3.toInt.toNat S A) (fun k => (z_cdB (z_bk m p3.toInt.toNat k) p3.toInt.toNat : Int)) (z_T m p3.toInt.toNat) p4.toInt x.toInt) x.toInt → K (some (.int x)) M1) : z_ev (d + 5) 256 0 [some (.ref 19), some (.int p1), some (.int p2), some (.int p3), some (.int p4), none, none, none, none, none] [] M0 K := by
  have X : z_X T zw256 M0 M0 := .refl hW
  refine z_xP zt256 0 2 [some (.ref 19), some (.int p1), some (.int p2), some (.int p3), some (.int p4), none, none, none, none, none] [.int p1, .ref 19] rfl rfl ?_
  have f19 : T[19]? = some (.inl (12, 0, 0, 0, 0)) := X.1.k rfl (by decide)
  refine z_xcV (vs := [.ref 19, .int p1]) (r := []) (L2 := [some (.ref 19), some (.int p1)]) zt256 1 rfl zo256 zzcV12_272 (Or.inl rfl) rfl X f19 rfl rfl rfl (Nat.le_of_ble_eq_true rfl) zzm237 (Nat.le_of_ble_eq_true rfl) rfl ?_
  refine z_xP zt237 0 1 [some (.ref 19), some (.int p1)] [.int p1] rfl rfl ?_
  refine z_xZ zt237 1 rfl rfl (fun (h1 : p1.toInt < 0) => ?_) (fun (h1 : 0 ≤ p1.toInt) => ?_)
  · skip
    refine z_xP zt237 6 17 [some (.ref 19), some (.int p1)] [.int 0] rfl rfl ?_
    refine z_xrz zt237 7 rfl zzr237 (by decide) (by decide) ?_
    show z_ev (d + 5) 256 5 [some (.ref 19), some (.int p1), some (.int p2), some (.int p3), some (.int p4), none, none, none, none, none] [.int 0] M0 _
    refine z_xZ zt256 2 rfl rfl (fun (h2 : (0 : Int) = 0) => ?_) (fun (h2 : (0 : Int) ≠ 0) => absurd h2 (by omega))
    refine z_xP zt256 8 20 [some (.ref 19), some (.int p1), some (.int p2), some (.int p3), some (.int p4), none, none, none, none, none] [.int (-1)] rfl rfl ?_
    have qm1 : (((-1) : Int32)).toInt = (-1) := rfl
    exact z_xri zt256 9 rfl zzr256 (kk (-1) M0 X (Or.inl ⟨rfl, by unfold y_vW; omega⟩))
  refine z_xP zt237 2 6 [some (.ref 19), some (.int p1)] [.ref 19, .int p1] rfl rfl ?_
  refine z_xgI zt237 3 rfl zo237 zzf12_269 X f19 (by decide) (by decide) rfl (fun (x4 : Int32) h3 (h5 : 0 ≤ x4.toInt) (h6 : x4.toInt ≤ 20) => ?_)
  have ex4 : (z_Fv M0 19 21).toInt = x4.toInt := by rw [z_Fv.of h3]
  have h7 := z_b32 p1
  refine z_xJ zt237 4 rfl rfl (fun (h8 : x4.toInt ≤ p1.toInt) => ?_) (fun (h8 : p1.toInt < x4.toInt) => ?_)
  · skip
    refine z_xP zt237 6 17 [some (.ref 19), some (.int p1)] [.int 0] rfl rfl ?_
    refine z_xrz zt237 7 rfl zzr237 (by decide) (by decide) ?_
    show z_ev (d + 5) 256 5 [some (.ref 19), some (.int p1), some (.int p2), some (.int p3), some (.int p4), none, none, none, none, none] [.int 0] M0 _
    refine z_xZ zt256 2 rfl rfl (fun (h9 : (0 : Int) = 0) => ?_) (fun (h9 : (0 : Int) ≠ 0) => absurd h9 (by omega))
    refine z_xP zt256 8 20 [some (.ref 19), some (.int p1), some (.int p2), some (.int p3), some (.int p4), none, none, none, none, none] [.int (-1)] rfl rfl ?_
    have qm1 : (((-1) : Int32)).toInt = (-1) := rfl
    exact z_xri zt256 9 rfl zzr256 (kk (-1) M0 X (Or.inl ⟨rfl, by unfold y_vW; omega⟩))
  refine z_xP zt237 5 17 [some (.ref 19), some (.int p1)] [.int 1] rfl rfl ?_
  refine z_xrz zt237 7 rfl zzr237 (by decide) (by decide) ?_
  show z_ev (d + 5) 256 5 [some (.ref 19), some (.int p1), some (.int p2), some (.int p3), some (.int p4), none, none, none, none, none] [.int 1] M0 _
  refine z_xZ zt256 2 rfl rfl (fun (h10 : (1 : Int) = 0) => absurd h10 (by omega)) (fun (h10 : (1 : Int) ≠ 0) => ?_)
  refine z_xP zt256 3 10 [some (.ref 19), some (.int p1), some (.int p2), some (.int p3), some (.int p4), none, none, none, none, none] [.int p4] rfl rfl ?_
  have h11 := z_b32 p4
  refine z_xL zt256 4 rfl rfl (fun (y12 : Int64) (h13 : y12.toInt = p4.toInt) => ?_) (z_qI2L rfl)
  refine z_xP zt256 5 13 [some (.ref 19), some (.int p1), some (.int p2), some (.int p3), some (.int p4), none, none, none, none, none] [.long 1, .long 0, .long y12] rfl rfl ?_
  refine z_xcS (vs := [.long y12, .long 0, .long 1]) (r := []) (L2 := [some (.long y12), none, some (.long 0), none, some (.long 1), none]) zt256 6 rfl zo256 zzcS12_116 (Or.inl rfl) (Nat.le_of_ble_eq_true rfl) rfl rfl (Nat.le_of_ble_eq_true rfl) zzm189 (Nat.le_of_ble_eq_true rfl) rfl ?_
  refine z_xP zt189 0 2 [some (.long y12), none, some (.long 0), none, some (.long 1), none] [.long 0, .long y12] rfl rfl ?_
  refine z_xI zt189 1 rfl rfl (fun (x14 : Int32) (h15 : (x14.toInt < 0 ∧ y12.toInt < 0) ∨ (x14.toInt = 0 ∧ y12.toInt = 0) ∨ (0 < x14.toInt ∧ 0 < y12.toInt)) => ?_) (z_qCmp rfl rfl)
  refine z_xZ zt189 2 rfl rfl (fun (h16 : x14.toInt < 0) => ?_) (fun (h16 : 0 ≤ x14.toInt) => ?_)
  · skip
    refine z_xP zt189 7 18 [some (.long y12), none, some (.long 0), none, some (.long 1), none] [.int 0] rfl rfl ?_
    refine z_xrz zt189 8 rfl zzr189 (by decide) (by decide) ?_
    show z_ev (d + 5) 256 16 [some (.ref 19), some (.int p1), some (.int p2), some (.int p3), some (.int p4), none, none, none, none, none] [.int 0] M0 _
    refine z_xZ zt256 7 rfl rfl (fun (h17 : (0 : Int) ≠ 0) => absurd h17 (by omega)) (fun (h17 : (0 : Int) = 0) => ?_)
    refine z_xP zt256 8 20 [some (.ref 19), some (.int p1), some (.int p2), some (.int p3), some (.int p4), none, none, none, none, none] [.int (-1)] rfl rfl ?_
    have qm1 : (((-1) : Int32)).toInt = (-1) := rfl
    exact z_xri zt256 9 rfl zzr256 (kk (-1) M0 X (Or.inl ⟨rfl, by unfold y_vW; omega⟩))
  refine z_xP zt189 3 9 [some (.long y12), none, some (.long 0), none, some (.long 1), none] [.long 1, .long y12] rfl rfl ?_
  refine z_xI zt189 4 rfl rfl (fun (x18 : Int32) (h19 : (x18.toInt < 0 ∧ y12.toInt < 1) ∨ (x18.toInt = 0 ∧ y12.toInt = 1) ∨ (0 < x18.toInt ∧ 1 < y12.toInt)) => ?_) (z_qCmp rfl rfl)
  refine z_xZ zt189 5 rfl rfl (fun (h20 : 0 < x18.toInt) => ?_) (fun (h20 : x18.toInt ≤ 0) => ?_)
  · skip
    refine z_xP zt189 7 18 [some (.long y12), none, some (.long 0), none, some (.long 1), none] [.int 0] rfl rfl ?_
    refine z_xrz zt189 8 rfl zzr189 (by decide) (by decide) ?_
    show z_ev (d + 5) 256 16 [some (.ref 19), some (.int p1), some (.int p2), some (.int p3), some (.int p4), none, none, none, none, none] [.int 0] M0 _
    refine z_xZ zt256 7 rfl rfl (fun (h21 : (0 : Int) ≠ 0) => absurd h21 (by omega)) (fun (h21 : (0 : Int) = 0) => ?_)
    refine z_xP zt256 8 20 [some (.ref 19), some (.int p1), some (.int p2), some (.int p3), some (.int p4), none, none, none, none, none] [.int (-1)] rfl rfl ?_
    have qm1 : (((-1) : Int32)).toInt = (-1) := rfl
    exact z_xri zt256 9 rfl zzr256 (kk (-1) M0 X (Or.inl ⟨rfl, by unfold y_vW; omega⟩))
  refine z_xP zt189 6 18 [some (.long y12), none, some (.long 0), none, some (.long 1), none] [.int 1] rfl rfl ?_
  refine z_xrz zt189 8 rfl zzr189 (by decide) (by decide) ?_
  show z_ev (d + 5) 256 16 [some (.ref 19), some (.int p1), some (.int p2), some (.int p3), some (.int p4), none, none, none, none, none] [.int 1] M0 _
  refine z_xZ zt256 7 rfl rfl (fun (h22 : (1 : Int) ≠ 0) => ?_) (fun (h22 : (1 : Int) = 0) => absurd h22 (by omega))
  refine z_xP zt256 10 24 [some (.ref 19), some (.int p1), some (.int p2), some (.int p3), some (.int p4), none, none, none, none, none] [.int p3, .int p2, .ref 19] rfl rfl ?_
  refine z_xcV (vs := [.ref 19, .int p2, .int p3]) (r := []) (L2 := [some (.ref 19), some (.int p2), some (.int p3)]) zt256 11 rfl zo256 zzcV12_320 (Or.inl rfl) rfl X f19 rfl rfl rfl (Nat.le_of_ble_eq_true rfl) zzm251 (Nat.le_of_ble_eq_true rfl) rfl ?_
  refine z_xP zt251 0 2 [some (.ref 19), some (.int p2), some (.int p3)] [.int p2, .ref 19] rfl rfl ?_
  refine z_xcV (vs := [.ref 19, .int p2]) (r := []) (L2 := [some (.ref 19), some (.int p2)]) zt251 1 rfl zo251 zzcV12_209 (Or.inl rfl) rfl X f19 rfl rfl rfl (Nat.le_of_ble_eq_true rfl) zzm209 (Nat.le_of_ble_eq_true rfl) rfl ?_
  refine z_xP zt209 0 1 [some (.ref 19), some (.int p2)] [.int p2] rfl rfl ?_
  refine z_xZ zt209 1 rfl rfl (fun (h23 : p2.toInt < 0) => ?_) (fun (h23 : 0 ≤ p2.toInt) => ?_)
  · skip
    refine z_xP zt209 6 17 [some (.ref 19), some (.int p2)] [.int 0] rfl rfl ?_
    refine z_xrz zt209 7 rfl zzr209 (by decide) (by decide) ?_
    show z_ev (d + 4) 251 5 [some (.ref 19), some (.int p2), some (.int p3)] [.int 0] M0 _
    refine z_xZ zt251 2 rfl rfl (fun (h24 : (0 : Int) = 0) => ?_) (fun (h24 : (0 : Int) ≠ 0) => absurd h24 (by omega))
    refine z_xP zt251 9 21 [some (.ref 19), some (.int p2), some (.int p3)] [.int (-1)] rfl rfl ?_
    refine z_xri zt251 10 rfl zzr251 ?_
    show z_ev (d + 5) 256 27 [some (.ref 19), some (.int p1), some (.int p2), some (.int p3), some (.int p4), none, none, none, none, none] [.int (-1)] M0 _
    refine z_xP zt256 12 31 [some (.ref 19), some (.int p1), some (.int p2), some (.int p3), some (.int p4), some (.int (-1)), none, none, none, none] [.int (-1)] rfl rfl ?_
    refine z_xZ zt256 13 rfl rfl (fun (h25 : 0 ≤ ((-1) : Int)) => absurd h25 (by omega)) (fun (h25 : ((-1) : Int) < 0) => ?_)
    refine z_xP zt256 14 36 [some (.ref 19), some (.int p1), some (.int p2), some (.int p3), some (.int p4), some (.int (-1)), none, none, none, none] [.int (-1)] rfl rfl ?_
    have qm1 : (((-1) : Int32)).toInt = (-1) := rfl
    exact z_xri zt256 15 rfl zzr256 (kk (-1) M0 X (Or.inl ⟨rfl, by unfold y_vW; omega⟩))
  refine z_xP zt209 2 6 [some (.ref 19), some (.int p2)] [.ref 19, .int p2] rfl rfl ?_
  refine z_xgI zt209 3 rfl zo209 zzf12_110 X f19 (by decide) (by decide) rfl (fun (x27 : Int32) h26 (h28 : 0 ≤ x27.toInt) (h29 : x27.toInt ≤ 8) => ?_)
  have ex27 : (z_Fv M0 19 13).toInt = x27.toInt := by rw [z_Fv.of h26]
  have h30 := z_b32 p2
  refine z_xJ zt209 4 rfl rfl (fun (h31 : x27.toInt ≤ p2.toInt) => ?_) (fun (h31 : p2.toInt < x27.toInt) => ?_)
  · skip
    refine z_xP zt209 6 17 [some (.ref 19), some (.int p2)] [.int 0] rfl rfl ?_
    refine z_xrz zt209 7 rfl zzr209 (by decide) (by decide) ?_
    show z_ev (d + 4) 251 5 [some (.ref 19), some (.int p2), some (.int p3)] [.int 0] M0 _
    refine z_xZ zt251 2 rfl rfl (fun (h32 : (0 : Int) = 0) => ?_) (fun (h32 : (0 : Int) ≠ 0) => absurd h32 (by omega))
    refine z_xP zt251 9 21 [some (.ref 19), some (.int p2), some (.int p3)] [.int (-1)] rfl rfl ?_
    refine z_xri zt251 10 rfl zzr251 ?_
    show z_ev (d + 5) 256 27 [some (.ref 19), some (.int p1), some (.int p2), some (.int p3), some (.int p4), none, none, none, none, none] [.int (-1)] M0 _
    refine z_xP zt256 12 31 [some (.ref 19), some (.int p1), some (.int p2), some (.int p3), some (.int p4), some (.int (-1)), none, none, none, none] [.int (-1)] rfl rfl ?_
    refine z_xZ zt256 13 rfl rfl (fun (h33 : 0 ≤ ((-1) : Int)) => absurd h33 (by omega)) (fun (h33 : ((-1) : Int) < 0) => ?_)
    refine z_xP zt256 14 36 [some (.ref 19), some (.int p1), some (.int p2), some (.int p3), some (.int p4), some (.int (-1)), none, none, none, none] [.int (-1)] rfl rfl ?_
    have qm1 : (((-1) : Int32)).toInt = (-1) := rfl
    exact z_xri zt256 15 rfl zzr256 (kk (-1) M0 X (Or.inl ⟨rfl, by unfold y_vW; omega⟩))
  refine z_xP zt209 5 17 [some (.ref 19), some (.int p2)] [.int 1] rfl rfl ?_
  refine z_xrz zt209 7 rfl zzr209 (by decide) (by decide) ?_
  show z_ev (d + 4) 251 5 [some (.ref 19), some (.int p2), some (.int p3)] [.int 1] M0 _
  refine z_xZ zt251 2 rfl rfl (fun (h34 : (1 : Int) = 0) => absurd h34 (by omega)) (fun (h34 : (1 : Int) ≠ 0) => ?_)
  refine z_xP zt251 3 9 [some (.ref 19), some (.int p2), some (.int p3)] [.int p3] rfl rfl ?_
  have h35 := z_b32 p3
  refine z_xL zt251 4 rfl rfl (fun (y36 : Int64) (h37 : y36.toInt = p3.toInt) => ?_) (z_qI2L rfl)
  refine z_xP zt251 5 11 [some (.ref 19), some (.int p2), some (.int p3)] [.long 1, .long y36] rfl rfl ?_
  refine z_xl2 zt251 6 rfl zo251 zkl12_318 ?_
  refine z_xcS (vs := [.long y36, .long 1, .long 5]) (r := []) (L2 := [some (.long y36), none, some (.long 1), none, some (.long 5), none]) zt251 7 rfl zo251 zzcS12_116 (Or.inl rfl) (Nat.le_of_ble_eq_true rfl) rfl rfl (Nat.le_of_ble_eq_true rfl) zzm189 (Nat.le_of_ble_eq_true rfl) rfl ?_
  refine z_xP zt189 0 2 [some (.long y36), none, some (.long 1), none, some (.long 5), none] [.long 1, .long y36] rfl rfl ?_
  refine z_xI zt189 1 rfl rfl (fun (x38 : Int32) (h39 : (x38.toInt < 0 ∧ y36.toInt < 1) ∨ (x38.toInt = 0 ∧ y36.toInt = 1) ∨ (0 < x38.toInt ∧ 1 < y36.toInt)) => ?_) (z_qCmp rfl rfl)
  refine z_xZ zt189 2 rfl rfl (fun (h40 : x38.toInt < 0) => ?_) (fun (h40 : 0 ≤ x38.toInt) => ?_)
  · skip
    refine z_xP zt189 7 18 [some (.long y36), none, some (.long 1), none, some (.long 5), none] [.int 0] rfl rfl ?_
    refine z_xrz zt189 8 rfl zzr189 (by decide) (by decide) ?_
    show z_ev (d + 4) 251 17 [some (.ref 19), some (.int p2), some (.int p3)] [.int 0] M0 _
    refine z_xZ zt251 8 rfl rfl (fun (h41 : (0 : Int) ≠ 0) => absurd h41 (by omega)) (fun (h41 : (0 : Int) = 0) => ?_)
    refine z_xP zt251 9 21 [some (.ref 19), some (.int p2), some (.int p3)] [.int (-1)] rfl rfl ?_
    refine z_xri zt251 10 rfl zzr251 ?_
    show z_ev (d + 5) 256 27 [some (.ref 19), some (.int p1), some (.int p2), some (.int p3), some (.int p4), none, none, none, none, none] [.int (-1)] M0 _
    refine z_xP zt256 12 31 [some (.ref 19), some (.int p1), some (.int p2), some (.int p3), some (.int p4), some (.int (-1)), none, none, none, none] [.int (-1)] rfl rfl ?_
    refine z_xZ zt256 13 rfl rfl (fun (h42 : 0 ≤ ((-1) : Int)) => absurd h42 (by omega)) (fun (h42 : ((-1) : Int) < 0) => ?_)
    refine z_xP zt256 14 36 [some (.ref 19), some (.int p1), some (.int p2), some (.int p3), some (.int p4), some (.int (-1)), none, none, none, none] [.int (-1)] rfl rfl ?_
    have qm1 : (((-1) : Int32)).toInt = (-1) := rfl
    exact z_xri zt256 15 rfl zzr256 (kk (-1) M0 X (Or.inl ⟨rfl, by unfold y_vW; omega⟩))
  refine z_xP zt189 3 9 [some (.long y36), none, some (.long 1), none, some (.long 5), none] [.long 5, .long y36] rfl rfl ?_
  refine z_xI zt189 4 rfl rfl (fun (x43 : Int32) (h44 : (x43.toInt < 0 ∧ y36.toInt < 5) ∨ (x43.toInt = 0 ∧ y36.toInt = 5) ∨ (0 < x43.toInt ∧ 5 < y36.toInt)) => ?_) (z_qCmp rfl rfl)
  refine z_xZ zt189 5 rfl rfl (fun (h45 : 0 < x43.toInt) => ?_) (fun (h45 : x43.toInt ≤ 0) => ?_)
  · skip
    refine z_xP zt189 7 18 [some (.long y36), none, some (.long 1), none, some (.long 5), none] [.int 0] rfl rfl ?_
    refine z_xrz zt189 8 rfl zzr189 (by decide) (by decide) ?_
    show z_ev (d + 4) 251 17 [some (.ref 19), some (.int p2), some (.int p3)] [.int 0] M0 _
    refine z_xZ zt251 8 rfl rfl (fun (h46 : (0 : Int) ≠ 0) => absurd h46 (by omega)) (fun (h46 : (0 : Int) = 0) => ?_)
    refine z_xP zt251 9 21 [some (.ref 19), some (.int p2), some (.int p3)] [.int (-1)] rfl rfl ?_
    refine z_xri zt251 10 rfl zzr251 ?_
    show z_ev (d + 5) 256 27 [some (.ref 19), some (.int p1), some (.int p2), some (.int p3), some (.int p4), none, none, none, none, none] [.int (-1)] M0 _
    refine z_xP zt256 12 31 [some (.ref 19), some (.int p1), some (.int p2), some (.int p3), some (.int p4), some (.int (-1)), none, none, none, none] [.int (-1)] rfl rfl ?_
    refine z_xZ zt256 13 rfl rfl (fun (h47 : 0 ≤ ((-1) : Int)) => absurd h47 (by omega)) (fun (h47 : ((-1) : Int) < 0) => ?_)
    refine z_xP zt256 14 36 [some (.ref 19), some (.int p1), some (.int p2), some (.int p3), some (.int p4), some (.int (-1)), none, none, none, none] [.int (-1)] rfl rfl ?_
    have qm1 : (((-1) : Int32)).toInt = (-1) := rfl
    exact z_xri zt256 15 rfl zzr256 (kk (-1) M0 X (Or.inl ⟨rfl, by unfold y_vW; omega⟩))
  refine z_xP zt189 6 18 [some (.long y36), none, some (.long 1), none, some (.long 5), none] [.int 1] rfl rfl ?_
  refine z_xrz zt189 8 rfl zzr189 (by decide) (by decide) ?_
  show z_ev (d + 4) 251 17 [some (.ref 19), some (.int p2), some (.int p3)] [.int 1] M0 _
  refine z_xZ zt251 8 rfl rfl (fun (h48 : (1 : Int) ≠ 0) => ?_) (fun (h48 : (1 : Int) = 0) => absurd h48 (by omega))
  refine z_xP zt251 11 23 [some (.ref 19), some (.int p2), some (.int p3)] [.ref 19] rfl rfl ?_
  refine z_xgX (b := 31) zt251 12 rfl zo251 zzf12_43 X f19 (by decide) (by decide) rfl ?_
  refine z_xP zt251 13 27 [some (.ref 19), some (.int p2), some (.int p3)] [.int p2, .ref 31] rfl rfl ?_
  have f31 : T[31]? = some (.inr (31, 0, 8, 0, 1024)) := X.1.k rfl (by decide)
  have hv : y_vW M0 p1 p2 := by unfold y_vW; omega
  have hY := hTB hv
  refine z_xil zt251 14 rfl X f31 (by decide) (by omega) (by omega) (fun (x49 : Int32) h50 (h51 : 0 ≤ x49.toInt) (h52 : x49.toInt ≤ 1024) => ?_)
  have em : x49.toInt = (m : Int) := by
    rw [← h50]
    exact hY.2.1.2.2.2.2.1
  refine z_xP zt251 15 30 [some (.ref 19), some (.int p2), some (.int p3)] [.int 12, .int x49] rfl rfl ?_
  refine z_xJ zt251 16 rfl rfl (fun (h53 : x49.toInt ≤ 12) => ?_) (fun (h53 : 12 < x49.toInt) => ?_)
  · skip
    refine z_xP zt251 18 39 [some (.ref 19), some (.int p2), some (.int p3)] [.int 0] rfl rfl ?_
    refine z_xri zt251 19 rfl zzr251 ?_
    show z_ev (d + 5) 256 27 [some (.ref 19), some (.int p1), some (.int p2), some (.int p3), some (.int p4), none, none, none, none, none] [.int 0] M0 _
    refine z_xP zt256 12 31 [some (.ref 19), some (.int p1), some (.int p2), some (.int p3), some (.int p4), some (.int 0), none, none, none, none] [.int 0] rfl rfl ?_
    refine z_xZ zt256 13 rfl rfl (fun (h54 : 0 ≤ (0 : Int)) => ?_) (fun (h54 : (0 : Int) < 0) => absurd h54 (by omega))
    refine z_xP zt256 16 47 [some (.ref 19), some (.int p1), some (.int p2), some (.int p3), some (.int p4), some (.int 0), some (.int 0), some (.int (-2)), none, none] [.int p3, .int p2, .ref 19] rfl rfl ?_
    refine z_xcV (vs := [.ref 19, .int p2, .int p3]) (r := []) (L2 := [some (.ref 19), some (.int p2), some (.int p3), none]) zt256 17 rfl zo256 zzcV12_323 (Or.inl rfl) rfl X f19 rfl rfl rfl (Nat.le_of_ble_eq_true rfl) zzm252 (Nat.le_of_ble_eq_true rfl) rfl ?_
    have h55 := z_G4u (hR.go X (by decide)) h26 (by omega) (by omega) h50
    refine zUC252 X.1 (by omega) (by omega) h50 ⟨by omega, by omega⟩ hY.2.1 hY.2.2.2.1 hY.2.2.2.2 hY.1 hY.2.2.1.2 (fun M56 X57 hT2 hS2 => ?_)
    have X61 := X.go X57 (z_sb (by decide))
    show z_ev (d + 5) 256 50 [some (.ref 19), some (.int p1), some (.int p2), some (.int p3), some (.int p4), some (.int 0), some (.int 0), some (.int (-2)), none, none] [] M56 _
    refine z_xP zt256 18 53 [some (.ref 19), some (.int p1), some (.int p2), some (.int p3), some (.int p4), some (.int 0), some (.int 0), some (.int (-2)), some (.int 1), none] [] rfl rfl ?_
    have qm2 : (((-2) : Int32)).toInt = (-2) := rfl
    have q0 : ((0 : Int32)).toInt = 0 := rfl
    have q1 : ((1 : Int32)).toInt = 1 := rfl
    obtain ⟨kd, sh, ch, hwp1⟩ := y_wyX hW (p := p1) (show p1.toInt.toNat < 20 by omega)
    have hT1 := z_Tp1 m (by omega) hY.2.2.1.2 p3.toInt.toNat (by omega)
    have hTb := z_Tb m (by omega) p3.toInt.toNat (by omega)
    exact (zYB256 hW hwp1 hY.2.2.1 (by omega) (by omega) (by omega) (fun x M1 X h => kk x M1 X (Or.inr ⟨⟨hv, by omega⟩, Or.inr ⟨by omega, kd, sh, ch, hwp1, h⟩⟩)) 8740) M56 (0) (0) (-2) (1) none 0 X61 (by decide) (Or.inr ⟨rfl, by omega, hT2, hS2⟩) ⟨0, -2, ⟨rfl, rfl⟩, rfl, rfl⟩ (by show 2 * ((z_T m p3.toInt.toNat : Int) - ((0 : Nat) : Int)) + 1 < _; omega)
  refine z_xP zt251 17 39 [some (.ref 19), some (.int p2), some (.int p3)] [.int (-4)] rfl rfl ?_
  refine z_xri zt251 19 rfl zzr251 ?_
  show z_ev (d + 5) 256 27 [some (.ref 19), some (.int p1), some (.int p2), some (.int p3), some (.int p4), none, none, none, none, none] [.int (-4)] M0 _
  refine z_xP zt256 12 31 [some (.ref 19), some (.int p1), some (.int p2), some (.int p3), some (.int p4), some (.int (-4)), none, none, none, none] [.int (-4)] rfl rfl ?_
  refine z_xZ zt256 13 rfl rfl (fun (h66 : 0 ≤ ((-4) : Int)) => absurd h66 (by omega)) (fun (h66 : ((-4) : Int) < 0) => ?_)
  refine z_xP zt256 14 36 [some (.ref 19), some (.int p1), some (.int p2), some (.int p3), some (.int p4), some (.int (-4)), none, none, none, none] [.int (-4)] rfl rfl ?_
  have qm4 : (((-4) : Int32)).toInt = (-4) := rfl
  exact z_xri zt256 15 rfl zzr256 (kk (-4) M0 X (Or.inr ⟨⟨hv, by omega⟩, Or.inl ⟨rfl, by omega⟩⟩))
