/-! over all benches, the reference -/
section ZRALL
variable {T : List zK} {M M1 : zH} {a q t m pr en n : Nat} {B F F2 : Nat → Nat} {S : Nat → Int32} {A : Int32} {rs : List Nat}
/-- an agenda of the reference, as all benches ask it -/
def y_tnb (M : zH) (a q t m pr en : Nat) (B : Nat → Nat) (S : Nat → Int32) (A : Int32) : Prop := (1 ≤ q ∧ q ≤ 10) ∧ y_AGO M a q t m pr en B ∧ (m = z_lc B (2 ^ q) ∧ 1 ≤ m) ∧ (∀ k, k < m → z_Ar M 30 (1024 * a + k) = S k) ∧ A.toInt = ((2 ^ q : Nat) : Int) - 1
/-- what sits there can decide -/
theorem y_TN.rp (hT : y_TN T M a q t m pr en n B F S A) (hS : y_ST M n F S A) (hm : m = z_lc B (2 ^ q) ∧ 1 ≤ m) {av : Int32} (hav : z_F M 19 29 = some (.int av)) : ∃ sv : Int32, z_RP T M a q m pr en B av sv ∧ sv.toInt.toNat = n := by
  obtain ⟨hW, ⟨av2, h1, ea, a8⟩, ⟨sv, h3, esv, n5⟩, hG, hSS, hA, q10, hnu⟩ := id hT
  have eav := z_ive hav h1
  rw [← eav] at ea h1
  have jok : ∀ j, j < n → z_jok q (z_w1 j) (z_yS S F j) (z_nS S A F j) := fun j hj => by
    have hF := (hnu j hj).2
    obtain ⟨s, s1, s2, s3⟩ := z_lc_ex (B := B) (2 ^ q) (F j) (by omega)
    have e : (z_Ar M 30 (1024 * a + z_lc B s)).toInt = (s : Int) := hG.2.2.2.2.2.2 s s1 s2
    rw [s3, hSS _ hF] at e
    exact ⟨z_ansNo (Y := S (F j)) hA q10.2 ⟨by omega, by rw [e]; exact Int.ofNat_lt.mpr s1⟩, show 1 ≤ (1 : Int32).toInt ∧ (1 : Int32).toInt ≤ 9 by decide⟩
  have ok := z_jokJ q10.2 jok
  refine ⟨sv, ⟨hW, ⟨h1, ea, a8⟩, ⟨h3, by omega, by omega⟩, q10, ⟨t, hG⟩, hm, fun j hj => ?_, fun j hj => ?_⟩, by omega⟩
  · obtain ⟨_, u2, u3⟩ := hS j (by omega)
    rw [u2, u3]
    exact (jok j (by omega)).1
  · obtain ⟨u1, u2, u3⟩ := hS j (by omega)
    rw [u1, u2, u3]
    exact ok j (by omega)
/-- what is answered: a refusal, too big, or so -/
def z_aA (v r : Prop) (m : Nat) (P : Prop) (x : Int) : Prop := (x = -1 ∧ ¬ (v ∧ r)) ∨ ((v ∧ r) ∧ ((x = -4 ∧ 12 < m) ∨ (m ≤ 12 ∧ P)))
def y_vW2 (M : zH) (p1 p2 p3 : Int32) : Prop := (0 ≤ p1.toInt ∧ p1.toInt < (z_Fv M 19 21).toInt) ∧ (0 ≤ p2.toInt ∧ p2.toInt < (z_Fv M 19 21).toInt) ∧ (0 ≤ p3.toInt ∧ p3.toInt < (z_Fv M 19 13).toInt)
/-- a way of the reference -/
def y_wy (M : zH) (p : Int32) (kd sh ch : Nat) : Prop := (z_Ar M 36 p.toNatClampNeg).toInt = (kd : Int) ∧ (z_Ar M 37 p.toNatClampNeg).toInt = (sh : Int) ∧ (z_Ar M 38 p.toNatClampNeg).toInt = (ch : Int)
theorem y_wy.ke {p : Int32} {kd sh ch : Nat} (h : y_wy M p kd sh ch) (hW : z_W M T) (ke : z_ke T rs M M1) (hr : (([36, 37, 38] : List Nat).all fun x => !rs.elem x) = true) : y_wy M1 p kd sh ch := by
  have n0 := z_nin hr
  unfold y_wy
  rw [ke.a (hW.k (k := 36) (κ := z_ai 36 20 0 7) rfl (by decide)) (n0 _ rfl), ke.a (hW.k (k := 37) (κ := z_ai 37 20 0 9) rfl (by decide)) (n0 _ rfl), ke.a (hW.k (k := 38) (κ := z_ai 38 20 0 8) rfl (by decide)) (n0 _ rfl)]
  exact h
theorem y_wyX (hW : z_W M T) {p : Int32} (h : p.toNatClampNeg < 20) : ∃ kd sh ch : Nat, y_wy M p kd sh ch := by
  obtain ⟨kd, e1⟩ := z_aiN hW (r := 36) (n := 20) (hi := 7) 36 rfl (by decide) (by decide) p.toNatClampNeg h
  obtain ⟨sh, e2⟩ := z_aiN hW (r := 37) (n := 20) (hi := 9) 37 rfl (by decide) (by decide) p.toNatClampNeg h
  obtain ⟨ch, e3⟩ := z_aiN hW (r := 38) (n := 20) (hi := 8) 38 rfl (by decide) (by decide) p.toNatClampNeg h
  exact ⟨kd, sh, ch, e1, e2, e3⟩
end ZRALL
theorem zYB258 {T : List zK} {d : Nat} {K : Option Value → zH → Prop} {p1 : Int32} {p2 : Int32} {p3 : Int32} {p4 : Int32} {p5 : Int32} {M0 : zH} {a q t m pr en kd sh ch kd2 sh2 ch2 : Nat} {B : Nat → Nat} {S : Nat → Int32} {A : Int32} (hW0 : z_W M0 T) (hwp1 : y_wy M0 p1 kd sh ch) (hwp2 : y_wy M0 p2 kd2 sh2 ch2) (hm : m = z_lc B (2 ^ q) ∧ 1 ≤ m) (m12 : m ≤ 12) (up1 : 0 ≤ p1.toInt ∧ p1.toInt ≤ 19) (up2 : 0 ≤ p2.toInt ∧ p2.toInt ≤ 19) (un : 1 ≤ p4.toInt ∧ p4.toInt ≤ 5) (kk : ∀ (x : Int32) (M1 : zH), z_X T zw258 M0 M1 → z_kA (z_pLi (kd + 4) (kd2 + 4) B q pr en sh ch sh2 ch2 m p4.toInt.toNat S A) (fun k => (z_cdB (z_bk m p4.toInt.toNat k) p4.toInt.toNat : Int)) (z_T m p4.toInt.toNat) p5.toInt x.toInt → K (some (.int x)) M1) : ∀ nn : Nat, (∀ (M : zH) (b6 : Int32) (b7 : Int32) (b8 : Int32) (b9 : Int32) (o10 : Option Value) (o11 : Option Value) (o12 : Option Value) (k : Nat), z_X T zw258 M0 M → 0 ≤ b9.toInt ∧ b9.toInt ≤ 1 → ((b9.toInt = 0 ∧ k = z_T m p4.toInt.toNat) ∨ (b9.toInt = 1 ∧ k < z_T m p4.toInt.toNat ∧ y_TN T M a q t m pr en p4.toInt.toNat B (z_bk m p4.toInt.toNat k) S A ∧ y_ST M p4.toInt.toNat (z_bk m p4.toInt.toNat k) S A)) → (∃ (cc : Nat) (yy : Int), z_kr (z_pLi (kd + 4) (kd2 + 4) B q pr en sh ch sh2 ch2 m p4.toInt.toNat S A) (fun k => (z_cdB (z_bk m p4.toInt.toNat k) p4.toInt.toNat : Int)) k cc yy ∧ b7.toInt = (cc : Int) ∧ b8.toInt = yy) → 2 * ((z_T m p4.toInt.toNat : Int) - (k : Int)) + b9.toInt < (nn : Int) → z_ev (d + 5) 258 63 [some (.ref 19), some (.int p1), some (.int p2), some (.int p3), some (.int p4), some (.int p5), some (.int b6), some (.int b7), some (.int b8), some (.int b9), o10, o11, o12] [] M K) := by
  intro nn
  induction nn with
  | zero => exact by intro M b6 b7 b8 b9 o10 o11 o12 k X hb8 hst hI hE; clear hI; rcases hst with ⟨g1, g2⟩ | ⟨g1, g2, _⟩ <;> (exfalso; omega)
  | succ nn ih =>
    intro M b6 b7 b8 b9 o10 o11 o12 k X hb8 hst hI hE
    obtain ⟨cc, yy, hK, hk0, hk1⟩ := hI
    have hcM := z_krM hK
    have hTb := z_Tb m (by omega) p4.toInt.toNat (by omega)
    refine z_xP zt258 22 65 [some (.ref 19), some (.int p1), some (.int p2), some (.int p3), some (.int p4), some (.int p5), some (.int b6), some (.int b7), some (.int b8), some (.int b9), o10, o11, o12] [.int b9] rfl rfl ?_
    refine z_xZ zt258 23 rfl rfl (fun (h1 : b9.toInt = 0) => ?_) (fun (h1 : b9.toInt ≠ 0) => ?_)
    · skip
      have hkT : k = z_T m p4.toInt.toNat := by
        rcases hst with ⟨_, g⟩ | ⟨g, _⟩
        · exact g
        · exact absurd g (by omega)
      refine z_xP zt258 56 163 [some (.ref 19), some (.int p1), some (.int p2), some (.int p3), some (.int p4), some (.int p5), some (.int b6), some (.int b7), some (.int b8), some (.int b9), o10, o11, o12] [.int p5] rfl rfl ?_
      refine z_xZ zt258 57 rfl rfl (fun (h2 : p5.toInt ≠ 0) => ?_) (fun (h2 : p5.toInt = 0) => ?_)
      · skip
        refine z_xP zt258 59 173 [some (.ref 19), some (.int p1), some (.int p2), some (.int p3), some (.int p4), some (.int p5), some (.int b6), some (.int b7), some (.int b8), some (.int b9), o10, o11, o12] [.int b8] rfl rfl ?_
        exact z_xri zt258 60 rfl zzr258 (kk b8 M X ⟨cc, yy, by rw [← hkT]; exact hK, Or.inr ⟨h2, hk1⟩⟩)
      refine z_xP zt258 58 173 [some (.ref 19), some (.int p1), some (.int p2), some (.int p3), some (.int p4), some (.int p5), some (.int b6), some (.int b7), some (.int b8), some (.int b9), o10, o11, o12] [.int b7] rfl rfl ?_
      exact z_xri zt258 60 rfl zzr258 (kk b7 M X ⟨cc, yy, by rw [← hkT]; exact hK, Or.inl ⟨h2, hk0⟩⟩)
    obtain ⟨hkL, hTM, hSM⟩ : k < z_T m p4.toInt.toNat ∧ y_TN T M a q t m pr en p4.toInt.toNat B (z_bk m p4.toInt.toNat k) S A ∧ y_ST M p4.toInt.toNat (z_bk m p4.toInt.toNat k) S A := by
      rcases hst with ⟨g, _⟩ | ⟨_, g⟩
      · exact absurd g (by omega)
      · exact g
    have hWM := hTM.1
    obtain ⟨_, ⟨z0, hp0, ea, a8⟩, ⟨z1, hp1, esv, n5⟩, hG, hSS, hA, q10, hnu⟩ := id hTM
    obtain ⟨sv, hRP, eJ⟩ := hTM.rp hSM hm hp0
    refine z_xP zt258 24 70 [some (.ref 19), some (.int p1), some (.int p2), some (.int p3), some (.int p4), some (.int p5), some (.int b6), some (.int b7), some (.int b8), some (.int b9), o10, o11, o12] [.int p1, .ref 19] rfl rfl ?_
    have f19 : T[19]? = some (.inl (12, 0, 0, 0, 0)) := X.1.k rfl (by decide)
    refine z_xcV (vs := [.ref 19, .int p1]) (r := []) (L2 := [some (.ref 19), some (.int p1), none]) zt258 25 rfl zo258 zzcV12_303 (Or.inl rfl) rfl X f19 rfl rfl rfl (Nat.le_of_ble_eq_true rfl) zzm239 (Nat.le_of_ble_eq_true rfl) rfl ?_
    obtain ⟨gkd, gsh, gch⟩ := hwp1.ke hW0 X.2 (by decide)
    refine zUC239 hRP (by omega) gkd gsh gch (fun M3 yv nv X4 hyv hnv hyn hout => ?_)
    rw [eJ] at hout
    have hoJ : z_oJ (kd + 4) B q pr en sh p4.toInt.toNat ch z_w1 (z_yS S (z_bk m p4.toInt.toNat k)) (z_nS S A (z_bk m p4.toInt.toNat k)) yv.toInt.toNat nv.toInt.toNat := ⟨_, _, _, fun k2 _ => z_LVof eJ hSM k2, fun j hj => ⟨by rw [(hSM j hj).2.1], by rw [(hSM j hj).2.2]⟩, hout⟩
    have hT3 := hTM.ke X4 (by decide)
    have hS3 := hSM.ke hWM X4.2 (by decide)
    have hp0b := X4.2.f f19 (by decide) hp0
    obtain ⟨sv2, hRP2, eJ2⟩ := hT3.rp hS3 hm hp0b
    have X5 := X.go X4 (z_sb (by decide))
    show z_ev (d + 5) 258 73 [some (.ref 19), some (.int p1), some (.int p2), some (.int p3), some (.int p4), some (.int p5), some (.int b6), some (.int b7), some (.int b8), some (.int b9), o10, o11, o12] [] M3 _
    refine z_xP zt258 26 74 [some (.ref 19), some (.int p1), some (.int p2), some (.int p3), some (.int p4), some (.int p5), some (.int b6), some (.int b7), some (.int b8), some (.int b9), o10, o11, o12] [.ref 19] rfl rfl ?_
    refine z_xgv zt258 27 rfl zo258 zzf12_275 X5 f19 (by decide) hyv ?_
    refine z_xP zt258 28 80 [some (.ref 19), some (.int p1), some (.int p2), some (.int p3), some (.int p4), some (.int p5), some (.int b6), some (.int b7), some (.int b8), some (.int b9), some (.int yv), o11, o12] [.ref 19] rfl rfl ?_
    refine z_xgv zt258 29 rfl zo258 zzf12_278 X5 f19 (by decide) hnv ?_
    refine z_xP zt258 30 87 [some (.ref 19), some (.int p1), some (.int p2), some (.int p3), some (.int p4), some (.int p5), some (.int b6), some (.int b7), some (.int b8), some (.int b9), some (.int yv), some (.int nv), o12] [.int p2, .ref 19] rfl rfl ?_
    refine z_xcV (vs := [.ref 19, .int p2]) (r := []) (L2 := [some (.ref 19), some (.int p2), none]) zt258 31 rfl zo258 zzcV12_303 (Or.inl rfl) rfl X5 f19 rfl rfl rfl (Nat.le_of_ble_eq_true rfl) zzm239 (Nat.le_of_ble_eq_true rfl) rfl ?_
    obtain ⟨gkd2, gsh2, gch2⟩ := hwp2.ke hW0 X5.2 (by decide)
    refine zUC239 hRP2 (by omega) gkd2 gsh2 gch2 (fun M15 yv2 nv2 X16 hyv2 hnv2 hyn2 hout2 => ?_)
    rw [eJ2] at hout2
    have hoJ2 : z_oJ (kd2 + 4) B q pr en sh2 p4.toInt.toNat ch2 z_w1 (z_yS S (z_bk m p4.toInt.toNat k)) (z_nS S A (z_bk m p4.toInt.toNat k)) yv2.toInt.toNat nv2.toInt.toNat := ⟨_, _, _, fun k2 _ => z_LVof eJ2 hS3 k2, fun j hj => ⟨by rw [(hS3 j hj).2.1], by rw [(hS3 j hj).2.2]⟩, hout2⟩
    have hT15 := hT3.ke X16 (by decide)
    have X17 := X5.go X16 (z_sb (by decide))
    show z_ev (d + 5) 258 90 [some (.ref 19), some (.int p1), some (.int p2), some (.int p3), some (.int p4), some (.int p5), some (.int b6), some (.int b7), some (.int b8), some (.int b9), some (.int yv), some (.int nv), o12] [] M15 _
    refine z_xP zt258 32 93 [some (.ref 19), some (.int p1), some (.int p2), some (.int p3), some (.int p4), some (.int p5), some (.int b6), some (.int b7), some (.int b8), some (.int b9), some (.int yv), some (.int nv), o12] [.ref 19, .int yv] rfl rfl ?_
    refine z_xgv zt258 33 rfl zo258 zzf12_275 X17 f19 (by decide) hyv2 ?_
    have hP : (z_pLi (kd + 4) (kd2 + 4) B q pr en sh ch sh2 ch2 m p4.toInt.toNat S A) k ↔ ¬ (yv.toInt = yv2.toInt ∧ nv.toInt = nv2.toInt) := by
      constructor
      · rintro ⟨y, u, y2, u2, g1, g2, g3⟩ ⟨g4, g5⟩
        obtain ⟨rfl, rfl⟩ := z_oJU g1 hoJ q10.1
        obtain ⟨rfl, rfl⟩ := z_oJU g2 hoJ2 q10.1
        exact g3 ⟨by rw [g4], by rw [g5]⟩
      · intro g
        exact ⟨_, _, _, _, hoJ, hoJ2, fun ⟨g1, g2⟩ => g ⟨by omega, by omega⟩⟩
    have h23 := z_b32 yv
    have h24 := z_b32 yv2
    refine z_xJ zt258 34 rfl rfl (fun (h25 : yv.toInt ≠ yv2.toInt) => ?_) (fun (h25 : yv.toInt = yv2.toInt) => ?_)
    · skip
      refine z_xP zt258 38 113 [some (.ref 19), some (.int p1), some (.int p2), some (.int p3), some (.int p4), some (.int p5), some (.int b6), some (.int b7), some (.int b8), some (.int b9), some (.int yv), some (.int nv), o12] [.int 1] rfl rfl ?_
      refine z_xP zt258 40 117 [some (.ref 19), some (.int p1), some (.int p2), some (.int p3), some (.int p4), some (.int p5), some (.int b6), some (.int b7), some (.int b8), some (.int b9), some (.int yv), some (.int nv), some (.int 1)] [.int 1] rfl rfl ?_
      refine z_xZ zt258 41 rfl rfl (fun (h26 : (1 : Int) = 0) => absurd h26 (by omega)) (fun (h26 : (1 : Int) ≠ 0) => ?_)
      refine z_xP zt258 42 122 [some (.ref 19), some (.int p1), some (.int p2), some (.int p3), some (.int p4), some (.int p5), some (.int b6), some (.int b7), some (.int b8), some (.int b9), some (.int yv), some (.int nv), some (.int 1)] [.int b7] rfl rfl ?_
      refine z_xZ zt258 43 rfl rfl (fun (h27 : b7.toInt ≠ 0) => ?_) (fun (h27 : b7.toInt = 0) => ?_)
      · skip
        refine z_xP zt258 47 134 [some (.ref 19), some (.int p1), some (.int p2), some (.int p3), some (.int p4), some (.int p5), some (.int b6), some (.int b7), some (.int b8), some (.int b9), some (.int yv), some (.int nv), some (.int 1)] [.int b8] rfl rfl ?_
        refine z_xP zt258 48 140 [some (.ref 19), some (.int p1), some (.int p2), some (.int p3), some (.int p4), some (.int p5), some (.int b6), some (.int b7), some (.int b8), some (.int b9), some (.int yv), some (.int nv), some (.int 1)] [.int 1, .int b7] rfl rfl ?_
        refine z_xZ zt258 49 rfl rfl (fun (h28 : (1 : Int) = 0) => absurd h28 (by omega)) (fun (h28 : (1 : Int) ≠ 0) => ?_)
        refine z_xP zt258 50 148 [some (.ref 19), some (.int p1), some (.int p2), some (.int p3), some (.int p4), some (.int p5), some (.int b6), some (.int b7), some (.int b8), some (.int b9), some (.int yv), some (.int nv), some (.int 1)] [.int 1, .int b7] rfl rfl ?_
        have h29 := z_b32 b7
        refine z_xI zt258 52 rfl rfl (fun (x30 : Int32) (h30b : x30.toInt = b7.toInt + 1) => ?_) (z_pAdd rfl rfl (by omega) (by omega))
        refine z_xP zt258 53 153 [some (.ref 19), some (.int p1), some (.int p2), some (.int p3), some (.int p4), some (.int p5), some (.int b6), some (.int x30), some (.int b8), some (.int b9), some (.int yv), some (.int nv), some (.int 1)] [.int 0, .ref 19] rfl rfl ?_
        refine z_xcV (vs := [.ref 19, .int 0]) (r := []) (L2 := [some (.ref 19), some (.int 0), none, none, none]) zt258 54 rfl zo258 zzcV12_326 (Or.inl rfl) rfl X17 f19 rfl rfl rfl (Nat.le_of_ble_eq_true rfl) zzm255 (Nat.le_of_ble_eq_true rfl) rfl ?_
        have q0 : ((0 : Int32)).toInt = 0 := rfl
        have q0 : ((0 : Int32)).toInt = 0 := rfl
        refine zYD255 (by decide) hT15 (by omega) ⟨hm.2, m12⟩ hkL (fun x52 M39 X40 hgo => ?_)
        have hx52 : 0 ≤ x52.toInt ∧ x52.toInt ≤ 1 := by rcases hgo with ⟨g, _⟩ | ⟨g, _⟩ <;> omega
        have hms : 2 * ((z_T m p4.toInt.toNat : Int) - ((k + 1 : Nat) : Int)) + x52.toInt < (nn : Int) := by rcases hgo with ⟨g1, g2⟩ | ⟨g1, g2, _⟩ <;> omega
        have X55 := X17.go X40 (z_sb (by decide))
        show z_ev (d + 5) 258 156 [some (.ref 19), some (.int p1), some (.int p2), some (.int p3), some (.int p4), some (.int p5), some (.int b6), some (.int x30), some (.int b8), some (.int b9), some (.int yv), some (.int nv), some (.int 1)] [.int x52] M39 _
        refine z_xP zt258 55 63 [some (.ref 19), some (.int p1), some (.int p2), some (.int p3), some (.int p4), some (.int p5), some (.int b6), some (.int x30), some (.int b8), some (.int x52), some (.int yv), some (.int nv), some (.int 1)] [] rfl rfl ?_
        have q1 : ((1 : Int32)).toInt = 1 := rfl
        exact ih M39 b6 x30 b8 x52 (some (.int yv)) (some (.int nv)) (some (.int 1)) (k + 1) X55 hx52 hgo ⟨cc + 1, yy, by have g := z_krS hK (hP.mpr fun ⟨g1, _⟩ => h25 g1); rw [if_neg (by omega)] at g; exact g, by omega, hk1⟩ hms
      refine z_xP zt258 44 126 [some (.ref 19), some (.int p1), some (.int p2), some (.int p3), some (.int p4), some (.int p5), some (.int b6), some (.int b7), some (.int b8), some (.int b9), some (.int yv), some (.int nv), some (.int 1)] [.ref 19] rfl rfl ?_
      refine z_xcV (vs := [.ref 19]) (r := []) (L2 := [some (.ref 19), none, none]) zt258 45 rfl zo258 zzcV12_330 (Or.inl rfl) rfl X17 f19 rfl rfl rfl (Nat.le_of_ble_eq_true rfl) zzm257 (Nat.le_of_ble_eq_true rfl) rfl ?_
      refine zUC257 X17.1 hT15 (fun i => by have := z_bkB (m := m) (n := p4.toInt.toNat) hm.2 k i; omega) (fun x63 M61 X62 h63 => ?_)
      have hT61 := hT15.ke X62 (by decide)
      have X64 := X17.go X62 (z_sb (by decide))
      show z_ev (d + 5) 258 129 [some (.ref 19), some (.int p1), some (.int p2), some (.int p3), some (.int p4), some (.int p5), some (.int b6), some (.int b7), some (.int b8), some (.int b9), some (.int yv), some (.int nv), some (.int 1)] [.int x63] M61 _
      refine z_xP zt258 46 134 [some (.ref 19), some (.int p1), some (.int p2), some (.int p3), some (.int p4), some (.int p5), some (.int b6), some (.int b7), some (.int b8), some (.int b9), some (.int yv), some (.int nv), some (.int 1)] [.int x63] rfl rfl ?_
      refine z_xP zt258 48 140 [some (.ref 19), some (.int p1), some (.int p2), some (.int p3), some (.int p4), some (.int p5), some (.int b6), some (.int b7), some (.int x63), some (.int b9), some (.int yv), some (.int nv), some (.int 1)] [.int 1, .int b7] rfl rfl ?_
      refine z_xZ zt258 49 rfl rfl (fun (h66 : (1 : Int) = 0) => absurd h66 (by omega)) (fun (h66 : (1 : Int) ≠ 0) => ?_)
      refine z_xP zt258 50 148 [some (.ref 19), some (.int p1), some (.int p2), some (.int p3), some (.int p4), some (.int p5), some (.int b6), some (.int b7), some (.int x63), some (.int b9), some (.int yv), some (.int nv), some (.int 1)] [.int 1, .int b7] rfl rfl ?_
      refine z_xI zt258 52 rfl rfl (fun (x67 : Int32) (h68 : x67.toInt = b7.toInt + 1) => ?_) (z_pAdd rfl rfl (by omega) (by omega))
      refine z_xP zt258 53 153 [some (.ref 19), some (.int p1), some (.int p2), some (.int p3), some (.int p4), some (.int p5), some (.int b6), some (.int x67), some (.int x63), some (.int b9), some (.int yv), some (.int nv), some (.int 1)] [.int 0, .ref 19] rfl rfl ?_
      refine z_xcV (vs := [.ref 19, .int 0]) (r := []) (L2 := [some (.ref 19), some (.int 0), none, none, none]) zt258 54 rfl zo258 zzcV12_326 (Or.inl rfl) rfl X64 f19 rfl rfl rfl (Nat.le_of_ble_eq_true rfl) zzm255 (Nat.le_of_ble_eq_true rfl) rfl ?_
      have q0 : ((0 : Int32)).toInt = 0 := rfl
      have q0 : ((0 : Int32)).toInt = 0 := rfl
      refine zYD255 (by decide) hT61 (by omega) ⟨hm.2, m12⟩ hkL (fun x91 M78 X79 hgo => ?_)
      have hx91 : 0 ≤ x91.toInt ∧ x91.toInt ≤ 1 := by rcases hgo with ⟨g, _⟩ | ⟨g, _⟩ <;> omega
      have hms : 2 * ((z_T m p4.toInt.toNat : Int) - ((k + 1 : Nat) : Int)) + x91.toInt < (nn : Int) := by rcases hgo with ⟨g1, g2⟩ | ⟨g1, g2, _⟩ <;> omega
      have X94 := X64.go X79 (z_sb (by decide))
      show z_ev (d + 5) 258 156 [some (.ref 19), some (.int p1), some (.int p2), some (.int p3), some (.int p4), some (.int p5), some (.int b6), some (.int x67), some (.int x63), some (.int b9), some (.int yv), some (.int nv), some (.int 1)] [.int x91] M78 _
      refine z_xP zt258 55 63 [some (.ref 19), some (.int p1), some (.int p2), some (.int p3), some (.int p4), some (.int p5), some (.int b6), some (.int x67), some (.int x63), some (.int x91), some (.int yv), some (.int nv), some (.int 1)] [] rfl rfl ?_
      have q1 : ((1 : Int32)).toInt = 1 := rfl
      exact ih M78 b6 x67 x63 x91 (some (.int yv)) (some (.int nv)) (some (.int 1)) (k + 1) X94 hx91 hgo ⟨cc + 1, x63.toInt, by have g := z_krS hK (hP.mpr fun ⟨g1, _⟩ => h25 g1); rw [if_pos (by omega)] at g; rw [h63]; exact g, by omega, rfl⟩ hms
    refine z_xP zt258 35 102 [some (.ref 19), some (.int p1), some (.int p2), some (.int p3), some (.int p4), some (.int p5), some (.int b6), some (.int b7), some (.int b8), some (.int b9), some (.int yv), some (.int nv), o12] [.ref 19, .int nv] rfl rfl ?_
    refine z_xgv zt258 36 rfl zo258 zzf12_278 X17 f19 (by decide) hnv2 ?_
    have h104 := z_b32 nv
    have h105 := z_b32 nv2
    refine z_xJ zt258 37 rfl rfl (fun (h106 : nv.toInt = nv2.toInt) => ?_) (fun (h106 : nv.toInt ≠ nv2.toInt) => ?_)
    · skip
      refine z_xP zt258 39 113 [some (.ref 19), some (.int p1), some (.int p2), some (.int p3), some (.int p4), some (.int p5), some (.int b6), some (.int b7), some (.int b8), some (.int b9), some (.int yv), some (.int nv), o12] [.int 0] rfl rfl ?_
      refine z_xP zt258 40 117 [some (.ref 19), some (.int p1), some (.int p2), some (.int p3), some (.int p4), some (.int p5), some (.int b6), some (.int b7), some (.int b8), some (.int b9), some (.int yv), some (.int nv), some (.int 0)] [.int 0] rfl rfl ?_
      refine z_xZ zt258 41 rfl rfl (fun (h107 : (0 : Int) = 0) => ?_) (fun (h107 : (0 : Int) ≠ 0) => absurd h107 (by omega))
      refine z_xP zt258 47 134 [some (.ref 19), some (.int p1), some (.int p2), some (.int p3), some (.int p4), some (.int p5), some (.int b6), some (.int b7), some (.int b8), some (.int b9), some (.int yv), some (.int nv), some (.int 0)] [.int b8] rfl rfl ?_
      refine z_xP zt258 48 140 [some (.ref 19), some (.int p1), some (.int p2), some (.int p3), some (.int p4), some (.int p5), some (.int b6), some (.int b7), some (.int b8), some (.int b9), some (.int yv), some (.int nv), some (.int 0)] [.int 0, .int b7] rfl rfl ?_
      refine z_xZ zt258 49 rfl rfl (fun (h108 : (0 : Int) = 0) => ?_) (fun (h108 : (0 : Int) ≠ 0) => absurd h108 (by omega))
      refine z_xP zt258 51 148 [some (.ref 19), some (.int p1), some (.int p2), some (.int p3), some (.int p4), some (.int p5), some (.int b6), some (.int b7), some (.int b8), some (.int b9), some (.int yv), some (.int nv), some (.int 0)] [.int 0, .int b7] rfl rfl ?_
      have h109 := z_b32 b7
      refine z_xI zt258 52 rfl rfl (fun (x110 : Int32) (h111 : x110.toInt = b7.toInt + 0) => ?_) (z_pAdd rfl rfl (by omega) (by omega))
      refine z_xP zt258 53 153 [some (.ref 19), some (.int p1), some (.int p2), some (.int p3), some (.int p4), some (.int p5), some (.int b6), some (.int x110), some (.int b8), some (.int b9), some (.int yv), some (.int nv), some (.int 0)] [.int 0, .ref 19] rfl rfl ?_
      refine z_xcV (vs := [.ref 19, .int 0]) (r := []) (L2 := [some (.ref 19), some (.int 0), none, none, none]) zt258 54 rfl zo258 zzcV12_326 (Or.inl rfl) rfl X17 f19 rfl rfl rfl (Nat.le_of_ble_eq_true rfl) zzm255 (Nat.le_of_ble_eq_true rfl) rfl ?_
      have q0 : ((0 : Int32)).toInt = 0 := rfl
      have q0 : ((0 : Int32)).toInt = 0 := rfl
      refine zYD255 (by decide) hT15 (by omega) ⟨hm.2, m12⟩ hkL (fun x132 M119 X120 hgo => ?_)
      have hx132 : 0 ≤ x132.toInt ∧ x132.toInt ≤ 1 := by rcases hgo with ⟨g, _⟩ | ⟨g, _⟩ <;> omega
      have hms : 2 * ((z_T m p4.toInt.toNat : Int) - ((k + 1 : Nat) : Int)) + x132.toInt < (nn : Int) := by rcases hgo with ⟨g1, g2⟩ | ⟨g1, g2, _⟩ <;> omega
      have X135 := X17.go X120 (z_sb (by decide))
      show z_ev (d + 5) 258 156 [some (.ref 19), some (.int p1), some (.int p2), some (.int p3), some (.int p4), some (.int p5), some (.int b6), some (.int x110), some (.int b8), some (.int b9), some (.int yv), some (.int nv), some (.int 0)] [.int x132] M119 _
      refine z_xP zt258 55 63 [some (.ref 19), some (.int p1), some (.int p2), some (.int p3), some (.int p4), some (.int p5), some (.int b6), some (.int x110), some (.int b8), some (.int x132), some (.int yv), some (.int nv), some (.int 0)] [] rfl rfl ?_
      have q0 : ((0 : Int32)).toInt = 0 := rfl
      exact ih M119 b6 x110 b8 x132 (some (.int yv)) (some (.int nv)) (some (.int 0)) (k + 1) X135 hx132 hgo ⟨cc, yy, z_krN hK (fun g => hP.mp g ⟨h25, h106⟩), by omega, hk1⟩ hms
    refine z_xP zt258 38 113 [some (.ref 19), some (.int p1), some (.int p2), some (.int p3), some (.int p4), some (.int p5), some (.int b6), some (.int b7), some (.int b8), some (.int b9), some (.int yv), some (.int nv), o12] [.int 1] rfl rfl ?_
    refine z_xP zt258 40 117 [some (.ref 19), some (.int p1), some (.int p2), some (.int p3), some (.int p4), some (.int p5), some (.int b6), some (.int b7), some (.int b8), some (.int b9), some (.int yv), some (.int nv), some (.int 1)] [.int 1] rfl rfl ?_
    refine z_xZ zt258 41 rfl rfl (fun (h141 : (1 : Int) = 0) => absurd h141 (by omega)) (fun (h141 : (1 : Int) ≠ 0) => ?_)
    refine z_xP zt258 42 122 [some (.ref 19), some (.int p1), some (.int p2), some (.int p3), some (.int p4), some (.int p5), some (.int b6), some (.int b7), some (.int b8), some (.int b9), some (.int yv), some (.int nv), some (.int 1)] [.int b7] rfl rfl ?_
    refine z_xZ zt258 43 rfl rfl (fun (h142 : b7.toInt ≠ 0) => ?_) (fun (h142 : b7.toInt = 0) => ?_)
    · skip
      refine z_xP zt258 47 134 [some (.ref 19), some (.int p1), some (.int p2), some (.int p3), some (.int p4), some (.int p5), some (.int b6), some (.int b7), some (.int b8), some (.int b9), some (.int yv), some (.int nv), some (.int 1)] [.int b8] rfl rfl ?_
      refine z_xP zt258 48 140 [some (.ref 19), some (.int p1), some (.int p2), some (.int p3), some (.int p4), some (.int p5), some (.int b6), some (.int b7), some (.int b8), some (.int b9), some (.int yv), some (.int nv), some (.int 1)] [.int 1, .int b7] rfl rfl ?_
      refine z_xZ zt258 49 rfl rfl (fun (h143 : (1 : Int) = 0) => absurd h143 (by omega)) (fun (h143 : (1 : Int) ≠ 0) => ?_)
      refine z_xP zt258 50 148 [some (.ref 19), some (.int p1), some (.int p2), some (.int p3), some (.int p4), some (.int p5), some (.int b6), some (.int b7), some (.int b8), some (.int b9), some (.int yv), some (.int nv), some (.int 1)] [.int 1, .int b7] rfl rfl ?_
      have h144 := z_b32 b7
      refine z_xI zt258 52 rfl rfl (fun (x145 : Int32) (h145b : x145.toInt = b7.toInt + 1) => ?_) (z_pAdd rfl rfl (by omega) (by omega))
      refine z_xP zt258 53 153 [some (.ref 19), some (.int p1), some (.int p2), some (.int p3), some (.int p4), some (.int p5), some (.int b6), some (.int x145), some (.int b8), some (.int b9), some (.int yv), some (.int nv), some (.int 1)] [.int 0, .ref 19] rfl rfl ?_
      refine z_xcV (vs := [.ref 19, .int 0]) (r := []) (L2 := [some (.ref 19), some (.int 0), none, none, none]) zt258 54 rfl zo258 zzcV12_326 (Or.inl rfl) rfl X17 f19 rfl rfl rfl (Nat.le_of_ble_eq_true rfl) zzm255 (Nat.le_of_ble_eq_true rfl) rfl ?_
      have q0 : ((0 : Int32)).toInt = 0 := rfl
      have q0 : ((0 : Int32)).toInt = 0 := rfl
      refine zYD255 (by decide) hT15 (by omega) ⟨hm.2, m12⟩ hkL (fun x167 M154 X155 hgo => ?_)
      have hx167 : 0 ≤ x167.toInt ∧ x167.toInt ≤ 1 := by rcases hgo with ⟨g, _⟩ | ⟨g, _⟩ <;> omega
      have hms : 2 * ((z_T m p4.toInt.toNat : Int) - ((k + 1 : Nat) : Int)) + x167.toInt < (nn : Int) := by rcases hgo with ⟨g1, g2⟩ | ⟨g1, g2, _⟩ <;> omega
      have X170 := X17.go X155 (z_sb (by decide))
      show z_ev (d + 5) 258 156 [some (.ref 19), some (.int p1), some (.int p2), some (.int p3), some (.int p4), some (.int p5), some (.int b6), some (.int x145), some (.int b8), some (.int b9), some (.int yv), some (.int nv), some (.int 1)] [.int x167] M154 _
      refine z_xP zt258 55 63 [some (.ref 19), some (.int p1), some (.int p2), some (.int p3), some (.int p4), some (.int p5), some (.int b6), some (.int x145), some (.int b8), some (.int x167), some (.int yv), some (.int nv), some (.int 1)] [] rfl rfl ?_
      have q1 : ((1 : Int32)).toInt = 1 := rfl
      exact ih M154 b6 x145 b8 x167 (some (.int yv)) (some (.int nv)) (some (.int 1)) (k + 1) X170 hx167 hgo ⟨cc + 1, yy, by have g := z_krS hK (hP.mpr fun ⟨_, g2⟩ => h106 g2); rw [if_neg (by omega)] at g; exact g, by omega, hk1⟩ hms
    refine z_xP zt258 44 126 [some (.ref 19), some (.int p1), some (.int p2), some (.int p3), some (.int p4), some (.int p5), some (.int b6), some (.int b7), some (.int b8), some (.int b9), some (.int yv), some (.int nv), some (.int 1)] [.ref 19] rfl rfl ?_
    refine z_xcV (vs := [.ref 19]) (r := []) (L2 := [some (.ref 19), none, none]) zt258 45 rfl zo258 zzcV12_330 (Or.inl rfl) rfl X17 f19 rfl rfl rfl (Nat.le_of_ble_eq_true rfl) zzm257 (Nat.le_of_ble_eq_true rfl) rfl ?_
    refine zUC257 X17.1 hT15 (fun i => by have := z_bkB (m := m) (n := p4.toInt.toNat) hm.2 k i; omega) (fun x178 M176 X177 h178 => ?_)
    have hT176 := hT15.ke X177 (by decide)
    have X179 := X17.go X177 (z_sb (by decide))
    show z_ev (d + 5) 258 129 [some (.ref 19), some (.int p1), some (.int p2), some (.int p3), some (.int p4), some (.int p5), some (.int b6), some (.int b7), some (.int b8), some (.int b9), some (.int yv), some (.int nv), some (.int 1)] [.int x178] M176 _
    refine z_xP zt258 46 134 [some (.ref 19), some (.int p1), some (.int p2), some (.int p3), some (.int p4), some (.int p5), some (.int b6), some (.int b7), some (.int b8), some (.int b9), some (.int yv), some (.int nv), some (.int 1)] [.int x178] rfl rfl ?_
    refine z_xP zt258 48 140 [some (.ref 19), some (.int p1), some (.int p2), some (.int p3), some (.int p4), some (.int p5), some (.int b6), some (.int b7), some (.int x178), some (.int b9), some (.int yv), some (.int nv), some (.int 1)] [.int 1, .int b7] rfl rfl ?_
    refine z_xZ zt258 49 rfl rfl (fun (h181 : (1 : Int) = 0) => absurd h181 (by omega)) (fun (h181 : (1 : Int) ≠ 0) => ?_)
    refine z_xP zt258 50 148 [some (.ref 19), some (.int p1), some (.int p2), some (.int p3), some (.int p4), some (.int p5), some (.int b6), some (.int b7), some (.int x178), some (.int b9), some (.int yv), some (.int nv), some (.int 1)] [.int 1, .int b7] rfl rfl ?_
    refine z_xI zt258 52 rfl rfl (fun (x182 : Int32) (h183 : x182.toInt = b7.toInt + 1) => ?_) (z_pAdd rfl rfl (by omega) (by omega))
    refine z_xP zt258 53 153 [some (.ref 19), some (.int p1), some (.int p2), some (.int p3), some (.int p4), some (.int p5), some (.int b6), some (.int x182), some (.int x178), some (.int b9), some (.int yv), some (.int nv), some (.int 1)] [.int 0, .ref 19] rfl rfl ?_
    refine z_xcV (vs := [.ref 19, .int 0]) (r := []) (L2 := [some (.ref 19), some (.int 0), none, none, none]) zt258 54 rfl zo258 zzcV12_326 (Or.inl rfl) rfl X179 f19 rfl rfl rfl (Nat.le_of_ble_eq_true rfl) zzm255 (Nat.le_of_ble_eq_true rfl) rfl ?_
    have q0 : ((0 : Int32)).toInt = 0 := rfl
    have q0 : ((0 : Int32)).toInt = 0 := rfl
    refine zYD255 (by decide) hT176 (by omega) ⟨hm.2, m12⟩ hkL (fun x206 M193 X194 hgo => ?_)
    have hx206 : 0 ≤ x206.toInt ∧ x206.toInt ≤ 1 := by rcases hgo with ⟨g, _⟩ | ⟨g, _⟩ <;> omega
    have hms : 2 * ((z_T m p4.toInt.toNat : Int) - ((k + 1 : Nat) : Int)) + x206.toInt < (nn : Int) := by rcases hgo with ⟨g1, g2⟩ | ⟨g1, g2, _⟩ <;> omega
    have X209 := X179.go X194 (z_sb (by decide))
    show z_ev (d + 5) 258 156 [some (.ref 19), some (.int p1), some (.int p2), some (.int p3), some (.int p4), some (.int p5), some (.int b6), some (.int x182), some (.int x178), some (.int b9), some (.int yv), some (.int nv), some (.int 1)] [.int x206] M193 _
    refine z_xP zt258 55 63 [some (.ref 19), some (.int p1), some (.int p2), some (.int p3), some (.int p4), some (.int p5), some (.int b6), some (.int x182), some (.int x178), some (.int x206), some (.int yv), some (.int nv), some (.int 1)] [] rfl rfl ?_
    have q1 : ((1 : Int32)).toInt = 1 := rfl
    exact ih M193 b6 x182 x178 x206 (some (.int yv)) (some (.int nv)) (some (.int 1)) (k + 1) X209 hx206 hgo ⟨cc + 1, x178.toInt, by have g := z_krS hK (hP.mpr fun ⟨_, g2⟩ => h106 g2); rw [if_pos (by omega)] at g; rw [h178]; exact g, by omega, rfl⟩ hms
theorem zYC258 {T : List zK} {d : Nat} {K : Option Value → zH → Prop} {p1 : Int32} {p2 : Int32} {p3 : Int32} {p4 : Int32} {p5 : Int32} {M0 : zH} (hW : z_W M0 T) (hR : z_G4 M0) {q t m pr en : Nat} {B : Nat → Nat} {S : Nat → Int32} {A : Int32} (hTB : y_vW2 M0 p1 p2 p3 → y_tnb M0 p3.toNatClampNeg q t m pr en B S A) (kk : ∀ (x : Int32) (M1 : zH), z_X T zw258 M0 M1 → z_aA (y_vW2 M0 p1 p2 p3) ((1 ≤ p4.toInt ∧ p4.toInt ≤ 5) ∧ 0 ≤ p5.toInt ∧ p5.toInt ≤ 1) m (∃ kd sh ch kd2 sh2 ch2 : Nat, y_wy M0 p1 kd sh ch ∧ y_wy M0 p2 kd2 sh2 ch2 ∧ z_kA (z_pLi (kd + 4) (kd2 + 4) B q pr en sh ch sh2 ch2 m p4.toInt.toNat S A) (fun k => (z_cdB (z_bk m p4.toInt.toNat k) p4.toInt.toNat : Int)) (z_T m p4.toInt.toNat) p5.toInt x.toInt) x.toInt → K (some (.int x)) M1) : z_ev (d + 5) 258 0 [some (.ref 19), some (.int p1), some (.int p2), some (.int p3), some (.int p4), some (.int p5), none, none, none, none, none, none, none] [] M0 K := by
  have X : z_X T zw258 M0 M0 := .refl hW
  refine z_xP zt258 0 2 [some (.ref 19), some (.int p1), some (.int p2), some (.int p3), some (.int p4), some (.int p5), none, none, none, none, none, none, none] [.int p1, .ref 19] rfl rfl ?_
  have f19 : T[19]? = some (.inl (12, 0, 0, 0, 0)) := X.1.k rfl (by decide)
  refine z_xcV (vs := [.ref 19, .int p1]) (r := []) (L2 := [some (.ref 19), some (.int p1)]) zt258 1 rfl zo258 zzcV12_272 (Or.inl rfl) rfl X f19 rfl rfl rfl (Nat.le_of_ble_eq_true rfl) zzm237 (Nat.le_of_ble_eq_true rfl) rfl ?_
  refine z_xP zt237 0 1 [some (.ref 19), some (.int p1)] [.int p1] rfl rfl ?_
  refine z_xZ zt237 1 rfl rfl (fun (h1 : p1.toInt < 0) => ?_) (fun (h1 : 0 ≤ p1.toInt) => ?_)
  · skip
    refine z_xP zt237 6 17 [some (.ref 19), some (.int p1)] [.int 0] rfl rfl ?_
    refine z_xrz zt237 7 rfl zzr237 (by decide) (by decide) ?_
    show z_ev (d + 5) 258 5 [some (.ref 19), some (.int p1), some (.int p2), some (.int p3), some (.int p4), some (.int p5), none, none, none, none, none, none, none] [.int 0] M0 _
    refine z_xZ zt258 2 rfl rfl (fun (h2 : (0 : Int) = 0) => ?_) (fun (h2 : (0 : Int) ≠ 0) => absurd h2 (by omega))
    refine z_xP zt258 11 28 [some (.ref 19), some (.int p1), some (.int p2), some (.int p3), some (.int p4), some (.int p5), none, none, none, none, none, none, none] [.int (-1)] rfl rfl ?_
    have qm1 : (((-1) : Int32)).toInt = (-1) := rfl
    exact z_xri zt258 12 rfl zzr258 (kk (-1) M0 X (Or.inl ⟨rfl, by unfold y_vW2; omega⟩))
  refine z_xP zt237 2 6 [some (.ref 19), some (.int p1)] [.ref 19, .int p1] rfl rfl ?_
  refine z_xgI zt237 3 rfl zo237 zzf12_269 X f19 (by decide) (by decide) rfl (fun (x4 : Int32) h3 (h5 : 0 ≤ x4.toInt) (h6 : x4.toInt ≤ 20) => ?_)
  have ex4 : (z_Fv M0 19 21).toInt = x4.toInt := by rw [z_Fv.of h3]
  have h7 := z_b32 p1
  refine z_xJ zt237 4 rfl rfl (fun (h8 : x4.toInt ≤ p1.toInt) => ?_) (fun (h8 : p1.toInt < x4.toInt) => ?_)
  · skip
    refine z_xP zt237 6 17 [some (.ref 19), some (.int p1)] [.int 0] rfl rfl ?_
    refine z_xrz zt237 7 rfl zzr237 (by decide) (by decide) ?_
    show z_ev (d + 5) 258 5 [some (.ref 19), some (.int p1), some (.int p2), some (.int p3), some (.int p4), some (.int p5), none, none, none, none, none, none, none] [.int 0] M0 _
    refine z_xZ zt258 2 rfl rfl (fun (h9 : (0 : Int) = 0) => ?_) (fun (h9 : (0 : Int) ≠ 0) => absurd h9 (by omega))
    refine z_xP zt258 11 28 [some (.ref 19), some (.int p1), some (.int p2), some (.int p3), some (.int p4), some (.int p5), none, none, none, none, none, none, none] [.int (-1)] rfl rfl ?_
    have qm1 : (((-1) : Int32)).toInt = (-1) := rfl
    exact z_xri zt258 12 rfl zzr258 (kk (-1) M0 X (Or.inl ⟨rfl, by unfold y_vW2; omega⟩))
  refine z_xP zt237 5 17 [some (.ref 19), some (.int p1)] [.int 1] rfl rfl ?_
  refine z_xrz zt237 7 rfl zzr237 (by decide) (by decide) ?_
  show z_ev (d + 5) 258 5 [some (.ref 19), some (.int p1), some (.int p2), some (.int p3), some (.int p4), some (.int p5), none, none, none, none, none, none, none] [.int 1] M0 _
  refine z_xZ zt258 2 rfl rfl (fun (h10 : (1 : Int) = 0) => absurd h10 (by omega)) (fun (h10 : (1 : Int) ≠ 0) => ?_)
  refine z_xP zt258 3 10 [some (.ref 19), some (.int p1), some (.int p2), some (.int p3), some (.int p4), some (.int p5), none, none, none, none, none, none, none] [.int p2, .ref 19] rfl rfl ?_
  refine z_xcV (vs := [.ref 19, .int p2]) (r := []) (L2 := [some (.ref 19), some (.int p2)]) zt258 4 rfl zo258 zzcV12_272 (Or.inl rfl) rfl X f19 rfl rfl rfl (Nat.le_of_ble_eq_true rfl) zzm237 (Nat.le_of_ble_eq_true rfl) rfl ?_
  refine z_xP zt237 0 1 [some (.ref 19), some (.int p2)] [.int p2] rfl rfl ?_
  refine z_xZ zt237 1 rfl rfl (fun (h11 : p2.toInt < 0) => ?_) (fun (h11 : 0 ≤ p2.toInt) => ?_)
  · skip
    refine z_xP zt237 6 17 [some (.ref 19), some (.int p2)] [.int 0] rfl rfl ?_
    refine z_xrz zt237 7 rfl zzr237 (by decide) (by decide) ?_
    show z_ev (d + 5) 258 13 [some (.ref 19), some (.int p1), some (.int p2), some (.int p3), some (.int p4), some (.int p5), none, none, none, none, none, none, none] [.int 0] M0 _
    refine z_xZ zt258 5 rfl rfl (fun (h12 : (0 : Int) = 0) => ?_) (fun (h12 : (0 : Int) ≠ 0) => absurd h12 (by omega))
    refine z_xP zt258 11 28 [some (.ref 19), some (.int p1), some (.int p2), some (.int p3), some (.int p4), some (.int p5), none, none, none, none, none, none, none] [.int (-1)] rfl rfl ?_
    have qm1 : (((-1) : Int32)).toInt = (-1) := rfl
    exact z_xri zt258 12 rfl zzr258 (kk (-1) M0 X (Or.inl ⟨rfl, by unfold y_vW2; omega⟩))
  refine z_xP zt237 2 6 [some (.ref 19), some (.int p2)] [.ref 19, .int p2] rfl rfl ?_
  refine z_xgv zt237 3 rfl zo237 zzf12_269 X f19 (by decide) h3 ?_
  have h13 := z_b32 p2
  refine z_xJ zt237 4 rfl rfl (fun (h14 : x4.toInt ≤ p2.toInt) => ?_) (fun (h14 : p2.toInt < x4.toInt) => ?_)
  · skip
    refine z_xP zt237 6 17 [some (.ref 19), some (.int p2)] [.int 0] rfl rfl ?_
    refine z_xrz zt237 7 rfl zzr237 (by decide) (by decide) ?_
    show z_ev (d + 5) 258 13 [some (.ref 19), some (.int p1), some (.int p2), some (.int p3), some (.int p4), some (.int p5), none, none, none, none, none, none, none] [.int 0] M0 _
    refine z_xZ zt258 5 rfl rfl (fun (h15 : (0 : Int) = 0) => ?_) (fun (h15 : (0 : Int) ≠ 0) => absurd h15 (by omega))
    refine z_xP zt258 11 28 [some (.ref 19), some (.int p1), some (.int p2), some (.int p3), some (.int p4), some (.int p5), none, none, none, none, none, none, none] [.int (-1)] rfl rfl ?_
    have qm1 : (((-1) : Int32)).toInt = (-1) := rfl
    exact z_xri zt258 12 rfl zzr258 (kk (-1) M0 X (Or.inl ⟨rfl, by unfold y_vW2; omega⟩))
  refine z_xP zt237 5 17 [some (.ref 19), some (.int p2)] [.int 1] rfl rfl ?_
  refine z_xrz zt237 7 rfl zzr237 (by decide) (by decide) ?_
  show z_ev (d + 5) 258 13 [some (.ref 19), some (.int p1), some (.int p2), some (.int p3), some (.int p4), some (.int p5), none, none, none, none, none, none, none] [.int 1] M0 _
  refine z_xZ zt258 5 rfl rfl (fun (h16 : (1 : Int) = 0) => absurd h16 (by omega)) (fun (h16 : (1 : Int) ≠ 0) => ?_)
  refine z_xP zt258 6 18 [some (.ref 19), some (.int p1), some (.int p2), some (.int p3), some (.int p4), some (.int p5), none, none, none, none, none, none, none] [.int p5] rfl rfl ?_
  have h17 := z_b32 p5
  refine z_xL zt258 7 rfl rfl (fun (y18 : Int64) (h19 : y18.toInt = p5.toInt) => ?_) (z_qI2L rfl)
  refine z_xP zt258 8 21 [some (.ref 19), some (.int p1), some (.int p2), some (.int p3), some (.int p4), some (.int p5), none, none, none, none, none, none, none] [.long 1, .long 0, .long y18] rfl rfl ?_
  refine z_xcS (vs := [.long y18, .long 0, .long 1]) (r := []) (L2 := [some (.long y18), none, some (.long 0), none, some (.long 1), none]) zt258 9 rfl zo258 zzcS12_116 (Or.inl rfl) (Nat.le_of_ble_eq_true rfl) rfl rfl (Nat.le_of_ble_eq_true rfl) zzm189 (Nat.le_of_ble_eq_true rfl) rfl ?_
  refine z_xP zt189 0 2 [some (.long y18), none, some (.long 0), none, some (.long 1), none] [.long 0, .long y18] rfl rfl ?_
  refine z_xI zt189 1 rfl rfl (fun (x20 : Int32) (h21 : (x20.toInt < 0 ∧ y18.toInt < 0) ∨ (x20.toInt = 0 ∧ y18.toInt = 0) ∨ (0 < x20.toInt ∧ 0 < y18.toInt)) => ?_) (z_qCmp rfl rfl)
  refine z_xZ zt189 2 rfl rfl (fun (h22 : x20.toInt < 0) => ?_) (fun (h22 : 0 ≤ x20.toInt) => ?_)
  · skip
    refine z_xP zt189 7 18 [some (.long y18), none, some (.long 0), none, some (.long 1), none] [.int 0] rfl rfl ?_
    refine z_xrz zt189 8 rfl zzr189 (by decide) (by decide) ?_
    show z_ev (d + 5) 258 24 [some (.ref 19), some (.int p1), some (.int p2), some (.int p3), some (.int p4), some (.int p5), none, none, none, none, none, none, none] [.int 0] M0 _
    refine z_xZ zt258 10 rfl rfl (fun (h23 : (0 : Int) ≠ 0) => absurd h23 (by omega)) (fun (h23 : (0 : Int) = 0) => ?_)
    refine z_xP zt258 11 28 [some (.ref 19), some (.int p1), some (.int p2), some (.int p3), some (.int p4), some (.int p5), none, none, none, none, none, none, none] [.int (-1)] rfl rfl ?_
    have qm1 : (((-1) : Int32)).toInt = (-1) := rfl
    exact z_xri zt258 12 rfl zzr258 (kk (-1) M0 X (Or.inl ⟨rfl, by unfold y_vW2; omega⟩))
  refine z_xP zt189 3 9 [some (.long y18), none, some (.long 0), none, some (.long 1), none] [.long 1, .long y18] rfl rfl ?_
  refine z_xI zt189 4 rfl rfl (fun (x24 : Int32) (h25 : (x24.toInt < 0 ∧ y18.toInt < 1) ∨ (x24.toInt = 0 ∧ y18.toInt = 1) ∨ (0 < x24.toInt ∧ 1 < y18.toInt)) => ?_) (z_qCmp rfl rfl)
  refine z_xZ zt189 5 rfl rfl (fun (h26 : 0 < x24.toInt) => ?_) (fun (h26 : x24.toInt ≤ 0) => ?_)
  · skip
    refine z_xP zt189 7 18 [some (.long y18), none, some (.long 0), none, some (.long 1), none] [.int 0] rfl rfl ?_
    refine z_xrz zt189 8 rfl zzr189 (by decide) (by decide) ?_
    show z_ev (d + 5) 258 24 [some (.ref 19), some (.int p1), some (.int p2), some (.int p3), some (.int p4), some (.int p5), none, none, none, none, none, none, none] [.int 0] M0 _
    refine z_xZ zt258 10 rfl rfl (fun (h27 : (0 : Int) ≠ 0) => absurd h27 (by omega)) (fun (h27 : (0 : Int) = 0) => ?_)
    refine z_xP zt258 11 28 [some (.ref 19), some (.int p1), some (.int p2), some (.int p3), some (.int p4), some (.int p5), none, none, none, none, none, none, none] [.int (-1)] rfl rfl ?_
    have qm1 : (((-1) : Int32)).toInt = (-1) := rfl
    exact z_xri zt258 12 rfl zzr258 (kk (-1) M0 X (Or.inl ⟨rfl, by unfold y_vW2; omega⟩))
  refine z_xP zt189 6 18 [some (.long y18), none, some (.long 0), none, some (.long 1), none] [.int 1] rfl rfl ?_
  refine z_xrz zt189 8 rfl zzr189 (by decide) (by decide) ?_
  show z_ev (d + 5) 258 24 [some (.ref 19), some (.int p1), some (.int p2), some (.int p3), some (.int p4), some (.int p5), none, none, none, none, none, none, none] [.int 1] M0 _
  refine z_xZ zt258 10 rfl rfl (fun (h28 : (1 : Int) ≠ 0) => ?_) (fun (h28 : (1 : Int) = 0) => absurd h28 (by omega))
  refine z_xP zt258 13 33 [some (.ref 19), some (.int p1), some (.int p2), some (.int p3), some (.int p4), some (.int p5), none, none, none, none, none, none, none] [.int p4, .int p3, .ref 19] rfl rfl ?_
  refine z_xcV (vs := [.ref 19, .int p3, .int p4]) (r := []) (L2 := [some (.ref 19), some (.int p3), some (.int p4)]) zt258 14 rfl zo258 zzcV12_320 (Or.inl rfl) rfl X f19 rfl rfl rfl (Nat.le_of_ble_eq_true rfl) zzm251 (Nat.le_of_ble_eq_true rfl) rfl ?_
  refine z_xP zt251 0 2 [some (.ref 19), some (.int p3), some (.int p4)] [.int p3, .ref 19] rfl rfl ?_
  refine z_xcV (vs := [.ref 19, .int p3]) (r := []) (L2 := [some (.ref 19), some (.int p3)]) zt251 1 rfl zo251 zzcV12_209 (Or.inl rfl) rfl X f19 rfl rfl rfl (Nat.le_of_ble_eq_true rfl) zzm209 (Nat.le_of_ble_eq_true rfl) rfl ?_
  refine z_xP zt209 0 1 [some (.ref 19), some (.int p3)] [.int p3] rfl rfl ?_
  refine z_xZ zt209 1 rfl rfl (fun (h29 : p3.toInt < 0) => ?_) (fun (h29 : 0 ≤ p3.toInt) => ?_)
  · skip
    refine z_xP zt209 6 17 [some (.ref 19), some (.int p3)] [.int 0] rfl rfl ?_
    refine z_xrz zt209 7 rfl zzr209 (by decide) (by decide) ?_
    show z_ev (d + 4) 251 5 [some (.ref 19), some (.int p3), some (.int p4)] [.int 0] M0 _
    refine z_xZ zt251 2 rfl rfl (fun (h30 : (0 : Int) = 0) => ?_) (fun (h30 : (0 : Int) ≠ 0) => absurd h30 (by omega))
    refine z_xP zt251 9 21 [some (.ref 19), some (.int p3), some (.int p4)] [.int (-1)] rfl rfl ?_
    refine z_xri zt251 10 rfl zzr251 ?_
    show z_ev (d + 5) 258 36 [some (.ref 19), some (.int p1), some (.int p2), some (.int p3), some (.int p4), some (.int p5), none, none, none, none, none, none, none] [.int (-1)] M0 _
    refine z_xP zt258 15 40 [some (.ref 19), some (.int p1), some (.int p2), some (.int p3), some (.int p4), some (.int p5), some (.int (-1)), none, none, none, none, none, none] [.int (-1)] rfl rfl ?_
    refine z_xZ zt258 16 rfl rfl (fun (h31 : 0 ≤ ((-1) : Int)) => absurd h31 (by omega)) (fun (h31 : ((-1) : Int) < 0) => ?_)
    refine z_xP zt258 17 45 [some (.ref 19), some (.int p1), some (.int p2), some (.int p3), some (.int p4), some (.int p5), some (.int (-1)), none, none, none, none, none, none] [.int (-1)] rfl rfl ?_
    have qm1 : (((-1) : Int32)).toInt = (-1) := rfl
    exact z_xri zt258 18 rfl zzr258 (kk (-1) M0 X (Or.inl ⟨rfl, by unfold y_vW2; omega⟩))
  refine z_xP zt209 2 6 [some (.ref 19), some (.int p3)] [.ref 19, .int p3] rfl rfl ?_
  refine z_xgI zt209 3 rfl zo209 zzf12_110 X f19 (by decide) (by decide) rfl (fun (x33 : Int32) h32 (h34 : 0 ≤ x33.toInt) (h35 : x33.toInt ≤ 8) => ?_)
  have ex33 : (z_Fv M0 19 13).toInt = x33.toInt := by rw [z_Fv.of h32]
  have h36 := z_b32 p3
  refine z_xJ zt209 4 rfl rfl (fun (h37 : x33.toInt ≤ p3.toInt) => ?_) (fun (h37 : p3.toInt < x33.toInt) => ?_)
  · skip
    refine z_xP zt209 6 17 [some (.ref 19), some (.int p3)] [.int 0] rfl rfl ?_
    refine z_xrz zt209 7 rfl zzr209 (by decide) (by decide) ?_
    show z_ev (d + 4) 251 5 [some (.ref 19), some (.int p3), some (.int p4)] [.int 0] M0 _
    refine z_xZ zt251 2 rfl rfl (fun (h38 : (0 : Int) = 0) => ?_) (fun (h38 : (0 : Int) ≠ 0) => absurd h38 (by omega))
    refine z_xP zt251 9 21 [some (.ref 19), some (.int p3), some (.int p4)] [.int (-1)] rfl rfl ?_
    refine z_xri zt251 10 rfl zzr251 ?_
    show z_ev (d + 5) 258 36 [some (.ref 19), some (.int p1), some (.int p2), some (.int p3), some (.int p4), some (.int p5), none, none, none, none, none, none, none] [.int (-1)] M0 _
    refine z_xP zt258 15 40 [some (.ref 19), some (.int p1), some (.int p2), some (.int p3), some (.int p4), some (.int p5), some (.int (-1)), none, none, none, none, none, none] [.int (-1)] rfl rfl ?_
    refine z_xZ zt258 16 rfl rfl (fun (h39 : 0 ≤ ((-1) : Int)) => absurd h39 (by omega)) (fun (h39 : ((-1) : Int) < 0) => ?_)
    refine z_xP zt258 17 45 [some (.ref 19), some (.int p1), some (.int p2), some (.int p3), some (.int p4), some (.int p5), some (.int (-1)), none, none, none, none, none, none] [.int (-1)] rfl rfl ?_
    have qm1 : (((-1) : Int32)).toInt = (-1) := rfl
    exact z_xri zt258 18 rfl zzr258 (kk (-1) M0 X (Or.inl ⟨rfl, by unfold y_vW2; omega⟩))
  refine z_xP zt209 5 17 [some (.ref 19), some (.int p3)] [.int 1] rfl rfl ?_
  refine z_xrz zt209 7 rfl zzr209 (by decide) (by decide) ?_
  show z_ev (d + 4) 251 5 [some (.ref 19), some (.int p3), some (.int p4)] [.int 1] M0 _
  refine z_xZ zt251 2 rfl rfl (fun (h40 : (1 : Int) = 0) => absurd h40 (by omega)) (fun (h40 : (1 : Int) ≠ 0) => ?_)
  refine z_xP zt251 3 9 [some (.ref 19), some (.int p3), some (.int p4)] [.int p4] rfl rfl ?_
  have h41 := z_b32 p4
  refine z_xL zt251 4 rfl rfl (fun (y42 : Int64) (h43 : y42.toInt = p4.toInt) => ?_) (z_qI2L rfl)
  refine z_xP zt251 5 11 [some (.ref 19), some (.int p3), some (.int p4)] [.long 1, .long y42] rfl rfl ?_
  refine z_xl2 zt251 6 rfl zo251 zkl12_318 ?_
  refine z_xcS (vs := [.long y42, .long 1, .long 5]) (r := []) (L2 := [some (.long y42), none, some (.long 1), none, some (.long 5), none]) zt251 7 rfl zo251 zzcS12_116 (Or.inl rfl) (Nat.le_of_ble_eq_true rfl) rfl rfl (Nat.le_of_ble_eq_true rfl) zzm189 (Nat.le_of_ble_eq_true rfl) rfl ?_
  refine z_xP zt189 0 2 [some (.long y42), none, some (.long 1), none, some (.long 5), none] [.long 1, .long y42] rfl rfl ?_
  refine z_xI zt189 1 rfl rfl (fun (x44 : Int32) (h45 : (x44.toInt < 0 ∧ y42.toInt < 1) ∨ (x44.toInt = 0 ∧ y42.toInt = 1) ∨ (0 < x44.toInt ∧ 1 < y42.toInt)) => ?_) (z_qCmp rfl rfl)
  refine z_xZ zt189 2 rfl rfl (fun (h46 : x44.toInt < 0) => ?_) (fun (h46 : 0 ≤ x44.toInt) => ?_)
  · skip
    refine z_xP zt189 7 18 [some (.long y42), none, some (.long 1), none, some (.long 5), none] [.int 0] rfl rfl ?_
    refine z_xrz zt189 8 rfl zzr189 (by decide) (by decide) ?_
    show z_ev (d + 4) 251 17 [some (.ref 19), some (.int p3), some (.int p4)] [.int 0] M0 _
    refine z_xZ zt251 8 rfl rfl (fun (h47 : (0 : Int) ≠ 0) => absurd h47 (by omega)) (fun (h47 : (0 : Int) = 0) => ?_)
    refine z_xP zt251 9 21 [some (.ref 19), some (.int p3), some (.int p4)] [.int (-1)] rfl rfl ?_
    refine z_xri zt251 10 rfl zzr251 ?_
    show z_ev (d + 5) 258 36 [some (.ref 19), some (.int p1), some (.int p2), some (.int p3), some (.int p4), some (.int p5), none, none, none, none, none, none, none] [.int (-1)] M0 _
    refine z_xP zt258 15 40 [some (.ref 19), some (.int p1), some (.int p2), some (.int p3), some (.int p4), some (.int p5), some (.int (-1)), none, none, none, none, none, none] [.int (-1)] rfl rfl ?_
    refine z_xZ zt258 16 rfl rfl (fun (h48 : 0 ≤ ((-1) : Int)) => absurd h48 (by omega)) (fun (h48 : ((-1) : Int) < 0) => ?_)
    refine z_xP zt258 17 45 [some (.ref 19), some (.int p1), some (.int p2), some (.int p3), some (.int p4), some (.int p5), some (.int (-1)), none, none, none, none, none, none] [.int (-1)] rfl rfl ?_
    have qm1 : (((-1) : Int32)).toInt = (-1) := rfl
    exact z_xri zt258 18 rfl zzr258 (kk (-1) M0 X (Or.inl ⟨rfl, by unfold y_vW2; omega⟩))
  refine z_xP zt189 3 9 [some (.long y42), none, some (.long 1), none, some (.long 5), none] [.long 5, .long y42] rfl rfl ?_
  refine z_xI zt189 4 rfl rfl (fun (x49 : Int32) (h50 : (x49.toInt < 0 ∧ y42.toInt < 5) ∨ (x49.toInt = 0 ∧ y42.toInt = 5) ∨ (0 < x49.toInt ∧ 5 < y42.toInt)) => ?_) (z_qCmp rfl rfl)
  refine z_xZ zt189 5 rfl rfl (fun (h51 : 0 < x49.toInt) => ?_) (fun (h51 : x49.toInt ≤ 0) => ?_)
  · skip
    refine z_xP zt189 7 18 [some (.long y42), none, some (.long 1), none, some (.long 5), none] [.int 0] rfl rfl ?_
    refine z_xrz zt189 8 rfl zzr189 (by decide) (by decide) ?_
    show z_ev (d + 4) 251 17 [some (.ref 19), some (.int p3), some (.int p4)] [.int 0] M0 _
    refine z_xZ zt251 8 rfl rfl (fun (h52 : (0 : Int) ≠ 0) => absurd h52 (by omega)) (fun (h52 : (0 : Int) = 0) => ?_)
    refine z_xP zt251 9 21 [some (.ref 19), some (.int p3), some (.int p4)] [.int (-1)] rfl rfl ?_
    refine z_xri zt251 10 rfl zzr251 ?_
    show z_ev (d + 5) 258 36 [some (.ref 19), some (.int p1), some (.int p2), some (.int p3), some (.int p4), some (.int p5), none, none, none, none, none, none, none] [.int (-1)] M0 _
    refine z_xP zt258 15 40 [some (.ref 19), some (.int p1), some (.int p2), some (.int p3), some (.int p4), some (.int p5), some (.int (-1)), none, none, none, none, none, none] [.int (-1)] rfl rfl ?_
    refine z_xZ zt258 16 rfl rfl (fun (h53 : 0 ≤ ((-1) : Int)) => absurd h53 (by omega)) (fun (h53 : ((-1) : Int) < 0) => ?_)
    refine z_xP zt258 17 45 [some (.ref 19), some (.int p1), some (.int p2), some (.int p3), some (.int p4), some (.int p5), some (.int (-1)), none, none, none, none, none, none] [.int (-1)] rfl rfl ?_
    have qm1 : (((-1) : Int32)).toInt = (-1) := rfl
    exact z_xri zt258 18 rfl zzr258 (kk (-1) M0 X (Or.inl ⟨rfl, by unfold y_vW2; omega⟩))
  refine z_xP zt189 6 18 [some (.long y42), none, some (.long 1), none, some (.long 5), none] [.int 1] rfl rfl ?_
  refine z_xrz zt189 8 rfl zzr189 (by decide) (by decide) ?_
  show z_ev (d + 4) 251 17 [some (.ref 19), some (.int p3), some (.int p4)] [.int 1] M0 _
  refine z_xZ zt251 8 rfl rfl (fun (h54 : (1 : Int) ≠ 0) => ?_) (fun (h54 : (1 : Int) = 0) => absurd h54 (by omega))
  refine z_xP zt251 11 23 [some (.ref 19), some (.int p3), some (.int p4)] [.ref 19] rfl rfl ?_
  refine z_xgX (b := 31) zt251 12 rfl zo251 zzf12_43 X f19 (by decide) (by decide) rfl ?_
  refine z_xP zt251 13 27 [some (.ref 19), some (.int p3), some (.int p4)] [.int p3, .ref 31] rfl rfl ?_
  have f31 : T[31]? = some (.inr (31, 0, 8, 0, 1024)) := X.1.k rfl (by decide)
  have hv : y_vW2 M0 p1 p2 p3 := by unfold y_vW2; omega
  have hY := hTB hv
  refine z_xil zt251 14 rfl X f31 (by decide) (by omega) (by omega) (fun (x55 : Int32) h56 (h57 : 0 ≤ x55.toInt) (h58 : x55.toInt ≤ 1024) => ?_)
  have em : x55.toInt = (m : Int) := by
    rw [← h56]
    exact hY.2.1.2.2.2.2.1
  refine z_xP zt251 15 30 [some (.ref 19), some (.int p3), some (.int p4)] [.int 12, .int x55] rfl rfl ?_
  refine z_xJ zt251 16 rfl rfl (fun (h59 : x55.toInt ≤ 12) => ?_) (fun (h59 : 12 < x55.toInt) => ?_)
  · skip
    refine z_xP zt251 18 39 [some (.ref 19), some (.int p3), some (.int p4)] [.int 0] rfl rfl ?_
    refine z_xri zt251 19 rfl zzr251 ?_
    show z_ev (d + 5) 258 36 [some (.ref 19), some (.int p1), some (.int p2), some (.int p3), some (.int p4), some (.int p5), none, none, none, none, none, none, none] [.int 0] M0 _
    refine z_xP zt258 15 40 [some (.ref 19), some (.int p1), some (.int p2), some (.int p3), some (.int p4), some (.int p5), some (.int 0), none, none, none, none, none, none] [.int 0] rfl rfl ?_
    refine z_xZ zt258 16 rfl rfl (fun (h60 : 0 ≤ (0 : Int)) => ?_) (fun (h60 : (0 : Int) < 0) => absurd h60 (by omega))
    refine z_xP zt258 19 57 [some (.ref 19), some (.int p1), some (.int p2), some (.int p3), some (.int p4), some (.int p5), some (.int 0), some (.int 0), some (.int (-2)), none, none, none, none] [.int p4, .int p3, .ref 19] rfl rfl ?_
    refine z_xcV (vs := [.ref 19, .int p3, .int p4]) (r := []) (L2 := [some (.ref 19), some (.int p3), some (.int p4), none]) zt258 20 rfl zo258 zzcV12_323 (Or.inl rfl) rfl X f19 rfl rfl rfl (Nat.le_of_ble_eq_true rfl) zzm252 (Nat.le_of_ble_eq_true rfl) rfl ?_
    have h61 := z_G4u (hR.go X (by decide)) h32 (by omega) (by omega) h56
    refine zUC252 X.1 (by omega) (by omega) h56 ⟨by omega, by omega⟩ hY.2.1 hY.2.2.2.1 hY.2.2.2.2 hY.1 hY.2.2.1.2 (fun M62 X63 hT2 hS2 => ?_)
    have X67 := X.go X63 (z_sb (by decide))
    show z_ev (d + 5) 258 60 [some (.ref 19), some (.int p1), some (.int p2), some (.int p3), some (.int p4), some (.int p5), some (.int 0), some (.int 0), some (.int (-2)), none, none, none, none] [] M62 _
    refine z_xP zt258 21 63 [some (.ref 19), some (.int p1), some (.int p2), some (.int p3), some (.int p4), some (.int p5), some (.int 0), some (.int 0), some (.int (-2)), some (.int 1), none, none, none] [] rfl rfl ?_
    have qm2 : (((-2) : Int32)).toInt = (-2) := rfl
    have q0 : ((0 : Int32)).toInt = 0 := rfl
    have q1 : ((1 : Int32)).toInt = 1 := rfl
    obtain ⟨kd, sh, ch, hwp1⟩ := y_wyX hW (p := p1) (show p1.toInt.toNat < 20 by omega)
    obtain ⟨kd2, sh2, ch2, hwp2⟩ := y_wyX hW (p := p2) (show p2.toInt.toNat < 20 by omega)
    have hT1 := z_Tp1 m (by omega) hY.2.2.1.2 p4.toInt.toNat (by omega)
    have hTb := z_Tb m (by omega) p4.toInt.toNat (by omega)
    exact (zYB258 hW hwp1 hwp2 hY.2.2.1 (by omega) (by omega) (by omega) (by omega) (fun x M1 X h => kk x M1 X (Or.inr ⟨⟨hv, by omega⟩, Or.inr ⟨by omega, kd, sh, ch, kd2, sh2, ch2, hwp1, hwp2, h⟩⟩)) 8740) M62 (0) (0) (-2) (1) none none none 0 X67 (by decide) (Or.inr ⟨rfl, by omega, hT2, hS2⟩) ⟨0, -2, ⟨rfl, rfl⟩, rfl, rfl⟩ (by show 2 * ((z_T m p4.toInt.toNat : Int) - ((0 : Nat) : Int)) + 1 < _; omega)
  refine z_xP zt251 17 39 [some (.ref 19), some (.int p3), some (.int p4)] [.int (-4)] rfl rfl ?_
  refine z_xri zt251 19 rfl zzr251 ?_
  show z_ev (d + 5) 258 36 [some (.ref 19), some (.int p1), some (.int p2), some (.int p3), some (.int p4), some (.int p5), none, none, none, none, none, none, none] [.int (-4)] M0 _
  refine z_xP zt258 15 40 [some (.ref 19), some (.int p1), some (.int p2), some (.int p3), some (.int p4), some (.int p5), some (.int (-4)), none, none, none, none, none, none] [.int (-4)] rfl rfl ?_
  refine z_xZ zt258 16 rfl rfl (fun (h72 : 0 ≤ ((-4) : Int)) => absurd h72 (by omega)) (fun (h72 : ((-4) : Int) < 0) => ?_)
  refine z_xP zt258 17 45 [some (.ref 19), some (.int p1), some (.int p2), some (.int p3), some (.int p4), some (.int p5), some (.int (-4)), none, none, none, none, none, none] [.int (-4)] rfl rfl ?_
  have qm4 : (((-4) : Int32)).toInt = (-4) := rfl
  exact z_xri zt258 18 rfl zzr258 (kk (-4) M0 X (Or.inr ⟨⟨hv, by omega⟩, Or.inl ⟨rfl, by omega⟩⟩))
