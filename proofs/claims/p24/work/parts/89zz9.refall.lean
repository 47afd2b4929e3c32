/-! over all benches, the reference -/
section ZRALL
variable {T : List zK} {M M1 : zH} {a q t m pr en n : Nat} {B F F2 : Nat → Nat} {S : Nat → Int32} {A : Int32} {rs : List Nat}
/-- an agenda of the reference, as all benches ask it -/
def y_tnb (M : zH) (a q t m pr en : Nat) (B : Nat → Nat) (S : Nat → Int32) (A : Int32) : Prop := (1 ≤ q ∧ q ≤ 10) ∧ y_AGO M a q t m pr en B ∧ (m = z_lc B (2 ^ q) ∧ 1 ≤ m) ∧ (∀ k, k < m → z_Ar M 30 (1024 * a + k) = S k) ∧ A.toInt = ((2 ^ q : Nat) : Int) - 1
/-- what sits there can decide -/
theorem y_TN.rp (hT : y_TN T M a q t m pr en n B F S A) (hS : y_ST M n F S A) (hm : m = z_lc B (2 ^ q) ∧ 1 ≤ m) {av : Int32} (hav : z_F M 19 29 = some (.int av)) : ∃ sv : Int32, z_RP T M a q m pr en B av sv ∧ sv.toInt.toNat = n := by
  obtain ⟨hW, ⟨av2, h1, ea, a8⟩, ⟨sv, h3, esv, n5⟩, hG, hSS, hA, q10, hnu⟩ := id hT
  have eav := z_ive hav h1
  rw [← eav] at ea h1
  have jok : ∀ j, j < n → z_jok q (z_w1 j) (z_yS S F j) (z_nS S A F j) := fun j hj => by
    have hF := (hnu j hj).2
    obtain ⟨s, s1, s2, s3⟩ := z_lc_ex (B := B) (2 ^ q) (F j) (by omega)
    have e : (z_Ar M 30 (1024 * a + z_lc B s)).toInt = (s : Int) := hG.2.2.2.2.2.2 s s1 s2
    rw [s3, hSS _ hF] at e
    exact ⟨z_ansNo (Y := S (F j)) hA q10.2 ⟨by omega, by rw [e]; exact Int.ofNat_lt.mpr s1⟩, show 1 ≤ (1 : Int32).toInt ∧ (1 : Int32).toInt ≤ 9 by decide⟩
  have ok := z_jokJ q10.2 jok
  refine ⟨sv, ⟨hW, ⟨h1, ea, a8⟩, ⟨h3, by omega, by omega⟩, q10, ⟨t, hG⟩, hm, fun j hj => ?_, fun j hj => ?_⟩, by omega⟩
  · obtain ⟨_, u2, u3⟩ := hS j (by omega)
    rw [u2, u3]
    exact (jok j (by omega)).1
  · obtain ⟨u1, u2, u3⟩ := hS j (by omega)
    rw [u1, u2, u3]
    exact ok j (by omega)
/-- what is answered: a refusal, too big, or so -/
def z_aA (v r : Prop) (m : Nat) (P : Prop) (x : Int) : Prop := (x = -1 ∧ ¬ (v ∧ r)) ∨ ((v ∧ r) ∧ ((x = -4 ∧ 12 < m) ∨ (m ≤ 12 ∧ P)))
def y_vW (M : zH) (p1 p2 : Int32) : Prop := (0 ≤ p1.toInt ∧ p1.toInt < (z_Fv M 19 21).toInt) ∧ (0 ≤ p2.toInt ∧ p2.toInt < (z_Fv M 19 13).toInt)
/-- a way of the reference -/
def y_wy (M : zH) (p : Int32) (kd sh ch : Nat) : Prop := (z_Ar M 36 p.toNatClampNeg).toInt = (kd : Int) ∧ (z_Ar M 37 p.toNatClampNeg).toInt = (sh : Int) ∧ (z_Ar M 38 p.toNatClampNeg).toInt = (ch : Int)
theorem y_wy.ke {p : Int32} {kd sh ch : Nat} (h : y_wy M p kd sh ch) (hW : z_W M T) (ke : z_ke T rs M M1) (hr : (([36, 37, 38] : List Nat).all fun x => !rs.elem x) = true) : y_wy M1 p kd sh ch := by
  have n0 := z_nin hr
  unfold y_wy
  rw [ke.a (hW.k (k := 36) (κ := z_ai 36 20 0 7) rfl (by decide)) (n0 _ rfl), ke.a (hW.k (k := 37) (κ := z_ai 37 20 0 9) rfl (by decide)) (n0 _ rfl), ke.a (hW.k (k := 38) (κ := z_ai 38 20 0 8) rfl (by decide)) (n0 _ rfl)]
  exact h
theorem y_wyX (hW : z_W M T) {p : Int32} (h : p.toNatClampNeg < 20) : ∃ kd sh ch : Nat, y_wy M p kd sh ch := by
  obtain ⟨kd, e1⟩ := z_aiN hW (r := 36) (n := 20) (hi := 7) 36 rfl (by decide) (by decide) p.toNatClampNeg h
  obtain ⟨sh, e2⟩ := z_aiN hW (r := 37) (n := 20) (hi := 9) 37 rfl (by decide) (by decide) p.toNatClampNeg h
  obtain ⟨ch, e3⟩ := z_aiN hW (r := 38) (n := 20) (hi := 8) 38 rfl (by decide) (by decide) p.toNatClampNeg h
  exact ⟨kd, sh, ch, e1, e2, e3⟩
end ZRALL
theorem zYB259 {T : List zK} {d : Nat} {K : Option Value → zH → Prop} {p1 : Int32} {p2 : Int32} {p3 : Int32} {p4 : Int32} {M0 : zH} {a q t m pr en kd sh ch : Nat} {B : Nat → Nat} {S : Nat → Int32} {A : Int32} (hW0 : z_W M0 T) (hwp1 : y_wy M0 p1 kd sh ch) (hm : m = z_lc B (2 ^ q) ∧ 1 ≤ m) (m12 : m ≤ 12) (up1 : 0 ≤ p1.toInt ∧ p1.toInt ≤ 19) (un : 1 ≤ p3.toInt ∧ p3.toInt ≤ 5) (u4 : 0 ≤ p4.toInt ∧ p4.toInt ≤ 9) (kk : ∀ (x : Int32) (M1 : zH), z_X T zw259 M0 M1 → z_kA (z_pYe (kd + 4) B q pr en sh ch m p3.toInt.toNat S A p4.toInt.toNat) (fun _ => 0) (z_T m p3.toInt.toNat) 0 x.toInt → K (some (.int x)) M1) : ∀ nn : Nat, (∀ (M : zH) (b5 : Int32) (b6 : Int32) (b7 : Int32) (k : Nat), z_X T zw259 M0 M → 0 ≤ b7.toInt ∧ b7.toInt ≤ 1 → ((b7.toInt = 0 ∧ k = z_T m p3.toInt.toNat) ∨ (b7.toInt = 1 ∧ k < z_T m p3.toInt.toNat ∧ y_TN T M a q t m pr en p3.toInt.toNat B (z_bk m p3.toInt.toNat k) S A ∧ y_ST M p3.toInt.toNat (z_bk m p3.toInt.toNat k) S A)) → (∃ (cc : Nat) (yy : Int), z_kr (z_pYe (kd + 4) B q pr en sh ch m p3.toInt.toNat S A p4.toInt.toNat) (fun _ => 0) k cc yy ∧ b6.toInt = (cc : Int)) → 2 * ((z_T m p3.toInt.toNat : Int) - (k : Int)) + b7.toInt < (nn : Int) → z_ev (d + 5) 259 68 [some (.ref 19), some (.int p1), some (.int p2), some (.int p3), some (.int p4), some (.int b5), some (.int b6), some (.int b7)] [] M K) := by
  intro nn
  induction nn with
  | zero => exact by intro M b5 b6 b7 k X hb8 hst hI hE; clear hI; rcases hst with ⟨g1, g2⟩ | ⟨g1, g2, _⟩ <;> (exfalso; omega)
  | succ nn ih =>
    intro M b5 b6 b7 k X hb8 hst hI hE
    obtain ⟨cc, yy, hK, hk0⟩ := hI
    have hcM := z_krM hK
    have hTb := z_Tb m (by omega) p3.toInt.toNat (by omega)
    refine z_xP zt259 25 70 [some (.ref 19), some (.int p1), some (.int p2), some (.int p3), some (.int p4), some (.int b5), some (.int b6), some (.int b7)] [.int b7] rfl rfl ?_
    refine z_xZ zt259 26 rfl rfl (fun (h1 : b7.toInt = 0) => ?_) (fun (h1 : b7.toInt ≠ 0) => ?_)
    · skip
      have hkT : k = z_T m p3.toInt.toNat := by
        rcases hst with ⟨_, g⟩ | ⟨g, _⟩
        · exact g
        · exact absurd g (by omega)
      refine z_xP zt259 39 104 [some (.ref 19), some (.int p1), some (.int p2), some (.int p3), some (.int p4), some (.int b5), some (.int b6), some (.int b7)] [.int b6] rfl rfl ?_
      exact z_xri zt259 40 rfl zzr259 (kk b6 M X ⟨cc, yy, by rw [← hkT]; exact hK, Or.inl ⟨rfl, hk0⟩⟩)
    obtain ⟨hkL, hTM, hSM⟩ : k < z_T m p3.toInt.toNat ∧ y_TN T M a q t m pr en p3.toInt.toNat B (z_bk m p3.toInt.toNat k) S A ∧ y_ST M p3.toInt.toNat (z_bk m p3.toInt.toNat k) S A := by
      rcases hst with ⟨g, _⟩ | ⟨_, g⟩
      · exact absurd g (by omega)
      · exact g
    have hWM := hTM.1
    obtain ⟨_, ⟨z0, hp0, ea, a8⟩, ⟨z1, hp1, esv, n5⟩, hG, hSS, hA, q10, hnu⟩ := id hTM
    obtain ⟨sv, hRP, eJ⟩ := hTM.rp hSM hm hp0
    refine z_xP zt259 27 75 [some (.ref 19), some (.int p1), some (.int p2), some (.int p3), some (.int p4), some (.int b5), some (.int b6), some (.int b7)] [.int p1, .ref 19] rfl rfl ?_
    have f19 : T[19]? = some (.inl (12, 0, 0, 0, 0)) := X.1.k rfl (by decide)
    refine z_xcV (vs := [.ref 19, .int p1]) (r := []) (L2 := [some (.ref 19), some (.int p1), none]) zt259 28 rfl zo259 zzcV12_303 (Or.inl rfl) rfl X f19 rfl rfl rfl (Nat.le_of_ble_eq_true rfl) zzm239 (Nat.le_of_ble_eq_true rfl) rfl ?_
    obtain ⟨gkd, gsh, gch⟩ := hwp1.ke hW0 X.2 (by decide)
    refine zUC239 hRP (by omega) gkd gsh gch (fun M2 yv nv X3 hyv hnv hyn hout => ?_)
    rw [eJ] at hout
    have hoJ : z_oJ (kd + 4) B q pr en sh p3.toInt.toNat ch z_w1 (z_yS S (z_bk m p3.toInt.toNat k)) (z_nS S A (z_bk m p3.toInt.toNat k)) yv.toInt.toNat nv.toInt.toNat := ⟨_, _, _, fun k2 _ => z_LVof eJ hSM k2, fun j hj => ⟨by rw [(hSM j hj).2.1], by rw [(hSM j hj).2.2]⟩, hout⟩
    have hT2 := hTM.ke X3 (by decide)
    have X4 := X.go X3 (z_sb (by decide))
    show z_ev (d + 5) 259 78 [some (.ref 19), some (.int p1), some (.int p2), some (.int p3), some (.int p4), some (.int b5), some (.int b6), some (.int b7)] [] M2 _
    refine z_xP zt259 29 81 [some (.ref 19), some (.int p1), some (.int p2), some (.int p3), some (.int p4), some (.int b5), some (.int b6), some (.int b7)] [.ref 19, .int b6] rfl rfl ?_
    refine z_xgv zt259 30 rfl zo259 zzf12_275 X4 f19 (by decide) hyv ?_
    refine z_xP zt259 31 86 [some (.ref 19), some (.int p1), some (.int p2), some (.int p3), some (.int p4), some (.int b5), some (.int b6), some (.int b7)] [.int p4, .int yv, .int b6] rfl rfl ?_
    have h10 := z_b32 yv
    refine z_xI zt259 32 rfl rfl (fun (x11 : Int32) (h11 : x11 = yv >>> (p4 &&& 31)) => ?_) rfl
    refine z_xP zt259 33 88 [some (.ref 19), some (.int p1), some (.int p2), some (.int p3), some (.int p4), some (.int b5), some (.int b6), some (.int b7)] [.int 1, .int x11, .int b6] rfl rfl ?_
    refine z_xI zt259 34 rfl rfl (fun (x13 : Int32) (h14 : x13 = x11 &&& 1 ∧ 0 ≤ x13.toInt ∧ x13.toInt ≤ 1) => ?_) (⟨rfl, z_pAnd rfl (by omega)⟩)
    have hbit : x13.toInt = 1 ↔ yv.toInt.toNat / 2 ^ p4.toInt.toNat % 2 = 1 := z_b01h (z_sbit h11 h14.1 (by omega) ⟨by omega, by omega⟩)
    have hP : (z_pYe (kd + 4) B q pr en sh ch m p3.toInt.toNat S A p4.toInt.toNat) k ↔ x13.toInt = 1 := by
      constructor
      · rintro ⟨y, u, g1, g2⟩
        obtain ⟨rfl, rfl⟩ := z_oJU g1 hoJ q10.1
        exact hbit.mpr g2
      · exact fun g => ⟨_, _, hoJ, hbit.mp g⟩
    have h15 := z_b32 b6
    refine z_xI zt259 35 rfl rfl (fun (x16 : Int32) (h16 : x16.toInt = b6.toInt + x13.toInt) => ?_) (z_pAdd rfl rfl (by omega) (by omega))
    refine z_xP zt259 36 94 [some (.ref 19), some (.int p1), some (.int p2), some (.int p3), some (.int p4), some (.int b5), some (.int x16), some (.int b7)] [.int 0, .ref 19] rfl rfl ?_
    refine z_xcV (vs := [.ref 19, .int 0]) (r := []) (L2 := [some (.ref 19), some (.int 0), none, none, none]) zt259 37 rfl zo259 zzcV12_326 (Or.inl rfl) rfl X4 f19 rfl rfl rfl (Nat.le_of_ble_eq_true rfl) zzm255 (Nat.le_of_ble_eq_true rfl) rfl ?_
    have q0 : ((0 : Int32)).toInt = 0 := rfl
    have q0 : ((0 : Int32)).toInt = 0 := rfl
    refine zYD255 (by decide) hT2 (by omega) ⟨hm.2, m12⟩ hkL (fun x36 M23 X24 hgo => ?_)
    have hx36 : 0 ≤ x36.toInt ∧ x36.toInt ≤ 1 := by rcases hgo with ⟨g, _⟩ | ⟨g, _⟩ <;> omega
    have hms : 2 * ((z_T m p3.toInt.toNat : Int) - ((k + 1 : Nat) : Int)) + x36.toInt < (nn : Int) := by rcases hgo with ⟨g1, g2⟩ | ⟨g1, g2, _⟩ <;> omega
    have X39 := X4.go X24 (z_sb (by decide))
    show z_ev (d + 5) 259 97 [some (.ref 19), some (.int p1), some (.int p2), some (.int p3), some (.int p4), some (.int b5), some (.int x16), some (.int b7)] [.int x36] M23 _
    refine z_xP zt259 38 68 [some (.ref 19), some (.int p1), some (.int p2), some (.int p3), some (.int p4), some (.int b5), some (.int x16), some (.int x36)] [] rfl rfl ?_
    refine ih M23 b5 x16 x36 (k + 1) X39 hx36 hgo ?_ hms
    by_cases g : x13.toInt = 1
    · exact ⟨cc + 1, _, z_krS hK (hP.mpr g), by omega⟩
    · exact ⟨cc, yy, z_krN hK (fun e => g (hP.mp e)), by omega⟩
theorem zYC259 {T : List zK} {d : Nat} {K : Option Value → zH → Prop} {p1 : Int32} {p2 : Int32} {p3 : Int32} {p4 : Int32} {M0 : zH} (hW : z_W M0 T) (hR : z_G4 M0) {q t m pr en : Nat} {B : Nat → Nat} {S : Nat → Int32} {A : Int32} (hTB : y_vW M0 p1 p2 → y_tnb M0 p2.toNatClampNeg q t m pr en B S A) (kk : ∀ (x : Int32) (M1 : zH), z_X T zw259 M0 M1 → z_aA (y_vW M0 p1 p2) ((1 ≤ p3.toInt ∧ p3.toInt ≤ 5) ∧ 0 ≤ p4.toInt ∧ p4.toInt < (q : Int)) m (∃ kd sh ch : Nat, y_wy M0 p1 kd sh ch ∧ z_kA (z_pYe (kd + 4) B q pr en sh ch m p3.toInt.toNat S A p4.toInt.toNat) (fun _ => 0) (z_T m p3.toInt.toNat) 0 x.toInt) x.toInt → K (some (.int x)) M1) : z_ev (d + 5) 259 0 [some (.ref 19), some (.int p1), some (.int p2), some (.int p3), some (.int p4), none, none, none] [] M0 K := by
  have X : z_X T zw259 M0 M0 := .refl hW
  refine z_xP zt259 0 2 [some (.ref 19), some (.int p1), some (.int p2), some (.int p3), some (.int p4), none, none, none] [.int p1, .ref 19] rfl rfl ?_
  have f19 : T[19]? = some (.inl (12, 0, 0, 0, 0)) := X.1.k rfl (by decide)
  refine z_xcV (vs := [.ref 19, .int p1]) (r := []) (L2 := [some (.ref 19), some (.int p1)]) zt259 1 rfl zo259 zzcV12_272 (Or.inl rfl) rfl X f19 rfl rfl rfl (Nat.le_of_ble_eq_true rfl) zzm237 (Nat.le_of_ble_eq_true rfl) rfl ?_
  refine z_xP zt237 0 1 [some (.ref 19), some (.int p1)] [.int p1] rfl rfl ?_
  refine z_xZ zt237 1 rfl rfl (fun (h1 : p1.toInt < 0) => ?_) (fun (h1 : 0 ≤ p1.toInt) => ?_)
  · skip
    refine z_xP zt237 6 17 [some (.ref 19), some (.int p1)] [.int 0] rfl rfl ?_
    refine z_xrz zt237 7 rfl zzr237 (by decide) (by decide) ?_
    show z_ev (d + 5) 259 5 [some (.ref 19), some (.int p1), some (.int p2), some (.int p3), some (.int p4), none, none, none] [.int 0] M0 _
    refine z_xZ zt259 2 rfl rfl (fun (h2 : (0 : Int) = 0) => ?_) (fun (h2 : (0 : Int) ≠ 0) => absurd h2 (by omega))
    refine z_xP zt259 14 39 [some (.ref 19), some (.int p1), some (.int p2), some (.int p3), some (.int p4), none, none, none] [.int (-1)] rfl rfl ?_
    have qm1 : (((-1) : Int32)).toInt = (-1) := rfl
    exact z_xri zt259 15 rfl zzr259 (kk (-1) M0 X (Or.inl ⟨rfl, by unfold y_vW; omega⟩))
  refine z_xP zt237 2 6 [some (.ref 19), some (.int p1)] [.ref 19, .int p1] rfl rfl ?_
  refine z_xgI zt237 3 rfl zo237 zzf12_269 X f19 (by decide) (by decide) rfl (fun (x4 : Int32) h3 (h5 : 0 ≤ x4.toInt) (h6 : x4.toInt ≤ 20) => ?_)
  have ex4 : (z_Fv M0 19 21).toInt = x4.toInt := by rw [z_Fv.of h3]
  have h7 := z_b32 p1
  refine z_xJ zt237 4 rfl rfl (fun (h8 : x4.toInt ≤ p1.toInt) => ?_) (fun (h8 : p1.toInt < x4.toInt) => ?_)
  · skip
    refine z_xP zt237 6 17 [some (.ref 19), some (.int p1)] [.int 0] rfl rfl ?_
    refine z_xrz zt237 7 rfl zzr237 (by decide) (by decide) ?_
    show z_ev (d + 5) 259 5 [some (.ref 19), some (.int p1), some (.int p2), some (.int p3), some (.int p4), none, none, none] [.int 0] M0 _
    refine z_xZ zt259 2 rfl rfl (fun (h9 : (0 : Int) = 0) => ?_) (fun (h9 : (0 : Int) ≠ 0) => absurd h9 (by omega))
    refine z_xP zt259 14 39 [some (.ref 19), some (.int p1), some (.int p2), some (.int p3), some (.int p4), none, none, none] [.int (-1)] rfl rfl ?_
    have qm1 : (((-1) : Int32)).toInt = (-1) := rfl
    exact z_xri zt259 15 rfl zzr259 (kk (-1) M0 X (Or.inl ⟨rfl, by unfold y_vW; omega⟩))
  refine z_xP zt237 5 17 [some (.ref 19), some (.int p1)] [.int 1] rfl rfl ?_
  refine z_xrz zt237 7 rfl zzr237 (by decide) (by decide) ?_
  show z_ev (d + 5) 259 5 [some (.ref 19), some (.int p1), some (.int p2), some (.int p3), some (.int p4), none, none, none] [.int 1] M0 _
  refine z_xZ zt259 2 rfl rfl (fun (h10 : (1 : Int) = 0) => absurd h10 (by omega)) (fun (h10 : (1 : Int) ≠ 0) => ?_)
  refine z_xP zt259 3 10 [some (.ref 19), some (.int p1), some (.int p2), some (.int p3), some (.int p4), none, none, none] [.int p2, .ref 19] rfl rfl ?_
  refine z_xcV (vs := [.ref 19, .int p2]) (r := []) (L2 := [some (.ref 19), some (.int p2)]) zt259 4 rfl zo259 zzcV12_209 (Or.inl rfl) rfl X f19 rfl rfl rfl (Nat.le_of_ble_eq_true rfl) zzm209 (Nat.le_of_ble_eq_true rfl) rfl ?_
  refine z_xP zt209 0 1 [some (.ref 19), some (.int p2)] [.int p2] rfl rfl ?_
  refine z_xZ zt209 1 rfl rfl (fun (h11 : p2.toInt < 0) => ?_) (fun (h11 : 0 ≤ p2.toInt) => ?_)
  · skip
    refine z_xP zt209 6 17 [some (.ref 19), some (.int p2)] [.int 0] rfl rfl ?_
    refine z_xrz zt209 7 rfl zzr209 (by decide) (by decide) ?_
    show z_ev (d + 5) 259 13 [some (.ref 19), some (.int p1), some (.int p2), some (.int p3), some (.int p4), none, none, none] [.int 0] M0 _
    refine z_xZ zt259 5 rfl rfl (fun (h12 : (0 : Int) = 0) => ?_) (fun (h12 : (0 : Int) ≠ 0) => absurd h12 (by omega))
    refine z_xP zt259 14 39 [some (.ref 19), some (.int p1), some (.int p2), some (.int p3), some (.int p4), none, none, none] [.int (-1)] rfl rfl ?_
    have qm1 : (((-1) : Int32)).toInt = (-1) := rfl
    exact z_xri zt259 15 rfl zzr259 (kk (-1) M0 X (Or.inl ⟨rfl, by unfold y_vW; omega⟩))
  refine z_xP zt209 2 6 [some (.ref 19), some (.int p2)] [.ref 19, .int p2] rfl rfl ?_
  refine z_xgI zt209 3 rfl zo209 zzf12_110 X f19 (by decide) (by decide) rfl (fun (x14 : Int32) h13 (h15 : 0 ≤ x14.toInt) (h16 : x14.toInt ≤ 8) => ?_)
  have ex14 : (z_Fv M0 19 13).toInt = x14.toInt := by rw [z_Fv.of h13]
  have h17 := z_b32 p2
  refine z_xJ zt209 4 rfl rfl (fun (h18 : x14.toInt ≤ p2.toInt) => ?_) (fun (h18 : p2.toInt < x14.toInt) => ?_)
  · skip
    refine z_xP zt209 6 17 [some (.ref 19), some (.int p2)] [.int 0] rfl rfl ?_
    refine z_xrz zt209 7 rfl zzr209 (by decide) (by decide) ?_
    show z_ev (d + 5) 259 13 [some (.ref 19), some (.int p1), some (.int p2), some (.int p3), some (.int p4), none, none, none] [.int 0] M0 _
    refine z_xZ zt259 5 rfl rfl (fun (h19 : (0 : Int) = 0) => ?_) (fun (h19 : (0 : Int) ≠ 0) => absurd h19 (by omega))
    refine z_xP zt259 14 39 [some (.ref 19), some (.int p1), some (.int p2), some (.int p3), some (.int p4), none, none, none] [.int (-1)] rfl rfl ?_
    have qm1 : (((-1) : Int32)).toInt = (-1) := rfl
    exact z_xri zt259 15 rfl zzr259 (kk (-1) M0 X (Or.inl ⟨rfl, by unfold y_vW; omega⟩))
  refine z_xP zt209 5 17 [some (.ref 19), some (.int p2)] [.int 1] rfl rfl ?_
  refine z_xrz zt209 7 rfl zzr209 (by decide) (by decide) ?_
  show z_ev (d + 5) 259 13 [some (.ref 19), some (.int p1), some (.int p2), some (.int p3), some (.int p4), none, none, none] [.int 1] M0 _
  refine z_xZ zt259 5 rfl rfl (fun (h20 : (1 : Int) = 0) => absurd h20 (by omega)) (fun (h20 : (1 : Int) ≠ 0) => ?_)
  refine z_xP zt259 6 19 [some (.ref 19), some (.int p1), some (.int p2), some (.int p3), some (.int p4), none, none, none] [.int p2, .ref 19, .ref 19] rfl rfl ?_
  refine z_xcV (vs := [.ref 19, .int p2]) (r := [.ref 19]) (L2 := [some (.ref 19), some (.int p2)]) zt259 7 rfl zo259 zzcV12_209 (Or.inl rfl) rfl X f19 rfl rfl rfl (Nat.le_of_ble_eq_true rfl) zzm209 (Nat.le_of_ble_eq_true rfl) rfl ?_
  refine z_xP zt209 0 1 [some (.ref 19), some (.int p2)] [.int p2] rfl rfl ?_
  refine z_xZ zt209 1 rfl rfl (fun (h21 : p2.toInt < 0) => absurd h21 (by omega)) (fun (h21 : 0 ≤ p2.toInt) => ?_)
  refine z_xP zt209 2 6 [some (.ref 19), some (.int p2)] [.ref 19, .int p2] rfl rfl ?_
  refine z_xgv zt209 3 rfl zo209 zzf12_110 X f19 (by decide) h13 ?_
  refine z_xJ zt209 4 rfl rfl (fun (h22 : x14.toInt ≤ p2.toInt) => by exfalso; omega) (fun (h22 : p2.toInt < x14.toInt) => ?_)
  refine z_xP zt209 5 17 [some (.ref 19), some (.int p2)] [.int 1] rfl rfl ?_
  refine z_xrz zt209 7 rfl zzr209 (by decide) (by decide) ?_
  show z_ev (d + 5) 259 22 [some (.ref 19), some (.int p1), some (.int p2), some (.int p3), some (.int p4), none, none, none] [.int 1, .ref 19] M0 _
  refine z_xZ zt259 8 rfl rfl (fun (h71 : (1 : Int) = 0) => absurd h71 (by omega)) (fun (h71 : (1 : Int) ≠ 0) => ?_)
  refine z_xP zt259 9 30 [some (.ref 19), some (.int p1), some (.int p2), some (.int p3), some (.int p4), none, none, none] [.int p2, .ref 19] rfl rfl ?_
  refine z_xP zt259 11 32 [some (.ref 19), some (.int p1), some (.int p2), some (.int p3), some (.int p4), none, none, none] [.int p4, .int p2, .ref 19] rfl rfl ?_
  refine z_xcV (vs := [.ref 19, .int p2, .int p4]) (r := []) (L2 := [some (.ref 19), some (.int p2), some (.int p4)]) zt259 12 rfl zo259 zzcV12_225 (Or.inl rfl) rfl X f19 rfl rfl rfl (Nat.le_of_ble_eq_true rfl) zzm218 (Nat.le_of_ble_eq_true rfl) rfl ?_
  refine z_xP zt218 0 1 [some (.ref 19), some (.int p2), some (.int p4)] [.int p4] rfl rfl ?_
  refine z_xZ zt218 1 rfl rfl (fun (h72 : p4.toInt < 0) => ?_) (fun (h72 : 0 ≤ p4.toInt) => ?_)
  · skip
    refine z_xP zt218 8 19 [some (.ref 19), some (.int p2), some (.int p4)] [.int 0] rfl rfl ?_
    refine z_xrz zt218 9 rfl zzr218 (by decide) (by decide) ?_
    show z_ev (d + 5) 259 35 [some (.ref 19), some (.int p1), some (.int p2), some (.int p3), some (.int p4), none, none, none] [.int 0] M0 _
    refine z_xZ zt259 13 rfl rfl (fun (h73 : (0 : Int) ≠ 0) => absurd h73 (by omega)) (fun (h73 : (0 : Int) = 0) => ?_)
    refine z_xP zt259 14 39 [some (.ref 19), some (.int p1), some (.int p2), some (.int p3), some (.int p4), none, none, none] [.int (-1)] rfl rfl ?_
    have qm1 : (((-1) : Int32)).toInt = (-1) := rfl
    exact z_xri zt259 15 rfl zzr259 (kk (-1) M0 X (Or.inl ⟨rfl, by unfold y_vW; omega⟩))
  refine z_xP zt218 2 6 [some (.ref 19), some (.int p2), some (.int p4)] [.ref 19, .int p4] rfl rfl ?_
  refine z_xgX (b := 24) zt218 3 rfl zo218 zzf12_22 X f19 (by decide) (by decide) rfl ?_
  refine z_xP zt218 4 10 [some (.ref 19), some (.int p2), some (.int p4)] [.int p2, .ref 24, .int p4] rfl rfl ?_
  have f24 : T[24]? = some (.inr (24, 0, 8, 0, 10)) := X.1.k rfl (by decide)
  have hv : y_vW M0 p1 p2 := by unfold y_vW; omega
  have hY := hTB hv
  refine z_xil zt218 5 rfl X f24 (by decide) (by omega) (by omega) (fun (x74 : Int32) h75 (h76 : 0 ≤ x74.toInt) (h77 : x74.toInt ≤ 10) => ?_)
  have ex74 : x74.toInt = (q : Int) := by
    rw [← h75]
    exact hY.2.1.1
  have h78 := z_b32 p4
  refine z_xJ zt218 6 rfl rfl (fun (h79 : x74.toInt ≤ p4.toInt) => ?_) (fun (h79 : p4.toInt < x74.toInt) => ?_)
  · skip
    refine z_xP zt218 8 19 [some (.ref 19), some (.int p2), some (.int p4)] [.int 0] rfl rfl ?_
    refine z_xrz zt218 9 rfl zzr218 (by decide) (by decide) ?_
    show z_ev (d + 5) 259 35 [some (.ref 19), some (.int p1), some (.int p2), some (.int p3), some (.int p4), none, none, none] [.int 0] M0 _
    refine z_xZ zt259 13 rfl rfl (fun (h80 : (0 : Int) ≠ 0) => absurd h80 (by omega)) (fun (h80 : (0 : Int) = 0) => ?_)
    refine z_xP zt259 14 39 [some (.ref 19), some (.int p1), some (.int p2), some (.int p3), some (.int p4), none, none, none] [.int (-1)] rfl rfl ?_
    have qm1 : (((-1) : Int32)).toInt = (-1) := rfl
    exact z_xri zt259 15 rfl zzr259 (kk (-1) M0 X (Or.inl ⟨rfl, by unfold y_vW; omega⟩))
  refine z_xP zt218 7 19 [some (.ref 19), some (.int p2), some (.int p4)] [.int 1] rfl rfl ?_
  refine z_xrz zt218 9 rfl zzr218 (by decide) (by decide) ?_
  show z_ev (d + 5) 259 35 [some (.ref 19), some (.int p1), some (.int p2), some (.int p3), some (.int p4), none, none, none] [.int 1] M0 _
  refine z_xZ zt259 13 rfl rfl (fun (h81 : (1 : Int) ≠ 0) => ?_) (fun (h81 : (1 : Int) = 0) => absurd h81 (by omega))
  refine z_xP zt259 16 43 [some (.ref 19), some (.int p1), some (.int p2), some (.int p3), some (.int p4), none, none, none] [.int p3, .int p2, .ref 19] rfl rfl ?_
  refine z_xcV (vs := [.ref 19, .int p2, .int p3]) (r := []) (L2 := [some (.ref 19), some (.int p2), some (.int p3)]) zt259 17 rfl zo259 zzcV12_320 (Or.inl rfl) rfl X f19 rfl rfl rfl (Nat.le_of_ble_eq_true rfl) zzm251 (Nat.le_of_ble_eq_true rfl) rfl ?_
  refine z_xP zt251 0 2 [some (.ref 19), some (.int p2), some (.int p3)] [.int p2, .ref 19] rfl rfl ?_
  refine z_xcV (vs := [.ref 19, .int p2]) (r := []) (L2 := [some (.ref 19), some (.int p2)]) zt251 1 rfl zo251 zzcV12_209 (Or.inl rfl) rfl X f19 rfl rfl rfl (Nat.le_of_ble_eq_true rfl) zzm209 (Nat.le_of_ble_eq_true rfl) rfl ?_
  refine z_xP zt209 0 1 [some (.ref 19), some (.int p2)] [.int p2] rfl rfl ?_
  refine z_xZ zt209 1 rfl rfl (fun (h82 : p2.toInt < 0) => absurd h82 (by omega)) (fun (h82 : 0 ≤ p2.toInt) => ?_)
  refine z_xP zt209 2 6 [some (.ref 19), some (.int p2)] [.ref 19, .int p2] rfl rfl ?_
  refine z_xgv zt209 3 rfl zo209 zzf12_110 X f19 (by decide) h13 ?_
  refine z_xJ zt209 4 rfl rfl (fun (h83 : x14.toInt ≤ p2.toInt) => by exfalso; omega) (fun (h83 : p2.toInt < x14.toInt) => ?_)
  refine z_xP zt209 5 17 [some (.ref 19), some (.int p2)] [.int 1] rfl rfl ?_
  refine z_xrz zt209 7 rfl zzr209 (by decide) (by decide) ?_
  show z_ev (d + 4) 251 5 [some (.ref 19), some (.int p2), some (.int p3)] [.int 1] M0 _
  refine z_xZ zt251 2 rfl rfl (fun (h86 : (1 : Int) = 0) => absurd h86 (by omega)) (fun (h86 : (1 : Int) ≠ 0) => ?_)
  refine z_xP zt251 3 9 [some (.ref 19), some (.int p2), some (.int p3)] [.int p3] rfl rfl ?_
  have h87 := z_b32 p3
  refine z_xL zt251 4 rfl rfl (fun (y88 : Int64) (h89 : y88.toInt = p3.toInt) => ?_) (z_qI2L rfl)
  refine z_xP zt251 5 11 [some (.ref 19), some (.int p2), some (.int p3)] [.long 1, .long y88] rfl rfl ?_
  refine z_xl2 zt251 6 rfl zo251 zkl12_318 ?_
  refine z_xcS (vs := [.long y88, .long 1, .long 5]) (r := []) (L2 := [some (.long y88), none, some (.long 1), none, some (.long 5), none]) zt251 7 rfl zo251 zzcS12_116 (Or.inl rfl) (Nat.le_of_ble_eq_true rfl) rfl rfl (Nat.le_of_ble_eq_true rfl) zzm189 (Nat.le_of_ble_eq_true rfl) rfl ?_
  refine z_xP zt189 0 2 [some (.long y88), none, some (.long 1), none, some (.long 5), none] [.long 1, .long y88] rfl rfl ?_
  refine z_xI zt189 1 rfl rfl (fun (x90 : Int32) (h91 : (x90.toInt < 0 ∧ y88.toInt < 1) ∨ (x90.toInt = 0 ∧ y88.toInt = 1) ∨ (0 < x90.toInt ∧ 1 < y88.toInt)) => ?_) (z_qCmp rfl rfl)
  refine z_xZ zt189 2 rfl rfl (fun (h92 : x90.toInt < 0) => ?_) (fun (h92 : 0 ≤ x90.toInt) => ?_)
  · skip
    refine z_xP zt189 7 18 [some (.long y88), none, some (.long 1), none, some (.long 5), none] [.int 0] rfl rfl ?_
    refine z_xrz zt189 8 rfl zzr189 (by decide) (by decide) ?_
    show z_ev (d + 4) 251 17 [some (.ref 19), some (.int p2), some (.int p3)] [.int 0] M0 _
    refine z_xZ zt251 8 rfl rfl (fun (h93 : (0 : Int) ≠ 0) => absurd h93 (by omega)) (fun (h93 : (0 : Int) = 0) => ?_)
    refine z_xP zt251 9 21 [some (.ref 19), some (.int p2), some (.int p3)] [.int (-1)] rfl rfl ?_
    refine z_xri zt251 10 rfl zzr251 ?_
    show z_ev (d + 5) 259 46 [some (.ref 19), some (.int p1), some (.int p2), some (.int p3), some (.int p4), none, none, none] [.int (-1)] M0 _
    refine z_xP zt259 18 50 [some (.ref 19), some (.int p1), some (.int p2), some (.int p3), some (.int p4), some (.int (-1)), none, none] [.int (-1)] rfl rfl ?_
    refine z_xZ zt259 19 rfl rfl (fun (h94 : 0 ≤ ((-1) : Int)) => absurd h94 (by omega)) (fun (h94 : ((-1) : Int) < 0) => ?_)
    refine z_xP zt259 20 55 [some (.ref 19), some (.int p1), some (.int p2), some (.int p3), some (.int p4), some (.int (-1)), none, none] [.int (-1)] rfl rfl ?_
    have qm1 : (((-1) : Int32)).toInt = (-1) := rfl
    exact z_xri zt259 21 rfl zzr259 (kk (-1) M0 X (Or.inl ⟨rfl, by unfold y_vW; omega⟩))
  refine z_xP zt189 3 9 [some (.long y88), none, some (.long 1), none, some (.long 5), none] [.long 5, .long y88] rfl rfl ?_
  refine z_xI zt189 4 rfl rfl (fun (x95 : Int32) (h96 : (x95.toInt < 0 ∧ y88.toInt < 5) ∨ (x95.toInt = 0 ∧ y88.toInt = 5) ∨ (0 < x95.toInt ∧ 5 < y88.toInt)) => ?_) (z_qCmp rfl rfl)
  refine z_xZ zt189 5 rfl rfl (fun (h97 : 0 < x95.toInt) => ?_) (fun (h97 : x95.toInt ≤ 0) => ?_)
  · skip
    refine z_xP zt189 7 18 [some (.long y88), none, some (.long 1), none, some (.long 5), none] [.int 0] rfl rfl ?_
    refine z_xrz zt189 8 rfl zzr189 (by decide) (by decide) ?_
    show z_ev (d + 4) 251 17 [some (.ref 19), some (.int p2), some (.int p3)] [.int 0] M0 _
    refine z_xZ zt251 8 rfl rfl (fun (h98 : (0 : Int) ≠ 0) => absurd h98 (by omega)) (fun (h98 : (0 : Int) = 0) => ?_)
    refine z_xP zt251 9 21 [some (.ref 19), some (.int p2), some (.int p3)] [.int (-1)] rfl rfl ?_
    refine z_xri zt251 10 rfl zzr251 ?_
    show z_ev (d + 5) 259 46 [some (.ref 19), some (.int p1), some (.int p2), some (.int p3), some (.int p4), none, none, none] [.int (-1)] M0 _
    refine z_xP zt259 18 50 [some (.ref 19), some (.int p1), some (.int p2), some (.int p3), some (.int p4), some (.int (-1)), none, none] [.int (-1)] rfl rfl ?_
    refine z_xZ zt259 19 rfl rfl (fun (h99 : 0 ≤ ((-1) : Int)) => absurd h99 (by omega)) (fun (h99 : ((-1) : Int) < 0) => ?_)
    refine z_xP zt259 20 55 [some (.ref 19), some (.int p1), some (.int p2), some (.int p3), some (.int p4), some (.int (-1)), none, none] [.int (-1)] rfl rfl ?_
    have qm1 : (((-1) : Int32)).toInt = (-1) := rfl
    exact z_xri zt259 21 rfl zzr259 (kk (-1) M0 X (Or.inl ⟨rfl, by unfold y_vW; omega⟩))
  refine z_xP zt189 6 18 [some (.long y88), none, some (.long 1), none, some (.long 5), none] [.int 1] rfl rfl ?_
  refine z_xrz zt189 8 rfl zzr189 (by decide) (by decide) ?_
  show z_ev (d + 4) 251 17 [some (.ref 19), some (.int p2), some (.int p3)] [.int 1] M0 _
  refine z_xZ zt251 8 rfl rfl (fun (h100 : (1 : Int) ≠ 0) => ?_) (fun (h100 : (1 : Int) = 0) => absurd h100 (by omega))
  refine z_xP zt251 11 23 [some (.ref 19), some (.int p2), some (.int p3)] [.ref 19] rfl rfl ?_
  refine z_xgX (b := 31) zt251 12 rfl zo251 zzf12_43 X f19 (by decide) (by decide) rfl ?_
  refine z_xP zt251 13 27 [some (.ref 19), some (.int p2), some (.int p3)] [.int p2, .ref 31] rfl rfl ?_
  have f31 : T[31]? = some (.inr (31, 0, 8, 0, 1024)) := X.1.k rfl (by decide)
  refine z_xil zt251 14 rfl X f31 (by decide) (by omega) (by omega) (fun (x101 : Int32) h102 (h103 : 0 ≤ x101.toInt) (h104 : x101.toInt ≤ 1024) => ?_)
  have em : x101.toInt = (m : Int) := by
    rw [← h102]
    exact hY.2.1.2.2.2.2.1
  refine z_xP zt251 15 30 [some (.ref 19), some (.int p2), some (.int p3)] [.int 12, .int x101] rfl rfl ?_
  refine z_xJ zt251 16 rfl rfl (fun (h105 : x101.toInt ≤ 12) => ?_) (fun (h105 : 12 < x101.toInt) => ?_)
  · skip
    refine z_xP zt251 18 39 [some (.ref 19), some (.int p2), some (.int p3)] [.int 0] rfl rfl ?_
    refine z_xri zt251 19 rfl zzr251 ?_
    show z_ev (d + 5) 259 46 [some (.ref 19), some (.int p1), some (.int p2), some (.int p3), some (.int p4), none, none, none] [.int 0] M0 _
    refine z_xP zt259 18 50 [some (.ref 19), some (.int p1), some (.int p2), some (.int p3), some (.int p4), some (.int 0), none, none] [.int 0] rfl rfl ?_
    refine z_xZ zt259 19 rfl rfl (fun (h106 : 0 ≤ (0 : Int)) => ?_) (fun (h106 : (0 : Int) < 0) => absurd h106 (by omega))
    refine z_xP zt259 22 62 [some (.ref 19), some (.int p1), some (.int p2), some (.int p3), some (.int p4), some (.int 0), some (.int 0), none] [.int p3, .int p2, .ref 19] rfl rfl ?_
    refine z_xcV (vs := [.ref 19, .int p2, .int p3]) (r := []) (L2 := [some (.ref 19), some (.int p2), some (.int p3), none]) zt259 23 rfl zo259 zzcV12_323 (Or.inl rfl) rfl X f19 rfl rfl rfl (Nat.le_of_ble_eq_true rfl) zzm252 (Nat.le_of_ble_eq_true rfl) rfl ?_
    have h107 := z_G4u (hR.go X (by decide)) h13 (by omega) (by omega) h102
    refine zUC252 X.1 (by omega) (by omega) h102 ⟨by omega, by omega⟩ hY.2.1 hY.2.2.2.1 hY.2.2.2.2 hY.1 hY.2.2.1.2 (fun M108 X109 hT2 hS2 => ?_)
    have X113 := X.go X109 (z_sb (by decide))
    show z_ev (d + 5) 259 65 [some (.ref 19), some (.int p1), some (.int p2), some (.int p3), some (.int p4), some (.int 0), some (.int 0), none] [] M108 _
    refine z_xP zt259 24 68 [some (.ref 19), some (.int p1), some (.int p2), some (.int p3), some (.int p4), some (.int 0), some (.int 0), some (.int 1)] [] rfl rfl ?_
    have q0 : ((0 : Int32)).toInt = 0 := rfl
    have q1 : ((1 : Int32)).toInt = 1 := rfl
    obtain ⟨kd, sh, ch, hwp1⟩ := y_wyX hW (p := p1) (show p1.toInt.toNat < 20 by omega)
    have hT1 := z_Tp1 m (by omega) hY.2.2.1.2 p3.toInt.toNat (by omega)
    have hTb := z_Tb m (by omega) p3.toInt.toNat (by omega)
    exact (zYB259 hW hwp1 hY.2.2.1 (by omega) (by omega) (by omega) ⟨by omega, by omega⟩ (fun x M1 X h => kk x M1 X (Or.inr ⟨⟨hv, by omega⟩, Or.inr ⟨by omega, kd, sh, ch, hwp1, h⟩⟩)) 8740) M108 (0) (0) (1) 0 X113 (by decide) (Or.inr ⟨rfl, by omega, hT2, hS2⟩) ⟨0, -2, ⟨rfl, rfl⟩, rfl⟩ (by show 2 * ((z_T m p3.toInt.toNat : Int) - ((0 : Nat) : Int)) + 1 < _; omega)
  refine z_xP zt251 17 39 [some (.ref 19), some (.int p2), some (.int p3)] [.int (-4)] rfl rfl ?_
  refine z_xri zt251 19 rfl zzr251 ?_
  show z_ev (d + 5) 259 46 [some (.ref 19), some (.int p1), some (.int p2), some (.int p3), some (.int p4), none, none, none] [.int (-4)] M0 _
  refine z_xP zt259 18 50 [some (.ref 19), some (.int p1), some (.int p2), some (.int p3), some (.int p4), some (.int (-4)), none, none] [.int (-4)] rfl rfl ?_
  refine z_xZ zt259 19 rfl rfl (fun (h118 : 0 ≤ ((-4) : Int)) => absurd h118 (by omega)) (fun (h118 : ((-4) : Int) < 0) => ?_)
  refine z_xP zt259 20 55 [some (.ref 19), some (.int p1), some (.int p2), some (.int p3), some (.int p4), some (.int (-4)), none, none] [.int (-4)] rfl rfl ?_
  have qm4 : (((-4) : Int32)).toInt = (-4) := rfl
  exact z_xri zt259 21 rfl zzr259 (kk (-4) M0 X (Or.inr ⟨⟨hv, by omega⟩, Or.inl ⟨rfl, by omega⟩⟩))
