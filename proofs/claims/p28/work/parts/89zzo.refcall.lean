/-! laws, the calls of the reference -/
theorem y_tnb.ke {T : List zK} {M M1 : zH} {a q t m pr en : Nat} {B : Nat → Nat} {S : Nat → Int32} {A : Int32} {rs : List Nat} (h : y_tnb M a q t m pr en B S A) (hW : z_W M T) (ke : z_ke T rs M M1) (hr : (z_agr.all fun x => !rs.elem x) = true) : y_tnb M1 a q t m pr en B S A := by
  have n0 := z_nin hr
  refine ⟨h.1, h.2.1.ke hW ke hr, h.2.2.1, fun k hk => ?_, h.2.2.2.2⟩
  rw [ke.a (hW.k (k := 30) rfl (by decide)) (n0 _ rfl)]
  exact h.2.2.2.1 k hk
theorem zYB271 {T : List zK} {d : Nat} {K : Option Value → zH → Prop} {p1 p2 p3 V : Int32} {M0 : zH} {q t m pr en : Nat} {B : Nat → Nat} {S : Nat → Int32} {A : Int32} (hW : z_W M0 T) (hY : y_tnb M0 p1.toNatClampNeg q t m pr en B S A) (up1 : 0 ≤ p1.toInt ∧ p1.toInt ≤ 7) (n13 : 1 ≤ p2.toInt ∧ p2.toInt ≤ 3) (u3 : 1 ≤ p3.toInt ∧ p3.toInt ≤ 31) (m6 : m ≤ 6) (hV : z_F M0 19 21 = some (.int V)) (V20 : V.toInt ≤ 20) (kk : ∀ (x : Int32) (M1 : zH), z_X T zw271 M0 M1 → z_ft (fun i => z_kpW p3.toInt.toNat ((z_Ar M0 36 i).toInt.toNat + 4) B q pr en (z_Ar M0 37 i).toInt.toNat (z_Ar M0 38 i).toInt.toNat m p2.toInt.toNat S A) V.toInt.toNat x.toInt → K (some (.int x)) M1) : ∀ nn : Nat, (∀ (M : zH) (b4 : Int32) (o5 o6 : Option Value), z_X T zw271 M0 M → (0 ≤ b4.toInt ∧ b4.toInt ≤ V.toInt) → (∀ i, i < b4.toInt.toNat → ¬ z_kpW p3.toInt.toNat ((z_Ar M0 36 i).toInt.toNat + 4) B q pr en (z_Ar M0 37 i).toInt.toNat (z_Ar M0 38 i).toInt.toNat m p2.toInt.toNat S A) → (20 - b4.toInt) * 10 + 9 < (nn : Int) → z_ev (d + 7) 271 51 [some (.ref 19), some (.int p1), some (.int p2), some (.int p3), some (.int b4), o5, o6] [] M K) ∧ (∀ (M : zH) (b4 b5 b6 : Int32), z_X T zw271 M0 M → (0 ≤ b4.toInt ∧ b4.toInt < V.toInt) → (∀ i, i < b4.toInt.toNat → ¬ z_kpW p3.toInt.toNat ((z_Ar M0 36 i).toInt.toNat + 4) B q pr en (z_Ar M0 37 i).toInt.toNat (z_Ar M0 38 i).toInt.toNat m p2.toInt.toNat S A) → (0 ≤ b6.toInt ∧ b6.toInt ≤ 5) → ((b5.toInt = 1 ∧ ∀ law, law < b6.toInt.toNat → p3.toInt.toNat / 2 ^ law % 2 = 1 → z_bre law ((z_Ar M0 36 b4.toInt.toNat).toInt.toNat + 4) B q pr en (z_Ar M0 37 b4.toInt.toNat).toInt.toNat (z_Ar M0 38 b4.toInt.toNat).toInt.toNat m p2.toInt.toNat S A (-2)) ∨ (b5.toInt = 0 ∧ ¬ z_kpW p3.toInt.toNat ((z_Ar M0 36 b4.toInt.toNat).toInt.toNat + 4) B q pr en (z_Ar M0 37 b4.toInt.toNat).toInt.toNat (z_Ar M0 38 b4.toInt.toNat).toInt.toNat m p2.toInt.toNat S A)) → (20 - b4.toInt) * 10 + (6 - b6.toInt) < (nn : Int) → z_ev (d + 7) 271 66 [some (.ref 19), some (.int p1), some (.int p2), some (.int p3), some (.int b4), some (.int b5), some (.int b6)] [] M K) := by
  intro nn
  induction nn with
  | zero => exact ⟨(by intros; exfalso; omega), (by intros; exfalso; omega)⟩
  | succ nn ih =>
    have q0 : ((0 : Int32)).toInt = 0 := rfl
    have q1 : ((1 : Int32)).toInt = 1 := rfl
    refine ⟨?_, ?_⟩
    · skip
      intro M b4 o5 o6 X hb4 hI hE
      have f19 : T[19]? = some (.inl (12, 0, 0, 0, 0)) := X.1.k rfl (by decide)
      refine z_xP zt271 26 54 [some (.ref 19), some (.int p1), some (.int p2), some (.int p3), some (.int b4), o5, o6] [.ref 19, .int b4] rfl rfl ?_
      refine z_xgv zt271 27 rfl zo271 zzf12_269 X f19 (by decide) (X.2.f f19 (by decide) hV) ?_
      refine z_xJ zt271 28 rfl rfl (fun (h5 : V.toInt ≤ b4.toInt) => ?_) (fun (h5 : b4.toInt < V.toInt) => ?_)
      · skip
        refine z_xP zt271 54 130 [some (.ref 19), some (.int p1), some (.int p2), some (.int p3), some (.int b4), o5, o6] [.int (-2)] rfl rfl ?_
        exact z_xri zt271 55 rfl zzr271 (kk (-2) M X (Or.inl ⟨rfl, fun i hi => hI i (by omega)⟩))
      refine z_xP zt271 29 66 [some (.ref 19), some (.int p1), some (.int p2), some (.int p3), some (.int b4), some (.int 1), some (.int 0)] [] rfl rfl ?_
      exact ih.2 M b4 (1) (0) X ⟨by omega, by omega⟩ hI ⟨by omega, by omega⟩ (Or.inl ⟨rfl, fun law hl => absurd hl (Nat.not_lt_zero law)⟩) (by omega)
    · skip
      intro M b4 b5 b6 X hb4 hI hb6 h5 hE
      have f19 : T[19]? = some (.inl (12, 0, 0, 0, 0)) := X.1.k rfl (by decide)
      refine z_xP zt271 30 69 [some (.ref 19), some (.int p1), some (.int p2), some (.int p3), some (.int b4), some (.int b5), some (.int b6)] [.int 5, .int b6] rfl rfl ?_
      refine z_xJ zt271 31 rfl rfl (fun (h1 : 5 ≤ b6.toInt) => ?_) (fun (h1 : b6.toInt < 5) => ?_)
      · skip
        refine z_xP zt271 48 116 [some (.ref 19), some (.int p1), some (.int p2), some (.int p3), some (.int b4), some (.int b5), some (.int b6)] [.int b5] rfl rfl ?_
        refine z_xZ zt271 49 rfl rfl (fun (h2 : b5.toInt = 0) => ?_) (fun (h2 : b5.toInt ≠ 0) => ?_)
        · skip
          refine z_xN zt271 52 rfl rfl (fun (x3 : Int32) (h4 : x3.toInt = b4.toInt + 1) => ?_) (z_pAdd rfl rfl (by omega) (by omega))
          show z_ev (d + 7) 271 125 [some (.ref 19), some (.int p1), some (.int p2), some (.int p3), some (.int x3), some (.int b5), some (.int b6)] [] M _
          refine z_xP zt271 53 51 [some (.ref 19), some (.int p1), some (.int p2), some (.int p3), some (.int x3), some (.int b5), some (.int b6)] [] rfl rfl ?_
          refine ih.1 M x3 (some (.int b5)) (some (.int b6)) X ⟨by omega, by omega⟩ (fun i hi => ?_) (by omega)
          by_cases c : i = b4.toInt.toNat
          · rw [c]
            rcases h5 with ⟨g, _⟩ | ⟨_, g⟩
            · omega
            · exact g
          · exact hI i (by omega)
        refine z_xP zt271 50 121 [some (.ref 19), some (.int p1), some (.int p2), some (.int p3), some (.int b4), some (.int b5), some (.int b6)] [.int b4] rfl rfl ?_
        refine z_xri zt271 51 rfl zzr271 (kk b4 M X (Or.inr ⟨b4.toInt.toNat, by omega, by omega, ?_, hI⟩))
        rcases h5 with ⟨_, g⟩ | ⟨g, _⟩
        · exact fun law hl hb => g law (by omega) hb
        · exact absurd g h2
      refine z_xP zt271 32 74 [some (.ref 19), some (.int p1), some (.int p2), some (.int p3), some (.int b4), some (.int b5), some (.int b6)] [.int b5] rfl rfl ?_
      refine z_xZ zt271 33 rfl rfl (fun (h5b : b5.toInt = 0) => ?_) (fun (h5b : b5.toInt ≠ 0) => ?_)
      · skip
        refine z_xP zt271 48 116 [some (.ref 19), some (.int p1), some (.int p2), some (.int p3), some (.int b4), some (.int b5), some (.int b6)] [.int b5] rfl rfl ?_
        refine z_xZ zt271 49 rfl rfl (fun (h2 : b5.toInt = 0) => ?_) (fun (h2 : b5.toInt ≠ 0) => ?_)
        · skip
          refine z_xN zt271 52 rfl rfl (fun (x3 : Int32) (h4 : x3.toInt = b4.toInt + 1) => ?_) (z_pAdd rfl rfl (by omega) (by omega))
          show z_ev (d + 7) 271 125 [some (.ref 19), some (.int p1), some (.int p2), some (.int p3), some (.int x3), some (.int b5), some (.int b6)] [] M _
          refine z_xP zt271 53 51 [some (.ref 19), some (.int p1), some (.int p2), some (.int p3), some (.int x3), some (.int b5), some (.int b6)] [] rfl rfl ?_
          refine ih.1 M x3 (some (.int b5)) (some (.int b6)) X ⟨by omega, by omega⟩ (fun i hi => ?_) (by omega)
          by_cases c : i = b4.toInt.toNat
          · rw [c]
            rcases h5 with ⟨g, _⟩ | ⟨_, g⟩
            · omega
            · exact g
          · exact hI i (by omega)
        exact absurd h5b h2
      have h5c : ∀ law, law < b6.toInt.toNat → p3.toInt.toNat / 2 ^ law % 2 = 1 → z_bre law ((z_Ar M0 36 b4.toInt.toNat).toInt.toNat + 4) B q pr en (z_Ar M0 37 b4.toInt.toNat).toInt.toNat (z_Ar M0 38 b4.toInt.toNat).toInt.toNat m p2.toInt.toNat S A (-2) := by
        rcases h5 with ⟨_, g⟩ | ⟨g, _⟩
        · exact g
        · exact absurd g h5b
      refine z_xP zt271 34 80 [some (.ref 19), some (.int p1), some (.int p2), some (.int p3), some (.int b4), some (.int b5), some (.int b6)] [.int b6, .int p3] rfl rfl ?_
      refine z_xI zt271 35 rfl rfl (fun (x9 : Int32) (h9 : x9 = p3 >>> (b6 &&& 31)) => ?_) rfl
      refine z_xP zt271 36 82 [some (.ref 19), some (.int p1), some (.int p2), some (.int p3), some (.int b4), some (.int b5), some (.int b6)] [.int 1, .int x9] rfl rfl ?_
      refine z_xI zt271 37 rfl rfl (fun (x11 : Int32) (h11 : x11 = x9 &&& 1) => ?_) rfl
      have hbit := z_sbit h9 h11 (by omega) ⟨by omega, by omega⟩
      have hc := z_m2c (p3.toInt.toNat / 2 ^ b6.toInt.toNat)
      refine z_xZ zt271 38 rfl rfl (fun (h13 : x11.toInt = 0) => ?_) (fun (h13 : x11.toInt ≠ 0) => ?_)
      · skip
        refine z_xP zt271 43 106 [some (.ref 19), some (.int p1), some (.int p2), some (.int p3), some (.int b4), some (.int b5), some (.int b6)] [.int 1] rfl rfl ?_
        refine z_xP zt271 45 108 [some (.ref 19), some (.int p1), some (.int p2), some (.int p3), some (.int b4), some (.int 1), some (.int b6)] [] rfl rfl ?_
        refine z_xN zt271 46 rfl rfl (fun (x14 : Int32) (h15 : x14.toInt = b6.toInt + 1) => ?_) (z_pAdd rfl rfl (by omega) (by omega))
        show z_ev (d + 7) 271 111 [some (.ref 19), some (.int p1), some (.int p2), some (.int p3), some (.int b4), some (.int 1), some (.int x14)] [] M _
        refine z_xP zt271 47 66 [some (.ref 19), some (.int p1), some (.int p2), some (.int p3), some (.int b4), some (.int 1), some (.int x14)] [] rfl rfl ?_
        refine ih.2 M b4 (1) x14 X hb4 hI ⟨by omega, by omega⟩ (Or.inl ⟨rfl, fun law hl hb => ?_⟩) (by omega)
        by_cases c : law = b6.toInt.toNat
        · rw [c] at hb
          exfalso
          omega
        · exact h5c law (by omega) hb
      have hb1 : p3.toInt.toNat / 2 ^ b6.toInt.toNat % 2 = 1 := by omega
      obtain ⟨kd, sh, ch, hw0⟩ := y_wyX hW (p := b4) (show b4.toInt.toNat < 20 by omega)
      have ekd : (z_Ar M0 36 b4.toInt.toNat).toInt.toNat = kd := by
        have h : (z_Ar M0 36 b4.toInt.toNat).toInt = (kd : Int) := hw0.1
        omega
      have esh : (z_Ar M0 37 b4.toInt.toNat).toInt.toNat = sh := by
        have h : (z_Ar M0 37 b4.toInt.toNat).toInt = (sh : Int) := hw0.2.1
        omega
      have ech : (z_Ar M0 38 b4.toInt.toNat).toInt.toNat = ch := by
        have h : (z_Ar M0 38 b4.toInt.toNat).toInt = (ch : Int) := hw0.2.2
        omega
      refine z_xP zt271 39 93 [some (.ref 19), some (.int p1), some (.int p2), some (.int p3), some (.int b4), some (.int b5), some (.int b6)] [.int b6, .int p2, .int p1, .int b4, .ref 19] rfl rfl ?_
      refine z_xcV (vs := [.ref 19, .int b4, .int p1, .int p2, .int b6]) (r := []) (L2 := [some (.ref 19), some (.int b4), some (.int p1), some (.int p2), some (.int b6), none, none, none]) zt271 40 rfl zo271 zzcV12_360 (Or.inl rfl) rfl X f19 rfl rfl rfl (Nat.le_of_ble_eq_true rfl) zzm265 (Nat.le_of_ble_eq_true rfl) rfl ?_
      refine zYC265 X.1 (hw0.ke hW X.2 (by decide)) (hY.ke hW X.2 (by decide)) m6 ⟨by omega, by omega⟩ up1 n13 ⟨by omega, by omega⟩ (fun x19 M17 X18 hb => ?_)
      have hbr : z_bre b6.toInt.toNat ((z_Ar M0 36 b4.toInt.toNat).toInt.toNat + 4) B q pr en (z_Ar M0 37 b4.toInt.toNat).toInt.toNat (z_Ar M0 38 b4.toInt.toNat).toInt.toNat m p2.toInt.toNat S A x19.toInt := by
        rw [ekd, esh, ech]
        exact hb
      have X22 := X.go X18 (z_sb (by decide))
      show z_ev (d + 7) 271 96 [some (.ref 19), some (.int p1), some (.int p2), some (.int p3), some (.int b4), some (.int b5), some (.int b6)] [.int x19] M17 _
      refine z_xP zt271 41 98 [some (.ref 19), some (.int p1), some (.int p2), some (.int p3), some (.int b4), some (.int b5), some (.int b6)] [.int (-2), .int x19] rfl rfl ?_
      refine z_xJ zt271 42 rfl rfl (fun (h24 : x19.toInt ≠ (-2)) => ?_) (fun (h24 : x19.toInt = (-2)) => ?_)
      · skip
        refine z_xP zt271 44 106 [some (.ref 19), some (.int p1), some (.int p2), some (.int p3), some (.int b4), some (.int b5), some (.int b6)] [.int 0] rfl rfl ?_
        refine z_xP zt271 45 108 [some (.ref 19), some (.int p1), some (.int p2), some (.int p3), some (.int b4), some (.int 0), some (.int b6)] [] rfl rfl ?_
        refine z_xN zt271 46 rfl rfl (fun (x25 : Int32) (h26 : x25.toInt = b6.toInt + 1) => ?_) (z_pAdd rfl rfl (by omega) (by omega))
        show z_ev (d + 7) 271 111 [some (.ref 19), some (.int p1), some (.int p2), some (.int p3), some (.int b4), some (.int 0), some (.int x25)] [] M17 _
        refine z_xP zt271 47 66 [some (.ref 19), some (.int p1), some (.int p2), some (.int p3), some (.int b4), some (.int 0), some (.int x25)] [] rfl rfl ?_
        exact ih.2 M17 b4 (0) x25 X22 hb4 hI ⟨by omega, by omega⟩ (Or.inr ⟨rfl, fun g => h24 (z_breU hY.1.1 m6 (show p2.toInt.toNat ≤ 3 by omega) hbr (g _ (by omega) hb1))⟩) (by omega)
      refine z_xP zt271 43 106 [some (.ref 19), some (.int p1), some (.int p2), some (.int p3), some (.int b4), some (.int b5), some (.int b6)] [.int 1] rfl rfl ?_
      refine z_xP zt271 45 108 [some (.ref 19), some (.int p1), some (.int p2), some (.int p3), some (.int b4), some (.int 1), some (.int b6)] [] rfl rfl ?_
      refine z_xN zt271 46 rfl rfl (fun (x29 : Int32) (h30 : x29.toInt = b6.toInt + 1) => ?_) (z_pAdd rfl rfl (by omega) (by omega))
      show z_ev (d + 7) 271 111 [some (.ref 19), some (.int p1), some (.int p2), some (.int p3), some (.int b4), some (.int 1), some (.int x29)] [] M17 _
      refine z_xP zt271 47 66 [some (.ref 19), some (.int p1), some (.int p2), some (.int p3), some (.int b4), some (.int 1), some (.int x29)] [] rfl rfl ?_
      refine ih.2 M17 b4 (1) x29 X22 hb4 hI ⟨by omega, by omega⟩ (Or.inl ⟨rfl, fun law hl hb2 => ?_⟩) (by omega)
      by_cases c : law = b6.toInt.toNat
      · rw [c, ← h24]
        exact hbr
      · exact h5c law (by omega) hb2
def y_vK (M : zH) (p1 : Int32) : Prop := 0 ≤ p1.toInt ∧ p1.toInt < (z_Fv M 19 13).toInt
theorem zYC271 {T : List zK} {d : Nat} {K : Option Value → zH → Prop} {p1 p2 p3 V : Int32} {M0 : zH} (hW : z_W M0 T) (hR : z_G4 M0) {q t m pr en : Nat} {B : Nat → Nat} {S : Nat → Int32} {A : Int32} (hTB : y_vK M0 p1 → y_tnb M0 p1.toNatClampNeg q t m pr en B S A) (hV : z_F M0 19 21 = some (.int V)) (V20 : V.toInt ≤ 20) (V0 : 0 ≤ V.toInt) (kk : ∀ (x : Int32) (M1 : zH), z_X T zw271 M0 M1 → z_aB (y_vK M0 p1) ((1 ≤ p2.toInt ∧ p2.toInt ≤ 3) ∧ 1 ≤ p3.toInt ∧ p3.toInt ≤ 31) m (z_ft (fun i => z_kpW p3.toInt.toNat ((z_Ar M0 36 i).toInt.toNat + 4) B q pr en (z_Ar M0 37 i).toInt.toNat (z_Ar M0 38 i).toInt.toNat m p2.toInt.toNat S A) V.toInt.toNat x.toInt) x.toInt → K (some (.int x)) M1) : z_ev (d + 7) 271 0 [some (.ref 19), some (.int p1), some (.int p2), some (.int p3), none, none, none] [] M0 K := by
  have X : z_X T zw271 M0 M0 := .refl hW
  refine z_xP zt271 0 2 [some (.ref 19), some (.int p1), some (.int p2), some (.int p3), none, none, none] [.int p1, .ref 19] rfl rfl ?_
  have f19 : T[19]? = some (.inl (12, 0, 0, 0, 0)) := X.1.k rfl (by decide)
  refine z_xcV (vs := [.ref 19, .int p1]) (r := []) (L2 := [some (.ref 19), some (.int p1)]) zt271 1 rfl zo271 zzcV12_209 (Or.inl rfl) rfl X f19 rfl rfl rfl (Nat.le_of_ble_eq_true rfl) zzm209 (Nat.le_of_ble_eq_true rfl) rfl ?_
  refine z_xP zt209 0 1 [some (.ref 19), some (.int p1)] [.int p1] rfl rfl ?_
  refine z_xZ zt209 1 rfl rfl (fun (h1 : p1.toInt < 0) => ?_) (fun (h1 : 0 ≤ p1.toInt) => ?_)
  · skip
    refine z_xP zt209 6 17 [some (.ref 19), some (.int p1)] [.int 0] rfl rfl ?_
    refine z_xrz zt209 7 rfl zzr209 (by decide) (by decide) ?_
    show z_ev (d + 7) 271 5 [some (.ref 19), some (.int p1), some (.int p2), some (.int p3), none, none, none] [.int 0] M0 _
    refine z_xZ zt271 2 rfl rfl (fun (h2 : (0 : Int) = 0) => ?_) (fun (h2 : (0 : Int) ≠ 0) => absurd h2 (by omega))
    refine z_xP zt271 15 33 [some (.ref 19), some (.int p1), some (.int p2), some (.int p3), none, none, none] [.int (-1)] rfl rfl ?_
    have qm1 : (((-1) : Int32)).toInt = (-1) := rfl
    exact z_xri zt271 16 rfl zzr271 (kk (-1) M0 X (Or.inl ⟨rfl, by unfold y_vK; omega⟩))
  refine z_xP zt209 2 6 [some (.ref 19), some (.int p1)] [.ref 19, .int p1] rfl rfl ?_
  refine z_xgI zt209 3 rfl zo209 zzf12_110 X f19 (by decide) (by decide) rfl (fun (x4 : Int32) h3 (h5 : 0 ≤ x4.toInt) (h6 : x4.toInt ≤ 8) => ?_)
  have ex4 : (z_Fv M0 19 13).toInt = x4.toInt := by rw [z_Fv.of h3]
  have h7 := z_b32 p1
  refine z_xJ zt209 4 rfl rfl (fun (h8 : x4.toInt ≤ p1.toInt) => ?_) (fun (h8 : p1.toInt < x4.toInt) => ?_)
  · skip
    refine z_xP zt209 6 17 [some (.ref 19), some (.int p1)] [.int 0] rfl rfl ?_
    refine z_xrz zt209 7 rfl zzr209 (by decide) (by decide) ?_
    show z_ev (d + 7) 271 5 [some (.ref 19), some (.int p1), some (.int p2), some (.int p3), none, none, none] [.int 0] M0 _
    refine z_xZ zt271 2 rfl rfl (fun (h9 : (0 : Int) = 0) => ?_) (fun (h9 : (0 : Int) ≠ 0) => absurd h9 (by omega))
    refine z_xP zt271 15 33 [some (.ref 19), some (.int p1), some (.int p2), some (.int p3), none, none, none] [.int (-1)] rfl rfl ?_
    have qm1 : (((-1) : Int32)).toInt = (-1) := rfl
    exact z_xri zt271 16 rfl zzr271 (kk (-1) M0 X (Or.inl ⟨rfl, by unfold y_vK; omega⟩))
  refine z_xP zt209 5 17 [some (.ref 19), some (.int p1)] [.int 1] rfl rfl ?_
  refine z_xrz zt209 7 rfl zzr209 (by decide) (by decide) ?_
  show z_ev (d + 7) 271 5 [some (.ref 19), some (.int p1), some (.int p2), some (.int p3), none, none, none] [.int 1] M0 _
  refine z_xZ zt271 2 rfl rfl (fun (h10 : (1 : Int) = 0) => absurd h10 (by omega)) (fun (h10 : (1 : Int) ≠ 0) => ?_)
  refine z_xP zt271 3 9 [some (.ref 19), some (.int p1), some (.int p2), some (.int p3), none, none, none] [.int p2] rfl rfl ?_
  have h11 := z_b32 p2
  refine z_xL zt271 4 rfl rfl (fun (y12 : Int64) (h13 : y12.toInt = p2.toInt) => ?_) (z_qI2L rfl)
  refine z_xP zt271 5 11 [some (.ref 19), some (.int p1), some (.int p2), some (.int p3), none, none, none] [.long 1, .long y12] rfl rfl ?_
  refine z_xl2 zt271 6 rfl zo271 zkl12_358 ?_
  refine z_xcS (vs := [.long y12, .long 1, .long 3]) (r := []) (L2 := [some (.long y12), none, some (.long 1), none, some (.long 3), none]) zt271 7 rfl zo271 zzcS12_116 (Or.inl rfl) (Nat.le_of_ble_eq_true rfl) rfl rfl (Nat.le_of_ble_eq_true rfl) zzm189 (Nat.le_of_ble_eq_true rfl) rfl ?_
  refine z_xP zt189 0 2 [some (.long y12), none, some (.long 1), none, some (.long 3), none] [.long 1, .long y12] rfl rfl ?_
  refine z_xI zt189 1 rfl rfl (fun (x14 : Int32) (h15 : (x14.toInt < 0 ∧ y12.toInt < 1) ∨ (x14.toInt = 0 ∧ y12.toInt = 1) ∨ (0 < x14.toInt ∧ 1 < y12.toInt)) => ?_) (z_qCmp rfl rfl)
  refine z_xZ zt189 2 rfl rfl (fun (h16 : x14.toInt < 0) => ?_) (fun (h16 : 0 ≤ x14.toInt) => ?_)
  · skip
    refine z_xP zt189 7 18 [some (.long y12), none, some (.long 1), none, some (.long 3), none] [.int 0] rfl rfl ?_
    refine z_xrz zt189 8 rfl zzr189 (by decide) (by decide) ?_
    show z_ev (d + 7) 271 17 [some (.ref 19), some (.int p1), some (.int p2), some (.int p3), none, none, none] [.int 0] M0 _
    refine z_xZ zt271 8 rfl rfl (fun (h17 : (0 : Int) = 0) => ?_) (fun (h17 : (0 : Int) ≠ 0) => absurd h17 (by omega))
    refine z_xP zt271 15 33 [some (.ref 19), some (.int p1), some (.int p2), some (.int p3), none, none, none] [.int (-1)] rfl rfl ?_
    have qm1 : (((-1) : Int32)).toInt = (-1) := rfl
    exact z_xri zt271 16 rfl zzr271 (kk (-1) M0 X (Or.inl ⟨rfl, by unfold y_vK; omega⟩))
  refine z_xP zt189 3 9 [some (.long y12), none, some (.long 1), none, some (.long 3), none] [.long 3, .long y12] rfl rfl ?_
  refine z_xI zt189 4 rfl rfl (fun (x18 : Int32) (h19 : (x18.toInt < 0 ∧ y12.toInt < 3) ∨ (x18.toInt = 0 ∧ y12.toInt = 3) ∨ (0 < x18.toInt ∧ 3 < y12.toInt)) => ?_) (z_qCmp rfl rfl)
  refine z_xZ zt189 5 rfl rfl (fun (h20 : 0 < x18.toInt) => ?_) (fun (h20 : x18.toInt ≤ 0) => ?_)
  · skip
    refine z_xP zt189 7 18 [some (.long y12), none, some (.long 1), none, some (.long 3), none] [.int 0] rfl rfl ?_
    refine z_xrz zt189 8 rfl zzr189 (by decide) (by decide) ?_
    show z_ev (d + 7) 271 17 [some (.ref 19), some (.int p1), some (.int p2), some (.int p3), none, none, none] [.int 0] M0 _
    refine z_xZ zt271 8 rfl rfl (fun (h21 : (0 : Int) = 0) => ?_) (fun (h21 : (0 : Int) ≠ 0) => absurd h21 (by omega))
    refine z_xP zt271 15 33 [some (.ref 19), some (.int p1), some (.int p2), some (.int p3), none, none, none] [.int (-1)] rfl rfl ?_
    have qm1 : (((-1) : Int32)).toInt = (-1) := rfl
    exact z_xri zt271 16 rfl zzr271 (kk (-1) M0 X (Or.inl ⟨rfl, by unfold y_vK; omega⟩))
  refine z_xP zt189 6 18 [some (.long y12), none, some (.long 1), none, some (.long 3), none] [.int 1] rfl rfl ?_
  refine z_xrz zt189 8 rfl zzr189 (by decide) (by decide) ?_
  show z_ev (d + 7) 271 17 [some (.ref 19), some (.int p1), some (.int p2), some (.int p3), none, none, none] [.int 1] M0 _
  refine z_xZ zt271 8 rfl rfl (fun (h22 : (1 : Int) = 0) => absurd h22 (by omega)) (fun (h22 : (1 : Int) ≠ 0) => ?_)
  refine z_xP zt271 9 21 [some (.ref 19), some (.int p1), some (.int p2), some (.int p3), none, none, none] [.int p3] rfl rfl ?_
  have h23 := z_b32 p3
  refine z_xL zt271 10 rfl rfl (fun (y24 : Int64) (h25 : y24.toInt = p3.toInt) => ?_) (z_qI2L rfl)
  refine z_xP zt271 11 23 [some (.ref 19), some (.int p1), some (.int p2), some (.int p3), none, none, none] [.long 1, .long y24] rfl rfl ?_
  refine z_xl2 zt271 12 rfl zo271 zkl12_363 ?_
  refine z_xcS (vs := [.long y24, .long 1, .long 31]) (r := []) (L2 := [some (.long y24), none, some (.long 1), none, some (.long 31), none]) zt271 13 rfl zo271 zzcS12_116 (Or.inl rfl) (Nat.le_of_ble_eq_true rfl) rfl rfl (Nat.le_of_ble_eq_true rfl) zzm189 (Nat.le_of_ble_eq_true rfl) rfl ?_
  refine z_xP zt189 0 2 [some (.long y24), none, some (.long 1), none, some (.long 31), none] [.long 1, .long y24] rfl rfl ?_
  refine z_xI zt189 1 rfl rfl (fun (x26 : Int32) (h27 : (x26.toInt < 0 ∧ y24.toInt < 1) ∨ (x26.toInt = 0 ∧ y24.toInt = 1) ∨ (0 < x26.toInt ∧ 1 < y24.toInt)) => ?_) (z_qCmp rfl rfl)
  refine z_xZ zt189 2 rfl rfl (fun (h28 : x26.toInt < 0) => ?_) (fun (h28 : 0 ≤ x26.toInt) => ?_)
  · skip
    refine z_xP zt189 7 18 [some (.long y24), none, some (.long 1), none, some (.long 31), none] [.int 0] rfl rfl ?_
    refine z_xrz zt189 8 rfl zzr189 (by decide) (by decide) ?_
    show z_ev (d + 7) 271 29 [some (.ref 19), some (.int p1), some (.int p2), some (.int p3), none, none, none] [.int 0] M0 _
    refine z_xZ zt271 14 rfl rfl (fun (h29 : (0 : Int) ≠ 0) => absurd h29 (by omega)) (fun (h29 : (0 : Int) = 0) => ?_)
    refine z_xP zt271 15 33 [some (.ref 19), some (.int p1), some (.int p2), some (.int p3), none, none, none] [.int (-1)] rfl rfl ?_
    have qm1 : (((-1) : Int32)).toInt = (-1) := rfl
    exact z_xri zt271 16 rfl zzr271 (kk (-1) M0 X (Or.inl ⟨rfl, by unfold y_vK; omega⟩))
  refine z_xP zt189 3 9 [some (.long y24), none, some (.long 1), none, some (.long 31), none] [.long 31, .long y24] rfl rfl ?_
  refine z_xI zt189 4 rfl rfl (fun (x30 : Int32) (h31 : (x30.toInt < 0 ∧ y24.toInt < 31) ∨ (x30.toInt = 0 ∧ y24.toInt = 31) ∨ (0 < x30.toInt ∧ 31 < y24.toInt)) => ?_) (z_qCmp rfl rfl)
  refine z_xZ zt189 5 rfl rfl (fun (h32 : 0 < x30.toInt) => ?_) (fun (h32 : x30.toInt ≤ 0) => ?_)
  · skip
    refine z_xP zt189 7 18 [some (.long y24), none, some (.long 1), none, some (.long 31), none] [.int 0] rfl rfl ?_
    refine z_xrz zt189 8 rfl zzr189 (by decide) (by decide) ?_
    show z_ev (d + 7) 271 29 [some (.ref 19), some (.int p1), some (.int p2), some (.int p3), none, none, none] [.int 0] M0 _
    refine z_xZ zt271 14 rfl rfl (fun (h33 : (0 : Int) ≠ 0) => absurd h33 (by omega)) (fun (h33 : (0 : Int) = 0) => ?_)
    refine z_xP zt271 15 33 [some (.ref 19), some (.int p1), some (.int p2), some (.int p3), none, none, none] [.int (-1)] rfl rfl ?_
    have qm1 : (((-1) : Int32)).toInt = (-1) := rfl
    exact z_xri zt271 16 rfl zzr271 (kk (-1) M0 X (Or.inl ⟨rfl, by unfold y_vK; omega⟩))
  refine z_xP zt189 6 18 [some (.long y24), none, some (.long 1), none, some (.long 31), none] [.int 1] rfl rfl ?_
  refine z_xrz zt189 8 rfl zzr189 (by decide) (by decide) ?_
  show z_ev (d + 7) 271 29 [some (.ref 19), some (.int p1), some (.int p2), some (.int p3), none, none, none] [.int 1] M0 _
  refine z_xZ zt271 14 rfl rfl (fun (h34 : (1 : Int) ≠ 0) => ?_) (fun (h34 : (1 : Int) = 0) => absurd h34 (by omega))
  refine z_xP zt271 17 35 [some (.ref 19), some (.int p1), some (.int p2), some (.int p3), none, none, none] [.ref 19] rfl rfl ?_
  refine z_xgX (b := 31) zt271 18 rfl zo271 zzf12_43 X f19 (by decide) (by decide) rfl ?_
  refine z_xP zt271 19 39 [some (.ref 19), some (.int p1), some (.int p2), some (.int p3), none, none, none] [.int p1, .ref 31] rfl rfl ?_
  have f31 : T[31]? = some (.inr (31, 0, 8, 0, 1024)) := X.1.k rfl (by decide)
  have hv : y_vK M0 p1 := by unfold y_vK; omega
  have hY := hTB hv
  refine z_xil zt271 20 rfl X f31 (by decide) (by omega) (by omega) (fun (x35 : Int32) h36 (h37 : 0 ≤ x35.toInt) (h38 : x35.toInt ≤ 1024) => ?_)
  have em : x35.toInt = (m : Int) := by
    rw [← h36]
    exact hY.2.1.2.2.2.2.1
  refine z_xP zt271 21 42 [some (.ref 19), some (.int p1), some (.int p2), some (.int p3), none, none, none] [.int 6, .int x35] rfl rfl ?_
  refine z_xJ zt271 22 rfl rfl (fun (h39 : x35.toInt ≤ 6) => ?_) (fun (h39 : 6 < x35.toInt) => ?_)
  · skip
    refine z_xP zt271 25 51 [some (.ref 19), some (.int p1), some (.int p2), some (.int p3), some (.int 0), none, none] [] rfl rfl ?_
    have q0 : ((0 : Int32)).toInt = 0 := rfl
    exact (zYB271 hW hY ⟨by omega, by omega⟩ ⟨by omega, by omega⟩ ⟨by omega, by omega⟩ (by omega) hV V20 (fun x M1 X h => kk x M1 X (Or.inr ⟨⟨hv, by omega⟩, Or.inr ⟨by omega, h⟩⟩)) 300).1 M0 (0) none none X ⟨by omega, by omega⟩ (fun i hi => absurd hi (Nat.not_lt_zero i)) (by omega)
  refine z_xP zt271 23 47 [some (.ref 19), some (.int p1), some (.int p2), some (.int p3), none, none, none] [.int (-4)] rfl rfl ?_
  have qm4 : (((-4) : Int32)).toInt = (-4) := rfl
  exact z_xri zt271 24 rfl zzr271 (kk (-4) M0 X (Or.inr ⟨⟨hv, by omega⟩, Or.inl ⟨rfl, by omega⟩⟩))
