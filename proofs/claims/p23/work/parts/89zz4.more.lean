/-! unlike and sway over all benches, the class -/
theorem zUB113 {T : List zK} {d : Nat} {K : Option Value → zH → Prop} {a0 : Nat} {ci : Nat} {a1 : Nat} {ci1 : Nat} {a2 : Nat} {q2 : Nat} {t2 : Nat} {m2 : Nat} {p3 : Int32} {p4 : Int32} {M0 : zH} (w0 : 4 ≤ ci ∧ ci ≤ 11) (k0 : T[a0]? = some (.inl (ci, 0, 0, 0, 0))) (w1 : 4 ≤ ci1 ∧ ci1 ≤ 11) (k1 : T[a1]? = some (.inl (ci1, 0, 0, 0, 0))) (k2 : T[a2]? = some (.inl (3, q2, t2, m2, 5))) (u3 : 1 ≤ p3.toInt ∧ p3.toInt ≤ 5) (u4 : 0 ≤ p4.toInt ∧ p4.toInt ≤ 1) {N pr en sa : Nat} {B : Nat → Nat} {S : Nat → Int32} {A sh ch sh2 ch2 : Int32} (hpe : pr < 1024 ∧ en < 1024) (fs : z_F M0 a0 1 = some (.int sh)) (fc : z_F M0 a0 2 = some (.int ch)) (fs2 : z_F M0 a1 1 = some (.int sh2)) (fc2 : z_F M0 a1 2 = some (.int ch2)) (m12 : 1 ≤ m2 ∧ m2 ≤ 12) (kk : ∀ (x : Int32) (M1 : zH), z_X T zw113 M0 M1 → z_kA (z_pLi ci ci1 B q2 pr en sh.toInt.toNat ch.toInt.toNat sh2.toInt.toNat ch2.toInt.toNat m2 p3.toInt.toNat S A) (fun k => (z_cdB (z_bk m2 p3.toInt.toNat k) p3.toInt.toNat : Int)) (z_T m2 p3.toInt.toNat) p4.toInt x.toInt → z_lz M1 a2 → K (some (.int x)) M1) : ∀ nn : Nat, (∀ (M : zH) (b5 : Int32) (b6 : Int32) (b7 : Int32), z_X T zw113 M0 M → 0 ≤ b6.toInt ∧ b6.toInt ≤ 4368 → 0 ≤ b7.toInt ∧ b7.toInt ≤ 8191 → b6.toInt = (z_T m2 p3.toInt.toNat : Int) → b7.toInt ≤ b6.toInt → z_TSG T M a2 N q2 t2 m2 pr en sa p3.toInt.toNat B (z_bk m2 p3.toInt.toNat b7.toInt.toNat) (z_bk m2 p3.toInt.toNat b7.toInt.toNat) S A → (∃ (cc : Nat) (yy : Int), z_kr (z_pLi ci ci1 B q2 pr en sh.toInt.toNat ch.toInt.toNat sh2.toInt.toNat ch2.toInt.toNat m2 p3.toInt.toNat S A) (fun k => (z_cdB (z_bk m2 p3.toInt.toNat k) p3.toInt.toNat : Int)) b7.toInt.toNat cc yy ∧ (p4.toInt = 0 → b5.toInt = (cc : Int)) ∧ (p4.toInt ≠ 0 → cc = 0)) → ((0) * 2 + 0) * 8192 + (8191 - b7.toInt) < (nn : Int) → z_ev (d + 4) 113 13 [some (.ref a0), some (.ref a1), some (.ref a2), some (.int p3), some (.int p4), some (.int b5), some (.int b6), some (.int b7)] [] M K) := by
  intro nn
  induction nn with
  | zero => exact by intros; exfalso; omega
  | succ nn ih =>
    intro M b5 b6 b7 X hh0 hh1 hb6 hb7 hS hI hE
    obtain ⟨cc, yy, hK, hk0, hk1⟩ := hI
    obtain ⟨⟨hWM, hbk⟩, kb, ⟨hN0, hag⟩, ⟨hsa, ksa, hSS⟩, hA, ⟨n5, jv4, hj4, ejv4⟩, hnu, har, hln, hlz⟩ := id hS
    have hFb : ∀ j, j < p3.toInt.toNat → z_bk m2 p3.toInt.toNat b7.toInt.toNat j < m2 := fun j _ => z_bkB m12.1 _ j
    have hw : ∀ c, 4 ≤ c ∧ c ≤ 11 → ∀ k, k < 4 → ¬ (1000 + 100 * c + k) ∈ zw113 := fun c hc k hk hm => by
      have h : ∀ x ∈ zw113, x < 1400 := by decide
      have := h _ hm
      omega
    have hwd : ∀ c, 4 ≤ c ∧ c ≤ 11 → ∀ k, k < 4 → ¬ (1000 + 100 * c + k) ∈ zwVdecide := fun c hc k hk hm => by
      have h : ∀ x ∈ zwVdecide, x < 1400 := by decide
      have := h _ hm
      omega
    have g2 := X.1.p3 k2
    refine z_xP zt113 3 17 [some (.ref a0), some (.ref a1), some (.ref a2), some (.int p3), some (.int p4), some (.int b5), some (.int b6), some (.int b7)] [.int b6, .int b7] rfl rfl ?_
    refine z_xJ zt113 4 rfl rfl (fun (h1 : b6.toInt ≤ b7.toInt) => ?_) (fun (h1 : b7.toInt < b6.toInt) => ?_)
    · skip
      refine z_xP zt113 20 58 [some (.ref a0), some (.ref a1), some (.ref a2), some (.int p3), some (.int p4), some (.int b5), some (.int b6), some (.int b7)] [.int p4] rfl rfl ?_
      refine z_xZ zt113 21 rfl rfl (fun (h2 : p4.toInt = 0) => ?_) (fun (h2 : p4.toInt ≠ 0) => ?_)
      · skip
        refine z_xP zt113 23 68 [some (.ref a0), some (.ref a1), some (.ref a2), some (.int p3), some (.int p4), some (.int b5), some (.int b6), some (.int b7)] [.int b5] rfl rfl ?_
        exact z_xri zt113 24 rfl zzr113 (kk b5 M X ⟨cc, yy, by rw [show z_T m2 p3.toInt.toNat = b7.toInt.toNat by omega]; exact hK, Or.inl ⟨h2, hk0 h2⟩⟩ hlz)
      refine z_xP zt113 22 68 [some (.ref a0), some (.ref a1), some (.ref a2), some (.int p3), some (.int p4), some (.int b5), some (.int b6), some (.int b7)] [.int (-2)] rfl rfl ?_
      have qm2 : (((-2) : Int32)).toInt = (-2) := rfl
      exact z_xri zt113 24 rfl zzr113 (kk (-2) M X ⟨cc, yy, by rw [show z_T m2 p3.toInt.toNat = b7.toInt.toNat by omega]; exact hK, Or.inr ⟨h2, (z_kr0 hK (hk1 h2)).symm⟩⟩ hlz)
    refine z_xP zt113 5 22 [some (.ref a0), some (.ref a1), some (.ref a2), some (.int p3), some (.int p4), some (.int b5), some (.int b6), some (.int b7)] [.ref a2, .ref a0] rfl rfl ?_
    obtain ⟨jv, ejv, hD, hLL, hcj⟩ := hS.dp hFb hpe (X.2.f k0 (hw ci w0 1 (by decide)) fs) (X.2.f k0 (hw ci w0 2 (by decide)) fc)
    refine zWdecide zt113 6 rfl zo113 zzcV4_54 X k0 w0 (Nat.le_of_ble_eq_true rfl) hD (fun x5 M3 X4 hdq hlz3 _ => ?_)
    have q1b : 1 ≤ q2 ∧ q2 ≤ 10 := by omega
    have hoJ := z_oJdq ejv hcj hLL hdq
    have hb5w := hdq.1
    have hS3 := hS.dc X4 hlz3
    have X6 := X.go X4 (z_sb (by decide))
    show z_ev (d + 4) 113 25 [some (.ref a0), some (.ref a1), some (.ref a2), some (.int p3), some (.int p4), some (.int b5), some (.int b6), some (.int b7)] [.int x5] M3 _
    refine z_xP zt113 7 27 [some (.ref a0), some (.ref a1), some (.ref a2), some (.int p3), some (.int p4), some (.int b5), some (.int b6), some (.int b7)] [.ref a2, .ref a1, .int x5] rfl rfl ?_
    obtain ⟨jv2, ejv2, hD2, hLL2, hcj2⟩ := hS3.dp hFb hpe (X4.2.f k1 (hwd ci1 w1 1 (by decide)) (X.2.f k1 (hw ci1 w1 1 (by decide)) fs2)) (X4.2.f k1 (hwd ci1 w1 2 (by decide)) (X.2.f k1 (hw ci1 w1 2 (by decide)) fc2))
    refine zWdecide zt113 8 rfl zo113 zzcV4_54 X6 k1 w1 (Nat.le_of_ble_eq_true rfl) hD2 (fun x10 M8 X9 hdq2 hlz8 _ => ?_)
    have hoJ2 := z_oJdq ejv2 hcj2 hLL2 hdq2
    have hb10w := hdq2.1
    have hS8 := hS3.dc X9 hlz8
    have hP : (z_pLi ci ci1 B q2 pr en sh.toInt.toNat ch.toInt.toNat sh2.toInt.toNat ch2.toInt.toNat m2 p3.toInt.toNat S A) b7.toInt.toNat ↔ x5.toInt ≠ x10.toInt := by
      constructor
      · rintro ⟨y, u, y2, u2, g1, g2, g3⟩ g4
        obtain ⟨rfl, rfl⟩ := z_oJU g1 hoJ q1b.1
        obtain ⟨rfl, rfl⟩ := z_oJU g2 hoJ2 q1b.1
        exact g3 ⟨by rw [g4], by rw [g4]⟩
      · intro g
        exact ⟨_, _, _, _, hoJ, hoJ2, fun ⟨g1, g2⟩ => g (by omega)⟩
    have X11 := X6.go X9 (z_sb (by decide))
    show z_ev (d + 4) 113 30 [some (.ref a0), some (.ref a1), some (.ref a2), some (.int p3), some (.int p4), some (.int b5), some (.int b6), some (.int b7)] [.int x10, .int x5] M8 _
    have h13 := z_b32 x5
    have h14 := z_b32 x10
    refine z_xJ zt113 9 rfl rfl (fun (h15 : x5.toInt = x10.toInt) => ?_) (fun (h15 : x5.toInt ≠ x10.toInt) => ?_)
    · skip
      refine z_xP zt113 16 47 [some (.ref a0), some (.ref a1), some (.ref a2), some (.int p3), some (.int p4), some (.int b5), some (.int b6), some (.int b7)] [.ref a2] rfl rfl ?_
      refine z_xcV (vs := [.ref a2]) (r := []) (L2 := [some (.ref a2), none, none, none, none]) zt113 17 rfl zo113 zzcV4_68 (Or.inl rfl) rfl X11 k2 rfl rfl rfl (Nat.le_of_ble_eq_true rfl) zzm110 (Nat.le_of_ble_eq_true rfl) rfl ?_
      refine zUC110 X11.1 k2 hS8 hFb (by omega) (fun M16 X17 hS20 => ?_)
      have X18 := X11.go X17 (z_sb (by decide))
      show z_ev (d + 4) 113 50 [some (.ref a0), some (.ref a1), some (.ref a2), some (.int p3), some (.int p4), some (.int b5), some (.int b6), some (.int b7)] [] M16 _
      refine z_xN zt113 18 rfl rfl (fun (x20 : Int32) (h21 : x20.toInt = b7.toInt + 1) => ?_) (z_pAdd rfl rfl (by omega) (by omega))
      show z_ev (d + 4) 113 53 [some (.ref a0), some (.ref a1), some (.ref a2), some (.int p3), some (.int p4), some (.int b5), some (.int b6), some (.int x20)] [] M16 _
      refine z_xP zt113 19 13 [some (.ref a0), some (.ref a1), some (.ref a2), some (.int p3), some (.int p4), some (.int b5), some (.int b6), some (.int x20)] [] rfl rfl ?_
      have es : x20.toInt.toNat = b7.toInt.toNat + 1 := by omega
      exact ih M16 b5 b6 x20 X18 ⟨by omega, by omega⟩ ⟨by omega, by omega⟩ hb6 (by omega) (by rw [es]; exact hS20) ⟨cc, yy, by rw [es]; exact z_krN hK (fun g => hP.mp g h15), hk0, hk1⟩ (by omega)
    refine z_xP zt113 10 35 [some (.ref a0), some (.ref a1), some (.ref a2), some (.int p3), some (.int p4), some (.int b5), some (.int b6), some (.int b7)] [.int p4] rfl rfl ?_
    refine z_xZ zt113 11 rfl rfl (fun (h22 : p4.toInt = 0) => ?_) (fun (h22 : p4.toInt ≠ 0) => ?_)
    · skip
      have h23 := z_b32 b5
      have hcM := z_krM hK
      have hc0 := hk0 h22
      refine z_xN zt113 15 rfl rfl (fun (x24 : Int32) (h25 : x24.toInt = b5.toInt + 1) => ?_) (z_pAdd rfl rfl (by omega) (by omega))
      show z_ev (d + 4) 113 46 [some (.ref a0), some (.ref a1), some (.ref a2), some (.int p3), some (.int p4), some (.int x24), some (.int b6), some (.int b7)] [] M8 _
      refine z_xP zt113 16 47 [some (.ref a0), some (.ref a1), some (.ref a2), some (.int p3), some (.int p4), some (.int x24), some (.int b6), some (.int b7)] [.ref a2] rfl rfl ?_
      refine z_xcV (vs := [.ref a2]) (r := []) (L2 := [some (.ref a2), none, none, none, none]) zt113 17 rfl zo113 zzcV4_68 (Or.inl rfl) rfl X11 k2 rfl rfl rfl (Nat.le_of_ble_eq_true rfl) zzm110 (Nat.le_of_ble_eq_true rfl) rfl ?_
      refine zUC110 X11.1 k2 hS8 hFb (by omega) (fun M26 X27 hS20 => ?_)
      have X28 := X11.go X27 (z_sb (by decide))
      show z_ev (d + 4) 113 50 [some (.ref a0), some (.ref a1), some (.ref a2), some (.int p3), some (.int p4), some (.int x24), some (.int b6), some (.int b7)] [] M26 _
      refine z_xN zt113 18 rfl rfl (fun (x30 : Int32) (h31 : x30.toInt = b7.toInt + 1) => ?_) (z_pAdd rfl rfl (by omega) (by omega))
      show z_ev (d + 4) 113 53 [some (.ref a0), some (.ref a1), some (.ref a2), some (.int p3), some (.int p4), some (.int x24), some (.int b6), some (.int x30)] [] M26 _
      refine z_xP zt113 19 13 [some (.ref a0), some (.ref a1), some (.ref a2), some (.int p3), some (.int p4), some (.int x24), some (.int b6), some (.int x30)] [] rfl rfl ?_
      have es : x30.toInt.toNat = b7.toInt.toNat + 1 := by omega
      exact ih M26 x24 b6 x30 X28 ⟨by omega, by omega⟩ ⟨by omega, by omega⟩ hb6 (by omega) (by rw [es]; exact hS20) ⟨cc + 1, _, by rw [es]; exact z_krS hK (hP.mpr h15), fun _ => by omega, fun g => absurd h22 g⟩ (by omega)
    refine z_xP zt113 12 39 [some (.ref a0), some (.ref a1), some (.ref a2), some (.int p3), some (.int p4), some (.int b5), some (.int b6), some (.int b7)] [.ref a2] rfl rfl ?_
    refine z_xcV (vs := [.ref a2]) (r := []) (L2 := [some (.ref a2), none, none]) zt113 13 rfl zo113 zzcV4_64 (Or.inl rfl) rfl X11 k2 rfl rfl rfl (Nat.le_of_ble_eq_true rfl) zzm109 (Nat.le_of_ble_eq_true rfl) rfl ?_
    refine zUC109 X11.1 k2 hS8 (fun j hj => by have := hFb j hj; omega) (fun x34 M32 X33 h38 => ?_)
    have X37 := X11.go X33 (z_sb (by decide))
    show z_ev (d + 4) 113 42 [some (.ref a0), some (.ref a1), some (.ref a2), some (.int p3), some (.int p4), some (.int b5), some (.int b6), some (.int b7)] [.int x34] M32 _
    exact z_xri zt113 14 rfl zzr113 (kk x34 M32 X37 (by
      rw [hk1 h22] at hK
      obtain ⟨c2, g⟩ := z_krF hK (hP.mpr h15) (K := z_T m2 p3.toInt.toNat) (by omega)
      exact ⟨c2, _, g, Or.inr ⟨h22, h38⟩⟩) (hS8.ke X33 (by decide)).2.2.2.2.2.2.2.2.2)
theorem zUC113 {T : List zK} {d : Nat} {K : Option Value → zH → Prop} {a0 : Nat} {ci : Nat} {a1 : Nat} {ci1 : Nat} {a2 : Nat} {q2 : Nat} {t2 : Nat} {m2 : Nat} {p3 : Int32} {p4 : Int32} {M0 : zH} (hW : z_W M0 T) (w0 : 4 ≤ ci ∧ ci ≤ 11) (k0 : T[a0]? = some (.inl (ci, 0, 0, 0, 0))) (w1 : 4 ≤ ci1 ∧ ci1 ≤ 11) (k1 : T[a1]? = some (.inl (ci1, 0, 0, 0, 0))) (k2 : T[a2]? = some (.inl (3, q2, t2, m2, 5))) (u3 : 1 ≤ p3.toInt ∧ p3.toInt ≤ 5) (u4 : 0 ≤ p4.toInt ∧ p4.toInt ≤ 1) {N pr en sa : Nat} {B : Nat → Nat} {S : Nat → Int32} {A sh ch sh2 ch2 : Int32} (hbk : z_blk T M0) (hN0 : z_F M0 a2 0 = some (.ref N)) (hag : z_AGO T M0 N q2 t2 m2 pr en B) (hsa : z_F M0 N 5 = some (.ref sa)) (ksa : T[sa]? = some (.inr (102, 0, m2, 0, 1023))) (hSS : ∀ k, k < m2 → z_Ar M0 sa k = S k) (hA : A.toInt = ((2 ^ q2 : Nat) : Int) - 1) (hlz : z_lz M0 a2) (hch : z_chO M0) (hpe : pr < 1024 ∧ en < 1024) (fs : z_F M0 a0 1 = some (.int sh)) (fc : z_F M0 a0 2 = some (.int ch)) (fs2 : z_F M0 a1 1 = some (.int sh2)) (fc2 : z_F M0 a1 2 = some (.int ch2)) (m12 : 1 ≤ m2 ∧ m2 ≤ 12) (kk : ∀ (x : Int32) (M1 : zH), z_X T zw113 M0 M1 → z_kA (z_pLi ci ci1 B q2 pr en sh.toInt.toNat ch.toInt.toNat sh2.toInt.toNat ch2.toInt.toNat m2 p3.toInt.toNat S A) (fun k => (z_cdB (z_bk m2 p3.toInt.toNat k) p3.toInt.toNat : Int)) (z_T m2 p3.toInt.toNat) p4.toInt x.toInt → z_lz M1 a2 → K (some (.int x)) M1) : z_ev (d + 4) 113 0 [some (.ref a0), some (.ref a1), some (.ref a2), some (.int p3), some (.int p4), none, none, none] [] M0 K := by
  have X : z_X T zw113 M0 M0 := .refl hW
  have g2 := X.1.p3 k2
  refine z_xP zt113 0 5 [some (.ref a0), some (.ref a1), some (.ref a2), some (.int p3), some (.int p4), some (.int 0), none, none] [.int p3, .ref a2] rfl rfl ?_
  refine z_xcV (vs := [.ref a2, .int p3]) (r := []) (L2 := [some (.ref a2), some (.int p3), none]) zt113 1 rfl zo113 zzcV4_45 (Or.inl rfl) rfl X k2 rfl rfl rfl (Nat.le_of_ble_eq_true rfl) zzm108 (Nat.le_of_ble_eq_true rfl) rfl ?_
  refine zUC108 X.1 k2 (by omega) hbk hN0 hag hsa ksa hSS hA hlz hch m12 (fun x11 M5 X6 h12 hS5 => ?_)
  have hTb := z_Tb m2 (by omega) p3.toInt.toNat (by omega)
  have X14 := X.go X6 (z_sb (by decide))
  show z_ev (d + 4) 113 8 [some (.ref a0), some (.ref a1), some (.ref a2), some (.int p3), some (.int p4), some (.int 0), none, none] [.int x11] M5 _
  refine z_xP zt113 2 13 [some (.ref a0), some (.ref a1), some (.ref a2), some (.int p3), some (.int p4), some (.int 0), some (.int x11), some (.int 0)] [] rfl rfl ?_
  have q0 : ((0 : Int32)).toInt = 0 := rfl
  exact (zUB113 w0 k0 w1 k1 k2 u3 u4 hpe fs fc fs2 fc2 m12 kk 16384) M5 (0) x11 (0) X14 ⟨by omega, by omega⟩ (by decide) h12 (by omega) hS5 ⟨0, -2, ⟨rfl, rfl⟩, fun _ => rfl, fun _ => rfl⟩ (by omega)
