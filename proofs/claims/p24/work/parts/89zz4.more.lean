/-! unlike and sway over all benches, the class -/
theorem zUB115 {T : List zK} {d : Nat} {K : Option Value → zH → Prop} {a0 : Nat} {ci : Nat} {a1 : Nat} {q1 : Nat} {t1 : Nat} {m1 : Nat} {p2 : Int32} {p3 : Int32} {M0 : zH} (w0 : 4 ≤ ci ∧ ci ≤ 11) (k0 : T[a0]? = some (.inl (ci, 0, 0, 0, 0))) (k1 : T[a1]? = some (.inl (3, q1, t1, m1, 5))) (u2 : 1 ≤ p2.toInt ∧ p2.toInt ≤ 5) (u3 : 0 ≤ p3.toInt ∧ p3.toInt ≤ 9) {N pr en sa : Nat} {B : Nat → Nat} {S : Nat → Int32} {A sh ch : Int32} (hpe : pr < 1024 ∧ en < 1024) (fs : z_F M0 a0 1 = some (.int sh)) (fc : z_F M0 a0 2 = some (.int ch)) (m12 : 1 ≤ m1 ∧ m1 ≤ 12) (kk : ∀ (x : Int32) (M1 : zH), z_X T zw115 M0 M1 → z_kA (z_pYe ci B q1 pr en sh.toInt.toNat ch.toInt.toNat m1 p2.toInt.toNat S A p3.toInt.toNat) (fun _ => 0) (z_T m1 p2.toInt.toNat) 0 x.toInt → z_lz M1 a1 → K (some (.int x)) M1) : ∀ nn : Nat, (∀ (M : zH) (b4 : Int32) (b5 : Int32) (b6 : Int32), z_X T zw115 M0 M → 0 ≤ b5.toInt ∧ b5.toInt ≤ 4368 → 0 ≤ b6.toInt ∧ b6.toInt ≤ 8191 → b5.toInt = (z_T m1 p2.toInt.toNat : Int) → b6.toInt ≤ b5.toInt → z_TSG T M a1 N q1 t1 m1 pr en sa p2.toInt.toNat B (z_bk m1 p2.toInt.toNat b6.toInt.toNat) (z_bk m1 p2.toInt.toNat b6.toInt.toNat) S A → (∃ (cc : Nat) (yy : Int), z_kr (z_pYe ci B q1 pr en sh.toInt.toNat ch.toInt.toNat m1 p2.toInt.toNat S A p3.toInt.toNat) (fun _ => 0) b6.toInt.toNat cc yy ∧ b4.toInt = (cc : Int)) → ((0) * 2 + 0) * 8192 + (8191 - b6.toInt) < (nn : Int) → z_ev (d + 4) 115 13 [some (.ref a0), some (.ref a1), some (.int p2), some (.int p3), some (.int b4), some (.int b5), some (.int b6)] [] M K) := by
  intro nn
  induction nn with
  | zero => exact by intros; exfalso; omega
  | succ nn ih =>
    intro M b4 b5 b6 X hh0 hh1 hb5 hb6 hS hI hE
    obtain ⟨cc, yy, hK, hk0⟩ := hI
    have hcM := z_krM hK
    obtain ⟨⟨hWM, hbk⟩, kb, ⟨hN0, hag⟩, ⟨hsa, ksa, hSS⟩, hA, ⟨n5, jv4, hj4, ejv4⟩, hnu, har, hln, hlz⟩ := id hS
    have hFb : ∀ j, j < p2.toInt.toNat → z_bk m1 p2.toInt.toNat b6.toInt.toNat j < m1 := fun j _ => z_bkB m12.1 _ j
    have hw : ∀ k, k < 4 → ¬ (1000 + 100 * ci + k) ∈ zw115 := fun k hk hm => by
      have h : ∀ x ∈ zw115, x < 1400 := by decide
      have := h _ hm
      omega
    have g1 := X.1.p3 k1
    refine z_xP zt115 3 17 [some (.ref a0), some (.ref a1), some (.int p2), some (.int p3), some (.int b4), some (.int b5), some (.int b6)] [.int b5, .int b6] rfl rfl ?_
    refine z_xJ zt115 4 rfl rfl (fun (h1 : b5.toInt ≤ b6.toInt) => ?_) (fun (h1 : b6.toInt < b5.toInt) => ?_)
    · skip
      refine z_xP zt115 16 46 [some (.ref a0), some (.ref a1), some (.int p2), some (.int p3), some (.int b4), some (.int b5), some (.int b6)] [.int b4] rfl rfl ?_
      exact z_xri zt115 17 rfl zzr115 (kk b4 M X ⟨cc, yy, by rw [show z_T m1 p2.toInt.toNat = b6.toInt.toNat by omega]; exact hK, Or.inl ⟨rfl, hk0⟩⟩ hlz)
    refine z_xP zt115 5 24 [some (.ref a0), some (.ref a1), some (.int p2), some (.int p3), some (.int b4), some (.int b5), some (.int b6)] [.ref a1, .ref a0, .int b4] rfl rfl ?_
    obtain ⟨jv, ejv, hD, hLL, hcj⟩ := hS.dp hFb hpe (X.2.f k0 (hw 1 (by decide)) fs) (X.2.f k0 (hw 2 (by decide)) fc)
    refine zWdecide zt115 6 rfl zo115 zzcV4_54 X k0 w0 (Nat.le_of_ble_eq_true rfl) hD (fun x4 M2 X3 hdq hlz2 _ => ?_)
    have q1b : 1 ≤ q1 ∧ q1 ≤ 10 := by omega
    have hoJ := z_oJdq ejv hcj hLL hdq
    have hb4w := hdq.1
    have hS2 := hS.dc X3 hlz2
    have X5 := X.go X3 (z_sb (by decide))
    show z_ev (d + 4) 115 27 [some (.ref a0), some (.ref a1), some (.int p2), some (.int p3), some (.int b4), some (.int b5), some (.int b6)] [.int x4, .int b4] M2 _
    refine z_xP zt115 7 28 [some (.ref a0), some (.ref a1), some (.int p2), some (.int p3), some (.int b4), some (.int b5), some (.int b6)] [.int p3, .int x4, .int b4] rfl rfl ?_
    have h7 := z_b32 x4
    refine z_xI zt115 8 rfl rfl (fun (x8 : Int32) (h8 : x8 = x4 >>> (p3 &&& 31)) => ?_) rfl
    refine z_xP zt115 9 30 [some (.ref a0), some (.ref a1), some (.int p2), some (.int p3), some (.int b4), some (.int b5), some (.int b6)] [.int 1, .int x8, .int b4] rfl rfl ?_
    refine z_xI zt115 10 rfl rfl (fun (x10 : Int32) (h11 : x10 = x8 &&& 1 ∧ 0 ≤ x10.toInt ∧ x10.toInt ≤ 1) => ?_) (⟨rfl, z_pAnd rfl (by omega)⟩)
    have hbit : x10.toInt = 1 ↔ x4.toInt.toNat / 2 ^ p3.toInt.toNat % 2 = 1 := z_b01h (z_sbit h8 h11.1 (by omega) ⟨by omega, by omega⟩)
    rw [← z_mdb _ (by omega)] at hbit
    have hP : (z_pYe ci B q1 pr en sh.toInt.toNat ch.toInt.toNat m1 p2.toInt.toNat S A p3.toInt.toNat) b6.toInt.toNat ↔ x10.toInt = 1 := by
      constructor
      · rintro ⟨y, u, g1, g2⟩
        obtain ⟨rfl, rfl⟩ := z_oJU g1 hoJ q1b.1
        exact hbit.mpr g2
      · exact fun g => ⟨_, _, hoJ, hbit.mp g⟩
    have h12 := z_b32 b4
    refine z_xI zt115 11 rfl rfl (fun (x13 : Int32) (h13 : x13.toInt = b4.toInt + x10.toInt) => ?_) (z_pAdd rfl rfl (by omega) (by omega))
    refine z_xP zt115 12 35 [some (.ref a0), some (.ref a1), some (.int p2), some (.int p3), some (.int x13), some (.int b5), some (.int b6)] [.ref a1] rfl rfl ?_
    refine z_xcV (vs := [.ref a1]) (r := []) (L2 := [some (.ref a1), none, none, none, none]) zt115 13 rfl zo115 zzcV4_68 (Or.inl rfl) rfl X5 k1 rfl rfl rfl (Nat.le_of_ble_eq_true rfl) zzm110 (Nat.le_of_ble_eq_true rfl) rfl ?_
    refine zUC110 X5.1 k1 hS2 hFb (by omega) (fun M15 X16 hS20 => ?_)
    have X17 := X5.go X16 (z_sb (by decide))
    show z_ev (d + 4) 115 38 [some (.ref a0), some (.ref a1), some (.int p2), some (.int p3), some (.int x13), some (.int b5), some (.int b6)] [] M15 _
    refine z_xN zt115 14 rfl rfl (fun (x19 : Int32) (h20 : x19.toInt = b6.toInt + 1) => ?_) (z_pAdd rfl rfl (by omega) (by omega))
    show z_ev (d + 4) 115 41 [some (.ref a0), some (.ref a1), some (.int p2), some (.int p3), some (.int x13), some (.int b5), some (.int x19)] [] M15 _
    refine z_xP zt115 15 13 [some (.ref a0), some (.ref a1), some (.int p2), some (.int p3), some (.int x13), some (.int b5), some (.int x19)] [] rfl rfl ?_
    have es : x19.toInt.toNat = b6.toInt.toNat + 1 := by omega
    refine ih M15 x13 b5 x19 X17 ⟨by omega, by omega⟩ ⟨by omega, by omega⟩ hb5 (by omega) (by rw [es]; exact hS20) ?_ (by omega)
    rw [es]
    by_cases g : x10.toInt = 1
    · exact ⟨cc + 1, _, z_krS hK (hP.mpr g), by omega⟩
    · exact ⟨cc, yy, z_krN hK (fun e => g (hP.mp e)), by omega⟩
theorem zUC115 {T : List zK} {d : Nat} {K : Option Value → zH → Prop} {a0 : Nat} {ci : Nat} {a1 : Nat} {q1 : Nat} {t1 : Nat} {m1 : Nat} {p2 : Int32} {p3 : Int32} {M0 : zH} (hW : z_W M0 T) (w0 : 4 ≤ ci ∧ ci ≤ 11) (k0 : T[a0]? = some (.inl (ci, 0, 0, 0, 0))) (k1 : T[a1]? = some (.inl (3, q1, t1, m1, 5))) (u2 : 1 ≤ p2.toInt ∧ p2.toInt ≤ 5) (u3 : 0 ≤ p3.toInt ∧ p3.toInt ≤ 9) {N pr en sa : Nat} {B : Nat → Nat} {S : Nat → Int32} {A sh ch : Int32} (hbk : z_blk T M0) (hN0 : z_F M0 a1 0 = some (.ref N)) (hag : z_AGO T M0 N q1 t1 m1 pr en B) (hsa : z_F M0 N 5 = some (.ref sa)) (ksa : T[sa]? = some (.inr (102, 0, m1, 0, 1023))) (hSS : ∀ k, k < m1 → z_Ar M0 sa k = S k) (hA : A.toInt = ((2 ^ q1 : Nat) : Int) - 1) (hlz : z_lz M0 a1) (hch : z_chO M0) (hpe : pr < 1024 ∧ en < 1024) (fs : z_F M0 a0 1 = some (.int sh)) (fc : z_F M0 a0 2 = some (.int ch)) (m12 : 1 ≤ m1 ∧ m1 ≤ 12) (hp3 : p3.toInt < (q1 : Int)) (kk : ∀ (x : Int32) (M1 : zH), z_X T zw115 M0 M1 → z_kA (z_pYe ci B q1 pr en sh.toInt.toNat ch.toInt.toNat m1 p2.toInt.toNat S A p3.toInt.toNat) (fun _ => 0) (z_T m1 p2.toInt.toNat) 0 x.toInt → z_lz M1 a1 → K (some (.int x)) M1) : z_ev (d + 4) 115 0 [some (.ref a0), some (.ref a1), some (.int p2), some (.int p3), none, none, none] [] M0 K := by
  have X : z_X T zw115 M0 M0 := .refl hW
  have g1 := X.1.p3 k1
  refine z_xP zt115 0 5 [some (.ref a0), some (.ref a1), some (.int p2), some (.int p3), some (.int 0), none, none] [.int p2, .ref a1] rfl rfl ?_
  refine z_xcV (vs := [.ref a1, .int p2]) (r := []) (L2 := [some (.ref a1), some (.int p2), none]) zt115 1 rfl zo115 zzcV4_45 (Or.inl rfl) rfl X k1 rfl rfl rfl (Nat.le_of_ble_eq_true rfl) zzm108 (Nat.le_of_ble_eq_true rfl) rfl ?_
  refine zUC108 X.1 k1 (by omega) hbk hN0 hag hsa ksa hSS hA hlz hch m12 (fun x11 M5 X6 h12 hS5 => ?_)
  have hTb := z_Tb m1 (by omega) p2.toInt.toNat (by omega)
  have X14 := X.go X6 (z_sb (by decide))
  show z_ev (d + 4) 115 8 [some (.ref a0), some (.ref a1), some (.int p2), some (.int p3), some (.int 0), none, none] [.int x11] M5 _
  refine z_xP zt115 2 13 [some (.ref a0), some (.ref a1), some (.int p2), some (.int p3), some (.int 0), some (.int x11), some (.int 0)] [] rfl rfl ?_
  have q0 : ((0 : Int32)).toInt = 0 := rfl
  exact (zUB115 w0 k0 k1 u2 u3 hpe fs fc m12 kk 16384) M5 (0) x11 (0) X14 ⟨by omega, by omega⟩ (by decide) h12 (by omega) hS5 ⟨0, -2, ⟨rfl, rfl⟩, rfl⟩ (by omega)
