/-! brokenBy of the reference (248), told -/
def z_bbI (B : Nat → Nat) (t y n s : Nat) (β : Int) : Prop := 0 ≤ β ∧ β.toNat < 2 ^ t ∧ ∀ i, i < t → (β.toNat / 2 ^ i % 2 = 1 ↔ ∀ s2, s2 < s → z_has s2 y n → B s2 / 2 ^ i % 2 = 1)
section ZBB
variable {B : Nat → Nat} {t y n s : Nat} {β : Int} {v b w : Int32}
theorem z_bb0 {x c b0 : Int32} (hx : x.toInt = (t : Int)) (ht : t ≤ 8) (hc : c = (1 : Int32) <<< (x &&& 31)) (hc1 : 1 ≤ c.toInt) (hv : v.toInt = c.toInt - 1) (h0 : b0.toInt = 0) : z_bbI B t y n b0.toInt.toNat v.toInt := by
  have e := z_2t1 hx ht hc hv
  have p := Nat.two_pow_pos t
  rw [h0]
  refine ⟨by omega, by omega, fun i hi => ⟨fun _ s2 h => absurd h (Nat.not_lt_zero s2), fun _ => ?_⟩⟩
  rw [e]
  exact z_2t1b t (by omega) i hi
theorem z_bbN (h : z_bbI B t y n s β) (hh : ¬ z_has s y n) : z_bbI B t y n (s + 1) β := ⟨h.1, h.2.1, fun i hi => by
  rw [h.2.2 i hi]
  refine ⟨fun a s2 hs h2 => ?_, fun a s2 hs => a s2 (by omega)⟩
  by_cases c : s2 = s
  · rw [c] at h2
    exact absurd h2 hh
  · exact a s2 (by omega) h2⟩
theorem z_bbY (h : z_bbI B t y n s v.toInt) (hh : z_has s y n) (hb : b.toInt = (B s : Int)) (hw : w = v &&& b) : z_bbI B t y n (s + 1) w.toInt := by
  obtain ⟨a1, a2, a3⟩ := z_ib_and hw h.1 (by omega)
  refine ⟨a1, by have := h.2.1; omega, fun i hi => ?_⟩
  have h3 := a3 i
  unfold z_ib at h3
  rw [h3, h.2.2 i hi, show b.toInt.toNat = B s by omega]
  refine ⟨fun ⟨c1, c2⟩ s2 hs h2 => ?_, fun c => ⟨fun s2 hs h2 => c s2 (by omega) h2, c s (Nat.lt_succ_self s) hh⟩⟩
  by_cases e : s2 = s
  · rw [e]
    exact c2
  · exact c1 s2 (by omega) h2
end ZBB
theorem zUB248 {T : List zK} {d : Nat} {K : Option Value → zH → Prop} {a q t m pr en : Nat} {B : Nat → Nat} {av yv nv : Int32} {M0 : zH} (hb9 : z_F M0 19 29 = some (.int av)) (ea : av.toInt = (a : Int)) (a8 : a < 8) (hG : y_AGO M0 a q t m pr en B) (q10 : q ≤ 10) (hy : z_F M0 19 34 = some (.int yv)) (hn : z_F M0 19 35 = some (.int nv)) (hyb : 0 ≤ yv.toInt ∧ yv.toInt < 1024) (hnb : 0 ≤ nv.toInt ∧ nv.toInt < 1024) (kk : ∀ (x : Int32) (M1 : zH), z_X T zw248 M0 M1 → 0 ≤ x.toInt → x.toInt ≤ 255 → z_brs B q t yv.toInt.toNat nv.toInt.toNat x.toInt → K (some (.int x)) M1) : ∀ n : Nat, (∀ (M : zH) (b1 : Int32) (b2 : Int32), z_X T zw248 M0 M → 0 ≤ b1.toInt ∧ b1.toInt ≤ 255 → 0 ≤ b2.toInt ∧ b2.toInt ≤ 1024 → b2.toInt.toNat ≤ 2 ^ q → z_bbI B t yv.toInt.toNat nv.toInt.toNat b2.toInt.toNat b1.toInt → ((0) * 2 + 0) * 1025 + (1024 - b2.toInt) < (n : Int) → z_ev (d + 1) 248 16 [some (.ref 19), some (.int b1), some (.int b2)] [] M K) := by
  intro n
  induction n with
  | zero => exact by intros; exfalso; omega
  | succ n ih =>
    intro M b1 b2 X hh0 hh1 hq0 hI hE
    refine z_xP zt248 9 19 [some (.ref 19), some (.int b1), some (.int b2)] [.ref 19, .int 1, .int b2] rfl rfl ?_
    have f19 : T[19]? = some (.inl (12, 0, 0, 0, 0)) := X.1.k rfl (by decide)
    refine z_xgX (b := 24) zt248 10 rfl zo248 zzf12_22 X f19 (by decide) (by decide) rfl ?_
    refine z_xP zt248 11 23 [some (.ref 19), some (.int b1), some (.int b2)] [.ref 19, .ref 24, .int 1, .int b2] rfl rfl ?_
    refine z_xgv zt248 12 rfl zo248 zzf12_242 X f19 (by decide) (X.2.f f19 (by decide) hb9) ?_
    have f24 : T[24]? = some (.inr (24, 0, 8, 0, 10)) := X.1.k rfl (by decide)
    refine z_xil zt248 13 rfl X f24 (by decide) (by omega) (by omega) (fun (x5 : Int32) h6 (h7 : 0 ≤ x5.toInt) (h8 : x5.toInt ≤ 10) => ?_)
    refine z_xI zt248 14 rfl rfl (fun (x9 : Int32) (h10 : x9 = (1 : Int32) <<< (x5 &&& 31) ∧ 1 ≤ x9.toInt ∧ x9.toInt ≤ 1024) => ?_) (⟨rfl, z_pShlB (a := 1) (b := 10) (c := 1024) (r := 1024) rfl rfl (by omega) (by omega) (by omega) (by omega) (by decide) (by decide) (by decide) (by decide)⟩)
    have e5 : x5.toInt = (q : Int) := by
      rw [← h6, X.2.a f24 (by decide), z_tnA ea]
      exact hG.1
    have e9 : x9.toInt = ((2 ^ q : Nat) : Int) := by
      have e := z_2q1 (x := x5) (by omega) (by omega) h10.1
      rw [show x5.toInt.toNat = q by omega] at e
      exact e
    refine z_xJ zt248 15 rfl rfl (fun (h11 : x9.toInt ≤ b2.toInt) => ?_) (fun (h11 : b2.toInt < x9.toInt) => ?_)
    · skip
      refine z_xP zt248 36 75 [some (.ref 19), some (.int b1), some (.int b2)] [.int b1] rfl rfl ?_
      have eq : b2.toInt.toNat = 2 ^ q := by
        generalize 2 ^ q = Pq at *
        omega
      rw [eq] at hI
      exact z_xri zt248 37 rfl zzr248 (kk b1 M X (by omega) (by omega) hI)
    refine z_xP zt248 16 34 [some (.ref 19), some (.int b1), some (.int b2)] [.ref 19, .int b2, .int b1] rfl rfl ?_
    refine z_xgv zt248 17 rfl zo248 zzf12_275 X f19 (by decide) (X.2.f f19 (by decide) hy) ?_
    refine z_xP zt248 18 38 [some (.ref 19), some (.int b1), some (.int b2)] [.ref 19, .int yv, .int b2, .int b1] rfl rfl ?_
    refine z_xgv zt248 19 rfl zo248 zzf12_278 X f19 (by decide) (X.2.f f19 (by decide) hn) ?_
    have hq1 : b2.toInt.toNat + 1 ≤ 2 ^ q := by
      generalize 2 ^ q = Pq at *
      omega
    have htb := z_htb (s := b2) (y := yv) (n := nv) ⟨by omega, by omega⟩ hyb hnb
    refine z_xcS (vs := [.int b2, .int yv, .int nv]) (r := [.int b1]) (L2 := [some (.int b2), some (.int yv), some (.int nv)]) zt248 20 rfl zo248 zzcS12_216 (Or.inl rfl) (Nat.le_of_ble_eq_true rfl) rfl rfl (Nat.le_of_ble_eq_true rfl) zzm216 (Nat.le_of_ble_eq_true rfl) rfl ?_
    refine z_xP zt216 0 2 [some (.int b2), some (.int yv), some (.int nv)] [.int yv, .int b2] rfl rfl ?_
    refine z_xI zt216 1 rfl rfl (fun (x20 : Int32) (h21 : x20 = b2 &&& yv) => ?_) rfl
    refine z_xP zt216 2 4 [some (.int b2), some (.int yv), some (.int nv)] [.int yv, .int x20] rfl rfl ?_
    have h22 := z_b32 yv
    have h22b := z_b32 x20
    refine z_xJ zt216 3 rfl rfl (fun (h23 : x20.toInt ≠ yv.toInt) => ?_) (fun (h23 : x20.toInt = yv.toInt) => ?_)
    · skip
      refine z_xP zt216 8 18 [some (.int b2), some (.int yv), some (.int nv)] [.int 0] rfl rfl ?_
      refine z_xrz zt216 9 rfl zzr216 (by decide) (by decide) ?_
      show z_ev (d + 1) 248 44 [some (.ref 19), some (.int b1), some (.int b2)] [.int 0, .int b1] M _
      refine z_xZ zt248 21 rfl rfl (fun (h24 : (0 : Int) = 0) => ?_) (fun (h24 : (0 : Int) ≠ 0) => absurd h24 (by omega))
      refine z_xP zt248 31 66 [some (.ref 19), some (.int b1), some (.int b2)] [.int b1, .int b1] rfl rfl ?_
      refine z_xI zt248 32 rfl rfl (fun (x25 : Int32) (h26 : x25 = b1 &&& b1) => ?_) rfl
      rw [Int32.and_self] at h26
      refine z_xP zt248 33 68 [some (.ref 19), some (.int x25), some (.int b2)] [] rfl rfl ?_
      refine z_xN zt248 34 rfl rfl (fun (x27 : Int32) (h28 : x27.toInt = b2.toInt + 1) => ?_) (z_pAdd rfl rfl (by omega) (by omega))
      show z_ev (d + 1) 248 71 [some (.ref 19), some (.int x25), some (.int x27)] [] M _
      refine z_xP zt248 35 16 [some (.ref 19), some (.int x25), some (.int x27)] [] rfl rfl ?_
      have hs := z_bbN hI (fun hh => h23 (by rw [h21]; exact (htb.mpr hh).1))
      rw [← h26, show b2.toInt.toNat + 1 = x27.toInt.toNat by omega] at hs
      exact ih M x25 x27 X ⟨by rw [h26]; omega, by rw [h26]; omega⟩ ⟨by omega, by omega⟩ (by omega) hs (by omega)
    refine z_xP zt216 4 9 [some (.int b2), some (.int yv), some (.int nv)] [.int nv, .int b2] rfl rfl ?_
    refine z_xI zt216 5 rfl rfl (fun (x29 : Int32) (h30 : x29 = b2 &&& nv) => ?_) rfl
    refine z_xZ zt216 6 rfl rfl (fun (h31 : x29.toInt ≠ 0) => ?_) (fun (h31 : x29.toInt = 0) => ?_)
    · skip
      refine z_xP zt216 8 18 [some (.int b2), some (.int yv), some (.int nv)] [.int 0] rfl rfl ?_
      refine z_xrz zt216 9 rfl zzr216 (by decide) (by decide) ?_
      show z_ev (d + 1) 248 44 [some (.ref 19), some (.int b1), some (.int b2)] [.int 0, .int b1] M _
      refine z_xZ zt248 21 rfl rfl (fun (h32 : (0 : Int) = 0) => ?_) (fun (h32 : (0 : Int) ≠ 0) => absurd h32 (by omega))
      refine z_xP zt248 31 66 [some (.ref 19), some (.int b1), some (.int b2)] [.int b1, .int b1] rfl rfl ?_
      refine z_xI zt248 32 rfl rfl (fun (x33 : Int32) (h34 : x33 = b1 &&& b1) => ?_) rfl
      rw [Int32.and_self] at h34
      refine z_xP zt248 33 68 [some (.ref 19), some (.int x33), some (.int b2)] [] rfl rfl ?_
      refine z_xN zt248 34 rfl rfl (fun (x35 : Int32) (h36 : x35.toInt = b2.toInt + 1) => ?_) (z_pAdd rfl rfl (by omega) (by omega))
      show z_ev (d + 1) 248 71 [some (.ref 19), some (.int x33), some (.int x35)] [] M _
      refine z_xP zt248 35 16 [some (.ref 19), some (.int x33), some (.int x35)] [] rfl rfl ?_
      have hs := z_bbN hI (fun hh => h31 (by rw [h30]; exact (htb.mpr hh).2))
      rw [← h34, show b2.toInt.toNat + 1 = x35.toInt.toNat by omega] at hs
      exact ih M x33 x35 X ⟨by rw [h34]; omega, by rw [h34]; omega⟩ ⟨by omega, by omega⟩ (by omega) hs (by omega)
    refine z_xP zt216 7 18 [some (.int b2), some (.int yv), some (.int nv)] [.int 1] rfl rfl ?_
    refine z_xrz zt216 9 rfl zzr216 (by decide) (by decide) ?_
    show z_ev (d + 1) 248 44 [some (.ref 19), some (.int b1), some (.int b2)] [.int 1, .int b1] M _
    refine z_xZ zt248 21 rfl rfl (fun (h37 : (1 : Int) = 0) => absurd h37 (by omega)) (fun (h37 : (1 : Int) ≠ 0) => ?_)
    refine z_xP zt248 22 48 [some (.ref 19), some (.int b1), some (.int b2)] [.ref 19, .int b1] rfl rfl ?_
    refine z_xgX (b := 29) zt248 23 rfl zo248 zzf12_37 X f19 (by decide) (by decide) rfl ?_
    refine z_xP zt248 24 55 [some (.ref 19), some (.int b1), some (.int b2)] [.ref 19, .int 1024, .ref 29, .int b1] rfl rfl ?_
    refine z_xgv zt248 25 rfl zo248 zzf12_242 X f19 (by decide) (X.2.f f19 (by decide) hb9) ?_
    refine z_xI zt248 26 rfl rfl (fun (x38 : Int32) (h39 : x38.toInt = 1024 * av.toInt) => ?_) (z_pMul rfl rfl (by omega) (by omega))
    refine z_xP zt248 27 60 [some (.ref 19), some (.int b1), some (.int b2)] [.int b2, .int x38, .ref 29, .int b1] rfl rfl ?_
    refine z_xI zt248 28 rfl rfl (fun (x40 : Int32) (h41 : x40.toInt = x38.toInt + b2.toInt) => ?_) (z_pAdd rfl rfl (by omega) (by omega))
    have f29 : T[29]? = some (.inr (29, 0, 8192, (-2147483648), 2147483647)) := X.1.k rfl (by decide)
    refine z_xil zt248 29 rfl X f29 (by decide) (by omega) (by omega) (fun (x42 : Int32) h43 (h44 : (-2147483648) ≤ x42.toInt) (h45 : x42.toInt ≤ 2147483647) => ?_)
    refine z_xP zt248 30 66 [some (.ref 19), some (.int b1), some (.int b2)] [.int x42, .int b1] rfl rfl ?_
    refine z_xI zt248 32 rfl rfl (fun (x46 : Int32) (h47 : x46 = b1 &&& x42 ∧ 0 ≤ x46.toInt ∧ x46.toInt ≤ b1.toInt) => ?_) (⟨rfl, z_pAndL rfl (by omega)⟩)
    refine z_xP zt248 33 68 [some (.ref 19), some (.int x46), some (.int b2)] [] rfl rfl ?_
    refine z_xN zt248 34 rfl rfl (fun (x48 : Int32) (h49 : x48.toInt = b2.toInt + 1) => ?_) (z_pAdd rfl rfl (by omega) (by omega))
    show z_ev (d + 1) 248 71 [some (.ref 19), some (.int x46), some (.int x48)] [] M _
    refine z_xP zt248 35 16 [some (.ref 19), some (.int x46), some (.int x48)] [] rfl rfl ?_
    have e42 : x42.toInt = (B b2.toInt.toNat : Int) := by
      rw [← h43, X.2.a f29 (by decide), show x40.toNatClampNeg = 1024 * a + b2.toInt.toNat by
        show x40.toInt.toNat = _
        omega]
      exact hG.2.2.2.2.2.1 _ (by omega)
    have hs := z_bbY hI (htb.mp ⟨by rw [← h21]; exact h23, by rw [← h30]; exact h31⟩) e42 h47.1
    rw [show b2.toInt.toNat + 1 = x48.toInt.toNat by omega] at hs
    exact ih M x46 x48 X ⟨by omega, by omega⟩ ⟨by omega, by omega⟩ (by omega) hs (by omega)
theorem zUC248 {T : List zK} {d : Nat} {K : Option Value → zH → Prop} {a q t m pr en : Nat} {B : Nat → Nat} {av yv nv : Int32} {M0 : zH} (hW : z_W M0 T) (hb9 : z_F M0 19 29 = some (.int av)) (ea : av.toInt = (a : Int)) (a8 : a < 8) (hG : y_AGO M0 a q t m pr en B) (q10 : q ≤ 10) (hy : z_F M0 19 34 = some (.int yv)) (hn : z_F M0 19 35 = some (.int nv)) (hyb : 0 ≤ yv.toInt ∧ yv.toInt < 1024) (hnb : 0 ≤ nv.toInt ∧ nv.toInt < 1024) (kk : ∀ (x : Int32) (M1 : zH), z_X T zw248 M0 M1 → 0 ≤ x.toInt → x.toInt ≤ 255 → z_brs B q t yv.toInt.toNat nv.toInt.toNat x.toInt → K (some (.int x)) M1) : z_ev (d + 1) 248 0 [some (.ref 19), none, none] [] M0 K := by
  have X : z_X T zw248 M0 M0 := .refl hW
  refine z_xP zt248 0 2 [some (.ref 19), none, none] [.ref 19, .int 1] rfl rfl ?_
  have f19 : T[19]? = some (.inl (12, 0, 0, 0, 0)) := X.1.k rfl (by decide)
  refine z_xgX (b := 25) zt248 1 rfl zo248 zzf12_25 X f19 (by decide) (by decide) rfl ?_
  refine z_xP zt248 2 6 [some (.ref 19), none, none] [.ref 19, .ref 25, .int 1] rfl rfl ?_
  refine z_xgv zt248 3 rfl zo248 zzf12_242 X f19 (by decide) hb9 ?_
  have f25 : T[25]? = some (.inr (25, 0, 8, 0, 8)) := X.1.k rfl (by decide)
  refine z_xil zt248 4 rfl X f25 (by decide) (by omega) (by omega) (fun (x5 : Int32) h6 (h7 : 0 ≤ x5.toInt) (h8 : x5.toInt ≤ 8) => ?_)
  refine z_xI zt248 5 rfl rfl (fun (x9 : Int32) (h10 : x9 = (1 : Int32) <<< (x5 &&& 31) ∧ 1 ≤ x9.toInt ∧ x9.toInt ≤ 256) => ?_) (⟨rfl, z_pShlB (a := 1) (b := 8) (c := 256) (r := 256) rfl rfl (by omega) (by omega) (by omega) (by omega) (by decide) (by decide) (by decide) (by decide)⟩)
  have e5 : x5.toInt = (t : Int) := by
    rw [← h6, z_tnA ea]
    exact hG.2.1
  refine z_xP zt248 6 12 [some (.ref 19), none, none] [.int 1, .int x9] rfl rfl ?_
  refine z_xI zt248 7 rfl rfl (fun (x11 : Int32) (h12 : x11.toInt = x9.toInt - 1) => ?_) (z_pSub rfl rfl (by omega) (by omega))
  refine z_xP zt248 8 16 [some (.ref 19), some (.int x11), some (.int 0)] [] rfl rfl ?_
  have q0 : ((0 : Int32)).toInt = 0 := rfl
  exact (zUB248 hb9 ea a8 hG q10 hy hn hyb hnb kk 2050) M0 x11 (0) X ⟨by omega, by omega⟩ (by decide) (by rw [q0]; exact Nat.zero_le _) (z_bb0 e5 (by omega) h10.1 (by omega) h12 rfl) (by omega)
