/-! twisted, the reference -/
theorem z_set1S {f : Nat → Int32} {j i : Nat} : z_set1 f j (f j) i = f i := by
  show (if i = j then f j else f i) = f i
  by_cases c : i = j
  · rw [if_pos c, c]
  · rw [if_neg c]
theorem zYB261 {T : List zK} {d : Nat} {K : Option Value → zH → Prop} {a q m pr en J kd sh ch : Nat} {B : Nat → Nat} {av sv : Int32} {ww yy nn : Nat → Int32} {A : Int32} {p1 p2 : Int32} {M0 : zH} (hR : z_RP T M0 a q m pr en B av sv) (eJ : sv.toInt.toNat = J) (eqs : ∀ j, j < J → z_Ar M0 39 j = ww j ∧ z_Ar M0 40 j = yy j ∧ z_Ar M0 41 j = nn j) (jok : ∀ j, j < J → z_jok q (ww j) (yy j) (nn j)) (u1 : 0 ≤ p1.toInt ∧ p1.toInt ≤ 19) (u2 : 0 ≤ p2.toInt ∧ p2.toInt ≤ 8) (hj : p2.toInt.toNat < J) (hkd : (z_Ar M0 36 p1.toInt.toNat).toInt = (kd : Int)) (hsh : (z_Ar M0 37 p1.toInt.toNat).toInt = (sh : Int)) (hch : (z_Ar M0 38 p1.toInt.toNat).toInt = (ch : Int)) (hA : A.toInt = ((2 ^ q : Nat) : Int) - 1) (hnn : nn p2.toInt.toNat = A &&& (yy p2.toInt.toNat ^^^ (-1 : Int32))) {f0 : Nat} (hf0 : (z_lkJ (kd + 4) B q pr en sh J ch ww yy nn p2.toInt.toNat (yy p2.toInt.toNat).toInt.toNat) (yy p2.toInt.toNat).toInt.toNat f0) (kk : ∀ (x : Int32) (M1 : zH), z_X T zw261 M0 M1 → (∀ i, i < J → z_Ar M1 40 i = yy i ∧ z_Ar M1 41 i = nn i) → (∃ mo, z_bsI (z_lkJ (kd + 4) B q pr en sh J ch ww yy nn p2.toInt.toNat (yy p2.toInt.toNat).toInt.toNat) (fun k => (z_Ar M0 30 (1024 * a + k)).toInt.toNat) f0 m mo x.toInt) → K (some (.int x)) M1) : ∀ n : Nat, (∀ (M : zH) (b3 : Int32) (b4 : Int32) (b5 : Int32) (b6 : Int32) (b7 : Int32) (o8 : Option Value), z_X T zw261 M0 M → (-2) ≤ b6.toInt ∧ b6.toInt ≤ 1023 → 0 ≤ b7.toInt ∧ b7.toInt ≤ 1024 → b7.toInt ≤ (m : Int) → b3 = yy p2.toInt.toNat → b4 = nn p2.toInt.toNat → (∀ i, i < J → i ≠ p2.toInt.toNat → z_Ar M 40 i = yy i ∧ z_Ar M 41 i = nn i) → z_bsQ (z_lkJ (kd + 4) B q pr en sh J ch ww yy nn p2.toInt.toNat (yy p2.toInt.toNat).toInt.toNat) (fun k => (z_Ar M0 30 (1024 * a + k)).toInt.toNat) f0 q b7.toInt.toNat b5.toInt b6.toInt → ((0) * 2 + 0) * 1025 + (1024 - b7.toInt) < (n : Int) → z_ev (d + 5) 261 34 [some (.ref 19), some (.int p1), some (.int p2), some (.int b3), some (.int b4), some (.int b5), some (.int b6), some (.int b7), o8] [] M K) := by
  intro n
  induction n with
  | zero => exact by intros; exfalso; omega
  | succ n ih =>
    intro M b3 b4 b5 b6 b7 o8 X hh0 hh1 hm7 hb3 hb4 hEo hQ hE
    obtain ⟨mo, hmo, hbs⟩ := hQ
    obtain ⟨hW0, ⟨hb9, ea, a8⟩, ⟨hs, hsv⟩, ⟨q1, q10⟩, ⟨t, hG⟩, hm, _, _⟩ := id hR
    have hG31 := hG.2.2.2.2.1
    have hLS := hG.2.2.2.2.2.2
    have hy0 := (jok _ hj).1.1
    refine z_xP zt261 13 37 [some (.ref 19), some (.int p1), some (.int p2), some (.int b3), some (.int b4), some (.int b5), some (.int b6), some (.int b7), o8] [.ref 19, .int b7] rfl rfl ?_
    have f19 : T[19]? = some (.inl (12, 0, 0, 0, 0)) := X.1.k rfl (by decide)
    refine z_xgX (b := 31) zt261 14 rfl zo261 zzf12_43 X f19 (by decide) (by decide) rfl ?_
    refine z_xP zt261 15 41 [some (.ref 19), some (.int p1), some (.int p2), some (.int b3), some (.int b4), some (.int b5), some (.int b6), some (.int b7), o8] [.ref 19, .ref 31, .int b7] rfl rfl ?_
    refine z_xgv zt261 16 rfl zo261 zzf12_242 X f19 (by decide) (X.2.f f19 (by decide) hb9) ?_
    have f31 : T[31]? = some (.inr (31, 0, 8, 0, 1024)) := X.1.k rfl (by decide)
    refine z_xil zt261 17 rfl X f31 (by decide) (by omega) (by omega) (fun (x5 : Int32) h6 (h7 : 0 ≤ x5.toInt) (h8 : x5.toInt ≤ 1024) => ?_)
    have e5 : x5.toInt = (m : Int) := by
      rw [← h6, X.2.a f31 (by decide), z_tnA ea]
      exact hG31
    refine z_xJ zt261 18 rfl rfl (fun (h9 : x5.toInt ≤ b7.toInt) => ?_) (fun (h9 : b7.toInt < x5.toInt) => ?_)
    · skip
      refine z_xP zt261 52 128 [some (.ref 19), some (.int p1), some (.int p2), some (.int b3), some (.int b4), some (.int b5), some (.int b6), some (.int b7), o8] [.ref 19] rfl rfl ?_
      refine z_xgX (b := 40) zt261 53 rfl zo261 zzf12_70 X f19 (by decide) (by decide) rfl ?_
      refine z_xP zt261 54 133 [some (.ref 19), some (.int p1), some (.int p2), some (.int b3), some (.int b4), some (.int b5), some (.int b6), some (.int b7), o8] [.int b3, .int p2, .ref 40] rfl rfl ?_
      have f40 : T[40]? = some (.inr (40, 0, 9, (-2147483648), 2147483647)) := X.1.k rfl (by decide)
      refine z_xis zt261 55 rfl X f40 (by decide) (by decide) (by omega) (by omega) (Int32.le_toInt _) (Int32.toInt_le _) (by decide) (fun M10 X11 e12 h13 => ?_)
      refine z_xP zt261 56 135 [some (.ref 19), some (.int p1), some (.int p2), some (.int b3), some (.int b4), some (.int b5), some (.int b6), some (.int b7), o8] [.ref 19] rfl rfl ?_
      refine z_xgX (b := 41) zt261 57 rfl zo261 zzf12_73 X11 f19 (by decide) (by decide) rfl ?_
      refine z_xP zt261 58 141 [some (.ref 19), some (.int p1), some (.int p2), some (.int b3), some (.int b4), some (.int b5), some (.int b6), some (.int b7), o8] [.int b4, .int p2, .ref 41] rfl rfl ?_
      have f41 : T[41]? = some (.inr (41, 0, 9, (-2147483648), 2147483647)) := X11.1.k rfl (by decide)
      refine z_xis zt261 59 rfl X11 f41 (by decide) (by decide) (by omega) (by omega) (Int32.le_toInt _) (Int32.toInt_le _) (by decide) (fun M14 X15 e16 h17 => ?_)
      refine z_xP zt261 60 144 [some (.ref 19), some (.int p1), some (.int p2), some (.int b3), some (.int b4), some (.int b5), some (.int b6), some (.int b7), o8] [.int b6] rfl rfl ?_
      have ge0 := z_updJ ((e16.a f40 (by decide)).trans h13) (h := yy) (J := J) fun i hi hne => (hEo i hi hne).1
      have ge1 := z_updJ h17 (h := nn) (J := J) fun i hi hne => (congrFun (e12.a f41 (by decide)) i).trans (hEo i hi hne).2
      have hse : ∀ i, i < J → z_Ar M14 40 i = yy i ∧ z_Ar M14 41 i = nn i := fun i hi => ⟨by rw [ge0 i hi, hb3]; exact z_set1S, by rw [ge1 i hi, hb4]; exact z_set1S⟩
      exact z_xri zt261 61 rfl zzr261 (kk b6 M14 X15 hse ⟨mo, by rw [show m = b7.toInt.toNat by omega]; exact hbs⟩)
    refine z_xP zt261 19 49 [some (.ref 19), some (.int p1), some (.int p2), some (.int b3), some (.int b4), some (.int b5), some (.int b6), some (.int b7), o8] [.ref 19] rfl rfl ?_
    refine z_xgX (b := 30) zt261 20 rfl zo261 zzf12_40 X f19 (by decide) (by decide) rfl ?_
    refine z_xP zt261 21 56 [some (.ref 19), some (.int p1), some (.int p2), some (.int b3), some (.int b4), some (.int b5), some (.int b6), some (.int b7), o8] [.ref 19, .int 1024, .ref 30] rfl rfl ?_
    refine z_xgv zt261 22 rfl zo261 zzf12_242 X f19 (by decide) (X.2.f f19 (by decide) hb9) ?_
    refine z_xI zt261 23 rfl rfl (fun (x18 : Int32) (h19 : x18.toInt = 1024 * av.toInt) => ?_) (z_pMul rfl rfl (by omega) (by omega))
    refine z_xP zt261 24 62 [some (.ref 19), some (.int p1), some (.int p2), some (.int b3), some (.int b4), some (.int b5), some (.int b6), some (.int b7), o8] [.int b7, .int x18, .ref 30] rfl rfl ?_
    refine z_xI zt261 25 rfl rfl (fun (x20 : Int32) (h21 : x20.toInt = x18.toInt + b7.toInt) => ?_) (z_pAdd rfl rfl (by omega) (by omega))
    have f30 : T[30]? = some (.inr (30, 0, 8192, 0, 1023)) := X.1.k rfl (by decide)
    refine z_xil zt261 26 rfl X f30 (by decide) (by omega) (by omega) (fun (x22 : Int32) h23 (h24 : 0 ≤ x22.toInt) (h25 : x22.toInt ≤ 1023) => ?_)
    have hsx : z_Ar M0 30 (1024 * a + b7.toInt.toNat) = x22 := by
      rw [← h23, X.2.a f30 (by decide)]
      refine congrArg _ ?_
      show _ = x20.toInt.toNat
      omega
    obtain ⟨sn, sn1, sn2⟩ : ∃ s : Nat, s < 2 ^ q ∧ x22.toInt = (s : Int) := by
      obtain ⟨s, s1, s2, s3⟩ := z_lc_ex (B := B) (2 ^ q) b7.toInt.toNat (by omega)
      have e : (z_Ar M0 30 (1024 * a + z_lc B s)).toInt = (s : Int) := hLS s s1 s2
      rw [s3, hsx] at e
      exact ⟨s, s1, e⟩
    refine z_xP zt261 27 69 [some (.ref 19), some (.int p1), some (.int p2), some (.int b3), some (.int b4), some (.int b5), some (.int b6), some (.int b7), some (.int x22)] [.int b3, .int x22] rfl rfl ?_
    have h26 := z_b32 b3
    refine z_xJ zt261 28 rfl rfl (fun (h27 : x22.toInt = b3.toInt) => ?_) (fun (h27 : x22.toInt ≠ b3.toInt) => ?_)
    · skip
      refine z_xN zt261 50 rfl rfl (fun (x28 : Int32) (h29 : x28.toInt = b7.toInt + 1) => ?_) (z_pAdd rfl rfl (by omega) (by omega))
      show z_ev (d + 5) 261 124 [some (.ref 19), some (.int p1), some (.int p2), some (.int b3), some (.int b4), some (.int b5), some (.int b6), some (.int x28), some (.int x22)] [] M _
      refine z_xP zt261 51 34 [some (.ref 19), some (.int p1), some (.int p2), some (.int b3), some (.int b4), some (.int b5), some (.int b6), some (.int x28), some (.int x22)] [] rfl rfl ?_
      have hs := z_bsN hbs fun l hl => by
        have e : (z_Ar M0 30 (1024 * a + b7.toInt.toNat)).toInt.toNat = (yy p2.toInt.toNat).toInt.toNat := by rw [hsx, ← hb3]; omega
        have hl2 : (z_lkJ (kd + 4) B q pr en sh J ch ww yy nn p2.toInt.toNat (yy p2.toInt.toNat).toInt.toNat) (z_Ar M0 30 (1024 * a + b7.toInt.toNat)).toInt.toNat l := hl
        rw [e] at hl2
        rw [z_lkJU q1 _ _ _ hl2 hf0]
        exact z_bsge hbs
      rw [show b7.toInt.toNat + 1 = x28.toInt.toNat by omega] at hs
      exact ih M b3 b4 b5 b6 x28 (some (.int x22)) X ⟨by omega, by omega⟩ ⟨by omega, by omega⟩ (by omega) hb3 hb4 hEo ⟨mo, hmo, hs⟩ (by omega)
    refine z_xP zt261 29 73 [some (.ref 19), some (.int p1), some (.int p2), some (.int b3), some (.int b4), some (.int b5), some (.int b6), some (.int b7), some (.int x22)] [.ref 19] rfl rfl ?_
    refine z_xgX (b := 40) zt261 30 rfl zo261 zzf12_70 X f19 (by decide) (by decide) rfl ?_
    refine z_xP zt261 31 79 [some (.ref 19), some (.int p1), some (.int p2), some (.int b3), some (.int b4), some (.int b5), some (.int b6), some (.int b7), some (.int x22)] [.int x22, .int p2, .ref 40] rfl rfl ?_
    have f40 : T[40]? = some (.inr (40, 0, 9, (-2147483648), 2147483647)) := X.1.k rfl (by decide)
    refine z_xis zt261 32 rfl X f40 (by decide) (by decide) (by omega) (by omega) (Int32.le_toInt _) (Int32.toInt_le _) (by decide) (fun M30 X31 e32 h33 => ?_)
    refine z_xP zt261 33 81 [some (.ref 19), some (.int p1), some (.int p2), some (.int b3), some (.int b4), some (.int b5), some (.int b6), some (.int b7), some (.int x22)] [.ref 19] rfl rfl ?_
    refine z_xgX (b := 41) zt261 34 rfl zo261 zzf12_73 X31 f19 (by decide) (by decide) rfl ?_
    refine z_xP zt261 35 86 [some (.ref 19), some (.int p1), some (.int p2), some (.int b3), some (.int b4), some (.int b5), some (.int b6), some (.int b7), some (.int x22)] [.ref 19, .int p2, .ref 41] rfl rfl ?_
    refine z_xcV (vs := [.ref 19]) (r := [.int p2, .ref 41]) (L2 := [some (.ref 19)]) zt261 36 rfl zo261 zzcV12_248 (Or.inl rfl) rfl X31 f19 rfl rfl rfl (Nat.le_of_ble_eq_true rfl) zzm240 (Nat.le_of_ble_eq_true rfl) rfl ?_
    refine z_xP zt240 0 2 [some (.ref 19)] [.ref 19, .int 1] rfl rfl ?_
    refine z_xgX (b := 24) zt240 1 rfl zo240 zzf12_22 X31 f19 (by decide) (by decide) rfl ?_
    refine z_xP zt240 2 6 [some (.ref 19)] [.ref 19, .ref 24, .int 1] rfl rfl ?_
    have h34 := (e32.f f19 (by decide) (X.2.f f19 (by decide) hb9))
    refine z_xgv zt240 3 rfl zo240 zzf12_242 X31 f19 (by decide) h34 ?_
    have f24 : T[24]? = some (.inr (24, 0, 8, 0, 10)) := X31.1.k rfl (by decide)
    refine z_xil zt240 4 rfl X31 f24 (by decide) (by omega) (by omega) (fun (x35 : Int32) h36 (h37 : 0 ≤ x35.toInt) (h38 : x35.toInt ≤ 10) => ?_)
    refine z_xI zt240 5 rfl rfl (fun (x39 : Int32) (h40 : x39 = (1 : Int32) <<< (x35 &&& 31) ∧ 1 ≤ x39.toInt ∧ x39.toInt ≤ 1024) => ?_) (⟨rfl, z_pShlB (a := 1) (b := 10) (c := 1024) (r := 1024) rfl rfl (by omega) (by omega) (by omega) (by omega) (by decide) (by decide) (by decide) (by decide)⟩)
    have e35 : x35.toInt = (q : Int) := by
      rw [← h36, e32.a f24 (by decide), X.2.a f24 (by decide), z_tnA ea]
      exact hG.1
    refine z_xP zt240 6 12 [some (.ref 19)] [.int 1, .int x39] rfl rfl ?_
    refine z_xI zt240 7 rfl rfl (fun (x41 : Int32) (h42 : x41.toInt = x39.toInt - 1) => ?_) (z_pSub rfl rfl (by omega) (by omega))
    have hA2 := z_all2 e35 q10 h40.1 h42
    refine z_xri zt240 8 rfl zzr240 ?_
    show z_ev (d + 5) 261 89 [some (.ref 19), some (.int p1), some (.int p2), some (.int b3), some (.int b4), some (.int b5), some (.int b6), some (.int b7), some (.int x22)] [.int x41, .int p2, .ref 41] M30 _
    refine z_xP zt261 37 92 [some (.ref 19), some (.int p1), some (.int p2), some (.int b3), some (.int b4), some (.int b5), some (.int b6), some (.int b7), some (.int x22)] [.int (-1), .int x22, .int x41, .int p2, .ref 41] rfl rfl ?_
    refine z_xI zt261 38 rfl rfl (fun (x43 : Int32) (h43 : x43 = x22 ^^^ (-1 : Int32)) => ?_) rfl
    refine z_xI zt261 39 rfl rfl (fun (x45 : Int32) (h46 : x45 = x41 &&& x43) => ?_) rfl
    have f41 : T[41]? = some (.inr (41, 0, 9, (-2147483648), 2147483647)) := X31.1.k rfl (by decide)
    refine z_xis zt261 40 rfl X31 f41 (by decide) (by decide) (by omega) (by omega) (Int32.le_toInt _) (Int32.toInt_le _) (by decide) (fun M47 X48 e49 h50 => ?_)
    refine z_xP zt261 41 97 [some (.ref 19), some (.int p1), some (.int p2), some (.int b3), some (.int b4), some (.int b5), some (.int b6), some (.int b7), some (.int x22)] [.int p1, .ref 19] rfl rfl ?_
    refine z_xcV (vs := [.ref 19, .int p1]) (r := []) (L2 := [some (.ref 19), some (.int p1), none]) zt261 42 rfl zo261 zzcV12_303 (Or.inl rfl) rfl X48 f19 rfl rfl rfl (Nat.le_of_ble_eq_true rfl) zzm239 (Nat.le_of_ble_eq_true rfl) rfl ?_
    rw [h43] at h46
    have hax := z_ansNo (Y := x22) hA2 q10 ⟨by omega, by generalize 2 ^ q = Pq at *; omega⟩
    have g40 : ∀ i, i < J → z_Ar M47 40 i = z_set1 yy p2.toInt.toNat x22 i := z_updJ ((e49.a f40 (by decide)).trans h33) fun i hi hne => (hEo i hi hne).1
    have g41 : ∀ i, i < J → z_Ar M47 41 i = z_set1 nn p2.toInt.toNat (x41 &&& (x22 ^^^ (-1 : Int32))) i := by
      rw [← h46]
      exact z_updJ h50 fun i hi hne => (congrFun (e32.a f41 (by decide)) i).trans (hEo i hi hne).2
    have cj : ∀ i, i < J → z_Ar M47 39 i = ww i ∧ z_Ar M47 40 i = z_set1 yy p2.toInt.toNat x22 i ∧ z_Ar M47 41 i = z_set1 nn p2.toInt.toNat (x41 &&& (x22 ^^^ (-1 : Int32))) i := fun i hi => ⟨(congrFun (X48.2.a (hW0.k (k := 39) (κ := z_af 39 9) rfl (by decide)) (by decide)) i).trans (eqs i hi).1, g40 i hi, g41 i hi⟩
    have hRP := z_RPalt hR X48 (by decide) eJ cj (z_jok.al jok hax)
    refine zUC239 hRP u1 (kd := kd) (sh := sh) (ch := ch) (by rw [X48.2.a (hW0.k (k := 36) (κ := z_ai 36 20 0 7) rfl (by decide)) (by decide)]; exact hkd) (by rw [X48.2.a (hW0.k (k := 37) (κ := z_ai 37 20 0 9) rfl (by decide)) (by decide)]; exact hsh) (by rw [X48.2.a (hW0.k (k := 38) (κ := z_ai 38 20 0 8) rfl (by decide)) (by decide)]; exact hch) (fun M51 yv nv X52 hyv hnv hyn hout => ?_)
    have hoJ := z_oJwo eJ cj hout
    have hyl := z_outL hout q1
    have X53 := X48.go X52 (z_sb (by decide))
    show z_ev (d + 5) 261 100 [some (.ref 19), some (.int p1), some (.int p2), some (.int b3), some (.int b4), some (.int b5), some (.int b6), some (.int b7), some (.int x22)] [] M51 _
    refine z_xP zt261 43 102 [some (.ref 19), some (.int p1), some (.int p2), some (.int b3), some (.int b4), some (.int b5), some (.int b6), some (.int b7), some (.int x22)] [.int b3, .ref 19] rfl rfl ?_
    refine z_xcV (vs := [.ref 19, .int b3]) (r := []) (L2 := [some (.ref 19), some (.int b3)]) zt261 44 rfl zo261 zzcV12_333 (Or.inl rfl) rfl X53 f19 rfl rfl rfl (Nat.le_of_ble_eq_true rfl) zzm262 (Nat.le_of_ble_eq_true rfl) rfl ?_
    refine z_xP zt262 0 1 [some (.ref 19), some (.int b3)] [.ref 19] rfl rfl ?_
    refine z_xgX (b := 24) zt262 1 rfl zo262 zzf12_22 X53 f19 (by decide) (by decide) rfl ?_
    refine z_xP zt262 2 5 [some (.ref 19), some (.int b3)] [.ref 19, .ref 24] rfl rfl ?_
    have h55 := (X52.2.f f19 (by decide) (e49.f f19 (by decide) h34))
    refine z_xgv zt262 3 rfl zo262 zzf12_242 X53 f19 (by decide) h55 ?_
    refine z_xil zt262 4 rfl X53 f24 (by decide) (by omega) (by omega) (fun (x56 : Int32) h57 (h58 : 0 ≤ x56.toInt) (h59 : x56.toInt ≤ 10) => ?_)
    have e56 : x56.toInt = (q : Int) := by have := congrArg Int32.toInt (h57.symm.trans ((congrFun (X52.2.a f24 (by decide)) _).trans ((congrFun (e49.a f24 (by decide)) _).trans h36))); omega
    have h60 := congrArg Int32.toInt (h57.symm.trans ((congrFun (X52.2.a f24 (by decide)) _).trans ((congrFun (e49.a f24 (by decide)) _).trans h36)))
    refine z_xP zt262 5 10 [some (.ref 19), some (.int b3)] [.ref 19, .int x56] rfl rfl ?_
    refine z_xgv zt262 6 rfl zo262 zzf12_275 X53 f19 (by decide) hyv ?_
    refine z_xP zt262 7 14 [some (.ref 19), some (.int b3)] [.int b3, .int yv, .int x56] rfl rfl ?_
    refine z_xI zt262 8 rfl rfl (fun (x65 : Int32) (hx65 : x65 = yv &&& b3) => ?_) rfl
    refine z_xP zt262 9 16 [some (.ref 19), some (.int b3)] [.ref 19, .int x65, .int x56] rfl rfl ?_
    refine z_xgv zt262 10 rfl zo262 zzf12_278 X53 f19 (by decide) hnv ?_
    refine z_xP zt262 11 21 [some (.ref 19), some (.int b3)] [.int (-1), .int b3, .int nv, .int x65, .int x56] rfl rfl ?_
    refine z_xI zt262 12 rfl rfl (fun (x71 : Int32) (hx71 : x71 = b3 ^^^ (-1 : Int32)) => ?_) rfl
    refine z_xI zt262 13 rfl rfl (fun (x73 : Int32) (hx73 : x73 = nv &&& x71) => ?_) rfl
    refine z_xI zt262 14 rfl rfl (fun (x75 : Int32) (hx75 : x75 = x65 ||| x73) => ?_) rfl
    have hlkx75 := z_lkR (o := (yy p2.toInt.toNat).toInt.toNat) hyn.1 hyn.2 (sv := b3) (by rw [hb3]; omega) hx65 hx71 hx73 hx75
    refine z_xcS (vs := [.int x75]) (r := [.int x56]) (L2 := [some (.int x75), none, none]) zt262 15 rfl zo262 zzcS12_193 (Or.inl rfl) (Nat.le_of_ble_eq_true rfl) rfl rfl (Nat.le_of_ble_eq_true rfl) zzm207 (Nat.le_of_ble_eq_true rfl) rfl ?_
    refine zUC207 X53.1 hlkx75.1 (fun x79 M77 X78 hcx79 => ?_)
    rw [hlkx75.2] at hcx79
    have hllx79 := (z_lkl (o := (yy p2.toInt.toNat).toInt.toNat) hyl.1 hyl.2 10).2
    have X80 := X53.go X78 (z_sb (by decide))
    show z_ev (d + 4) 262 27 [some (.ref 19), some (.int b3)] [.int x79, .int x56] M77 _
    have h82 := z_b32 x79
    refine z_xI zt262 16 rfl rfl (fun (x83 : Int32) (hx83 : x83.toInt = x56.toInt - x79.toInt) => ?_) (z_pSub rfl rfl (by omega) (by omega))
    refine z_xri zt262 17 rfl zzr262 ?_
    show z_ev (d + 5) 261 105 [some (.ref 19), some (.int p1), some (.int p2), some (.int b3), some (.int b4), some (.int b5), some (.int b6), some (.int b7), some (.int x22)] [.int x83] M77 _
    refine z_xP zt261 45 107 [some (.ref 19), some (.int p1), some (.int p2), some (.int b3), some (.int b4), some (.int b5), some (.int b6), some (.int b7), some (.int x22)] [.int b5, .int x83] rfl rfl ?_
    have h85 := z_b32 x83
    have h86 := z_b32 b5
    have hLk : (z_lkJ (kd + 4) B q pr en sh J ch ww yy nn p2.toInt.toNat (yy p2.toInt.toNat).toInt.toNat) ((fun k => (z_Ar M0 30 (1024 * a + k)).toInt.toNat) b7.toInt.toNat) (z_lke (yy p2.toInt.toNat).toInt.toNat yv.toInt.toNat nv.toInt.toNat 10) := ⟨x22, x41, _, _, by show x22.toInt = (((z_Ar M0 30 (1024 * a + b7.toInt.toNat)).toInt.toNat : Nat) : Int); rw [hsx]; omega, hA2, hoJ, rfl⟩
    refine z_xJ zt261 46 rfl rfl (fun (h87 : b5.toInt ≤ x83.toInt) => ?_) (fun (h87 : x83.toInt < b5.toInt) => ?_)
    · skip
      refine z_xN zt261 50 rfl rfl (fun (x88 : Int32) (h89 : x88.toInt = b7.toInt + 1) => ?_) (z_pAdd rfl rfl (by omega) (by omega))
      show z_ev (d + 5) 261 124 [some (.ref 19), some (.int p1), some (.int p2), some (.int b3), some (.int b4), some (.int b5), some (.int b6), some (.int x88), some (.int x22)] [] M77 _
      refine z_xP zt261 51 34 [some (.ref 19), some (.int p1), some (.int p2), some (.int b3), some (.int b4), some (.int b5), some (.int b6), some (.int x88), some (.int x22)] [] rfl rfl ?_
      have hs := z_bsN hbs fun l hl => by rw [z_lkJU q1 _ _ _ hl hLk]; omega
      rw [show b7.toInt.toNat + 1 = x88.toInt.toNat by omega] at hs
      exact ih M77 b3 b4 b5 b6 x88 (some (.int x22)) X80 ⟨by omega, by omega⟩ ⟨by omega, by omega⟩ (by omega) hb3 hb4 (fun i hi hne => ⟨(congrFun (X78.2.a f40 (by decide)) i).trans ((congrFun (X52.2.a f40 (by decide)) i).trans ((g40 i hi).trans (if_neg hne))), (congrFun (X78.2.a f41 (by decide)) i).trans ((congrFun (X52.2.a f41 (by decide)) i).trans ((g41 i hi).trans (if_neg hne)))⟩) ⟨mo, hmo, hs⟩ (by omega)
    refine z_xP zt261 47 112 [some (.ref 19), some (.int p1), some (.int p2), some (.int b3), some (.int b4), some (.int b5), some (.int b6), some (.int b7), some (.int x22)] [.int b3, .ref 19] rfl rfl ?_
    refine z_xcV (vs := [.ref 19, .int b3]) (r := []) (L2 := [some (.ref 19), some (.int b3)]) zt261 48 rfl zo261 zzcV12_333 (Or.inl rfl) rfl X80 f19 rfl rfl rfl (Nat.le_of_ble_eq_true rfl) zzm262 (Nat.le_of_ble_eq_true rfl) rfl ?_
    refine z_xP zt262 0 1 [some (.ref 19), some (.int b3)] [.ref 19] rfl rfl ?_
    refine z_xgX (b := 24) zt262 1 rfl zo262 zzf12_22 X80 f19 (by decide) (by decide) rfl ?_
    refine z_xP zt262 2 5 [some (.ref 19), some (.int b3)] [.ref 19, .ref 24] rfl rfl ?_
    have h90 := (X78.2.f f19 (by decide) h55)
    refine z_xgv zt262 3 rfl zo262 zzf12_242 X80 f19 (by decide) h90 ?_
    refine z_xil zt262 4 rfl X80 f24 (by decide) (by omega) (by omega) (fun (x91 : Int32) h92 (h93 : 0 ≤ x91.toInt) (h94 : x91.toInt ≤ 10) => ?_)
    have h95 := congrArg Int32.toInt (h92.symm.trans ((congrFun (X78.2.a f24 (by decide)) _).trans ((congrFun (X52.2.a f24 (by decide)) _).trans ((congrFun (e49.a f24 (by decide)) _).trans h36))))
    refine z_xP zt262 5 10 [some (.ref 19), some (.int b3)] [.ref 19, .int x91] rfl rfl ?_
    have h96 := (X78.2.f f19 (by decide) hyv)
    refine z_xgv zt262 6 rfl zo262 zzf12_275 X80 f19 (by decide) h96 ?_
    refine z_xP zt262 7 14 [some (.ref 19), some (.int b3)] [.int b3, .int yv, .int x91] rfl rfl ?_
    refine z_xI zt262 8 rfl rfl (fun (x97 : Int32) (hx97 : x97 = yv &&& b3) => ?_) rfl
    refine z_xP zt262 9 16 [some (.ref 19), some (.int b3)] [.ref 19, .int x97, .int x91] rfl rfl ?_
    have h99 := (X78.2.f f19 (by decide) hnv)
    refine z_xgv zt262 10 rfl zo262 zzf12_278 X80 f19 (by decide) h99 ?_
    refine z_xP zt262 11 21 [some (.ref 19), some (.int b3)] [.int (-1), .int b3, .int nv, .int x97, .int x91] rfl rfl ?_
    refine z_xI zt262 12 rfl rfl (fun (x100 : Int32) (hx100 : x100 = b3 ^^^ (-1 : Int32)) => ?_) rfl
    refine z_xI zt262 13 rfl rfl (fun (x102 : Int32) (hx102 : x102 = nv &&& x100) => ?_) rfl
    refine z_xI zt262 14 rfl rfl (fun (x104 : Int32) (hx104 : x104 = x97 ||| x102) => ?_) rfl
    have hlkx104 := z_lkR (o := (yy p2.toInt.toNat).toInt.toNat) hyn.1 hyn.2 (sv := b3) (by rw [hb3]; omega) hx97 hx100 hx102 hx104
    refine z_xcS (vs := [.int x104]) (r := [.int x91]) (L2 := [some (.int x104), none, none]) zt262 15 rfl zo262 zzcS12_193 (Or.inl rfl) (Nat.le_of_ble_eq_true rfl) rfl rfl (Nat.le_of_ble_eq_true rfl) zzm207 (Nat.le_of_ble_eq_true rfl) rfl ?_
    refine zUC207 X80.1 hlkx104.1 (fun x108 M106 X107 hcx108 => ?_)
    rw [hlkx104.2] at hcx108
    have hllx108 := (z_lkl (o := (yy p2.toInt.toNat).toInt.toNat) hyl.1 hyl.2 10).2
    have X109 := X80.go X107 (z_sb (by decide))
    show z_ev (d + 4) 262 27 [some (.ref 19), some (.int b3)] [.int x108, .int x91] M106 _
    have h111 := z_b32 x108
    refine z_xI zt262 16 rfl rfl (fun (x112 : Int32) (hx112 : x112.toInt = x91.toInt - x108.toInt) => ?_) (z_pSub rfl rfl (by omega) (by omega))
    refine z_xri zt262 17 rfl zzr262 ?_
    show z_ev (d + 5) 261 115 [some (.ref 19), some (.int p1), some (.int p2), some (.int b3), some (.int b4), some (.int b5), some (.int b6), some (.int b7), some (.int x22)] [.int x112] M106 _
    refine z_xP zt261 49 121 [some (.ref 19), some (.int p1), some (.int p2), some (.int b3), some (.int b4), some (.int x112), some (.int x22), some (.int b7), some (.int x22)] [] rfl rfl ?_
    refine z_xN zt261 50 rfl rfl (fun (x114 : Int32) (h115 : x114.toInt = b7.toInt + 1) => ?_) (z_pAdd rfl rfl (by omega) (by omega))
    show z_ev (d + 5) 261 124 [some (.ref 19), some (.int p1), some (.int p2), some (.int b3), some (.int b4), some (.int x112), some (.int x22), some (.int x114), some (.int x22)] [] M106 _
    refine z_xP zt261 51 34 [some (.ref 19), some (.int p1), some (.int p2), some (.int b3), some (.int b4), some (.int x112), some (.int x22), some (.int x114), some (.int x22)] [] rfl rfl ?_
    have hs := z_bsB (z_lkJU q1) hbs hLk (by omega) (x2 := x22.toInt) (by show x22.toInt = (((z_Ar M0 30 (1024 * a + b7.toInt.toNat)).toInt.toNat : Nat) : Int); rw [hsx]; omega)
    rw [show b7.toInt.toNat + 1 = x114.toInt.toNat by omega] at hs
    exact ih M106 b3 b4 x112 x22 x114 (some (.int x22)) X109 ⟨by omega, by omega⟩ ⟨by omega, by omega⟩ (by omega) hb3 hb4 (fun i hi hne => ⟨(congrFun (X107.2.a f40 (by decide)) i).trans ((congrFun (X78.2.a f40 (by decide)) i).trans ((congrFun (X52.2.a f40 (by decide)) i).trans ((g40 i hi).trans (if_neg hne)))), (congrFun (X107.2.a f41 (by decide)) i).trans ((congrFun (X78.2.a f41 (by decide)) i).trans ((congrFun (X52.2.a f41 (by decide)) i).trans ((g41 i hi).trans (if_neg hne))))⟩) ⟨_, by omega, hs⟩ (by omega)
theorem zYC261 {T : List zK} {d : Nat} {K : Option Value → zH → Prop} {a q m pr en J kd sh ch : Nat} {B : Nat → Nat} {av sv : Int32} {ww yy nn : Nat → Int32} {A : Int32} {p1 p2 : Int32} {M0 : zH} (hR : z_RP T M0 a q m pr en B av sv) (eJ : sv.toInt.toNat = J) (eqs : ∀ j, j < J → z_Ar M0 39 j = ww j ∧ z_Ar M0 40 j = yy j ∧ z_Ar M0 41 j = nn j) (jok : ∀ j, j < J → z_jok q (ww j) (yy j) (nn j)) (u1 : 0 ≤ p1.toInt ∧ p1.toInt ≤ 19) (u2 : 0 ≤ p2.toInt ∧ p2.toInt ≤ 8) (hj : p2.toInt.toNat < J) (hkd : (z_Ar M0 36 p1.toInt.toNat).toInt = (kd : Int)) (hsh : (z_Ar M0 37 p1.toInt.toNat).toInt = (sh : Int)) (hch : (z_Ar M0 38 p1.toInt.toNat).toInt = (ch : Int)) (hA : A.toInt = ((2 ^ q : Nat) : Int) - 1) (hnn : nn p2.toInt.toNat = A &&& (yy p2.toInt.toNat ^^^ (-1 : Int32))) (kk : ∀ (x : Int32) (M1 : zH), z_X T zw261 M0 M1 → (∀ i, i < J → z_Ar M1 40 i = yy i ∧ z_Ar M1 41 i = nn i) → (∃ y n mo, z_oJ (kd + 4) B q pr en sh J ch ww yy nn y n ∧ z_bsI (z_lkJ (kd + 4) B q pr en sh J ch ww yy nn p2.toInt.toNat (yy p2.toInt.toNat).toInt.toNat) (fun k => (z_Ar M0 30 (1024 * a + k)).toInt.toNat) (z_lke (yy p2.toInt.toNat).toInt.toNat y n 10) m mo x.toInt) → K (some (.int x)) M1) : z_ev (d + 5) 261 0 [some (.ref 19), some (.int p1), some (.int p2), none, none, none, none, none, none] [] M0 K := by
  obtain ⟨hW, ⟨hb9, ea, a8⟩, ⟨hs, hsv⟩, ⟨q1, q10⟩, ⟨t, hG⟩, hm, _, _⟩ := id hR
  have X : z_X T zw261 M0 M0 := .refl hW
  have hy0 := (jok _ hj).1.1
  refine z_xP zt261 0 1 [some (.ref 19), some (.int p1), some (.int p2), none, none, none, none, none, none] [.ref 19] rfl rfl ?_
  have f19 : T[19]? = some (.inl (12, 0, 0, 0, 0)) := X.1.k rfl (by decide)
  refine z_xgX (b := 40) zt261 1 rfl zo261 zzf12_70 X f19 (by decide) (by decide) rfl ?_
  refine z_xP zt261 2 5 [some (.ref 19), some (.int p1), some (.int p2), none, none, none, none, none, none] [.int p2, .ref 40] rfl rfl ?_
  have f40 : T[40]? = some (.inr (40, 0, 9, (-2147483648), 2147483647)) := X.1.k rfl (by decide)
  refine z_xil zt261 3 rfl X f40 (by decide) (by omega) (by omega) (fun (x1 : Int32) h2 (h3 : (-2147483648) ≤ x1.toInt) (h4 : x1.toInt ≤ 2147483647) => ?_)
  have ex1 : x1 = yy p2.toInt.toNat := h2.symm.trans (eqs _ hj).2.1
  refine z_xP zt261 4 8 [some (.ref 19), some (.int p1), some (.int p2), some (.int x1), none, none, none, none, none] [.ref 19] rfl rfl ?_
  refine z_xgX (b := 41) zt261 5 rfl zo261 zzf12_73 X f19 (by decide) (by decide) rfl ?_
  refine z_xP zt261 6 12 [some (.ref 19), some (.int p1), some (.int p2), some (.int x1), none, none, none, none, none] [.int p2, .ref 41] rfl rfl ?_
  have f41 : T[41]? = some (.inr (41, 0, 9, (-2147483648), 2147483647)) := X.1.k rfl (by decide)
  refine z_xil zt261 7 rfl X f41 (by decide) (by omega) (by omega) (fun (x5 : Int32) h6 (h7 : (-2147483648) ≤ x5.toInt) (h8 : x5.toInt ≤ 2147483647) => ?_)
  have ex5 : x5 = nn p2.toInt.toNat := h6.symm.trans (eqs _ hj).2.2
  refine z_xP zt261 8 17 [some (.ref 19), some (.int p1), some (.int p2), some (.int x1), some (.int x5), none, none, none, none] [.int p1, .ref 19] rfl rfl ?_
  refine z_xcV (vs := [.ref 19, .int p1]) (r := []) (L2 := [some (.ref 19), some (.int p1), none]) zt261 9 rfl zo261 zzcV12_303 (Or.inl rfl) rfl X f19 rfl rfl rfl (Nat.le_of_ble_eq_true rfl) zzm239 (Nat.le_of_ble_eq_true rfl) rfl ?_
  refine zUC239 hR u1 hkd hsh hch (fun M9 yv nv X10 hyv hnv hyn hout => ?_)
  have hoJ := z_oJwo eJ eqs hout
  have hyl := z_outL hout q1
  have X11 := X.go X10 (z_sb (by decide))
  show z_ev (d + 5) 261 20 [some (.ref 19), some (.int p1), some (.int p2), some (.int x1), some (.int x5), none, none, none, none] [] M9 _
  refine z_xP zt261 10 22 [some (.ref 19), some (.int p1), some (.int p2), some (.int x1), some (.int x5), none, none, none, none] [.int x1, .ref 19] rfl rfl ?_
  refine z_xcV (vs := [.ref 19, .int x1]) (r := []) (L2 := [some (.ref 19), some (.int x1)]) zt261 11 rfl zo261 zzcV12_333 (Or.inl rfl) rfl X11 f19 rfl rfl rfl (Nat.le_of_ble_eq_true rfl) zzm262 (Nat.le_of_ble_eq_true rfl) rfl ?_
  refine z_xP zt262 0 1 [some (.ref 19), some (.int x1)] [.ref 19] rfl rfl ?_
  refine z_xgX (b := 24) zt262 1 rfl zo262 zzf12_22 X11 f19 (by decide) (by decide) rfl ?_
  refine z_xP zt262 2 5 [some (.ref 19), some (.int x1)] [.ref 19, .ref 24] rfl rfl ?_
  refine z_xgv zt262 3 rfl zo262 zzf12_242 X11 f19 (by decide) (X10.2.f f19 (by decide) hb9) ?_
  have f24 : T[24]? = some (.inr (24, 0, 8, 0, 10)) := X11.1.k rfl (by decide)
  refine z_xil zt262 4 rfl X11 f24 (by decide) (by omega) (by omega) (fun (x17 : Int32) h18 (h19 : 0 ≤ x17.toInt) (h20 : x17.toInt ≤ 10) => ?_)
  have e17 : x17.toInt = (q : Int) := by
    rw [← h18, X11.2.a f24 (by decide), z_tnA ea]
    exact hG.1
  refine z_xP zt262 5 10 [some (.ref 19), some (.int x1)] [.ref 19, .int x17] rfl rfl ?_
  refine z_xgv zt262 6 rfl zo262 zzf12_275 X11 f19 (by decide) hyv ?_
  refine z_xP zt262 7 14 [some (.ref 19), some (.int x1)] [.int x1, .int yv, .int x17] rfl rfl ?_
  refine z_xI zt262 8 rfl rfl (fun (x25 : Int32) (hx25 : x25 = yv &&& x1) => ?_) rfl
  refine z_xP zt262 9 16 [some (.ref 19), some (.int x1)] [.ref 19, .int x25, .int x17] rfl rfl ?_
  refine z_xgv zt262 10 rfl zo262 zzf12_278 X11 f19 (by decide) hnv ?_
  refine z_xP zt262 11 21 [some (.ref 19), some (.int x1)] [.int (-1), .int x1, .int nv, .int x25, .int x17] rfl rfl ?_
  refine z_xI zt262 12 rfl rfl (fun (x31 : Int32) (hx31 : x31 = x1 ^^^ (-1 : Int32)) => ?_) rfl
  refine z_xI zt262 13 rfl rfl (fun (x33 : Int32) (hx33 : x33 = nv &&& x31) => ?_) rfl
  refine z_xI zt262 14 rfl rfl (fun (x35 : Int32) (hx35 : x35 = x25 ||| x33) => ?_) rfl
  have hlkx35 := z_lkR (o := (yy p2.toInt.toNat).toInt.toNat) hyn.1 hyn.2 (sv := x1) (by rw [ex1]; omega) hx25 hx31 hx33 hx35
  refine z_xcS (vs := [.int x35]) (r := [.int x17]) (L2 := [some (.int x35), none, none]) zt262 15 rfl zo262 zzcS12_193 (Or.inl rfl) (Nat.le_of_ble_eq_true rfl) rfl rfl (Nat.le_of_ble_eq_true rfl) zzm207 (Nat.le_of_ble_eq_true rfl) rfl ?_
  refine zUC207 X11.1 hlkx35.1 (fun x39 M37 X38 hcx39 => ?_)
  rw [hlkx35.2] at hcx39
  have hllx39 := (z_lkl (o := (yy p2.toInt.toNat).toInt.toNat) hyl.1 hyl.2 10).2
  have X40 := X11.go X38 (z_sb (by decide))
  show z_ev (d + 4) 262 27 [some (.ref 19), some (.int x1)] [.int x39, .int x17] M37 _
  have h42 := z_b32 x39
  refine z_xI zt262 16 rfl rfl (fun (x43 : Int32) (hx43 : x43.toInt = x17.toInt - x39.toInt) => ?_) (z_pSub rfl rfl (by omega) (by omega))
  refine z_xri zt262 17 rfl zzr262 ?_
  show z_ev (d + 5) 261 25 [some (.ref 19), some (.int p1), some (.int p2), some (.int x1), some (.int x5), none, none, none, none] [.int x43] M37 _
  refine z_xP zt261 12 34 [some (.ref 19), some (.int p1), some (.int p2), some (.int x1), some (.int x5), some (.int x43), some (.int (-2)), some (.int 0), none] [] rfl rfl ?_
  have qm2 : (((-2) : Int32)).toInt = (-2) := rfl
  have q0 : ((0 : Int32)).toInt = 0 := rfl
  refine (zYB261 hR eJ eqs jok u1 u2 hj hkd hsh hch hA hnn (z_lkJo hoJ hy0.1 hA hnn) (fun x M1 X1 hse g => ?_) 2050) M37 x1 x5 x43 ((-2)) (0) none X40 (by decide) (by decide) (by omega) ex1 ex5 (fun i hi _ => ⟨?_, ?_⟩) ⟨_, by omega, z_bs0⟩ (by omega)
  · obtain ⟨mo, g⟩ := g
    exact kk x M1 X1 hse ⟨_, _, mo, hoJ, g⟩
  · exact (congrFun ((X38.2.a f40 (by decide)).trans (X10.2.a f40 (by decide))) i).trans (eqs i hi).2.1
  · exact (congrFun ((X38.2.a f41 (by decide)).trans (X10.2.a f41 (by decide))) i).trans (eqs i hi).2.2
section ZTWR
variable {B F : Nat → Nat} {c q pr en sh ch n m j l w mo : Nat} {S : Nat → Int32} {A : Int32} {Sf : Nat → Nat} {x : Int}
theorem z_stYe : z_set1 (z_yS S F) j (S w) = z_yS S (z_fx1 F j w) := by
  funext i
  show (if i = j then S w else S (F i)) = S (if i = j then w else F i)
  split <;> rfl
theorem z_stNo : z_set1 (z_nS S A F) j (A &&& (S w ^^^ (-1 : Int32))) = z_nS S A (z_fx1 F j w) := by
  funext i
  show (if i = j then A &&& (S w ^^^ (-1 : Int32)) else A &&& (S (F i) ^^^ (-1 : Int32))) = A &&& (S (if i = j then w else F i) ^^^ (-1 : Int32))
  split <;> rfl
/-- a better set is found just when there is one -/
theorem z_twR (hA : A.toInt = ((2 ^ q : Nat) : Int) - 1) (hS0 : ∀ v, v < m → 0 ≤ (S v).toInt) (hSf : ∀ v, v < m → Sf v = (S v).toInt.toNat) (h : z_bsI (z_lkJ c B q pr en sh n ch z_w1 (z_yS S F) (z_nS S A F) j (z_yS S F j).toInt.toNat) Sf l m mo x) : (x = -2 ∧ ∀ w, w < m → ¬ z_twBe c B q pr en sh ch n S A F j l w) ∨ (x ≠ -2 ∧ ∃ w, w < m ∧ z_twBe c B q pr en sh ch n S A F j l w) := by
  have key : ∀ w, w < m → ∀ l2, z_lkJ c B q pr en sh n ch z_w1 (z_yS S F) (z_nS S A F) j (z_yS S F j).toInt.toNat (Sf w) l2 ↔ ∃ y u, z_oJ c B q pr en sh n ch z_w1 (z_yS S (z_fx1 F j w)) (z_nS S A (z_fx1 F j w)) y u ∧ l2 = z_lke (S (F j)).toInt.toNat y u 10 := fun w hw l2 => by
    rw [hSf w hw]
    constructor
    · rintro ⟨Y, A2, y, u, e1, e2, h1, h2⟩
      have eY : Y = S w := Int32.toInt_inj.mp (by have := hS0 w hw; omega)
      have eA : A2 = A := Int32.toInt_inj.mp (e2.trans hA.symm)
      rw [eY, eA, z_stYe, z_stNo] at h1
      exact ⟨y, u, h1, h2⟩
    · rintro ⟨y, u, h1, h2⟩
      refine ⟨S w, A, y, u, by have := hS0 w hw; omega, hA, ?_, h2⟩
      rw [z_stYe, z_stNo]
      exact h1
  rcases h with ⟨h1, _, h3⟩ | ⟨k, h1, h2, h3, h4, _⟩
  · refine Or.inl ⟨h1, fun w hw ⟨y, u, g1, g2⟩ => ?_⟩
    have := h3 w hw _ ((key w hw _).mpr ⟨y, u, g1, rfl⟩)
    omega
  · obtain ⟨y, u, g1, g2⟩ := (key k h1 _).mp h4
    exact Or.inr ⟨by omega, k, h1, y, u, g1, by omega⟩
theorem y_TN.SA {T : List zK} {M : zH} {a t : Nat} (hT : y_TN T M a q t m pr en n B F S A) (hm : m = z_lc B (2 ^ q) ∧ 1 ≤ m) : z_SA q m S A := by
  obtain ⟨_, _, _, hG, hSS, hA, q10, _⟩ := hT
  refine ⟨q10, hA, fun v hv => ?_⟩
  obtain ⟨s, s1, s2, s3⟩ := z_lc_ex (B := B) (2 ^ q) v (by omega)
  have e : (z_Ar M 30 (1024 * a + z_lc B s)).toInt = (s : Int) := hG.2.2.2.2.2.2 s s1 s2
  rw [s3, hSS v hv] at e
  rw [e]
  exact ⟨Int.natCast_nonneg _, Int.ofNat_lt.mpr s1⟩
end ZTWR
/-- on to the next bench -/
theorem zYN263 {T : List zK} {d : Nat} {K : Option Value → zH → Prop} {p1 : Int32} {p2 : Int32} {p3 : Int32} {M0 : zH} {a q t m pr en kd sh ch : Nat} {B : Nat → Nat} {S : Nat → Int32} {A : Int32} {b4 : Int32} (hW0 : z_W M0 T) (hwp1 : y_wy M0 p1 kd sh ch) (hm : m = z_lc B (2 ^ q) ∧ 1 ≤ m) (m12 : m ≤ 12) (up1 : 0 ≤ p1.toInt ∧ p1.toInt ≤ 19) (un : 1 ≤ p3.toInt ∧ p3.toInt ≤ 5) {b5 b6 z b7 b8 : Int32} {M : zH} {k : Nat} (X : z_X T zw263 M0 M) (hT : y_TN T M a q t m pr en p3.toInt.toNat B (z_bk m p3.toInt.toNat k) S A) (hk : k < z_T m p3.toInt.toNat) (hC : (∃ (cc : Nat) (y : Int), z_kr (z_pTw (kd + 4) B q pr en sh ch m p3.toInt.toNat S A) (fun _ => 0) (k + 1) cc y ∧ z.toInt = (cc : Int))) (kS : ∀ (M1 : zH) (z x : Int32) (o7 o8 : Option Value), z_X T zw263 M0 M1 → (0 ≤ x.toInt ∧ x.toInt ≤ 1) → ((x.toInt = 0 ∧ (k + 1) = z_T m p3.toInt.toNat) ∨ (x.toInt = 1 ∧ (k + 1) < z_T m p3.toInt.toNat ∧ y_TN T M1 a q t m pr en p3.toInt.toNat B (z_bk m p3.toInt.toNat (k + 1)) S A ∧ y_ST M1 p3.toInt.toNat (z_bk m p3.toInt.toNat (k + 1)) S A)) → (∃ (cc : Nat) (y : Int), z_kr (z_pTw (kd + 4) B q pr en sh ch m p3.toInt.toNat S A) (fun _ => 0) (k + 1) cc y ∧ z.toInt = (cc : Int)) → z_ev (d + 6) 263 38 [some (.ref 19), some (.int p1), some (.int p2), some (.int p3), some (.int b4), some (.int z), some (.int x), o7, o8] [] M1 K) : z_ev (d + 6) 263 98 [some (.ref 19), some (.int p1), some (.int p2), some (.int p3), some (.int b4), some (.int b5), some (.int b6), (some (.int b7)), (some (.int b8))] [.int z] M K := by
  have f19 : T[19]? = some (.inl (12, 0, 0, 0, 0)) := X.1.k rfl (by decide)
  refine z_xP zt263 35 102 [some (.ref 19), some (.int p1), some (.int p2), some (.int p3), some (.int b4), some (.int z), some (.int b6), (some (.int b7)), (some (.int b8))] [.int 0, .ref 19] rfl rfl ?_
  refine z_xcV (vs := [.ref 19, .int 0]) (r := []) (L2 := [some (.ref 19), some (.int 0), none, none, none]) zt263 36 rfl zo263 zzcV12_326 (Or.inl rfl) rfl X f19 rfl rfl rfl (Nat.le_of_ble_eq_true rfl) zzm255 (Nat.le_of_ble_eq_true rfl) rfl ?_
  have q0 : ((0 : Int32)).toInt = 0 := rfl
  refine zYD255 (by decide) hT (by omega) ⟨hm.2, m12⟩ hk (fun x36 M23 X24 hgo => ?_)
  have X39 := X.go X24 (z_sb (by decide))
  show z_ev (d + 6) 263 105 [some (.ref 19), some (.int p1), some (.int p2), some (.int p3), some (.int b4), some (.int z), some (.int b6), (some (.int b7)), (some (.int b8))] [.int x36] M23 _
  refine z_xP zt263 37 38 [some (.ref 19), some (.int p1), some (.int p2), some (.int p3), some (.int b4), some (.int z), some (.int x36), (some (.int b7)), (some (.int b8))] [] rfl rfl ?_
  exact kS M23 z x36 _ _ X39 (by rcases hgo with ⟨g, _⟩ | ⟨g, _⟩ <;> omega) hgo hC
/-- counted or not -/
theorem zYV263 {T : List zK} {d : Nat} {K : Option Value → zH → Prop} {p1 : Int32} {p2 : Int32} {p3 : Int32} {M0 : zH} {a q t m pr en kd sh ch : Nat} {B : Nat → Nat} {S : Nat → Int32} {A : Int32} {b4 : Int32} (hW0 : z_W M0 T) (hwp1 : y_wy M0 p1 kd sh ch) (hm : m = z_lc B (2 ^ q) ∧ 1 ≤ m) (m12 : m ≤ 12) (up1 : 0 ≤ p1.toInt ∧ p1.toInt ≤ 19) (un : 1 ≤ p3.toInt ∧ p3.toInt ≤ 5) {b5 b6 b7 b8 : Int32} {M : zH} {k : Nat} (X : z_X T zw263 M0 M) (hT : y_TN T M a q t m pr en p3.toInt.toNat B (z_bk m p3.toInt.toNat k) S A) (hk : k < z_T m p3.toInt.toNat) (hC : (∃ (cc : Nat) (y : Int), z_kr (z_pTw (kd + 4) B q pr en sh ch m p3.toInt.toNat S A) (fun _ => 0) k cc y ∧ b5.toInt = (cc : Int))) (h7 : (b7.toInt = 0 ∧ ¬ z_pTw (kd + 4) B q pr en sh ch m p3.toInt.toNat S A k) ∨ (b7.toInt = 1 ∧ z_pTw (kd + 4) B q pr en sh ch m p3.toInt.toNat S A k)) (kS : ∀ (M1 : zH) (z x : Int32) (o7 o8 : Option Value), z_X T zw263 M0 M1 → (0 ≤ x.toInt ∧ x.toInt ≤ 1) → ((x.toInt = 0 ∧ (k + 1) = z_T m p3.toInt.toNat) ∨ (x.toInt = 1 ∧ (k + 1) < z_T m p3.toInt.toNat ∧ y_TN T M1 a q t m pr en p3.toInt.toNat B (z_bk m p3.toInt.toNat (k + 1)) S A ∧ y_ST M1 p3.toInt.toNat (z_bk m p3.toInt.toNat (k + 1)) S A)) → (∃ (cc : Nat) (y : Int), z_kr (z_pTw (kd + 4) B q pr en sh ch m p3.toInt.toNat S A) (fun _ => 0) (k + 1) cc y ∧ z.toInt = (cc : Int)) → z_ev (d + 6) 263 38 [some (.ref 19), some (.int p1), some (.int p2), some (.int p3), some (.int b4), some (.int z), some (.int x), o7, o8] [] M1 K) : z_ev (d + 6) 263 85 [some (.ref 19), some (.int p1), some (.int p2), some (.int p3), some (.int b4), some (.int b5), some (.int b6), (some (.int b7)), (some (.int b8))] [] M K := by
  obtain ⟨cc, y, hK, e5⟩ := hC
  have hcM := z_krM hK
  have hTb := z_Tb m (by omega) p3.toInt.toNat (by omega)
  have h3 := z_b32 b5
  refine z_xP zt263 30 89 [some (.ref 19), some (.int p1), some (.int p2), some (.int p3), some (.int b4), some (.int b5), some (.int b6), (some (.int b7)), (some (.int b8))] [.int b7, .int b5] rfl rfl ?_
  refine z_xZ zt263 31 rfl rfl (fun (h2 : b7.toInt = 0) => ?_) (fun (h2 : b7.toInt ≠ 0) => ?_)
  · skip
    refine z_xP zt263 33 97 [some (.ref 19), some (.int p1), some (.int p2), some (.int p3), some (.int b4), some (.int b5), some (.int b6), (some (.int b7)), (some (.int b8))] [.int 0, .int b5] rfl rfl ?_
    refine z_xI zt263 34 rfl rfl (fun (x4 : Int32) (h5 : x4.toInt = b5.toInt + 0) => ?_) (z_pAdd rfl rfl (by omega) (by omega))
    refine zYN263 (b5 := b5) hW0 hwp1 hm m12 up1 un X hT hk ?_ kS
    rcases h7 with ⟨_, h7⟩ | ⟨g, _⟩
    · exact ⟨cc, y, z_krN hK h7, by omega⟩
    · omega
  refine z_xP zt263 32 97 [some (.ref 19), some (.int p1), some (.int p2), some (.int p3), some (.int b4), some (.int b5), some (.int b6), (some (.int b7)), (some (.int b8))] [.int 1, .int b5] rfl rfl ?_
  refine z_xI zt263 34 rfl rfl (fun (x4 : Int32) (h5 : x4.toInt = b5.toInt + 1) => ?_) (z_pAdd rfl rfl (by omega) (by omega))
  refine zYN263 (b5 := b5) hW0 hwp1 hm m12 up1 un X hT hk ?_ kS
  rcases h7 with ⟨g, _⟩ | ⟨_, h7⟩
  · omega
  · exact ⟨cc + 1, _, z_krS hK h7, by omega⟩
theorem zYB263 {T : List zK} {d : Nat} {K : Option Value → zH → Prop} {p1 : Int32} {p2 : Int32} {p3 : Int32} {M0 : zH} {a q t m pr en kd sh ch : Nat} {B : Nat → Nat} {S : Nat → Int32} {A : Int32} {b4 : Int32} (hW0 : z_W M0 T) (hwp1 : y_wy M0 p1 kd sh ch) (hm : m = z_lc B (2 ^ q) ∧ 1 ≤ m) (m12 : m ≤ 12) (up1 : 0 ≤ p1.toInt ∧ p1.toInt ≤ 19) (un : 1 ≤ p3.toInt ∧ p3.toInt ≤ 5) (kk : ∀ (x : Int32) (M1 : zH), z_X T zw263 M0 M1 → z_kA (z_pTw (kd + 4) B q pr en sh ch m p3.toInt.toNat S A) (fun _ => 0) (z_T m p3.toInt.toNat) 0 x.toInt → K (some (.int x)) M1) : ∀ nn : Nat, (∀ (M : zH) (b5 : Int32) (b6 : Int32) (o7 : Option Value) (o8 : Option Value) (k : Nat), z_X T zw263 M0 M → (0 ≤ b6.toInt ∧ b6.toInt ≤ 1) → ((b6.toInt = 0 ∧ k = z_T m p3.toInt.toNat) ∨ (b6.toInt = 1 ∧ k < z_T m p3.toInt.toNat ∧ y_TN T M a q t m pr en p3.toInt.toNat B (z_bk m p3.toInt.toNat k) S A ∧ y_ST M p3.toInt.toNat (z_bk m p3.toInt.toNat k) S A)) → (∃ (cc : Nat) (y : Int), z_kr (z_pTw (kd + 4) B q pr en sh ch m p3.toInt.toNat S A) (fun _ => 0) k cc y ∧ b5.toInt = (cc : Int)) → 20 * ((z_T m p3.toInt.toNat : Int) - (k : Int)) + 10 * b6.toInt + 9 < (nn : Int) → z_ev (d + 6) 263 38 [some (.ref 19), some (.int p1), some (.int p2), some (.int p3), some (.int b4), some (.int b5), some (.int b6), o7, o8] [] M K) ∧ (∀ (M : zH) (b5 : Int32) (b6 : Int32) (b7 : Int32) (b8 : Int32) (k : Nat), z_X T zw263 M0 M → y_TN T M a q t m pr en p3.toInt.toNat B (z_bk m p3.toInt.toNat k) S A → y_ST M p3.toInt.toNat (z_bk m p3.toInt.toNat k) S A → k < z_T m p3.toInt.toNat → (∃ (cc : Nat) (y : Int), z_kr (z_pTw (kd + 4) B q pr en sh ch m p3.toInt.toNat S A) (fun _ => 0) k cc y ∧ b5.toInt = (cc : Int)) → (0 ≤ b8.toInt ∧ b8.toInt ≤ p3.toInt) → ((b7.toInt = 0 ∧ ∀ i, i < b8.toInt.toNat → ¬ (∃ y u, z_oF (kd + 4) B q pr en sh ch m p3.toInt.toNat S A k y u ∧ ∃ w, w < m ∧ z_twBe (kd + 4) B q pr en sh ch p3.toInt.toNat S A (z_bk m p3.toInt.toNat k) i (z_lke (S (z_bk m p3.toInt.toNat k i)).toInt.toNat y u 10) w)) ∨ (b7.toInt = 1 ∧ ∃ i, i < p3.toInt.toNat ∧ (∃ y u, z_oF (kd + 4) B q pr en sh ch m p3.toInt.toNat S A k y u ∧ ∃ w, w < m ∧ z_twBe (kd + 4) B q pr en sh ch p3.toInt.toNat S A (z_bk m p3.toInt.toNat k) i (z_lke (S (z_bk m p3.toInt.toNat k i)).toInt.toNat y u 10) w))) → 20 * ((z_T m p3.toInt.toNat : Int) - (k : Int)) + 10 + (5 - b8.toInt) < (nn : Int) → z_ev (d + 6) 263 49 [some (.ref 19), some (.int p1), some (.int p2), some (.int p3), some (.int b4), some (.int b5), some (.int b6), (some (.int b7)), (some (.int b8))] [] M K) := by
  intro nn
  induction nn with
  | zero => exact ⟨(by intro M b5 b6 o7 o8 k X hb6 hst hC hE; rcases hst with ⟨g1, g2⟩ | ⟨g1, g2, _⟩ <;> (exfalso; omega)), (by intro M b5 b6 b7 b8 k X hT hS hk hC h8 h7 hE; exfalso; omega)⟩
  | succ nn ih =>
    refine ⟨?_, ?_⟩
    · skip
      intro M b5 b6 o7 o8 k X hb6 hst hC hE
      refine z_xP zt263 14 40 [some (.ref 19), some (.int p1), some (.int p2), some (.int p3), some (.int b4), some (.int b5), some (.int b6), o7, o8] [.int b6] rfl rfl ?_
      refine z_xZ zt263 15 rfl rfl (fun (h1 : b6.toInt = 0) => ?_) (fun (h1 : b6.toInt ≠ 0) => ?_)
      · skip
        have hkT : k = z_T m p3.toInt.toNat := by
          rcases hst with ⟨_, g⟩ | ⟨g, _⟩
          · exact g
          · exact absurd g (by omega)
        refine z_xP zt263 38 112 [some (.ref 19), some (.int p1), some (.int p2), some (.int p3), some (.int b4), some (.int b5), some (.int b6), o7, o8] [.int b5] rfl rfl ?_
        obtain ⟨cc, y, hK, e5⟩ := hC
        exact z_xri zt263 39 rfl zzr263 (kk b5 M X ⟨cc, y, by rw [← hkT]; exact hK, Or.inl ⟨rfl, e5⟩⟩)
      obtain ⟨hkL, hTM, hSM⟩ : k < z_T m p3.toInt.toNat ∧ y_TN T M a q t m pr en p3.toInt.toNat B (z_bk m p3.toInt.toNat k) S A ∧ y_ST M p3.toInt.toNat (z_bk m p3.toInt.toNat k) S A := by
        rcases hst with ⟨g, _⟩ | ⟨_, g⟩
        · exact absurd g (by omega)
        · exact g
      refine z_xP zt263 16 49 [some (.ref 19), some (.int p1), some (.int p2), some (.int p3), some (.int b4), some (.int b5), some (.int b6), (some (.int 0)), (some (.int 0))] [] rfl rfl ?_
      have q0 : ((0 : Int32)).toInt = 0 := rfl
      exact ih.2 M b5 b6 (0) (0) k X hTM hSM hkL hC ⟨by omega, by omega⟩ (Or.inl ⟨rfl, fun i hi => absurd hi (Nat.not_lt_zero i)⟩) (by omega)
    · skip
      intro M b5 b6 b7 b8 k X hTM hSM hkL hC h8 h7 hE
      have kS : ∀ (M1 : zH) (z x : Int32) (o7 o8 : Option Value), z_X T zw263 M0 M1 → (0 ≤ x.toInt ∧ x.toInt ≤ 1) → ((x.toInt = 0 ∧ (k + 1) = z_T m p3.toInt.toNat) ∨ (x.toInt = 1 ∧ (k + 1) < z_T m p3.toInt.toNat ∧ y_TN T M1 a q t m pr en p3.toInt.toNat B (z_bk m p3.toInt.toNat (k + 1)) S A ∧ y_ST M1 p3.toInt.toNat (z_bk m p3.toInt.toNat (k + 1)) S A)) → (∃ (cc : Nat) (y : Int), z_kr (z_pTw (kd + 4) B q pr en sh ch m p3.toInt.toNat S A) (fun _ => 0) (k + 1) cc y ∧ z.toInt = (cc : Int)) → z_ev (d + 6) 263 38 [some (.ref 19), some (.int p1), some (.int p2), some (.int p3), some (.int b4), some (.int z), some (.int x), o7, o8] [] M1 K := fun M1 z x o7 o8 X1 hx hst hC1 => ih.1 M1 z x o7 o8 (k + 1) X1 hx hst hC1 (by omega)
      have hno : (∀ i, i < p3.toInt.toNat → ¬ (∃ y u, z_oF (kd + 4) B q pr en sh ch m p3.toInt.toNat S A k y u ∧ ∃ w, w < m ∧ z_twBe (kd + 4) B q pr en sh ch p3.toInt.toNat S A (z_bk m p3.toInt.toNat k) i (z_lke (S (z_bk m p3.toInt.toNat k i)).toInt.toNat y u 10) w)) → ¬ z_pTw (kd + 4) B q pr en sh ch m p3.toInt.toNat S A k := fun h ⟨y, u, g1, i, hi, g2⟩ => h i hi ⟨y, u, g1, g2⟩
      have hye : (∃ i, i < p3.toInt.toNat ∧ (∃ y u, z_oF (kd + 4) B q pr en sh ch m p3.toInt.toNat S A k y u ∧ ∃ w, w < m ∧ z_twBe (kd + 4) B q pr en sh ch p3.toInt.toNat S A (z_bk m p3.toInt.toNat k) i (z_lke (S (z_bk m p3.toInt.toNat k i)).toInt.toNat y u 10) w)) → z_pTw (kd + 4) B q pr en sh ch m p3.toInt.toNat S A k := fun ⟨i, hi, y, u, g1, g2⟩ => ⟨y, u, g1, i, hi, g2⟩
      refine z_xP zt263 17 52 [some (.ref 19), some (.int p1), some (.int p2), some (.int p3), some (.int b4), some (.int b5), some (.int b6), (some (.int b7)), (some (.int b8))] [.int p3, .int b8] rfl rfl ?_
      refine z_xJ zt263 18 rfl rfl (fun (h1 : p3.toInt ≤ b8.toInt) => ?_) (fun (h1 : b8.toInt < p3.toInt) => ?_)
      · skip
        refine zYV263 hW0 hwp1 hm m12 up1 un X hTM hkL hC ?_ kS
        rcases h7 with ⟨g, h7⟩ | ⟨g, h7⟩
        · exact Or.inl ⟨g, hno fun i hi => h7 i (by omega)⟩
        · exact Or.inr ⟨g, hye h7⟩
      refine z_xP zt263 19 57 [some (.ref 19), some (.int p1), some (.int p2), some (.int p3), some (.int b4), some (.int b5), some (.int b6), (some (.int b7)), (some (.int b8))] [.int b7] rfl rfl ?_
      refine z_xZ zt263 20 rfl rfl (fun (h53 : b7.toInt ≠ 0) => ?_) (fun (h53 : b7.toInt = 0) => ?_)
      · skip
        refine zYV263 hW0 hwp1 hm m12 up1 un X hTM hkL hC ?_ kS
        rcases h7 with ⟨g, h7⟩ | ⟨g, h7⟩
        · exact absurd g h53
        · exact Or.inr ⟨g, hye h7⟩
      have hbn : b8.toInt.toNat < p3.toInt.toNat := by
        clear h7 hC
        omega
      have h70 : ∀ i, i < b8.toInt.toNat → ¬ (∃ y u, z_oF (kd + 4) B q pr en sh ch m p3.toInt.toNat S A k y u ∧ ∃ w, w < m ∧ z_twBe (kd + 4) B q pr en sh ch p3.toInt.toNat S A (z_bk m p3.toInt.toNat k) i (z_lke (S (z_bk m p3.toInt.toNat k i)).toInt.toNat y u 10) w) := by
        rcases h7 with ⟨g, h7⟩ | ⟨g, h7⟩
        · exact h7
        · omega
      obtain ⟨_, ⟨z0, hp0, ea, a8⟩, ⟨z1, hp1, esv, n5⟩, hG, hSS, hA, q10, hnu⟩ := id hTM
      have hSA := hTM.SA hm
      obtain ⟨sv, hRP, eJ⟩ := hTM.rp hSM hm hp0
      obtain ⟨gkd, gsh, gch⟩ := hwp1.ke hW0 X.2 (by decide)
      refine z_xP zt263 21 64 [some (.ref 19), some (.int p1), some (.int p2), some (.int p3), some (.int b4), some (.int b5), some (.int b6), (some (.int b7)), (some (.int b8))] [.int b8, .int p1, .ref 19] rfl rfl ?_
      have f19 : T[19]? = some (.inl (12, 0, 0, 0, 0)) := X.1.k rfl (by decide)
      refine z_xcV (vs := [.ref 19, .int p1, .int b8]) (r := []) (L2 := [some (.ref 19), some (.int p1), some (.int b8), none, none, none, none, none, none]) zt263 22 rfl zo263 zzcV12_336 (Or.inl rfl) rfl X f19 rfl rfl rfl (Nat.le_of_ble_eq_true rfl) zzm261 (Nat.le_of_ble_eq_true rfl) rfl ?_
      refine zYC261 hRP eJ hSM (hSA.jok fun j hj => (hnu j hj).2) (by omega) (by omega) (by omega) gkd gsh gch hA rfl (fun x82 M80 X81 hse hx => ?_)
      obtain ⟨y0, u0, mo, hoJ, hbs⟩ := hx
      have hW := z_twR (m := m) hA (fun v hv => (hSA.2.2 v hv).1) (fun v hv => by rw [hSS v hv]) hbs
      have hT80 := hTM.ke X81 (by decide)
      have hS80 : y_ST M80 p3.toInt.toNat (z_bk m p3.toInt.toNat k) S A := fun j hj => ⟨(congrFun (X81.2.a (hW0.k (k := 39) (κ := z_af 39 9) rfl (by decide)) (by decide)) j).trans (hSM j hj).1, (hse j hj).1, (hse j hj).2⟩
      have X85 := X.go X81 (z_sb (by decide))
      show z_ev (d + 6) 263 67 [some (.ref 19), some (.int p1), some (.int p2), some (.int p3), some (.int b4), some (.int b5), some (.int b6), (some (.int b7)), (some (.int b8))] [.int x82] M80 _
      refine z_xP zt263 23 69 [some (.ref 19), some (.int p1), some (.int p2), some (.int p3), some (.int b4), some (.int b5), some (.int b6), (some (.int b7)), (some (.int b8))] [.int (-2), .int x82] rfl rfl ?_
      refine z_xJ zt263 24 rfl rfl (fun (h87 : x82.toInt = (-2)) => ?_) (fun (h87 : x82.toInt ≠ (-2)) => ?_)
      · skip
        refine z_xP zt263 26 77 [some (.ref 19), some (.int p1), some (.int p2), some (.int p3), some (.int b4), some (.int b5), some (.int b6), (some (.int b7)), (some (.int b8))] [.int 0] rfl rfl ?_
        refine z_xP zt263 27 79 [some (.ref 19), some (.int p1), some (.int p2), some (.int p3), some (.int b4), some (.int b5), some (.int b6), (some (.int 0)), (some (.int b8))] [] rfl rfl ?_
        refine z_xN zt263 28 rfl rfl (fun (x88 : Int32) (h89 : x88.toInt = b8.toInt + 1) => ?_) (z_pAdd rfl rfl (by omega) (by omega))
        show z_ev (d + 6) 263 82 [some (.ref 19), some (.int p1), some (.int p2), some (.int p3), some (.int b4), some (.int b5), some (.int b6), (some (.int 0)), (some (.int x88))] [] M80 _
        refine z_xP zt263 29 49 [some (.ref 19), some (.int p1), some (.int p2), some (.int p3), some (.int b4), some (.int b5), some (.int b6), (some (.int 0)), (some (.int x88))] [] rfl rfl ?_
        have q0 : ((0 : Int32)).toInt = 0 := rfl
        refine ih.2 M80 b5 b6 (0) x88 k X85 hT80 hS80 hkL hC ⟨by omega, by omega⟩ (Or.inl ⟨rfl, fun i hi => ?_⟩) (by omega)
        by_cases c : i = b8.toInt.toNat
        · rw [c]
          rintro ⟨y, u, g1, w, hw, g2⟩
          obtain ⟨rfl, rfl⟩ := z_oFU q10.1 g1 hoJ
          rcases hW with ⟨_, g3⟩ | ⟨g3, _⟩
          · exact g3 w hw g2
          · exact g3 h87
        · exact h70 i (by omega)
      refine z_xP zt263 25 77 [some (.ref 19), some (.int p1), some (.int p2), some (.int p3), some (.int b4), some (.int b5), some (.int b6), (some (.int b7)), (some (.int b8))] [.int 1] rfl rfl ?_
      refine z_xP zt263 27 79 [some (.ref 19), some (.int p1), some (.int p2), some (.int p3), some (.int b4), some (.int b5), some (.int b6), (some (.int 1)), (some (.int b8))] [] rfl rfl ?_
      refine z_xN zt263 28 rfl rfl (fun (x96 : Int32) (h97 : x96.toInt = b8.toInt + 1) => ?_) (z_pAdd rfl rfl (by omega) (by omega))
      show z_ev (d + 6) 263 82 [some (.ref 19), some (.int p1), some (.int p2), some (.int p3), some (.int b4), some (.int b5), some (.int b6), (some (.int 1)), (some (.int x96))] [] M80 _
      refine z_xP zt263 29 49 [some (.ref 19), some (.int p1), some (.int p2), some (.int p3), some (.int b4), some (.int b5), some (.int b6), (some (.int 1)), (some (.int x96))] [] rfl rfl ?_
      have q1 : ((1 : Int32)).toInt = 1 := rfl
      refine ih.2 M80 b5 b6 (1) x96 k X85 hT80 hS80 hkL hC ⟨by omega, by omega⟩ (Or.inr ⟨rfl, b8.toInt.toNat, hbn, y0, u0, hoJ, ?_⟩) (by omega)
      rcases hW with ⟨g3, _⟩ | ⟨_, g3⟩
      · exact absurd g3 h87
      · exact g3
theorem zYC263 {T : List zK} {d : Nat} {K : Option Value → zH → Prop} {p1 : Int32} {p2 : Int32} {p3 : Int32} {M0 : zH} (hW : z_W M0 T) (hR : z_G4 M0) {q t m pr en : Nat} {B : Nat → Nat} {S : Nat → Int32} {A : Int32} (hTB : y_vW M0 p1 p2 → y_tnb M0 p2.toNatClampNeg q t m pr en B S A) (kk : ∀ (x : Int32) (M1 : zH), z_X T zw263 M0 M1 → z_aA (y_vW M0 p1 p2) (1 ≤ p3.toInt ∧ p3.toInt ≤ 5) m (∃ kd sh ch : Nat, y_wy M0 p1 kd sh ch ∧ z_kA (z_pTw (kd + 4) B q pr en sh ch m p3.toInt.toNat S A) (fun _ => 0) (z_T m p3.toInt.toNat) 0 x.toInt) x.toInt → K (some (.int x)) M1) : z_ev (d + 6) 263 0 [some (.ref 19), some (.int p1), some (.int p2), some (.int p3), none, none, none, none, none] [] M0 K := by
  have X : z_X T zw263 M0 M0 := .refl hW
  refine z_xP zt263 0 2 [some (.ref 19), some (.int p1), some (.int p2), some (.int p3), none, none, none, none, none] [.int p1, .ref 19] rfl rfl ?_
  have f19 : T[19]? = some (.inl (12, 0, 0, 0, 0)) := X.1.k rfl (by decide)
  refine z_xcV (vs := [.ref 19, .int p1]) (r := []) (L2 := [some (.ref 19), some (.int p1)]) zt263 1 rfl zo263 zzcV12_272 (Or.inl rfl) rfl X f19 rfl rfl rfl (Nat.le_of_ble_eq_true rfl) zzm237 (Nat.le_of_ble_eq_true rfl) rfl ?_
  refine z_xP zt237 0 1 [some (.ref 19), some (.int p1)] [.int p1] rfl rfl ?_
  refine z_xZ zt237 1 rfl rfl (fun (h1 : p1.toInt < 0) => ?_) (fun (h1 : 0 ≤ p1.toInt) => ?_)
  · skip
    refine z_xP zt237 6 17 [some (.ref 19), some (.int p1)] [.int 0] rfl rfl ?_
    refine z_xrz zt237 7 rfl zzr237 (by decide) (by decide) ?_
    show z_ev (d + 6) 263 5 [some (.ref 19), some (.int p1), some (.int p2), some (.int p3), none, none, none, none, none] [.int 0] M0 _
    refine z_xZ zt263 2 rfl rfl (fun (h2 : (0 : Int) ≠ 0) => absurd h2 (by omega)) (fun (h2 : (0 : Int) = 0) => ?_)
    refine z_xP zt263 3 9 [some (.ref 19), some (.int p1), some (.int p2), some (.int p3), none, none, none, none, none] [.int (-1)] rfl rfl ?_
    have qm1 : (((-1) : Int32)).toInt = (-1) := rfl
    exact z_xri zt263 4 rfl zzr263 (kk (-1) M0 X (Or.inl ⟨rfl, by unfold y_vW; omega⟩))
  refine z_xP zt237 2 6 [some (.ref 19), some (.int p1)] [.ref 19, .int p1] rfl rfl ?_
  refine z_xgI zt237 3 rfl zo237 zzf12_269 X f19 (by decide) (by decide) rfl (fun (x4 : Int32) h3 (h5 : 0 ≤ x4.toInt) (h6 : x4.toInt ≤ 20) => ?_)
  have ex4 : (z_Fv M0 19 21).toInt = x4.toInt := by rw [z_Fv.of h3]
  have h7 := z_b32 p1
  refine z_xJ zt237 4 rfl rfl (fun (h8 : x4.toInt ≤ p1.toInt) => ?_) (fun (h8 : p1.toInt < x4.toInt) => ?_)
  · skip
    refine z_xP zt237 6 17 [some (.ref 19), some (.int p1)] [.int 0] rfl rfl ?_
    refine z_xrz zt237 7 rfl zzr237 (by decide) (by decide) ?_
    show z_ev (d + 6) 263 5 [some (.ref 19), some (.int p1), some (.int p2), some (.int p3), none, none, none, none, none] [.int 0] M0 _
    refine z_xZ zt263 2 rfl rfl (fun (h9 : (0 : Int) ≠ 0) => absurd h9 (by omega)) (fun (h9 : (0 : Int) = 0) => ?_)
    refine z_xP zt263 3 9 [some (.ref 19), some (.int p1), some (.int p2), some (.int p3), none, none, none, none, none] [.int (-1)] rfl rfl ?_
    have qm1 : (((-1) : Int32)).toInt = (-1) := rfl
    exact z_xri zt263 4 rfl zzr263 (kk (-1) M0 X (Or.inl ⟨rfl, by unfold y_vW; omega⟩))
  refine z_xP zt237 5 17 [some (.ref 19), some (.int p1)] [.int 1] rfl rfl ?_
  refine z_xrz zt237 7 rfl zzr237 (by decide) (by decide) ?_
  show z_ev (d + 6) 263 5 [some (.ref 19), some (.int p1), some (.int p2), some (.int p3), none, none, none, none, none] [.int 1] M0 _
  refine z_xZ zt263 2 rfl rfl (fun (h10 : (1 : Int) ≠ 0) => ?_) (fun (h10 : (1 : Int) = 0) => absurd h10 (by omega))
  refine z_xP zt263 5 13 [some (.ref 19), some (.int p1), some (.int p2), some (.int p3), none, none, none, none, none] [.int p3, .int p2, .ref 19] rfl rfl ?_
  refine z_xcV (vs := [.ref 19, .int p2, .int p3]) (r := []) (L2 := [some (.ref 19), some (.int p2), some (.int p3)]) zt263 6 rfl zo263 zzcV12_320 (Or.inl rfl) rfl X f19 rfl rfl rfl (Nat.le_of_ble_eq_true rfl) zzm251 (Nat.le_of_ble_eq_true rfl) rfl ?_
  refine z_xP zt251 0 2 [some (.ref 19), some (.int p2), some (.int p3)] [.int p2, .ref 19] rfl rfl ?_
  refine z_xcV (vs := [.ref 19, .int p2]) (r := []) (L2 := [some (.ref 19), some (.int p2)]) zt251 1 rfl zo251 zzcV12_209 (Or.inl rfl) rfl X f19 rfl rfl rfl (Nat.le_of_ble_eq_true rfl) zzm209 (Nat.le_of_ble_eq_true rfl) rfl ?_
  refine z_xP zt209 0 1 [some (.ref 19), some (.int p2)] [.int p2] rfl rfl ?_
  refine z_xZ zt209 1 rfl rfl (fun (h11 : p2.toInt < 0) => ?_) (fun (h11 : 0 ≤ p2.toInt) => ?_)
  · skip
    refine z_xP zt209 6 17 [some (.ref 19), some (.int p2)] [.int 0] rfl rfl ?_
    refine z_xrz zt209 7 rfl zzr209 (by decide) (by decide) ?_
    show z_ev (d + 5) 251 5 [some (.ref 19), some (.int p2), some (.int p3)] [.int 0] M0 _
    refine z_xZ zt251 2 rfl rfl (fun (h12 : (0 : Int) = 0) => ?_) (fun (h12 : (0 : Int) ≠ 0) => absurd h12 (by omega))
    refine z_xP zt251 9 21 [some (.ref 19), some (.int p2), some (.int p3)] [.int (-1)] rfl rfl ?_
    refine z_xri zt251 10 rfl zzr251 ?_
    show z_ev (d + 6) 263 16 [some (.ref 19), some (.int p1), some (.int p2), some (.int p3), none, none, none, none, none] [.int (-1)] M0 _
    refine z_xP zt263 7 20 [some (.ref 19), some (.int p1), some (.int p2), some (.int p3), some (.int (-1)), none, none, none, none] [.int (-1)] rfl rfl ?_
    refine z_xZ zt263 8 rfl rfl (fun (h13 : 0 ≤ ((-1) : Int)) => absurd h13 (by omega)) (fun (h13 : ((-1) : Int) < 0) => ?_)
    refine z_xP zt263 9 25 [some (.ref 19), some (.int p1), some (.int p2), some (.int p3), some (.int (-1)), none, none, none, none] [.int (-1)] rfl rfl ?_
    have qm1 : (((-1) : Int32)).toInt = (-1) := rfl
    exact z_xri zt263 10 rfl zzr263 (kk (-1) M0 X (Or.inl ⟨rfl, by unfold y_vW; omega⟩))
  refine z_xP zt209 2 6 [some (.ref 19), some (.int p2)] [.ref 19, .int p2] rfl rfl ?_
  refine z_xgI zt209 3 rfl zo209 zzf12_110 X f19 (by decide) (by decide) rfl (fun (x15 : Int32) h14 (h16 : 0 ≤ x15.toInt) (h17 : x15.toInt ≤ 8) => ?_)
  have ex15 : (z_Fv M0 19 13).toInt = x15.toInt := by rw [z_Fv.of h14]
  have h18 := z_b32 p2
  refine z_xJ zt209 4 rfl rfl (fun (h19 : x15.toInt ≤ p2.toInt) => ?_) (fun (h19 : p2.toInt < x15.toInt) => ?_)
  · skip
    refine z_xP zt209 6 17 [some (.ref 19), some (.int p2)] [.int 0] rfl rfl ?_
    refine z_xrz zt209 7 rfl zzr209 (by decide) (by decide) ?_
    show z_ev (d + 5) 251 5 [some (.ref 19), some (.int p2), some (.int p3)] [.int 0] M0 _
    refine z_xZ zt251 2 rfl rfl (fun (h20 : (0 : Int) = 0) => ?_) (fun (h20 : (0 : Int) ≠ 0) => absurd h20 (by omega))
    refine z_xP zt251 9 21 [some (.ref 19), some (.int p2), some (.int p3)] [.int (-1)] rfl rfl ?_
    refine z_xri zt251 10 rfl zzr251 ?_
    show z_ev (d + 6) 263 16 [some (.ref 19), some (.int p1), some (.int p2), some (.int p3), none, none, none, none, none] [.int (-1)] M0 _
    refine z_xP zt263 7 20 [some (.ref 19), some (.int p1), some (.int p2), some (.int p3), some (.int (-1)), none, none, none, none] [.int (-1)] rfl rfl ?_
    refine z_xZ zt263 8 rfl rfl (fun (h21 : 0 ≤ ((-1) : Int)) => absurd h21 (by omega)) (fun (h21 : ((-1) : Int) < 0) => ?_)
    refine z_xP zt263 9 25 [some (.ref 19), some (.int p1), some (.int p2), some (.int p3), some (.int (-1)), none, none, none, none] [.int (-1)] rfl rfl ?_
    have qm1 : (((-1) : Int32)).toInt = (-1) := rfl
    exact z_xri zt263 10 rfl zzr263 (kk (-1) M0 X (Or.inl ⟨rfl, by unfold y_vW; omega⟩))
  refine z_xP zt209 5 17 [some (.ref 19), some (.int p2)] [.int 1] rfl rfl ?_
  refine z_xrz zt209 7 rfl zzr209 (by decide) (by decide) ?_
  show z_ev (d + 5) 251 5 [some (.ref 19), some (.int p2), some (.int p3)] [.int 1] M0 _
  refine z_xZ zt251 2 rfl rfl (fun (h22 : (1 : Int) = 0) => absurd h22 (by omega)) (fun (h22 : (1 : Int) ≠ 0) => ?_)
  refine z_xP zt251 3 9 [some (.ref 19), some (.int p2), some (.int p3)] [.int p3] rfl rfl ?_
  have h23 := z_b32 p3
  refine z_xL zt251 4 rfl rfl (fun (y24 : Int64) (h25 : y24.toInt = p3.toInt) => ?_) (z_qI2L rfl)
  refine z_xP zt251 5 11 [some (.ref 19), some (.int p2), some (.int p3)] [.long 1, .long y24] rfl rfl ?_
  refine z_xl2 zt251 6 rfl zo251 zkl12_318 ?_
  refine z_xcS (vs := [.long y24, .long 1, .long 5]) (r := []) (L2 := [some (.long y24), none, some (.long 1), none, some (.long 5), none]) zt251 7 rfl zo251 zzcS12_116 (Or.inl rfl) (Nat.le_of_ble_eq_true rfl) rfl rfl (Nat.le_of_ble_eq_true rfl) zzm189 (Nat.le_of_ble_eq_true rfl) rfl ?_
  refine z_xP zt189 0 2 [some (.long y24), none, some (.long 1), none, some (.long 5), none] [.long 1, .long y24] rfl rfl ?_
  refine z_xI zt189 1 rfl rfl (fun (x26 : Int32) (h27 : (x26.toInt < 0 ∧ y24.toInt < 1) ∨ (x26.toInt = 0 ∧ y24.toInt = 1) ∨ (0 < x26.toInt ∧ 1 < y24.toInt)) => ?_) (z_qCmp rfl rfl)
  refine z_xZ zt189 2 rfl rfl (fun (h28 : x26.toInt < 0) => ?_) (fun (h28 : 0 ≤ x26.toInt) => ?_)
  · skip
    refine z_xP zt189 7 18 [some (.long y24), none, some (.long 1), none, some (.long 5), none] [.int 0] rfl rfl ?_
    refine z_xrz zt189 8 rfl zzr189 (by decide) (by decide) ?_
    show z_ev (d + 5) 251 17 [some (.ref 19), some (.int p2), some (.int p3)] [.int 0] M0 _
    refine z_xZ zt251 8 rfl rfl (fun (h29 : (0 : Int) ≠ 0) => absurd h29 (by omega)) (fun (h29 : (0 : Int) = 0) => ?_)
    refine z_xP zt251 9 21 [some (.ref 19), some (.int p2), some (.int p3)] [.int (-1)] rfl rfl ?_
    refine z_xri zt251 10 rfl zzr251 ?_
    show z_ev (d + 6) 263 16 [some (.ref 19), some (.int p1), some (.int p2), some (.int p3), none, none, none, none, none] [.int (-1)] M0 _
    refine z_xP zt263 7 20 [some (.ref 19), some (.int p1), some (.int p2), some (.int p3), some (.int (-1)), none, none, none, none] [.int (-1)] rfl rfl ?_
    refine z_xZ zt263 8 rfl rfl (fun (h30 : 0 ≤ ((-1) : Int)) => absurd h30 (by omega)) (fun (h30 : ((-1) : Int) < 0) => ?_)
    refine z_xP zt263 9 25 [some (.ref 19), some (.int p1), some (.int p2), some (.int p3), some (.int (-1)), none, none, none, none] [.int (-1)] rfl rfl ?_
    have qm1 : (((-1) : Int32)).toInt = (-1) := rfl
    exact z_xri zt263 10 rfl zzr263 (kk (-1) M0 X (Or.inl ⟨rfl, by unfold y_vW; omega⟩))
  refine z_xP zt189 3 9 [some (.long y24), none, some (.long 1), none, some (.long 5), none] [.long 5, .long y24] rfl rfl ?_
  refine z_xI zt189 4 rfl rfl (fun (x31 : Int32) (h32 : (x31.toInt < 0 ∧ y24.toInt < 5) ∨ (x31.toInt = 0 ∧ y24.toInt = 5) ∨ (0 < x31.toInt ∧ 5 < y24.toInt)) => ?_) (z_qCmp rfl rfl)
  refine z_xZ zt189 5 rfl rfl (fun (h33 : 0 < x31.toInt) => ?_) (fun (h33 : x31.toInt ≤ 0) => ?_)
  · skip
    refine z_xP zt189 7 18 [some (.long y24), none, some (.long 1), none, some (.long 5), none] [.int 0] rfl rfl ?_
    refine z_xrz zt189 8 rfl zzr189 (by decide) (by decide) ?_
    show z_ev (d + 5) 251 17 [some (.ref 19), some (.int p2), some (.int p3)] [.int 0] M0 _
    refine z_xZ zt251 8 rfl rfl (fun (h34 : (0 : Int) ≠ 0) => absurd h34 (by omega)) (fun (h34 : (0 : Int) = 0) => ?_)
    refine z_xP zt251 9 21 [some (.ref 19), some (.int p2), some (.int p3)] [.int (-1)] rfl rfl ?_
    refine z_xri zt251 10 rfl zzr251 ?_
    show z_ev (d + 6) 263 16 [some (.ref 19), some (.int p1), some (.int p2), some (.int p3), none, none, none, none, none] [.int (-1)] M0 _
    refine z_xP zt263 7 20 [some (.ref 19), some (.int p1), some (.int p2), some (.int p3), some (.int (-1)), none, none, none, none] [.int (-1)] rfl rfl ?_
    refine z_xZ zt263 8 rfl rfl (fun (h35 : 0 ≤ ((-1) : Int)) => absurd h35 (by omega)) (fun (h35 : ((-1) : Int) < 0) => ?_)
    refine z_xP zt263 9 25 [some (.ref 19), some (.int p1), some (.int p2), some (.int p3), some (.int (-1)), none, none, none, none] [.int (-1)] rfl rfl ?_
    have qm1 : (((-1) : Int32)).toInt = (-1) := rfl
    exact z_xri zt263 10 rfl zzr263 (kk (-1) M0 X (Or.inl ⟨rfl, by unfold y_vW; omega⟩))
  refine z_xP zt189 6 18 [some (.long y24), none, some (.long 1), none, some (.long 5), none] [.int 1] rfl rfl ?_
  refine z_xrz zt189 8 rfl zzr189 (by decide) (by decide) ?_
  show z_ev (d + 5) 251 17 [some (.ref 19), some (.int p2), some (.int p3)] [.int 1] M0 _
  refine z_xZ zt251 8 rfl rfl (fun (h36 : (1 : Int) ≠ 0) => ?_) (fun (h36 : (1 : Int) = 0) => absurd h36 (by omega))
  refine z_xP zt251 11 23 [some (.ref 19), some (.int p2), some (.int p3)] [.ref 19] rfl rfl ?_
  refine z_xgX (b := 31) zt251 12 rfl zo251 zzf12_43 X f19 (by decide) (by decide) rfl ?_
  refine z_xP zt251 13 27 [some (.ref 19), some (.int p2), some (.int p3)] [.int p2, .ref 31] rfl rfl ?_
  have f31 : T[31]? = some (.inr (31, 0, 8, 0, 1024)) := X.1.k rfl (by decide)
  have hv : y_vW M0 p1 p2 := by unfold y_vW; omega
  have hY := hTB hv
  refine z_xil zt251 14 rfl X f31 (by decide) (by omega) (by omega) (fun (x37 : Int32) h38 (h39 : 0 ≤ x37.toInt) (h40 : x37.toInt ≤ 1024) => ?_)
  have em : x37.toInt = (m : Int) := by
    rw [← h38]
    exact hY.2.1.2.2.2.2.1
  refine z_xP zt251 15 30 [some (.ref 19), some (.int p2), some (.int p3)] [.int 12, .int x37] rfl rfl ?_
  refine z_xJ zt251 16 rfl rfl (fun (h41 : x37.toInt ≤ 12) => ?_) (fun (h41 : 12 < x37.toInt) => ?_)
  · skip
    refine z_xP zt251 18 39 [some (.ref 19), some (.int p2), some (.int p3)] [.int 0] rfl rfl ?_
    refine z_xri zt251 19 rfl zzr251 ?_
    show z_ev (d + 6) 263 16 [some (.ref 19), some (.int p1), some (.int p2), some (.int p3), none, none, none, none, none] [.int 0] M0 _
    refine z_xP zt263 7 20 [some (.ref 19), some (.int p1), some (.int p2), some (.int p3), some (.int 0), none, none, none, none] [.int 0] rfl rfl ?_
    refine z_xZ zt263 8 rfl rfl (fun (h42 : 0 ≤ (0 : Int)) => ?_) (fun (h42 : (0 : Int) < 0) => absurd h42 (by omega))
    refine z_xP zt263 11 32 [some (.ref 19), some (.int p1), some (.int p2), some (.int p3), some (.int 0), some (.int 0), none, none, none] [.int p3, .int p2, .ref 19] rfl rfl ?_
    refine z_xcV (vs := [.ref 19, .int p2, .int p3]) (r := []) (L2 := [some (.ref 19), some (.int p2), some (.int p3), none]) zt263 12 rfl zo263 zzcV12_323 (Or.inl rfl) rfl X f19 rfl rfl rfl (Nat.le_of_ble_eq_true rfl) zzm252 (Nat.le_of_ble_eq_true rfl) rfl ?_
    have h43 := z_G4u (hR.go X (by decide)) h14 (by omega) (by omega) h38
    refine zUC252 X.1 (by omega) (by omega) h38 ⟨by omega, by omega⟩ hY.2.1 hY.2.2.2.1 hY.2.2.2.2 hY.1 hY.2.2.1.2 (fun M44 X45 hT2 hS2 => ?_)
    have X49 := X.go X45 (z_sb (by decide))
    show z_ev (d + 6) 263 35 [some (.ref 19), some (.int p1), some (.int p2), some (.int p3), some (.int 0), some (.int 0), none, none, none] [] M44 _
    refine z_xP zt263 13 38 [some (.ref 19), some (.int p1), some (.int p2), some (.int p3), some (.int 0), some (.int 0), some (.int 1), none, none] [] rfl rfl ?_
    have q0 : ((0 : Int32)).toInt = 0 := rfl
    have q1 : ((1 : Int32)).toInt = 1 := rfl
    obtain ⟨kd, sh, ch, hwp1⟩ := y_wyX hW (p := p1) (show p1.toInt.toNat < 20 by omega)
    have hT1 := z_Tp1 m (by omega) hY.2.2.1.2 p3.toInt.toNat (by omega)
    have hTb := z_Tb m (by omega) p3.toInt.toNat (by omega)
    exact (zYB263 hW hwp1 hY.2.2.1 (by omega) (by omega) (by omega) (fun x M1 X h => kk x M1 X (Or.inr ⟨⟨hv, by omega⟩, Or.inr ⟨by omega, kd, sh, ch, hwp1, h⟩⟩)) 87420).1 M44 (0) (1) none none 0 X49 (by decide) (Or.inr ⟨rfl, by omega, hT2, hS2⟩) ⟨0, -2, ⟨rfl, rfl⟩, rfl⟩ (by show 20 * ((z_T m p3.toInt.toNat : Int) - ((0 : Nat) : Int)) + 10 * 1 + 9 < _; omega)
  refine z_xP zt251 17 39 [some (.ref 19), some (.int p2), some (.int p3)] [.int (-4)] rfl rfl ?_
  refine z_xri zt251 19 rfl zzr251 ?_
  show z_ev (d + 6) 263 16 [some (.ref 19), some (.int p1), some (.int p2), some (.int p3), none, none, none, none, none] [.int (-4)] M0 _
  refine z_xP zt263 7 20 [some (.ref 19), some (.int p1), some (.int p2), some (.int p3), some (.int (-4)), none, none, none, none] [.int (-4)] rfl rfl ?_
  refine z_xZ zt263 8 rfl rfl (fun (h54 : 0 ≤ ((-4) : Int)) => absurd h54 (by omega)) (fun (h54 : ((-4) : Int) < 0) => ?_)
  refine z_xP zt263 9 25 [some (.ref 19), some (.int p1), some (.int p2), some (.int p3), some (.int (-4)), none, none, none, none] [.int (-4)] rfl rfl ?_
  have qm4 : (((-4) : Int32)).toInt = (-4) := rfl
  exact z_xri zt263 10 rfl zzr263 (kk (-4) M0 X (Or.inr ⟨⟨hv, by omega⟩, Or.inl ⟨rfl, by omega⟩⟩))
