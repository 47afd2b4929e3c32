/-! twist of the reference, told -/
theorem z_RPalt {T : List zK} {M0 M : zH} {a q m pr en J : Nat} {B : Nat → Nat} {av sv : Int32} {ww yy nn : Nat → Int32} {rs : List Nat} (h : z_RP T M0 a q m pr en B av sv) (X : z_X T rs M0 M) (hr : ((z_agr ++ [2229, 2230]).all fun x => !rs.elem x) = true) (eJ : sv.toInt.toNat = J) (cj : ∀ j, j < J → z_Ar M 39 j = ww j ∧ z_Ar M 40 j = yy j ∧ z_Ar M 41 j = nn j) (jok : ∀ j, j < J → z_jok q (ww j) (yy j) (nn j)) : z_RP T M a q m pr en B av sv := by
  obtain ⟨hW, ⟨h1, h2, h3⟩, ⟨h4, h5⟩, h6, ⟨t, h7⟩, h8, _, _⟩ := h
  have nn0 := z_nin hr
  have k19 : T[19]? = some (.inl (12, 0, 0, 0, 0)) := hW.k rfl (by decide)
  have ok := z_jokJ h6.2 jok
  refine ⟨X.1, ⟨X.2.f k19 (nn0 _ rfl) h1, h2, h3⟩, ⟨X.2.f k19 (nn0 _ rfl) h4, h5⟩, h6, ⟨t, h7.ke hW X.2 (List.all_eq_true.mpr fun x hx => List.all_eq_true.mp hr x (List.mem_append_left _ hx))⟩, h8, fun j hj => ?_, fun j hj => ?_⟩
  · obtain ⟨_, u2, u3⟩ := cj j (by omega)
    rw [u2, u3]
    exact (jok j (by omega)).1
  · obtain ⟨u1, u2, u3⟩ := cj j (by omega)
    rw [u1, u2, u3]
    exact ok j (by omega)
theorem z_oJwo {M : zH} {c q pr en sh J ch y n : Nat} {B : Nat → Nat} {sv : Int32} {ww yy nn : Nat → Int32} (eJ : sv.toInt.toNat = J) (cj : ∀ j, j < J → z_Ar M 39 j = ww j ∧ z_Ar M 40 j = yy j ∧ z_Ar M 41 j = nn j) (h : z_wout c B q pr en (z_LV M sv) sh sv.toInt.toNat ch (fun j => (z_Ar M 40 j).toInt.toNat) (fun j => (z_Ar M 41 j).toInt.toNat) y n) : z_oJ c B q pr en sh J ch ww yy nn y n := by
  rw [eJ] at h
  exact ⟨_, _, _, fun k _ => z_LVof eJ cj k, fun j hj => ⟨by rw [(cj j hj).2.1], by rw [(cj j hj).2.2]⟩, h⟩
def z_bsQ (Lk : Nat → Nat → Prop) (S : Nat → Nat) (f0 q i : Nat) (b x : Int) : Prop := ∃ mo : Nat, b = (q : Int) - (mo : Int) ∧ z_bsI Lk S f0 i mo x
theorem z_updJ {f g : Nat → Int32} {k : Nat} {v : Int32} {h : Nat → Int32} {J : Nat} (e : f = upd g k v) (hg : ∀ i, i < J → i ≠ k → g i = h i) : ∀ i, i < J → f i = z_set1 h k v i := fun i hi => by
  rw [e]
  show (if i = k then v else g i) = (if i = k then v else h i)
  by_cases c : i = k
  · rw [if_pos c, if_pos c]
  · rw [if_neg c, if_neg c]
    exact hg i hi c
theorem zUB261 {T : List zK} {d : Nat} {K : Option Value → zH → Prop} {a q m pr en J kd sh ch : Nat} {B : Nat → Nat} {av sv : Int32} {ww yy nn : Nat → Int32} {A : Int32} {p1 p2 : Int32} {M0 : zH} (hR : z_RP T M0 a q m pr en B av sv) (eJ : sv.toInt.toNat = J) (eqs : ∀ j, j < J → z_Ar M0 39 j = ww j ∧ z_Ar M0 40 j = yy j ∧ z_Ar M0 41 j = nn j) (jok : ∀ j, j < J → z_jok q (ww j) (yy j) (nn j)) (u1 : 0 ≤ p1.toInt ∧ p1.toInt ≤ 19) (u2 : 0 ≤ p2.toInt ∧ p2.toInt ≤ 8) (hj : p2.toInt.toNat < J) (hkd : (z_Ar M0 36 p1.toInt.toNat).toInt = (kd : Int)) (hsh : (z_Ar M0 37 p1.toInt.toNat).toInt = (sh : Int)) (hch : (z_Ar M0 38 p1.toInt.toNat).toInt = (ch : Int)) (hA : A.toInt = ((2 ^ q : Nat) : Int) - 1) (hnn : nn p2.toInt.toNat = A &&& (yy p2.toInt.toNat ^^^ (-1 : Int32))) {f0 : Nat} (hf0 : (z_lkJ (kd + 4) B q pr en sh J ch ww yy nn p2.toInt.toNat (yy p2.toInt.toNat).toInt.toNat) (yy p2.toInt.toNat).toInt.toNat f0) (kk : ∀ (x : Int32) (M1 : zH), z_X T zw261 M0 M1 → (∃ mo, z_bsI (z_lkJ (kd + 4) B q pr en sh J ch ww yy nn p2.toInt.toNat (yy p2.toInt.toNat).toInt.toNat) (fun k => (z_Ar M0 30 (1024 * a + k)).toInt.toNat) f0 m mo x.toInt) → K (some (.int x)) M1) : ∀ n : Nat, (∀ (M : zH) (b3 : Int32) (b4 : Int32) (b5 : Int32) (b6 : Int32) (b7 : Int32) (o8 : Option Value), z_X T zw261 M0 M → (-2) ≤ b6.toInt ∧ b6.toInt ≤ 1023 → 0 ≤ b7.toInt ∧ b7.toInt ≤ 1024 → b7.toInt ≤ (m : Int) → b3 = yy p2.toInt.toNat → (∀ i, i < J → i ≠ p2.toInt.toNat → z_Ar M 40 i = yy i ∧ z_Ar M 41 i = nn i) → z_bsQ (z_lkJ (kd + 4) B q pr en sh J ch ww yy nn p2.toInt.toNat (yy p2.toInt.toNat).toInt.toNat) (fun k => (z_Ar M0 30 (1024 * a + k)).toInt.toNat) f0 q b7.toInt.toNat b5.toInt b6.toInt → ((0) * 2 + 0) * 1025 + (1024 - b7.toInt) < (n : Int) → z_ev (d + 5) 261 34 [some (.ref 19), some (.int p1), some (.int p2), some (.int b3), some (.int b4), some (.int b5), some (.int b6), some (.int b7), o8] [] M K) := by
  intro n
  induction n with
  | zero => exact by intros; exfalso; omega
  | succ n ih =>
    intro M b3 b4 b5 b6 b7 o8 X hh0 hh1 hm7 hb3 hEo hQ hE
    obtain ⟨mo, hmo, hbs⟩ := hQ
    obtain ⟨hW0, ⟨hb9, ea, a8⟩, ⟨hs, hsv⟩, ⟨q1, q10⟩, ⟨t, hG⟩, hm, _, _⟩ := id hR
    have hG31 := hG.2.2.2.2.1
    have hLS := hG.2.2.2.2.2.2
    have hy0 := (jok _ hj).1.1
    refine z_xP zt261 13 37 [some (.ref 19), some (.int p1), some (.int p2), some (.int b3), some (.int b4), some (.int b5), some (.int b6), some (.int b7), o8] [.ref 19, .int b7] rfl rfl ?_
    have f19 : T[19]? = some (.inl (12, 0, 0, 0, 0)) := X.1.k rfl (by decide)
    refine z_xgX (b := 31) zt261 14 rfl zo261 zzf12_43 X f19 (by decide) (by decide) rfl ?_
    refine z_xP zt261 15 41 [some (.ref 19), some (.int p1), some (.int p2), some (.int b3), some (.int b4), some (.int b5), some (.int b6), some (.int b7), o8] [.ref 19, .ref 31, .int b7] rfl rfl ?_
    refine z_xgv zt261 16 rfl zo261 zzf12_242 X f19 (by decide) (X.2.f f19 (by decide) hb9) ?_
    have f31 : T[31]? = some (.inr (31, 0, 8, 0, 1024)) := X.1.k rfl (by decide)
    refine z_xil zt261 17 rfl X f31 (by decide) (by omega) (by omega) (fun (x5 : Int32) h6 (h7 : 0 ≤ x5.toInt) (h8 : x5.toInt ≤ 1024) => ?_)
    have e5 : x5.toInt = (m : Int) := by
      rw [← h6, X.2.a f31 (by decide), z_tnA ea]
      exact hG31
    refine z_xJ zt261 18 rfl rfl (fun (h9 : x5.toInt ≤ b7.toInt) => ?_) (fun (h9 : b7.toInt < x5.toInt) => ?_)
    · skip
      refine z_xP zt261 52 128 [some (.ref 19), some (.int p1), some (.int p2), some (.int b3), some (.int b4), some (.int b5), some (.int b6), some (.int b7), o8] [.ref 19] rfl rfl ?_
      refine z_xgX (b := 40) zt261 53 rfl zo261 zzf12_70 X f19 (by decide) (by decide) rfl ?_
      refine z_xP zt261 54 133 [some (.ref 19), some (.int p1), some (.int p2), some (.int b3), some (.int b4), some (.int b5), some (.int b6), some (.int b7), o8] [.int b3, .int p2, .ref 40] rfl rfl ?_
      have f40 : T[40]? = some (.inr (40, 0, 9, (-2147483648), 2147483647)) := X.1.k rfl (by decide)
      refine z_xis zt261 55 rfl X f40 (by decide) (by decide) (by omega) (by omega) (Int32.le_toInt _) (Int32.toInt_le _) (by decide) (fun M10 X11 e12 h13 => ?_)
      refine z_xP zt261 56 135 [some (.ref 19), some (.int p1), some (.int p2), some (.int b3), some (.int b4), some (.int b5), some (.int b6), some (.int b7), o8] [.ref 19] rfl rfl ?_
      refine z_xgX (b := 41) zt261 57 rfl zo261 zzf12_73 X11 f19 (by decide) (by decide) rfl ?_
      refine z_xP zt261 58 141 [some (.ref 19), some (.int p1), some (.int p2), some (.int b3), some (.int b4), some (.int b5), some (.int b6), some (.int b7), o8] [.int b4, .int p2, .ref 41] rfl rfl ?_
      have f41 : T[41]? = some (.inr (41, 0, 9, (-2147483648), 2147483647)) := X11.1.k rfl (by decide)
      refine z_xis zt261 59 rfl X11 f41 (by decide) (by decide) (by omega) (by omega) (Int32.le_toInt _) (Int32.toInt_le _) (by decide) (fun M14 X15 e16 h17 => ?_)
      refine z_xP zt261 60 144 [some (.ref 19), some (.int p1), some (.int p2), some (.int b3), some (.int b4), some (.int b5), some (.int b6), some (.int b7), o8] [.int b6] rfl rfl ?_
      exact z_xri zt261 61 rfl zzr261 (kk b6 M14 X15 ⟨mo, by rw [show m = b7.toInt.toNat by omega]; exact hbs⟩)
    refine z_xP zt261 19 49 [some (.ref 19), some (.int p1), some (.int p2), some (.int b3), some (.int b4), some (.int b5), some (.int b6), some (.int b7), o8] [.ref 19] rfl rfl ?_
    refine z_xgX (b := 30) zt261 20 rfl zo261 zzf12_40 X f19 (by decide) (by decide) rfl ?_
    refine z_xP zt261 21 56 [some (.ref 19), some (.int p1), some (.int p2), some (.int b3), some (.int b4), some (.int b5), some (.int b6), some (.int b7), o8] [.ref 19, .int 1024, .ref 30] rfl rfl ?_
    refine z_xgv zt261 22 rfl zo261 zzf12_242 X f19 (by decide) (X.2.f f19 (by decide) hb9) ?_
    refine z_xI zt261 23 rfl rfl (fun (x18 : Int32) (h19 : x18.toInt = 1024 * av.toInt) => ?_) (z_pMul rfl rfl (by omega) (by omega))
    refine z_xP zt261 24 62 [some (.ref 19), some (.int p1), some (.int p2), some (.int b3), some (.int b4), some (.int b5), some (.int b6), some (.int b7), o8] [.int b7, .int x18, .ref 30] rfl rfl ?_
    refine z_xI zt261 25 rfl rfl (fun (x20 : Int32) (h21 : x20.toInt = x18.toInt + b7.toInt) => ?_) (z_pAdd rfl rfl (by omega) (by omega))
    have f30 : T[30]? = some (.inr (30, 0, 8192, 0, 1023)) := X.1.k rfl (by decide)
    refine z_xil zt261 26 rfl X f30 (by decide) (by omega) (by omega) (fun (x22 : Int32) h23 (h24 : 0 ≤ x22.toInt) (h25 : x22.toInt ≤ 1023) => ?_)
    have hsx : z_Ar M0 30 (1024 * a + b7.toInt.toNat) = x22 := by
      rw [← h23, X.2.a f30 (by decide)]
      refine congrArg _ ?_
      show _ = x20.toInt.toNat
      omega
    obtain ⟨sn, sn1, sn2⟩ : ∃ s : Nat, s < 2 ^ q ∧ x22.toInt = (s : Int) := by
      obtain ⟨s, s1, s2, s3⟩ := z_lc_ex (B := B) (2 ^ q) b7.toInt.toNat (by omega)
      have e : (z_Ar M0 30 (1024 * a + z_lc B s)).toInt = (s : Int) := hLS s s1 s2
      rw [s3, hsx] at e
      exact ⟨s, s1, e⟩
    refine z_xP zt261 27 69 [some (.ref 19), some (.int p1), some (.int p2), some (.int b3), some (.int b4), some (.int b5), some (.int b6), some (.int b7), some (.int x22)] [.int b3, .int x22] rfl rfl ?_
    have h26 := z_b32 b3
    refine z_xJ zt261 28 rfl rfl (fun (h27 : x22.toInt = b3.toInt) => ?_) (fun (h27 : x22.toInt ≠ b3.toInt) => ?_)
    · skip
      refine z_xN zt261 50 rfl rfl (fun (x28 : Int32) (h29 : x28.toInt = b7.toInt + 1) => ?_) (z_pAdd rfl rfl (by omega) (by omega))
      show z_ev (d + 5) 261 124 [some (.ref 19), some (.int p1), some (.int p2), some (.int b3), some (.int b4), some (.int b5), some (.int b6), some (.int x28), some (.int x22)] [] M _
      refine z_xP zt261 51 34 [some (.ref 19), some (.int p1), some (.int p2), some (.int b3), some (.int b4), some (.int b5), some (.int b6), some (.int x28), some (.int x22)] [] rfl rfl ?_
      have hs := z_bsN hbs fun l hl => by
        have e : (z_Ar M0 30 (1024 * a + b7.toInt.toNat)).toInt.toNat = (yy p2.toInt.toNat).toInt.toNat := by rw [hsx, ← hb3]; omega
        have hl2 : (z_lkJ (kd + 4) B q pr en sh J ch ww yy nn p2.toInt.toNat (yy p2.toInt.toNat).toInt.toNat) (z_Ar M0 30 (1024 * a + b7.toInt.toNat)).toInt.toNat l := hl
        rw [e] at hl2
        rw [z_lkJU q1 _ _ _ hl2 hf0]
        exact z_bsge hbs
      rw [show b7.toInt.toNat + 1 = x28.toInt.toNat by omega] at hs
      exact ih M b3 b4 b5 b6 x28 (some (.int x22)) X ⟨by omega, by omega⟩ ⟨by omega, by omega⟩ (by omega) hb3 hEo ⟨mo, hmo, hs⟩ (by omega)
    refine z_xP zt261 29 73 [some (.ref 19), some (.int p1), some (.int p2), some (.int b3), some (.int b4), some (.int b5), some (.int b6), some (.int b7), some (.int x22)] [.ref 19] rfl rfl ?_
    refine z_xgX (b := 40) zt261 30 rfl zo261 zzf12_70 X f19 (by decide) (by decide) rfl ?_
    refine z_xP zt261 31 79 [some (.ref 19), some (.int p1), some (.int p2), some (.int b3), some (.int b4), some (.int b5), some (.int b6), some (.int b7), some (.int x22)] [.int x22, .int p2, .ref 40] rfl rfl ?_
    have f40 : T[40]? = some (.inr (40, 0, 9, (-2147483648), 2147483647)) := X.1.k rfl (by decide)
    refine z_xis zt261 32 rfl X f40 (by decide) (by decide) (by omega) (by omega) (Int32.le_toInt _) (Int32.toInt_le _) (by decide) (fun M30 X31 e32 h33 => ?_)
    refine z_xP zt261 33 81 [some (.ref 19), some (.int p1), some (.int p2), some (.int b3), some (.int b4), some (.int b5), some (.int b6), some (.int b7), some (.int x22)] [.ref 19] rfl rfl ?_
    refine z_xgX (b := 41) zt261 34 rfl zo261 zzf12_73 X31 f19 (by decide) (by decide) rfl ?_
    refine z_xP zt261 35 86 [some (.ref 19), some (.int p1), some (.int p2), some (.int b3), some (.int b4), some (.int b5), some (.int b6), some (.int b7), some (.int x22)] [.ref 19, .int p2, .ref 41] rfl rfl ?_
    refine z_xcV (vs := [.ref 19]) (r := [.int p2, .ref 41]) (L2 := [some (.ref 19)]) zt261 36 rfl zo261 zzcV12_248 (Or.inl rfl) rfl X31 f19 rfl rfl rfl (Nat.le_of_ble_eq_true rfl) zzm240 (Nat.le_of_ble_eq_true rfl) rfl ?_
    refine z_xP zt240 0 2 [some (.ref 19)] [.ref 19, .int 1] rfl rfl ?_
    refine z_xgX (b := 24) zt240 1 rfl zo240 zzf12_22 X31 f19 (by decide) (by decide) rfl ?_
    refine z_xP zt240 2 6 [some (.ref 19)] [.ref 19, .ref 24, .int 1] rfl rfl ?_
    have h34 := (e32.f f19 (by decide) (X.2.f f19 (by decide) hb9))
    refine z_xgv zt240 3 rfl zo240 zzf12_242 X31 f19 (by decide) h34 ?_
    have f24 : T[24]? = some (.inr (24, 0, 8, 0, 10)) := X31.1.k rfl (by decide)
    refine z_xil zt240 4 rfl X31 f24 (by decide) (by omega) (by omega) (fun (x35 : Int32) h36 (h37 : 0 ≤ x35.toInt) (h38 : x35.toInt ≤ 10) => ?_)
    refine z_xI zt240 5 rfl rfl (fun (x39 : Int32) (h40 : x39 = (1 : Int32) <<< (x35 &&& 31) ∧ 1 ≤ x39.toInt ∧ x39.toInt ≤ 1024) => ?_) (⟨rfl, z_pShlB (a := 1) (b := 10) (c := 1024) (r := 1024) rfl rfl (by omega) (by omega) (by omega) (by omega) (by decide) (by decide) (by decide) (by decide)⟩)
    have e35 : x35.toInt = (q : Int) := by
      rw [← h36, e32.a f24 (by decide), X.2.a f24 (by decide), z_tnA ea]
      exact hG.1
    refine z_xP zt240 6 12 [some (.ref 19)] [.int 1, .int x39] rfl rfl ?_
    refine z_xI zt240 7 rfl rfl (fun (x41 : Int32) (h42 : x41.toInt = x39.toInt - 1) => ?_) (z_pSub rfl rfl (by omega) (by omega))
    have hA2 := z_all2 e35 q10 h40.1 h42
    refine z_xri zt240 8 rfl zzr240 ?_
    show z_ev (d + 5) 261 89 [some (.ref 19), some (.int p1), some (.int p2), some (.int b3), some (.int b4), some (.int b5), some (.int b6), some (.int b7), some (.int x22)] [.int x41, .int p2, .ref 41] M30 _
    refine z_xP zt261 37 92 [some (.ref 19), some (.int p1), some (.int p2), some (.int b3), some (.int b4), some (.int b5), some (.int b6), some (.int b7), some (.int x22)] [.int (-1), .int x22, .int x41, .int p2, .ref 41] rfl rfl ?_
    refine z_xI zt261 38 rfl rfl (fun (x43 : Int32) (h43 : x43 = x22 ^^^ (-1 : Int32)) => ?_) rfl
    refine z_xI zt261 39 rfl rfl (fun (x45 : Int32) (h46 : x45 = x41 &&& x43) => ?_) rfl
    have f41 : T[41]? = some (.inr (41, 0, 9, (-2147483648), 2147483647)) := X31.1.k rfl (by decide)
    refine z_xis zt261 40 rfl X31 f41 (by decide) (by decide) (by omega) (by omega) (Int32.le_toInt _) (Int32.toInt_le _) (by decide) (fun M47 X48 e49 h50 => ?_)
    refine z_xP zt261 41 97 [some (.ref 19), some (.int p1), some (.int p2), some (.int b3), some (.int b4), some (.int b5), some (.int b6), some (.int b7), some (.int x22)] [.int p1, .ref 19] rfl rfl ?_
    refine z_xcV (vs := [.ref 19, .int p1]) (r := []) (L2 := [some (.ref 19), some (.int p1), none]) zt261 42 rfl zo261 zzcV12_303 (Or.inl rfl) rfl X48 f19 rfl rfl rfl (Nat.le_of_ble_eq_true rfl) zzm239 (Nat.le_of_ble_eq_true rfl) rfl ?_
    rw [h43] at h46
    have hax := z_ansNo (Y := x22) hA2 q10 ⟨by omega, by generalize 2 ^ q = Pq at *; omega⟩
    have g40 : ∀ i, i < J → z_Ar M47 40 i = z_set1 yy p2.toInt.toNat x22 i := z_updJ ((e49.a f40 (by decide)).trans h33) fun i hi hne => (hEo i hi hne).1
    have g41 : ∀ i, i < J → z_Ar M47 41 i = z_set1 nn p2.toInt.toNat (x41 &&& (x22 ^^^ (-1 : Int32))) i := by
      rw [← h46]
      exact z_updJ h50 fun i hi hne => (congrFun (e32.a f41 (by decide)) i).trans (hEo i hi hne).2
    have cj : ∀ i, i < J → z_Ar M47 39 i = ww i ∧ z_Ar M47 40 i = z_set1 yy p2.toInt.toNat x22 i ∧ z_Ar M47 41 i = z_set1 nn p2.toInt.toNat (x41 &&& (x22 ^^^ (-1 : Int32))) i := fun i hi => ⟨(congrFun (X48.2.a (hW0.k (k := 39) (κ := z_af 39 9) rfl (by decide)) (by decide)) i).trans (eqs i hi).1, g40 i hi, g41 i hi⟩
    have hRP := z_RPalt hR X48 (by decide) eJ cj (z_jok.al jok hax)
    refine zUC239 hRP u1 (kd := kd) (sh := sh) (ch := ch) (by rw [X48.2.a (hW0.k (k := 36) (κ := z_ai 36 20 0 7) rfl (by decide)) (by decide)]; exact hkd) (by rw [X48.2.a (hW0.k (k := 37) (κ := z_ai 37 20 0 9) rfl (by decide)) (by decide)]; exact hsh) (by rw [X48.2.a (hW0.k (k := 38) (κ := z_ai 38 20 0 8) rfl (by decide)) (by decide)]; exact hch) (fun M51 yv nv X52 hyv hnv hyn hout => ?_)
    have hoJ := z_oJwo eJ cj hout
    have hyl := z_outL hout q1
    have X53 := X48.go X52 (z_sb (by decide))
    show z_ev (d + 5) 261 100 [some (.ref 19), some (.int p1), some (.int p2), some (.int b3), some (.int b4), some (.int b5), some (.int b6), some (.int b7), some (.int x22)] [] M51 _
    refine z_xP zt261 43 102 [some (.ref 19), some (.int p1), some (.int p2), some (.int b3), some (.int b4), some (.int b5), some (.int b6), some (.int b7), some (.int x22)] [.int b3, .ref 19] rfl rfl ?_
    refine z_xcV (vs := [.ref 19, .int b3]) (r := []) (L2 := [some (.ref 19), some (.int b3)]) zt261 44 rfl zo261 zzcV12_333 (Or.inl rfl) rfl X53 f19 rfl rfl rfl (Nat.le_of_ble_eq_true rfl) zzm262 (Nat.le_of_ble_eq_true rfl) rfl ?_
    refine z_xP zt262 0 1 [some (.ref 19), some (.int b3)] [.ref 19] rfl rfl ?_
    refine z_xgX (b := 24) zt262 1 rfl zo262 zzf12_22 X53 f19 (by decide) (by decide) rfl ?_
    refine z_xP zt262 2 5 [some (.ref 19), some (.int b3)] [.ref 19, .ref 24] rfl rfl ?_
    have h55 := (X52.2.f f19 (by decide) (e49.f f19 (by decide) h34))
    refine z_xgv zt262 3 rfl zo262 zzf12_242 X53 f19 (by decide) h55 ?_
    refine z_xil zt262 4 rfl X53 f24 (by decide) (by omega) (by omega) (fun (x56 : Int32) h57 (h58 : 0 ≤ x56.toInt) (h59 : x56.toInt ≤ 10) => ?_)
    have e56 : x56.toInt = (q : Int) := by have := congrArg Int32.toInt (h57.symm.trans ((congrFun (X52.2.a f24 (by decide)) _).trans ((congrFun (e49.a f24 (by decide)) _).trans h36))); omega
    have h60 := congrArg Int32.toInt (h57.symm.trans ((congrFun (X52.2.a f24 (by decide)) _).trans ((congrFun (e49.a f24 (by decide)) _).trans h36)))
    refine z_xP zt262 5 10 [some (.ref 19), some (.int b3)] [.ref 19, .int x56] rfl rfl ?_
    refine z_xgv zt262 6 rfl zo262 zzf12_275 X53 f19 (by decide) hyv ?_
    refine z_xP zt262 7 14 [some (.ref 19), some (.int b3)] [.int b3, .int yv, .int x56] rfl rfl ?_
    refine z_xI zt262 8 rfl rfl (fun (x65 : Int32) (hx65 : x65 = yv &&& b3) => ?_) rfl
    refine z_xP zt262 9 16 [some (.ref 19), some (.int b3)] [.ref 19, .int x65, .int x56] rfl rfl ?_
    refine z_xgv zt262 10 rfl zo262 zzf12_278 X53 f19 (by decide) hnv ?_
    refine z_xP zt262 11 21 [some (.ref 19), some (.int b3)] [.int (-1), .int b3, .int nv, .int x65, .int x56] rfl rfl ?_
    refine z_xI zt262 12 rfl rfl (fun (x71 : Int32) (hx71 : x71 = b3 ^^^ (-1 : Int32)) => ?_) rfl
    refine z_xI zt262 13 rfl rfl (fun (x73 : Int32) (hx73 : x73 = nv &&& x71) => ?_) rfl
    refine z_xI zt262 14 rfl rfl (fun (x75 : Int32) (hx75 : x75 = x65 ||| x73) => ?_) rfl
    have hlkx75 := z_lkR (o := (yy p2.toInt.toNat).toInt.toNat) hyn.1 hyn.2 (sv := b3) (by rw [hb3]; omega) hx65 hx71 hx73 hx75
    refine z_xcS (vs := [.int x75]) (r := [.int x56]) (L2 := [some (.int x75), none, none]) zt262 15 rfl zo262 zzcS12_193 (Or.inl rfl) (Nat.le_of_ble_eq_true rfl) rfl rfl (Nat.le_of_ble_eq_true rfl) zzm207 (Nat.le_of_ble_eq_true rfl) rfl ?_
    refine zUC207 X53.1 hlkx75.1 (fun x79 M77 X78 hcx79 => ?_)
    rw [hlkx75.2] at hcx79
    have hllx79 := (z_lkl (o := (yy p2.toInt.toNat).toInt.toNat) hyl.1 hyl.2 10).2
    have X80 := X53.go X78 (z_sb (by decide))
    show z_ev (d + 4) 262 27 [some (.ref 19), some (.int b3)] [.int x79, .int x56] M77 _
    have h82 := z_b32 x79
    refine z_xI zt262 16 rfl rfl (fun (x83 : Int32) (hx83 : x83.toInt = x56.toInt - x79.toInt) => ?_) (z_pSub rfl rfl (by omega) (by omega))
    refine z_xri zt262 17 rfl zzr262 ?_
    show z_ev (d + 5) 261 105 [some (.ref 19), some (.int p1), some (.int p2), some (.int b3), some (.int b4), some (.int b5), some (.int b6), some (.int b7), some (.int x22)] [.int x83] M77 _
    refine z_xP zt261 45 107 [some (.ref 19), some (.int p1), some (.int p2), some (.int b3), some (.int b4), some (.int b5), some (.int b6), some (.int b7), some (.int x22)] [.int b5, .int x83] rfl rfl ?_
    have h85 := z_b32 x83
    have h86 := z_b32 b5
    have hLk : (z_lkJ (kd + 4) B q pr en sh J ch ww yy nn p2.toInt.toNat (yy p2.toInt.toNat).toInt.toNat) ((fun k => (z_Ar M0 30 (1024 * a + k)).toInt.toNat) b7.toInt.toNat) (z_lke (yy p2.toInt.toNat).toInt.toNat yv.toInt.toNat nv.toInt.toNat 10) := ⟨x22, x41, _, _, by show x22.toInt = (((z_Ar M0 30 (1024 * a + b7.toInt.toNat)).toInt.toNat : Nat) : Int); rw [hsx]; omega, hA2, hoJ, rfl⟩
    refine z_xJ zt261 46 rfl rfl (fun (h87 : b5.toInt ≤ x83.toInt) => ?_) (fun (h87 : x83.toInt < b5.toInt) => ?_)
    · skip
      refine z_xN zt261 50 rfl rfl (fun (x88 : Int32) (h89 : x88.toInt = b7.toInt + 1) => ?_) (z_pAdd rfl rfl (by omega) (by omega))
      show z_ev (d + 5) 261 124 [some (.ref 19), some (.int p1), some (.int p2), some (.int b3), some (.int b4), some (.int b5), some (.int b6), some (.int x88), some (.int x22)] [] M77 _
      refine z_xP zt261 51 34 [some (.ref 19), some (.int p1), some (.int p2), some (.int b3), some (.int b4), some (.int b5), some (.int b6), some (.int x88), some (.int x22)] [] rfl rfl ?_
      have hs := z_bsN hbs fun l hl => by rw [z_lkJU q1 _ _ _ hl hLk]; omega
      rw [show b7.toInt.toNat + 1 = x88.toInt.toNat by omega] at hs
      exact ih M77 b3 b4 b5 b6 x88 (some (.int x22)) X80 ⟨by omega, by omega⟩ ⟨by omega, by omega⟩ (by omega) hb3 (fun i hi hne => ⟨(congrFun (X78.2.a f40 (by decide)) i).trans ((congrFun (X52.2.a f40 (by decide)) i).trans ((g40 i hi).trans (if_neg hne))), (congrFun (X78.2.a f41 (by decide)) i).trans ((congrFun (X52.2.a f41 (by decide)) i).trans ((g41 i hi).trans (if_neg hne)))⟩) ⟨mo, hmo, hs⟩ (by omega)
    refine z_xP zt261 47 112 [some (.ref 19), some (.int p1), some (.int p2), some (.int b3), some (.int b4), some (.int b5), some (.int b6), some (.int b7), some (.int x22)] [.int b3, .ref 19] rfl rfl ?_
    refine z_xcV (vs := [.ref 19, .int b3]) (r := []) (L2 := [some (.ref 19), some (.int b3)]) zt261 48 rfl zo261 zzcV12_333 (Or.inl rfl) rfl X80 f19 rfl rfl rfl (Nat.le_of_ble_eq_true rfl) zzm262 (Nat.le_of_ble_eq_true rfl) rfl ?_
    refine z_xP zt262 0 1 [some (.ref 19), some (.int b3)] [.ref 19] rfl rfl ?_
    refine z_xgX (b := 24) zt262 1 rfl zo262 zzf12_22 X80 f19 (by decide) (by decide) rfl ?_
    refine z_xP zt262 2 5 [some (.ref 19), some (.int b3)] [.ref 19, .ref 24] rfl rfl ?_
    have h90 := (X78.2.f f19 (by decide) h55)
    refine z_xgv zt262 3 rfl zo262 zzf12_242 X80 f19 (by decide) h90 ?_
    refine z_xil zt262 4 rfl X80 f24 (by decide) (by omega) (by omega) (fun (x91 : Int32) h92 (h93 : 0 ≤ x91.toInt) (h94 : x91.toInt ≤ 10) => ?_)
    have h95 := congrArg Int32.toInt (h92.symm.trans ((congrFun (X78.2.a f24 (by decide)) _).trans ((congrFun (X52.2.a f24 (by decide)) _).trans ((congrFun (e49.a f24 (by decide)) _).trans h36))))
    refine z_xP zt262 5 10 [some (.ref 19), some (.int b3)] [.ref 19, .int x91] rfl rfl ?_
    have h96 := (X78.2.f f19 (by decide) hyv)
    refine z_xgv zt262 6 rfl zo262 zzf12_275 X80 f19 (by decide) h96 ?_
    refine z_xP zt262 7 14 [some (.ref 19), some (.int b3)] [.int b3, .int yv, .int x91] rfl rfl ?_
    refine z_xI zt262 8 rfl rfl (fun (x97 : Int32) (hx97 : x97 = yv &&& b3) => ?_) rfl
    refine z_xP zt262 9 16 [some (.ref 19), some (.int b3)] [.ref 19, .int x97, .int x91] rfl rfl ?_
    have h99 := (X78.2.f f19 (by decide) hnv)
    refine z_xgv zt262 10 rfl zo262 zzf12_278 X80 f19 (by decide) h99 ?_
    refine z_xP zt262 11 21 [some (.ref 19), some (.int b3)] [.int (-1), .int b3, .int nv, .int x97, .int x91] rfl rfl ?_
    refine z_xI zt262 12 rfl rfl (fun (x100 : Int32) (hx100 : x100 = b3 ^^^ (-1 : Int32)) => ?_) rfl
    refine z_xI zt262 13 rfl rfl (fun (x102 : Int32) (hx102 : x102 = nv &&& x100) => ?_) rfl
    refine z_xI zt262 14 rfl rfl (fun (x104 : Int32) (hx104 : x104 = x97 ||| x102) => ?_) rfl
    have hlkx104 := z_lkR (o := (yy p2.toInt.toNat).toInt.toNat) hyn.1 hyn.2 (sv := b3) (by rw [hb3]; omega) hx97 hx100 hx102 hx104
    refine z_xcS (vs := [.int x104]) (r := [.int x91]) (L2 := [some (.int x104), none, none]) zt262 15 rfl zo262 zzcS12_193 (Or.inl rfl) (Nat.le_of_ble_eq_true rfl) rfl rfl (Nat.le_of_ble_eq_true rfl) zzm207 (Nat.le_of_ble_eq_true rfl) rfl ?_
    refine zUC207 X80.1 hlkx104.1 (fun x108 M106 X107 hcx108 => ?_)
    rw [hlkx104.2] at hcx108
    have hllx108 := (z_lkl (o := (yy p2.toInt.toNat).toInt.toNat) hyl.1 hyl.2 10).2
    have X109 := X80.go X107 (z_sb (by decide))
    show z_ev (d + 4) 262 27 [some (.ref 19), some (.int b3)] [.int x108, .int x91] M106 _
    have h111 := z_b32 x108
    refine z_xI zt262 16 rfl rfl (fun (x112 : Int32) (hx112 : x112.toInt = x91.toInt - x108.toInt) => ?_) (z_pSub rfl rfl (by omega) (by omega))
    refine z_xri zt262 17 rfl zzr262 ?_
    show z_ev (d + 5) 261 115 [some (.ref 19), some (.int p1), some (.int p2), some (.int b3), some (.int b4), some (.int b5), some (.int b6), some (.int b7), some (.int x22)] [.int x112] M106 _
    refine z_xP zt261 49 121 [some (.ref 19), some (.int p1), some (.int p2), some (.int b3), some (.int b4), some (.int x112), some (.int x22), some (.int b7), some (.int x22)] [] rfl rfl ?_
    refine z_xN zt261 50 rfl rfl (fun (x114 : Int32) (h115 : x114.toInt = b7.toInt + 1) => ?_) (z_pAdd rfl rfl (by omega) (by omega))
    show z_ev (d + 5) 261 124 [some (.ref 19), some (.int p1), some (.int p2), some (.int b3), some (.int b4), some (.int x112), some (.int x22), some (.int x114), some (.int x22)] [] M106 _
    refine z_xP zt261 51 34 [some (.ref 19), some (.int p1), some (.int p2), some (.int b3), some (.int b4), some (.int x112), some (.int x22), some (.int x114), some (.int x22)] [] rfl rfl ?_
    have hs := z_bsB (z_lkJU q1) hbs hLk (by omega) (x2 := x22.toInt) (by show x22.toInt = (((z_Ar M0 30 (1024 * a + b7.toInt.toNat)).toInt.toNat : Nat) : Int); rw [hsx]; omega)
    rw [show b7.toInt.toNat + 1 = x114.toInt.toNat by omega] at hs
    exact ih M106 b3 b4 x112 x22 x114 (some (.int x22)) X109 ⟨by omega, by omega⟩ ⟨by omega, by omega⟩ (by omega) hb3 (fun i hi hne => ⟨(congrFun (X107.2.a f40 (by decide)) i).trans ((congrFun (X78.2.a f40 (by decide)) i).trans ((congrFun (X52.2.a f40 (by decide)) i).trans ((g40 i hi).trans (if_neg hne)))), (congrFun (X107.2.a f41 (by decide)) i).trans ((congrFun (X78.2.a f41 (by decide)) i).trans ((congrFun (X52.2.a f41 (by decide)) i).trans ((g41 i hi).trans (if_neg hne))))⟩) ⟨_, by omega, hs⟩ (by omega)
theorem zUC261 {T : List zK} {d : Nat} {K : Option Value → zH → Prop} {a q m pr en J kd sh ch : Nat} {B : Nat → Nat} {av sv : Int32} {ww yy nn : Nat → Int32} {A : Int32} {p1 p2 : Int32} {M0 : zH} (hR : z_RP T M0 a q m pr en B av sv) (eJ : sv.toInt.toNat = J) (eqs : ∀ j, j < J → z_Ar M0 39 j = ww j ∧ z_Ar M0 40 j = yy j ∧ z_Ar M0 41 j = nn j) (jok : ∀ j, j < J → z_jok q (ww j) (yy j) (nn j)) (u1 : 0 ≤ p1.toInt ∧ p1.toInt ≤ 19) (u2 : 0 ≤ p2.toInt ∧ p2.toInt ≤ 8) (hj : p2.toInt.toNat < J) (hkd : (z_Ar M0 36 p1.toInt.toNat).toInt = (kd : Int)) (hsh : (z_Ar M0 37 p1.toInt.toNat).toInt = (sh : Int)) (hch : (z_Ar M0 38 p1.toInt.toNat).toInt = (ch : Int)) (hA : A.toInt = ((2 ^ q : Nat) : Int) - 1) (hnn : nn p2.toInt.toNat = A &&& (yy p2.toInt.toNat ^^^ (-1 : Int32))) (kk : ∀ (x : Int32) (M1 : zH), z_X T zw261 M0 M1 → (∃ y n mo, z_oJ (kd + 4) B q pr en sh J ch ww yy nn y n ∧ z_bsI (z_lkJ (kd + 4) B q pr en sh J ch ww yy nn p2.toInt.toNat (yy p2.toInt.toNat).toInt.toNat) (fun k => (z_Ar M0 30 (1024 * a + k)).toInt.toNat) (z_lke (yy p2.toInt.toNat).toInt.toNat y n 10) m mo x.toInt) → K (some (.int x)) M1) : z_ev (d + 5) 261 0 [some (.ref 19), some (.int p1), some (.int p2), none, none, none, none, none, none] [] M0 K := by
  obtain ⟨hW, ⟨hb9, ea, a8⟩, ⟨hs, hsv⟩, ⟨q1, q10⟩, ⟨t, hG⟩, hm, _, _⟩ := id hR
  have X : z_X T zw261 M0 M0 := .refl hW
  have hy0 := (jok _ hj).1.1
  refine z_xP zt261 0 1 [some (.ref 19), some (.int p1), some (.int p2), none, none, none, none, none, none] [.ref 19] rfl rfl ?_
  have f19 : T[19]? = some (.inl (12, 0, 0, 0, 0)) := X.1.k rfl (by decide)
  refine z_xgX (b := 40) zt261 1 rfl zo261 zzf12_70 X f19 (by decide) (by decide) rfl ?_
  refine z_xP zt261 2 5 [some (.ref 19), some (.int p1), some (.int p2), none, none, none, none, none, none] [.int p2, .ref 40] rfl rfl ?_
  have f40 : T[40]? = some (.inr (40, 0, 9, (-2147483648), 2147483647)) := X.1.k rfl (by decide)
  refine z_xil zt261 3 rfl X f40 (by decide) (by omega) (by omega) (fun (x1 : Int32) h2 (h3 : (-2147483648) ≤ x1.toInt) (h4 : x1.toInt ≤ 2147483647) => ?_)
  have ex1 : x1 = yy p2.toInt.toNat := h2.symm.trans (eqs _ hj).2.1
  refine z_xP zt261 4 8 [some (.ref 19), some (.int p1), some (.int p2), some (.int x1), none, none, none, none, none] [.ref 19] rfl rfl ?_
  refine z_xgX (b := 41) zt261 5 rfl zo261 zzf12_73 X f19 (by decide) (by decide) rfl ?_
  refine z_xP zt261 6 12 [some (.ref 19), some (.int p1), some (.int p2), some (.int x1), none, none, none, none, none] [.int p2, .ref 41] rfl rfl ?_
  have f41 : T[41]? = some (.inr (41, 0, 9, (-2147483648), 2147483647)) := X.1.k rfl (by decide)
  refine z_xil zt261 7 rfl X f41 (by decide) (by omega) (by omega) (fun (x5 : Int32) h6 (h7 : (-2147483648) ≤ x5.toInt) (h8 : x5.toInt ≤ 2147483647) => ?_)
  refine z_xP zt261 8 17 [some (.ref 19), some (.int p1), some (.int p2), some (.int x1), some (.int x5), none, none, none, none] [.int p1, .ref 19] rfl rfl ?_
  refine z_xcV (vs := [.ref 19, .int p1]) (r := []) (L2 := [some (.ref 19), some (.int p1), none]) zt261 9 rfl zo261 zzcV12_303 (Or.inl rfl) rfl X f19 rfl rfl rfl (Nat.le_of_ble_eq_true rfl) zzm239 (Nat.le_of_ble_eq_true rfl) rfl ?_
  refine zUC239 hR u1 hkd hsh hch (fun M9 yv nv X10 hyv hnv hyn hout => ?_)
  have hoJ := z_oJwo eJ eqs hout
  have hyl := z_outL hout q1
  have X11 := X.go X10 (z_sb (by decide))
  show z_ev (d + 5) 261 20 [some (.ref 19), some (.int p1), some (.int p2), some (.int x1), some (.int x5), none, none, none, none] [] M9 _
  refine z_xP zt261 10 22 [some (.ref 19), some (.int p1), some (.int p2), some (.int x1), some (.int x5), none, none, none, none] [.int x1, .ref 19] rfl rfl ?_
  refine z_xcV (vs := [.ref 19, .int x1]) (r := []) (L2 := [some (.ref 19), some (.int x1)]) zt261 11 rfl zo261 zzcV12_333 (Or.inl rfl) rfl X11 f19 rfl rfl rfl (Nat.le_of_ble_eq_true rfl) zzm262 (Nat.le_of_ble_eq_true rfl) rfl ?_
  refine z_xP zt262 0 1 [some (.ref 19), some (.int x1)] [.ref 19] rfl rfl ?_
  refine z_xgX (b := 24) zt262 1 rfl zo262 zzf12_22 X11 f19 (by decide) (by decide) rfl ?_
  refine z_xP zt262 2 5 [some (.ref 19), some (.int x1)] [.ref 19, .ref 24] rfl rfl ?_
  refine z_xgv zt262 3 rfl zo262 zzf12_242 X11 f19 (by decide) (X10.2.f f19 (by decide) hb9) ?_
  have f24 : T[24]? = some (.inr (24, 0, 8, 0, 10)) := X11.1.k rfl (by decide)
  refine z_xil zt262 4 rfl X11 f24 (by decide) (by omega) (by omega) (fun (x17 : Int32) h18 (h19 : 0 ≤ x17.toInt) (h20 : x17.toInt ≤ 10) => ?_)
  have e17 : x17.toInt = (q : Int) := by
    rw [← h18, X11.2.a f24 (by decide), z_tnA ea]
    exact hG.1
  refine z_xP zt262 5 10 [some (.ref 19), some (.int x1)] [.ref 19, .int x17] rfl rfl ?_
  refine z_xgv zt262 6 rfl zo262 zzf12_275 X11 f19 (by decide) hyv ?_
  refine z_xP zt262 7 14 [some (.ref 19), some (.int x1)] [.int x1, .int yv, .int x17] rfl rfl ?_
  refine z_xI zt262 8 rfl rfl (fun (x25 : Int32) (hx25 : x25 = yv &&& x1) => ?_) rfl
  refine z_xP zt262 9 16 [some (.ref 19), some (.int x1)] [.ref 19, .int x25, .int x17] rfl rfl ?_
  refine z_xgv zt262 10 rfl zo262 zzf12_278 X11 f19 (by decide) hnv ?_
  refine z_xP zt262 11 21 [some (.ref 19), some (.int x1)] [.int (-1), .int x1, .int nv, .int x25, .int x17] rfl rfl ?_
  refine z_xI zt262 12 rfl rfl (fun (x31 : Int32) (hx31 : x31 = x1 ^^^ (-1 : Int32)) => ?_) rfl
  refine z_xI zt262 13 rfl rfl (fun (x33 : Int32) (hx33 : x33 = nv &&& x31) => ?_) rfl
  refine z_xI zt262 14 rfl rfl (fun (x35 : Int32) (hx35 : x35 = x25 ||| x33) => ?_) rfl
  have hlkx35 := z_lkR (o := (yy p2.toInt.toNat).toInt.toNat) hyn.1 hyn.2 (sv := x1) (by rw [ex1]; omega) hx25 hx31 hx33 hx35
  refine z_xcS (vs := [.int x35]) (r := [.int x17]) (L2 := [some (.int x35), none, none]) zt262 15 rfl zo262 zzcS12_193 (Or.inl rfl) (Nat.le_of_ble_eq_true rfl) rfl rfl (Nat.le_of_ble_eq_true rfl) zzm207 (Nat.le_of_ble_eq_true rfl) rfl ?_
  refine zUC207 X11.1 hlkx35.1 (fun x39 M37 X38 hcx39 => ?_)
  rw [hlkx35.2] at hcx39
  have hllx39 := (z_lkl (o := (yy p2.toInt.toNat).toInt.toNat) hyl.1 hyl.2 10).2
  have X40 := X11.go X38 (z_sb (by decide))
  show z_ev (d + 4) 262 27 [some (.ref 19), some (.int x1)] [.int x39, .int x17] M37 _
  have h42 := z_b32 x39
  refine z_xI zt262 16 rfl rfl (fun (x43 : Int32) (hx43 : x43.toInt = x17.toInt - x39.toInt) => ?_) (z_pSub rfl rfl (by omega) (by omega))
  refine z_xri zt262 17 rfl zzr262 ?_
  show z_ev (d + 5) 261 25 [some (.ref 19), some (.int p1), some (.int p2), some (.int x1), some (.int x5), none, none, none, none] [.int x43] M37 _
  refine z_xP zt261 12 34 [some (.ref 19), some (.int p1), some (.int p2), some (.int x1), some (.int x5), some (.int x43), some (.int (-2)), some (.int 0), none] [] rfl rfl ?_
  have qm2 : (((-2) : Int32)).toInt = (-2) := rfl
  have q0 : ((0 : Int32)).toInt = 0 := rfl
  refine (zUB261 hR eJ eqs jok u1 u2 hj hkd hsh hch hA hnn (z_lkJo hoJ hy0.1 hA hnn) (fun x M1 X1 g => ?_) 2050) M37 x1 x5 x43 ((-2)) (0) none X40 (by decide) (by decide) (by omega) ex1 (fun i hi _ => ⟨?_, ?_⟩) ⟨_, by omega, z_bs0⟩ (by omega)
  · obtain ⟨mo, g⟩ := g
    exact kk x M1 X1 ⟨_, _, mo, hoJ, g⟩
  · exact (congrFun ((X38.2.a f40 (by decide)).trans (X10.2.a f40 (by decide))) i).trans (eqs i hi).2.1
  · exact (congrFun ((X38.2.a f41 (by decide)).trans (X10.2.a f41 (by decide))) i).trans (eqs i hi).2.2
