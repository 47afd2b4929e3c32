/-! the first bench, and a bench as it is told -/
theorem zUB108 {T : List zK} {d : Nat} {K : Option Value → zH → Prop} {a0 : Nat} {q : Nat} {t : Nat} {m : Nat} {p1 : Int32} {M0 : zH} {N pr en sa : Nat} {B : Nat → Nat} {S : Nat → Int32} {A : Int32} (k0 : T[a0]? = some (.inl (3, q, t, m, 5))) (u1 : 1 ≤ p1.toInt ∧ p1.toInt ≤ 5) (hW0 : z_W M0 T) (hch : z_chO M0) (m12 : 1 ≤ m ∧ m ≤ 12) (kk : ∀ (x : Int32) (M1 : zH), z_X T zw108 M0 M1 → x.toInt = (z_T m p1.toInt.toNat : Int) → z_TSG T M1 a0 N q t m pr en sa p1.toInt.toNat B (fun _ => 0) (fun _ => 0) S A → K (some (.int x)) M1) : ∀ nn : Nat, (∀ (M : zH) (b2 : Int32), z_X T zw108 M0 M → 0 ≤ b2.toInt ∧ b2.toInt ≤ 5 → b2.toInt ≤ p1.toInt → z_TSG T M a0 N q t m pr en sa b2.toInt.toNat B (fun _ => 0) (fun _ => 0) S A → ((0) * 2 + 0) * 6 + (5 - b2.toInt) < (nn : Int) → z_ev (d + 2) 108 6 [some (.ref a0), some (.int p1), some (.int b2)] [] M K) := by
  intro nn
  induction nn with
  | zero => exact by intros; exfalso; omega
  | succ nn ih =>
    intro M b2 X hh0 hh4 hS hE
    obtain ⟨⟨hWM, hbk⟩, kb, ⟨hN0, hag⟩, ⟨hsa, ksa, hSS⟩, hA, ⟨n5, jv, hj4, ejv⟩, hnu, har, hln, hlz⟩ := id hS
    have g0 := X.1.p3 k0
    refine z_xP zt108 3 8 [some (.ref a0), some (.int p1), some (.int b2)] [.int p1, .int b2] rfl rfl ?_
    refine z_xJ zt108 4 rfl rfl (fun (h1 : p1.toInt ≤ b2.toInt) => ?_) (fun (h1 : b2.toInt < p1.toInt) => ?_)
    · skip
      refine z_xP zt108 30 64 [some (.ref a0), some (.int p1), some (.int b2)] [.int p1, .ref a0] rfl rfl ?_
      refine z_xcV (vs := [.ref a0, .int p1]) (r := []) (L2 := [some (.ref a0), some (.int p1)]) zt108 31 rfl zo108 zzcV3_145 (Or.inl rfl) rfl X k0 rfl rfl rfl (Nat.le_of_ble_eq_true rfl) zzm104 (Nat.le_of_ble_eq_true rfl) rfl ?_
      refine z_xP zt104 0 1 [some (.ref a0), some (.int p1)] [.ref a0] rfl rfl ?_
      refine z_xgR (κ := .inl (2, q, t, m, 0)) zt104 1 rfl zo104 zzf3_39 X k0 (by decide) (by decide) rfl (fun (a3 : Nat) h2 k4 => ?_)
      have g5 := X.1.p2 k4
      refine z_xgR (κ := .inr (102, 0, m, 0, 1023)) zt104 2 rfl zo104 zzf3_101 X k4 (by decide) (by decide) rfl (fun (a7 : Nat) h6 k8 => ?_)
      refine z_xln zt104 3 rfl X k8 (by decide) (by omega) (fun (x9 : Int32) (h10 : x9.toInt = ((m : Nat) : Int)) => ?_)
      refine z_xP zt104 4 9 [some (.ref a0), some (.int p1)] [.int p1, .int x9] rfl rfl ?_
      refine z_xI zt104 5 rfl rfl (fun (x11 : Int32) (h12 : x11.toInt = x9.toInt + p1.toInt) => ?_) (z_pAdd rfl rfl (by omega) (by omega))
      refine z_xP zt104 6 11 [some (.ref a0), some (.int p1)] [.int 1, .int x11] rfl rfl ?_
      refine z_xI zt104 7 rfl rfl (fun (x13 : Int32) (h14 : x13.toInt = x11.toInt - 1) => ?_) (z_pSub rfl rfl (by omega) (by omega))
      refine z_xP zt104 8 13 [some (.ref a0), some (.int p1)] [.int p1, .int x13] rfl rfl ?_
      refine z_xcS (vs := [.int x13, .int p1]) (r := []) (L2 := [some (.int x13), some (.int p1)]) zt104 9 rfl zo104 zzcS3_136 (Or.inr rfl) (Nat.le_of_ble_eq_true rfl) rfl rfl (Nat.le_of_ble_eq_true rfl) zzm105 (Nat.le_of_ble_eq_true rfl) rfl ?_
      refine z_xP zt105 0 1 [some (.int x13), some (.int p1)] [.int x13] rfl rfl ?_
      refine z_xZ zt105 1 rfl rfl (fun (h15 : x13.toInt < 0) => absurd h15 (by omega)) (fun (h15 : 0 ≤ x13.toInt) => ?_)
      refine z_xP zt105 2 5 [some (.int x13), some (.int p1)] [.int p1] rfl rfl ?_
      refine z_xZ zt105 3 rfl rfl (fun (h16 : p1.toInt < 0) => absurd h16 (by omega)) (fun (h16 : 0 ≤ p1.toInt) => ?_)
      refine z_xP zt105 4 10 [some (.int x13), some (.int p1)] [.int 5, .int p1] rfl rfl ?_
      refine z_xJ zt105 5 rfl rfl (fun (h17 : 5 < p1.toInt) => absurd h17 (by omega)) (fun (h17 : p1.toInt ≤ 5) => ?_)
      refine z_xP zt105 6 16 [some (.int x13), some (.int p1)] [.int x13, .int 6] rfl rfl ?_
      refine z_xI zt105 7 rfl rfl (fun (x18 : Int32) (h19 : x18.toInt = 6 * x13.toInt) => ?_) (z_pMul rfl rfl (by omega) (by omega))
      refine z_xP zt105 8 18 [some (.int x13), some (.int p1)] [.int p1, .int x18] rfl rfl ?_
      refine z_xI zt105 9 rfl rfl (fun (x20 : Int32) (h21 : x20.toInt = x18.toInt + p1.toInt) => ?_) (z_pAdd rfl rfl (by omega) (by omega))
      refine z_xgs zt105 10 rfl zo105 zg0_340 ?_
      have f1 : T[1]? = some (.inr (1, 0, 102, 0, 4368)) := X.1.k rfl (by decide)
      refine z_xln zt105 11 rfl X f1 (by decide) (by decide) (fun (x22 : Int32) (h23 : x22.toInt = ((102 : Nat) : Int)) => ?_)
      refine z_xJ zt105 12 rfl rfl (fun (h24 : x20.toInt < x22.toInt) => ?_) (fun (h24 : x22.toInt ≤ x20.toInt) => absurd h24 (by omega))
      · skip
        refine z_xgs zt105 15 rfl zo105 zg0_340 ?_
        refine z_xP zt105 16 34 [some (.int x13), some (.int p1)] [.int x13, .int 6, .ref 1] rfl rfl ?_
        refine z_xI zt105 17 rfl rfl (fun (x25 : Int32) (h26 : x25.toInt = 6 * x13.toInt) => ?_) (z_pMul rfl rfl (by omega) (by omega))
        refine z_xP zt105 18 36 [some (.int x13), some (.int p1)] [.int p1, .int x25, .ref 1] rfl rfl ?_
        refine z_xI zt105 19 rfl rfl (fun (x27 : Int32) (h28 : x27.toInt = x25.toInt + p1.toInt) => ?_) (z_pAdd rfl rfl (by omega) (by omega))
        refine z_xil zt105 20 rfl X f1 (by decide) (by omega) (by omega) (fun (x29 : Int32) h30 (h31 : 0 ≤ x29.toInt) (h32 : x29.toInt ≤ 4368) => ?_)
        have e29 : x29.toInt = (z_T m p1.toInt.toNat : Int) := by
          rw [← z_Tp m (by omega) p1.toInt.toNat (by omega), ← h30, X.2.a f1 (by decide)]
          have e : z_Ar M0 1 = fun j => z_tc.getD j 0 := by
            unfold z_Ar
            rw [hch]
          rw [e]
          show (z_tc.getD x27.toInt.toNat 0).toInt = _
          rw [show x27.toInt.toNat = 6 * (m + p1.toInt.toNat - 1) + p1.toInt.toNat by omega]
        refine z_xri zt105 21 rfl zzr105 ?_
        show z_ev (d + 1) 104 16 [some (.ref a0), some (.int p1)] [.int x29] M _
        refine z_xri zt104 10 rfl zzr104 ?_
        show z_ev (d + 2) 108 67 [some (.ref a0), some (.int p1), some (.int b2)] [.int x29] M _
        exact z_xri zt108 32 rfl zzr108 (kk x29 M X e29 (by rw [show p1.toInt.toNat = b2.toInt.toNat by omega]; exact hS))
    refine z_xP zt108 5 13 [some (.ref a0), some (.int p1), some (.int b2)] [.int 5, .int b2] rfl rfl ?_
    refine z_xJ zt108 6 rfl rfl (fun (h33 : 5 ≤ b2.toInt) => absurd h33 (by omega)) (fun (h33 : b2.toInt < 5) => ?_)
    refine z_xP zt108 7 17 [some (.ref a0), some (.int p1), some (.int b2)] [.ref a0] rfl rfl ?_
    refine z_xgR (κ := .inr (210, 0, 5, 0, ((m : Nat) : Int) - 1)) zt108 8 rfl zo108 zzf3_33 X k0 (by decide) (by decide) rfl (fun (a35 : Nat) h34 k36 => ?_)
    refine z_xP zt108 9 22 [some (.ref a0), some (.int p1), some (.int b2)] [.int 0, .int b2, .ref a35] rfl rfl ?_
    have q0 : ((0 : Int32)).toInt = 0 := rfl
    refine z_xis zt108 10 rfl X k36 (by decide) (X.1.g4 k36 (by decide)) (by omega) (by omega) (by omega) (by omega) (by decide) (fun M37 X38 e39 h40 => ?_)
    refine z_xP zt108 11 26 [some (.ref a0), some (.int p1), some (.int b2)] [.ref a0, .int 1, .ref a0] rfl rfl ?_
    refine z_xgR (κ := .inl (2, q, t, m, 0)) zt108 12 rfl zo108 zzf3_39 X38 k0 (by decide) (by decide) rfl (fun (a42 : Nat) h41 k43 => ?_)
    have g44 := X38.1.p2 k43
    refine z_xgR (κ := .inr (102, 0, m, 0, 1023)) zt108 13 rfl zo108 zzf3_101 X38 k43 (by decide) (by decide) rfl (fun (a46 : Nat) h45 k47 => ?_)
    refine z_xP zt108 14 33 [some (.ref a0), some (.int p1), some (.int b2)] [.int 0, .ref a46, .int 1, .ref a0] rfl rfl ?_
    refine z_xil zt108 15 rfl X38 k47 (by decide) (by decide) (by omega) (fun (x48 : Int32) h49 (h50 : 0 ≤ x48.toInt) (h51 : x48.toInt ≤ 1023) => ?_)
    refine z_xP zt108 16 35 [some (.ref a0), some (.int p1), some (.int b2)] [.ref a0, .int x48, .int 1, .ref a0] rfl rfl ?_
    refine z_xgv zt108 17 rfl zo108 zzf3_39 X38 k0 (by decide) h41 ?_
    refine z_xgI zt108 18 rfl zo108 zzf3_56 X38 k43 (by decide) (by decide) rfl (fun (x53 : Int32) h52 (h54 : ((z_po q : Nat) : Int) - 1 ≤ x53.toInt) (h55 : x53.toInt ≤ ((z_po q : Nat) : Int) - 1) => ?_)
    refine z_xP zt108 19 42 [some (.ref a0), some (.int p1), some (.int b2)] [.ref a0, .int x53, .int x48, .int 1, .ref a0] rfl rfl ?_
    refine z_xgv zt108 20 rfl zo108 zzf3_39 X38 k0 (by decide) h41 ?_
    refine z_xgv zt108 21 rfl zo108 zzf3_101 X38 k43 (by decide) h45 ?_
    refine z_xP zt108 22 49 [some (.ref a0), some (.int p1), some (.int b2)] [.int 0, .ref a46, .int x53, .int x48, .int 1, .ref a0] rfl rfl ?_
    refine z_xil zt108 23 rfl X38 k47 (by decide) (by decide) (by omega) (fun (x56 : Int32) h57 (h58 : 0 ≤ x56.toInt) (h59 : x56.toInt ≤ 1023) => ?_)
    have h60 := congrArg Int32.toInt (h57.symm.trans h49)
    refine z_xP zt108 24 51 [some (.ref a0), some (.int p1), some (.int b2)] [.int (-1), .int x56, .int x53, .int x48, .int 1, .ref a0] rfl rfl ?_
    refine z_xI zt108 25 rfl rfl (fun (x61 : Int32) (h61 : x61 = x56 ^^^ (-1 : Int32)) => ?_) rfl
    refine z_xI zt108 26 rfl rfl (fun (x63 : Int32) (h64 : x63 = x53 &&& x61) => ?_) rfl
    refine z_xcV (vs := [.ref a0, .int 1, .int x48, .int x63]) (r := []) (L2 := [some (.ref a0), some (.int 1), some (.int x48), some (.int x63)]) zt108 27 rfl zo108 zzcV3_142 (Or.inl rfl) rfl X38 k0 rfl rfl rfl (Nat.le_of_ble_eq_true rfl) zzm53 (Nat.le_of_ble_eq_true rfl) rfl ?_
    have ia35 := z_rfe h34 (hbk _ _ _ _ _ k0).2.2.2.2.2.2.2.1
    rw [ia35] at h40
    have hS37 : z_TSG T M37 a0 N q t m pr en sa b2.toInt.toNat B (fun _ => 0) (fun _ => 0) S A := hS.nu X38.1 e39 fun j hj => by
      rw [h40]
      show (if j = b2.toInt.toNat then (0 : Int32) else z_Ar M (a0 + 8) j).toInt = _
      split
      · rfl
      · exact hnu j hj
    obtain ⟨⟨_, hbk37⟩, _, ⟨hN37, _⟩, ⟨hsa37, _, hSS37⟩, _, ⟨_, jv37, hj37, ejv37⟩, _, _, hln37, _⟩ := id hS37
    have ia42 := z_rfe h41 hN37
    rw [ia42] at h45
    have ia46 := z_rfe h45 hsa37
    rw [ia46] at h49
    have e48 : x48 = S 0 := h49.symm.trans (hSS37 0 (by omega))
    have e56 : x56 = x48 := Int32.toInt_inj.mp h60
    have eA : x53 = A := by
      have e : z_po q = 2 ^ q := rfl
      refine Int32.toInt_inj.mp ?_
      rw [hA, ← e]
      omega
    refine zUC53 X38.1 k0 X38.1 hbk37 hj37 ⟨by omega, by omega, by omega⟩ hln37 (fun M97 X98 hse hl97 => ?_)
    have X99 := X38.go X98 (z_sb (by decide))
    show z_ev (d + 2) 108 56 [some (.ref a0), some (.int p1), some (.int b2)] [] M97 _
    refine z_xN zt108 28 rfl rfl (fun (x101 : Int32) (h102 : x101.toInt = b2.toInt + 1) => ?_) (z_pAdd rfl rfl (by omega) (by omega))
    show z_ev (d + 2) 108 59 [some (.ref a0), some (.int p1), some (.int x101)] [] M97 _
    refine z_xP zt108 29 6 [some (.ref a0), some (.int p1), some (.int x101)] [] rfl rfl ?_
    have es : x101.toInt.toNat = b2.toInt.toNat + 1 := by omega
    refine ih M97 x101 X99 ⟨by omega, by omega⟩ (by omega) ?_ (by omega)
    rw [es]
    refine (hS37.se (u := 0) X98 hj37 hse hl97 (by omega) rfl e48 (by rw [h64, h61, e56, eA]) ?_).C (fun _ _ => rfl) fun j _ => by
      (try dsimp only)
      split <;> rfl
    rw [h40]
    show (if b2.toInt.toNat = b2.toInt.toNat then (0 : Int32) else _).toInt = _
    rw [if_pos rfl]
    rfl
theorem zUC108 {T : List zK} {d : Nat} {K : Option Value → zH → Prop} {a0 : Nat} {q : Nat} {t : Nat} {m : Nat} {p1 : Int32} {M0 : zH} {N pr en sa : Nat} {B : Nat → Nat} {S : Nat → Int32} {A : Int32} (hW : z_W M0 T) (k0 : T[a0]? = some (.inl (3, q, t, m, 5))) (u1 : 1 ≤ p1.toInt ∧ p1.toInt ≤ 5) (hbk : z_blk T M0) (hN0 : z_F M0 a0 0 = some (.ref N)) (hag : z_AGO T M0 N q t m pr en B) (hsa : z_F M0 N 5 = some (.ref sa)) (ksa : T[sa]? = some (.inr (102, 0, m, 0, 1023))) (hSS : ∀ k, k < m → z_Ar M0 sa k = S k) (hA : A.toInt = ((2 ^ q : Nat) : Int) - 1) (hlz : z_lz M0 a0) (hch : z_chO M0) (m12 : 1 ≤ m ∧ m ≤ 12) (kk : ∀ (x : Int32) (M1 : zH), z_X T zw108 M0 M1 → x.toInt = (z_T m p1.toInt.toNat : Int) → z_TSG T M1 a0 N q t m pr en sa p1.toInt.toNat B (fun _ => 0) (fun _ => 0) S A → K (some (.int x)) M1) : z_ev (d + 2) 108 0 [some (.ref a0), some (.int p1), none] [] M0 K := by
  have X : z_X T zw108 M0 M0 := .refl hW
  have g0 := X.1.p3 k0
  refine z_xP zt108 0 1 [some (.ref a0), some (.int p1), none] [.ref a0] rfl rfl ?_
  refine z_xcV (vs := [.ref a0]) (r := []) (L2 := [some (.ref a0)]) zt108 1 rfl zo108 zzcV3_139 (Or.inl rfl) rfl X k0 rfl rfl rfl (Nat.le_of_ble_eq_true rfl) zzm61 (Nat.le_of_ble_eq_true rfl) rfl ?_
  refine zUC61 X.1 k0 X.1 hbk (fun M8 X9 hz8 hl8 => ?_)
  have X10 := X.go X9 (z_sb (by decide))
  show z_ev (d + 2) 108 4 [some (.ref a0), some (.int p1), none] [] M8 _
  refine z_xP zt108 2 6 [some (.ref a0), some (.int p1), some (.int 0)] [] rfl rfl ?_
  have q0 : ((0 : Int32)).toInt = 0 := rfl
  exact (zUB108 k0 u1 hW hch m12 kk 12) M8 (0) X10 (by decide) (by omega) ⟨⟨X9.1, hbk.ke X9.2 (by decide)⟩, k0, ⟨X9.2.f k0 (by decide) hN0, hag.ke (fun _ _ h => h) X9.2 (by decide)⟩, ⟨X9.2.f hag.1 (by decide) hsa, ksa, fun k hk => (congrFun (X9.2.a ksa (by decide)) k).trans (hSS k hk)⟩, hA, ⟨by decide, 0, hz8, rfl⟩, fun j hj => absurd hj (Nat.not_lt_zero j), fun j hj => absurd hj (Nat.not_lt_zero j), hl8, hlz.ke hbk hW k0 X9.2 (by decide)⟩ (by omega)
