/-! find of the reference, told -/
theorem zUB239 {T : List zK} {d : Nat} {K : Option Value → zH → Prop} {a q m pr en kd sh ch : Nat} {B : Nat → Nat} {av sv p1 : Int32} {M0 : zH} (hR : z_RP T M0 a q m pr en B av sv) (u1 : 0 ≤ p1.toInt ∧ p1.toInt ≤ 19) (hkd : (z_Ar M0 36 p1.toInt.toNat).toInt = (kd : Int)) (hsh : (z_Ar M0 37 p1.toInt.toNat).toInt = (sh : Int)) (hch : (z_Ar M0 38 p1.toInt.toNat).toInt = (ch : Int)) (h56 : kd = 5 ∨ kd = 6) (kk : ∀ (M1 : zH) (y n : Int32), z_X T zw239 M0 M1 → z_F M1 19 34 = some (.int y) → z_F M1 19 35 = some (.int n) → ((0 ≤ y.toInt ∧ y.toInt < 1024) ∧ (0 ≤ n.toInt ∧ n.toInt < 1024)) → z_wout (kd + 4) B q pr en (z_LV M0 sv) sh sv.toInt.toNat ch (fun j => (z_Ar M0 40 j).toInt.toNat) (fun j => (z_Ar M0 41 j).toInt.toNat) y.toInt.toNat n.toInt.toNat → K none M1) : ∀ n : Nat, (∀ (M : zH) (b2 : Int32), z_X T zw239 M0 M → 0 ≤ b2.toInt ∧ b2.toInt ≤ 10 → b2.toInt ≤ (q : Int) → z_F M 19 34 = some (.int 0) → z_F M 19 35 = some (.int 0) → (∀ i, i < b2.toInt.toNat → (z_Ar M 42 i).toInt = (((sh + i) % q : Nat) : Int)) → ((0) * 2 + 0) * 11 + (10 - b2.toInt) < (n : Int) → z_ev (d + 4) 239 115 [some (.ref 19), some (.int p1), some (.int b2)] [] M K) := by
  intro n
  induction n with
  | zero => exact by intros; exfalso; omega
  | succ n ih =>
    intro M b2 X hh0 hq0 hy hn hI hE
    obtain ⟨hW, ⟨hb9, ea, a8⟩, ⟨hs, hsv⟩, ⟨q1, q10⟩, ⟨t, hG⟩, hm, hans, hok⟩ := hR.ke X (by decide)
    have hW0 := hR.1
    have h36 : z_Ar M 36 = z_Ar M0 36 := X.2.a (hW0.k (k := 36) (κ := z_ai 36 20 0 7) rfl (by decide)) (by decide)
    have h37' : z_Ar M 37 = z_Ar M0 37 := X.2.a (hW0.k (k := 37) (κ := z_ai 37 20 0 9) rfl (by decide)) (by decide)
    have h38' : z_Ar M 38 = z_Ar M0 38 := X.2.a (hW0.k (k := 38) (κ := z_ai 38 20 0 8) rfl (by decide)) (by decide)
    have h40 : z_Ar M 40 = z_Ar M0 40 := X.2.a (hW0.k (k := 40) (κ := z_af 40 9) rfl (by decide)) (by decide)
    have hLV := z_LV.ke (sv := sv) hW0 X (by decide)
    refine z_xP zt239 32 117 [some (.ref 19), some (.int p1), some (.int b2)] [.ref 19, .int b2] rfl rfl ?_
    have f19 : T[19]? = some (.inl (12, 0, 0, 0, 0)) := X.1.k rfl (by decide)
    refine z_xgX (b := 24) zt239 33 rfl zo239 zzf12_22 X f19 (by decide) (by decide) rfl ?_
    refine z_xP zt239 34 121 [some (.ref 19), some (.int p1), some (.int b2)] [.ref 19, .ref 24, .int b2] rfl rfl ?_
    refine z_xgv zt239 35 rfl zo239 zzf12_242 X f19 (by decide) hb9 ?_
    have f24 : T[24]? = some (.inr (24, 0, 8, 0, 10)) := X.1.k rfl (by decide)
    refine z_xil zt239 36 rfl X f24 (by decide) (by omega) (by omega) (fun (x5 : Int32) h6 (h7 : 0 ≤ x5.toInt) (h8 : x5.toInt ≤ 10) => ?_)
    have e5 : x5.toInt = (q : Int) := by rw [← h6, z_tnA ea]; exact hG.1
    refine z_xJ zt239 37 rfl rfl (fun (h9 : x5.toInt ≤ b2.toInt) => ?_) (fun (h9 : b2.toInt < x5.toInt) => ?_)
    · skip
      refine z_xP zt239 55 160 [some (.ref 19), some (.int p1), some (.int b2)] [.ref 19, .ref 19] rfl rfl ?_
      refine z_xgX (b := 36) zt239 56 rfl zo239 zzf12_58 X f19 (by decide) (by decide) rfl ?_
      refine z_xP zt239 57 164 [some (.ref 19), some (.int p1), some (.int b2)] [.int p1, .ref 36, .ref 19] rfl rfl ?_
      have f36 : T[36]? = some (.inr (36, 0, 20, 0, 7)) := X.1.k rfl (by decide)
      refine z_xil zt239 58 rfl X f36 (by decide) (by omega) (by omega) (fun (x10 : Int32) h11 (h12 : 0 ≤ x10.toInt) (h13 : x10.toInt ≤ 7) => ?_)
      refine z_xP zt239 59 167 [some (.ref 19), some (.int p1), some (.int b2)] [.int 6, .int x10, .ref 19] rfl rfl ?_
      have e10 : x10.toInt = (kd : Int) := by rw [← h11, h36]; exact hkd
      have ho : ∀ i, i < q → (z_Ar M 42 i).toInt = (((sh + i) % q : Nat) : Int) := fun i hi => hI i (by omega)
      refine z_xJ zt239 60 rfl rfl (fun (h14 : x10.toInt ≠ 6) => ?_) (fun (h14 : x10.toInt = 6) => ?_)
      · skip
        refine z_xP zt239 66 180 [some (.ref 19), some (.int p1), some (.int b2)] [.int (-1), .ref 19] rfl rfl ?_
        refine z_xcV (vs := [.ref 19, .int (-1)]) (r := []) (L2 := [some (.ref 19), some (.int (-1)), none, none, none, none]) zt239 67 rfl zo239 zzcV12_297 (Or.inl rfl) rfl X f19 rfl rfl rfl (Nat.le_of_ble_eq_true rfl) zzm246 (Nat.le_of_ble_eq_true rfl) rfl ?_
        have qm1 : (((-1) : Int32)).toInt = (-1) := rfl
        have qm1 : (((-1) : Int32)).toInt = (-1) := rfl
        refine zUC246 (hR.ke X (by decide)) (by decide) hy hn (oo := fun i => (sh + i) % q) ho (fun i _ => Nat.mod_lt _ (by omega)) (fun M15 y n X16 hy2 hn2 hb hT => ?_)
        rw [hLV] at hT
        have X17 := X.go X16 (z_sb (by decide))
        show z_ev (d + 4) 239 183 [some (.ref 19), some (.int p1), some (.int b2)] [] M15 _
        refine z_xP zt239 68 199 [some (.ref 19), some (.int p1), some (.int b2)] [] rfl rfl ?_
        refine z_xrv zt239 75 rfl zzr239 (kk M15 y n X17 hy2 hn2 hb ?_)
        refine Or.inr (Or.inr (Or.inr (Or.inr (Or.inr (Or.inl ⟨by omega, z_tuC q _ _ (fun _ _ => rfl) (fun k _ => ⟨fun c => ?_, fun c => c.elim⟩) hT⟩)))))
        have := c.1.1
        omega
      refine z_xP zt239 61 171 [some (.ref 19), some (.int p1), some (.int b2)] [.ref 19, .ref 19] rfl rfl ?_
      refine z_xgX (b := 38) zt239 62 rfl zo239 zzf12_64 X f19 (by decide) (by decide) rfl ?_
      refine z_xP zt239 63 175 [some (.ref 19), some (.int p1), some (.int b2)] [.int p1, .ref 38, .ref 19] rfl rfl ?_
      have f38 : T[38]? = some (.inr (38, 0, 20, 0, 8)) := X.1.k rfl (by decide)
      refine z_xil zt239 64 rfl X f38 (by decide) (by omega) (by omega) (fun (x19 : Int32) h20 (h21 : 0 ≤ x19.toInt) (h22 : x19.toInt ≤ 8) => ?_)
      refine z_xP zt239 65 180 [some (.ref 19), some (.int p1), some (.int b2)] [.int x19, .ref 19] rfl rfl ?_
      refine z_xcV (vs := [.ref 19, .int x19]) (r := []) (L2 := [some (.ref 19), some (.int x19), none, none, none, none]) zt239 67 rfl zo239 zzcV12_297 (Or.inl rfl) rfl X f19 rfl rfl rfl (Nat.le_of_ble_eq_true rfl) zzm246 (Nat.le_of_ble_eq_true rfl) rfl ?_
      have e19 : x19.toInt = (ch : Int) := by rw [← h20, h38']; exact hch
      refine zUC246 (hR.ke X (by decide)) ⟨by omega, by omega⟩ hy hn (oo := fun i => (sh + i) % q) ho (fun i _ => Nat.mod_lt _ (by omega)) (fun M23 y n X24 hy2 hn2 hb hT => ?_)
      rw [hLV] at hT
      have X25 := X.go X24 (z_sb (by decide))
      show z_ev (d + 4) 239 183 [some (.ref 19), some (.int p1), some (.int b2)] [] M23 _
      refine z_xP zt239 68 199 [some (.ref 19), some (.int p1), some (.int b2)] [] rfl rfl ?_
      refine z_xrv zt239 75 rfl zzr239 (kk M23 y n X25 hy2 hn2 hb ?_)
      refine Or.inr (Or.inr (Or.inr (Or.inr (Or.inr (Or.inr (Or.inl ⟨by omega, z_tuC q _ _ (fun _ _ => rfl) (fun k _ => ?_) hT⟩))))))
      have ec : x19.toInt.toNat = ch := by omega
      unfold z_ropn
      rw [h40, ec]
      exact ⟨fun ⟨c1, c2⟩ => ⟨by omega, c2⟩, fun ⟨c1, c2⟩ => ⟨⟨by omega, by omega⟩, c2⟩⟩
    refine z_xP zt239 38 129 [some (.ref 19), some (.int p1), some (.int b2)] [.ref 19] rfl rfl ?_
    refine z_xgX (b := 42) zt239 39 rfl zo239 zzf12_76 X f19 (by decide) (by decide) rfl ?_
    refine z_xP zt239 40 134 [some (.ref 19), some (.int p1), some (.int b2)] [.ref 19, .int b2, .ref 42] rfl rfl ?_
    refine z_xgX (b := 37) zt239 41 rfl zo239 zzf12_61 X f19 (by decide) (by decide) rfl ?_
    refine z_xP zt239 42 138 [some (.ref 19), some (.int p1), some (.int b2)] [.int p1, .ref 37, .int b2, .ref 42] rfl rfl ?_
    have f37 : T[37]? = some (.inr (37, 0, 20, 0, 9)) := X.1.k rfl (by decide)
    refine z_xil zt239 43 rfl X f37 (by decide) (by omega) (by omega) (fun (x27 : Int32) h28 (h29 : 0 ≤ x27.toInt) (h30 : x27.toInt ≤ 9) => ?_)
    refine z_xP zt239 44 140 [some (.ref 19), some (.int p1), some (.int b2)] [.int b2, .int x27, .int b2, .ref 42] rfl rfl ?_
    refine z_xI zt239 45 rfl rfl (fun (x31 : Int32) (h32 : x31.toInt = x27.toInt + b2.toInt) => ?_) (z_pAdd rfl rfl (by omega) (by omega))
    refine z_xP zt239 46 142 [some (.ref 19), some (.int p1), some (.int b2)] [.ref 19, .int x31, .int b2, .ref 42] rfl rfl ?_
    refine z_xgX (b := 24) zt239 47 rfl zo239 zzf12_22 X f19 (by decide) (by decide) rfl ?_
    refine z_xP zt239 48 146 [some (.ref 19), some (.int p1), some (.int b2)] [.ref 19, .ref 24, .int x31, .int b2, .ref 42] rfl rfl ?_
    refine z_xgv zt239 49 rfl zo239 zzf12_242 X f19 (by decide) hb9 ?_
    refine z_xil zt239 50 rfl X f24 (by decide) (by omega) (by omega) (fun (x33 : Int32) h34 (h35 : 0 ≤ x33.toInt) (h36 : x33.toInt ≤ 10) => ?_)
    have h37 := congrArg Int32.toInt (h34.symm.trans h6)
    refine z_xM zt239 51 rfl (by omega) (fun (x38 : Int32) (h39 : x38.toInt = x31.toInt % x33.toInt ∧ 0 ≤ x38.toInt ∧ x38.toInt < x33.toInt ∧ x38.toInt ≤ x31.toInt) => ?_) (z_pRem rfl rfl (by omega) (by omega))
    have f42 : T[42]? = some (.inr (42, 0, 10, 0, 9)) := X.1.k rfl (by decide)
    refine z_xis zt239 52 rfl X f42 (by decide) (by decide) (by omega) (by omega) (by omega) (by omega) (by decide) (fun M40 X41 e42 h43 => ?_)
    refine z_xN zt239 53 rfl rfl (fun (x44 : Int32) (h45 : x44.toInt = b2.toInt + 1) => ?_) (z_pAdd rfl rfl (by omega) (by omega))
    show z_ev (d + 4) 239 155 [some (.ref 19), some (.int p1), some (.int x44)] [] M40 _
    refine z_xP zt239 54 115 [some (.ref 19), some (.int p1), some (.int x44)] [] rfl rfl ?_
    have e27 : x27.toInt = (sh : Int) := by rw [← h28, h37']; exact hsh
    refine ih M40 x44 X41 ⟨by omega, by omega⟩ (by omega) (e42.f f19 (by decide) hy) (e42.f f19 (by decide) hn) (fun i hi => ?_) (by omega)
    rw [h43]
    show (if i = b2.toInt.toNat then x38 else z_Ar M 42 i).toInt = _
    by_cases c : i = b2.toInt.toNat
    · rw [if_pos c, h39.1, h32, c, h37, e5, e27]
      rw [show (sh : Int) + b2.toInt = ((sh + b2.toInt.toNat : Nat) : Int) by omega]
      rfl
    · rw [if_neg c]
      exact hI i (by omega)
theorem zUC239 {T : List zK} {d : Nat} {K : Option Value → zH → Prop} {a q m pr en kd sh ch : Nat} {B : Nat → Nat} {av sv p1 : Int32} {M0 : zH} (hR : z_RP T M0 a q m pr en B av sv) (u1 : 0 ≤ p1.toInt ∧ p1.toInt ≤ 19) (hkd : (z_Ar M0 36 p1.toInt.toNat).toInt = (kd : Int)) (hsh : (z_Ar M0 37 p1.toInt.toNat).toInt = (sh : Int)) (hch : (z_Ar M0 38 p1.toInt.toNat).toInt = (ch : Int)) (kk : ∀ (M1 : zH) (y n : Int32), z_X T zw239 M0 M1 → z_F M1 19 34 = some (.int y) → z_F M1 19 35 = some (.int n) → ((0 ≤ y.toInt ∧ y.toInt < 1024) ∧ (0 ≤ n.toInt ∧ n.toInt < 1024)) → z_wout (kd + 4) B q pr en (z_LV M0 sv) sh sv.toInt.toNat ch (fun j => (z_Ar M0 40 j).toInt.toNat) (fun j => (z_Ar M0 41 j).toInt.toNat) y.toInt.toNat n.toInt.toNat → K none M1) : z_ev (d + 4) 239 0 [some (.ref 19), some (.int p1), none] [] M0 K := by
  obtain ⟨hW, ⟨hb9, ea, a8⟩, ⟨hs, hsv⟩, ⟨q1, q10⟩, ⟨t, hG⟩, hm, hans, hok⟩ := id hR
  have X : z_X T zw239 M0 M0 := .refl hW
  refine z_xP zt239 0 2 [some (.ref 19), some (.int p1), none] [.int 0, .ref 19] rfl rfl ?_
  have f19 : T[19]? = some (.inl (12, 0, 0, 0, 0)) := X.1.k rfl (by decide)
  have q0 : ((0 : Int32)).toInt = 0 := rfl
  refine z_xpf zt239 1 rfl zo239 zzf12_275 X f19 (by decide) (by decide) ⟨by omega, by omega⟩ rfl (by decide) zw12_34 (fun M1 X2 e3 h4 => ?_)
  refine z_xP zt239 2 7 [some (.ref 19), some (.int p1), none] [.int 0, .ref 19] rfl rfl ?_
  have q0 : ((0 : Int32)).toInt = 0 := rfl
  refine z_xpf zt239 3 rfl zo239 zzf12_278 X2 f19 (by decide) (by decide) ⟨by omega, by omega⟩ rfl (by decide) zw12_35 (fun M5 X6 e7 h8 => ?_)
  refine z_xP zt239 4 11 [some (.ref 19), some (.int p1), none] [.ref 19] rfl rfl ?_
  refine z_xgX (b := 36) zt239 5 rfl zo239 zzf12_58 X6 f19 (by decide) (by decide) rfl ?_
  refine z_xP zt239 6 15 [some (.ref 19), some (.int p1), none] [.int p1, .ref 36] rfl rfl ?_
  have f36 : T[36]? = some (.inr (36, 0, 20, 0, 7)) := X6.1.k rfl (by decide)
  refine z_xil zt239 7 rfl X6 f36 (by decide) (by omega) (by omega) (fun (x9 : Int32) h10 (h11 : 0 ≤ x9.toInt) (h12 : x9.toInt ≤ 7) => ?_)
  have hy6 : z_F M5 19 34 = some (.int 0) := e7.f f19 (by decide) h4
  have hR6 := hR.ke X6 (by decide)
  have hLV := z_LV.ke (sv := sv) hW X6 (by decide)
  have h40 : z_Ar M5 40 = z_Ar M0 40 := X6.2.a (hW.k (k := 40) (κ := z_af 40 9) rfl (by decide)) (by decide)
  have h41 : z_Ar M5 41 = z_Ar M0 41 := X6.2.a (hW.k (k := 41) (κ := z_af 41 9) rfl (by decide)) (by decide)
  have eA40 := h40
  have eA41 := h41
  have e9 : x9.toInt = (kd : Int) := by
    rw [← h10, X6.2.a (hW.k (k := 36) (κ := z_ai 36 20 0 7) rfl (by decide)) (by decide)]
    exact hkd
  have hb96 := hR6.2.1.1
  by_cases h13 : x9.toInt = 1
  · refine z_xSC zt239 8 (z_sub (k := 1) h13 rfl) 60 rfl rfl ?_
    refine z_xP zt239 9 62 [some (.ref 19), some (.int p1), none] [.ref 19, .ref 19] rfl rfl ?_
    refine z_xcV (vs := [.ref 19]) (r := [.ref 19]) (L2 := [some (.ref 19)]) zt239 10 rfl zo239 zzcV12_248 (Or.inl rfl) rfl X6 f19 rfl rfl rfl (Nat.le_of_ble_eq_true rfl) zzm240 (Nat.le_of_ble_eq_true rfl) rfl ?_
    refine z_xP zt240 0 2 [some (.ref 19)] [.ref 19, .int 1] rfl rfl ?_
    refine z_xgX (b := 24) zt240 1 rfl zo240 zzf12_22 X6 f19 (by decide) (by decide) rfl ?_
    refine z_xP zt240 2 6 [some (.ref 19)] [.ref 19, .ref 24, .int 1] rfl rfl ?_
    refine z_xgv zt240 3 rfl zo240 zzf12_242 X6 f19 (by decide) hb96 ?_
    have f24 : T[24]? = some (.inr (24, 0, 8, 0, 10)) := X6.1.k rfl (by decide)
    refine z_xil zt240 4 rfl X6 f24 (by decide) (by omega) (by omega) (fun (x18 : Int32) h19 (h20 : 0 ≤ x18.toInt) (h21 : x18.toInt ≤ 10) => ?_)
    refine z_xI zt240 5 rfl rfl (fun (x22 : Int32) (h23 : x22 = (1 : Int32) <<< (x18 &&& 31) ∧ 1 ≤ x22.toInt ∧ x22.toInt ≤ 1024) => ?_) (⟨rfl, z_pShlB (a := 1) (b := 10) (c := 1024) (r := 1024) rfl rfl (by omega) (by omega) (by omega) (by omega) (by decide) (by decide) (by decide) (by decide)⟩)
    refine z_xP zt240 6 12 [some (.ref 19)] [.int 1, .int x22] rfl rfl ?_
    refine z_xI zt240 7 rfl rfl (fun (x24 : Int32) (h25 : x24.toInt = x22.toInt - 1) => ?_) (z_pSub rfl rfl (by omega) (by omega))
    have e18 : x18.toInt = (q : Int) := by
      rw [← h19, X6.2.a (hW.k (k := 24) (κ := z_ai 24 8 0 10) rfl (by decide)) (by decide), z_tnA ea]
      exact hG.1
    have hA := z_all2 e18 q10 h23.1 h25
    refine z_xri zt240 8 rfl zzr240 ?_
    show z_ev (d + 4) 239 65 [some (.ref 19), some (.int p1), none] [.int x24, .ref 19] M5 _
    refine z_xcV (vs := [.ref 19, .int x24]) (r := []) (L2 := [some (.ref 19), some (.int x24), none]) zt239 11 rfl zo239 zzcV12_288 (Or.inl rfl) rfl X6 f19 rfl rfl rfl (Nat.le_of_ble_eq_true rfl) zzm241 (Nat.le_of_ble_eq_true rfl) rfl ?_
    refine zUC241 (q := q) X6.1 hR6.2.2.1.1 hR6.2.2.1.2 hb96 ⟨by omega, by omega⟩ (by rw [z_tnA ea]; exact hR6.2.2.2.2.1.elim fun _ h => h.1) (by omega) hy6 h8 (fun M26 X27 ⟨y, n, h34, h35, hy, hn⟩ => ?_)
    obtain ⟨hy, hn⟩ := z_hdW hy hn
    rw [hLV] at hy hn
    have X28 := X6.go X27 (z_sb (by decide))
    show z_ev (d + 4) 239 68 [some (.ref 19), some (.int p1), none] [] M26 _
    refine z_xP zt239 12 199 [some (.ref 19), some (.int p1), none] [] rfl rfl ?_
    refine z_xrv zt239 75 rfl zzr239 (kk M26 y n X28 h34 h35 ⟨hy.1, hn.1⟩ (Or.inr (Or.inl ⟨by omega, z_boC (z_wyB hy hn) fun k hk => ?_⟩)))
    have hb : x24.toInt.toNat / 2 ^ k % 2 = 1 := (z_allb hA q10 k).mpr hk
    exact ⟨⟨fun c => c.2, fun c => ⟨hb, c⟩⟩, ⟨fun c => c.2, fun c => ⟨hb, c⟩⟩⟩
  by_cases h30 : x9.toInt = 2
  · refine z_xSC zt239 8 (z_sub (k := 2) h30 rfl) 71 rfl rfl ?_
    refine z_xP zt239 13 72 [some (.ref 19), some (.int p1), none] [.ref 19] rfl rfl ?_
    refine z_xcV (vs := [.ref 19]) (r := []) (L2 := [some (.ref 19), none, none, none]) zt239 14 rfl zo239 zzcV12_291 (Or.inl rfl) rfl X6 f19 rfl rfl rfl (Nat.le_of_ble_eq_true rfl) zzm244 (Nat.le_of_ble_eq_true rfl) rfl ?_
    refine zUC244 hR6 hy6 h8 (fun M31 y n X32 h34 h35 hb hT => ?_)
    rw [hLV] at hT
    have X33 := X6.go X32 (z_sb (by decide))
    show z_ev (d + 4) 239 75 [some (.ref 19), some (.int p1), none] [] M31 _
    refine z_xP zt239 15 199 [some (.ref 19), some (.int p1), none] [] rfl rfl ?_
    exact z_xrv zt239 75 rfl zzr239 (kk M31 y n X33 h34 h35 hb (Or.inr (Or.inr (Or.inl ⟨by omega, hT⟩))))
  by_cases h35 : x9.toInt = 3
  · refine z_xSC zt239 8 (z_sub (k := 3) h35 rfl) 78 rfl rfl ?_
    refine z_xP zt239 16 79 [some (.ref 19), some (.int p1), none] [.ref 19] rfl rfl ?_
    refine z_xcV (vs := [.ref 19]) (r := []) (L2 := [some (.ref 19), none, none]) zt239 17 rfl zo239 zzcV12_294 (Or.inl rfl) rfl X6 f19 rfl rfl rfl (Nat.le_of_ble_eq_true rfl) zzm245 (Nat.le_of_ble_eq_true rfl) rfl ?_
    refine zUC245 hR6 hy6 h8 (fun M36 y n X37 h34 h35 hb hT => ?_)
    rw [hLV] at hT
    have X38 := X6.go X37 (z_sb (by decide))
    show z_ev (d + 4) 239 82 [some (.ref 19), some (.int p1), none] [] M36 _
    refine z_xP zt239 18 199 [some (.ref 19), some (.int p1), none] [] rfl rfl ?_
    exact z_xrv zt239 75 rfl zzr239 (kk M36 y n X38 h34 h35 hb (Or.inr (Or.inr (Or.inr (Or.inl ⟨by omega, hT⟩)))))
  by_cases h40 : x9.toInt = 4
  · refine z_xSC zt239 8 (z_sub (k := 4) h40 rfl) 85 rfl rfl ?_
    refine z_xP zt239 19 89 [some (.ref 19), some (.int p1), none] [.int 0, .int 0, .ref 19, .ref 19] rfl rfl ?_
    refine z_xcV (vs := [.ref 19, .int 0, .int 0]) (r := [.ref 19]) (L2 := [some (.ref 19), some (.int 0), some (.int 0), none, none, none]) zt239 20 rfl zo239 zzcV12_262 (Or.inl rfl) rfl X6 f19 rfl rfl rfl (Nat.le_of_ble_eq_true rfl) zzm234 (Nat.le_of_ble_eq_true rfl) rfl ?_
    have q0 : ((0 : Int32)).toInt = 0 := rfl
    have q0 : ((0 : Int32)).toInt = 0 := rfl
    refine zUC234 X6.1 hR6.2.2.1.1 hR6.2.2.1.2 (fun j hj => ⟨(hR6.2.2.2.2.2.2.1 j hj).1.1, (hR6.2.2.2.2.2.2.1 j hj).2.1.1⟩) hb96 ⟨by omega, by omega⟩ (fun a ha => by
      obtain ⟨f, _, e, h⟩ := X6.1.ai (X6.1.k (k := 31) (κ := z_ai 31 8 0 1024) rfl (by decide)) (by decide)
      rw [e]
      exact h a ha) (fun x43 M41 X42 h44 h45 h43 => ?_)
    have h43b := z_rnr hR6 ⟨by decide, by decide⟩ ⟨by decide, by decide⟩ h43
    rw [hLV] at h43b
    have h43c : z_nrst B q (fun s => z_sbi (z_LV M0 sv) s 10) 0 0 x43.toInt.toNat ∧ 0 ≤ x43.toInt := by
      rcases h43b with ⟨_, h⟩ | ⟨h2, h⟩
      · obtain ⟨s, s1, s2, s3⟩ := z_lc_ex (B := B) (2 ^ q) 0 (by omega)
        exact absurd (fun k _ => ⟨fun c => (by
          have e : (0 : Int32).toInt.toNat = 0 := rfl
          rw [e, Nat.zero_div] at c
          cases c), fun c => (by
          have e : (0 : Int32).toInt.toNat = 0 := rfl
          rw [e, Nat.zero_div] at c
          cases c)⟩) (h s s1 s2)
      · exact ⟨h, h2⟩
    have X46 := X6.go X42 (z_sb (by decide))
    show z_ev (d + 4) 239 92 [some (.ref 19), some (.int p1), none] [.int x43, .ref 19] M41 _
    refine z_xpf zt239 21 rfl zo239 zzf12_275 X46 f19 (by decide) (by decide) ⟨Int32.le_toInt _, Int32.toInt_le _⟩ rfl (by decide) zw12_34 (fun M48 X49 e50 h51 => ?_)
    refine z_xP zt239 22 97 [some (.ref 19), some (.int p1), none] [.ref 19, .ref 19] rfl rfl ?_
    refine z_xcV (vs := [.ref 19]) (r := [.ref 19]) (L2 := [some (.ref 19)]) zt239 23 rfl zo239 zzcV12_248 (Or.inl rfl) rfl X49 f19 rfl rfl rfl (Nat.le_of_ble_eq_true rfl) zzm240 (Nat.le_of_ble_eq_true rfl) rfl ?_
    refine z_xP zt240 0 2 [some (.ref 19)] [.ref 19, .int 1] rfl rfl ?_
    refine z_xgX (b := 24) zt240 1 rfl zo240 zzf12_22 X49 f19 (by decide) (by decide) rfl ?_
    refine z_xP zt240 2 6 [some (.ref 19)] [.ref 19, .ref 24, .int 1] rfl rfl ?_
    refine z_xgv zt240 3 rfl zo240 zzf12_242 X49 f19 (by decide) (hR.ke X49 (by decide)).2.1.1 ?_
    have f24 : T[24]? = some (.inr (24, 0, 8, 0, 10)) := X49.1.k rfl (by decide)
    refine z_xil zt240 4 rfl X49 f24 (by decide) (by omega) (by omega) (fun (x56 : Int32) h57 (h58 : 0 ≤ x56.toInt) (h59 : x56.toInt ≤ 10) => ?_)
    refine z_xI zt240 5 rfl rfl (fun (x60 : Int32) (h61 : x60 = (1 : Int32) <<< (x56 &&& 31) ∧ 1 ≤ x60.toInt ∧ x60.toInt ≤ 1024) => ?_) (⟨rfl, z_pShlB (a := 1) (b := 10) (c := 1024) (r := 1024) rfl rfl (by omega) (by omega) (by omega) (by omega) (by decide) (by decide) (by decide) (by decide)⟩)
    refine z_xP zt240 6 12 [some (.ref 19)] [.int 1, .int x60] rfl rfl ?_
    refine z_xI zt240 7 rfl rfl (fun (x62 : Int32) (h63 : x62.toInt = x60.toInt - 1) => ?_) (z_pSub rfl rfl (by omega) (by omega))
    have e56 : x56.toInt = (q : Int) := by
      rw [← h57, X49.2.a (hW.k (k := 24) (κ := z_ai 24 8 0 10) rfl (by decide)) (by decide), z_tnA ea]
      exact hG.1
    have hA := z_all2 e56 q10 h61.1 h63
    refine z_xri zt240 8 rfl zzr240 ?_
    show z_ev (d + 4) 239 100 [some (.ref 19), some (.int p1), none] [.int x62, .ref 19] M48 _
    refine z_xP zt239 24 101 [some (.ref 19), some (.int p1), none] [.ref 19, .int x62, .ref 19] rfl rfl ?_
    refine z_xgv zt239 25 rfl zo239 zzf12_275 X49 f19 (by decide) h51 ?_
    refine z_xP zt239 26 105 [some (.ref 19), some (.int p1), none] [.int (-1), .int x43, .int x62, .ref 19] rfl rfl ?_
    refine z_xI zt239 27 rfl rfl (fun (x64 : Int32) (h64 : x64 = x43 ^^^ (-1 : Int32)) => ?_) rfl
    refine z_xI zt239 28 rfl rfl (fun (x66 : Int32) (h66 : x66 = x62 &&& x64) => ?_) rfl
    refine z_xpf zt239 29 rfl zo239 zzf12_278 X49 f19 (by decide) (by decide) ⟨Int32.le_toInt _, Int32.toInt_le _⟩ rfl (by decide) zw12_35 (fun M68 X69 e70 h71 => ?_)
    refine z_xP zt239 30 199 [some (.ref 19), some (.int p1), none] [] rfl rfl ?_
    have hP : 2 ^ q ≤ 1024 := Nat.pow_le_pow_right (n := 2) (by decide) q10
    have hP1 : 0 < 2 ^ q := Nat.two_pow_pos q
    obtain ⟨r1, r2, r3⟩ := z_ib_no h64 h66 (by omega) h43c.2
    have hs1 := h43c.1.1
    refine z_xrv zt239 75 rfl zzr239 (kk M68 x43 x66 X69 (e70.f f19 (by decide) h51) h71 ⟨⟨h43c.2, by omega⟩, ⟨r1, by omega⟩⟩ (Or.inr (Or.inr (Or.inr (Or.inr (Or.inl ⟨by omega, _, h43c.1, ⟨by omega, by omega⟩, fun k hk => ⟨⟨fun c => ⟨z_q2b hs1 c, c⟩, fun c => c.2⟩, ?_⟩⟩))))))
    have h := r3 k
    rw [z_allb hA q10 k] at h
    exact h
  by_cases h72 : x9.toInt = 5
  · refine z_xSC zt239 8 (z_sub (k := 5) h72 rfl) 113 rfl rfl ?_
    refine z_xP zt239 31 115 [some (.ref 19), some (.int p1), some (.int 0)] [] rfl rfl ?_
    have q0 : ((0 : Int32)).toInt = 0 := rfl
    exact (zUB239 hR u1 hkd hsh hch (by omega) kk 22) M5 (0) X6 (by decide) (by omega) hy6 h8 (fun i hi => absurd hi (by rw [q0]; exact Nat.not_lt_zero i)) (by omega)
  by_cases h73 : x9.toInt = 6
  · refine z_xSC zt239 8 (z_sub (k := 6) h73 rfl) 113 rfl rfl ?_
    refine z_xP zt239 31 115 [some (.ref 19), some (.int p1), some (.int 0)] [] rfl rfl ?_
    have q0 : ((0 : Int32)).toInt = 0 := rfl
    exact (zUB239 hR u1 hkd hsh hch (by omega) kk 22) M5 (0) X6 (by decide) (by omega) hy6 h8 (fun i hi => absurd hi (by rw [q0]; exact Nat.not_lt_zero i)) (by omega)
  by_cases h74 : x9.toInt = 7
  · refine z_xSC zt239 8 (z_sub (k := 7) h74 rfl) 186 rfl rfl ?_
    refine z_xP zt239 69 188 [some (.ref 19), some (.int p1), none] [.ref 19, .ref 19] rfl rfl ?_
    refine z_xgX (b := 38) zt239 70 rfl zo239 zzf12_64 X6 f19 (by decide) (by decide) rfl ?_
    refine z_xP zt239 71 192 [some (.ref 19), some (.int p1), none] [.int p1, .ref 38, .ref 19] rfl rfl ?_
    have f38 : T[38]? = some (.inr (38, 0, 20, 0, 8)) := X6.1.k rfl (by decide)
    refine z_xil zt239 72 rfl X6 f38 (by decide) (by omega) (by omega) (fun (x75 : Int32) h76 (h77 : 0 ≤ x75.toInt) (h78 : x75.toInt ≤ 8) => ?_)
    refine z_xcV (vs := [.ref 19, .int x75]) (r := []) (L2 := [some (.ref 19), some (.int x75), none]) zt239 73 rfl zo239 zzcV12_300 (Or.inl rfl) rfl X6 f19 rfl rfl rfl (Nat.le_of_ble_eq_true rfl) zzm247 (Nat.le_of_ble_eq_true rfl) rfl ?_
    have e75 : x75.toInt = (ch : Int) := by
      rw [← h76, X6.2.a (hW.k (k := 38) (κ := z_ai 38 20 0 8) rfl (by decide)) (by decide)]
      exact hch
    refine zUC247 hR6 ⟨h77, h78⟩ hy6 h8 (fun M79 y n X80 h34 h35 hb hT => ?_)
    rw [eA40, eA41, show x75.toInt.toNat = ch by omega] at hT
    have X81 := X6.go X80 (z_sb (by decide))
    show z_ev (d + 4) 239 196 [some (.ref 19), some (.int p1), none] [] M79 _
    refine z_xP zt239 74 199 [some (.ref 19), some (.int p1), none] [] rfl rfl ?_
    exact z_xrv zt239 75 rfl zzr239 (kk M79 y n X81 h34 h35 hb (Or.inr (Or.inr (Or.inr (Or.inr (Or.inr (Or.inr (Or.inr ⟨by omega, hT⟩))))))))
  refine z_xSD zt239 8 rfl rfl (by omega) ?_
  exact z_xrv zt239 75 rfl zzr239 (kk M5 0 0 X6 hy6 h8 ⟨⟨by decide, by decide⟩, ⟨by decide, by decide⟩⟩ (Or.inl ⟨by omega, rfl, rfl⟩))
