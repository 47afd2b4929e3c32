/-! ends of the reference, and which way it goes, told -/
theorem z_rnr {T : List zK} {M : zH} {a q m pr en : Nat} {B : Nat → Nat} {av sv p1 p2 : Int32} {x : Int} (hR : z_RP T M a q m pr en B av sv) (h1 : 0 ≤ p1.toInt ∧ p1.toInt < 1024) (h2 : 0 ≤ p2.toInt ∧ p2.toInt < 1024) (h : z_nofD (fun s => (z_ds (z_Ar M 39) (z_Ar M 40) (z_Ar M 41) s sv.toInt.toNat).toInt) (fun j => z_Ar M 30 (1024 * av.toNatClampNeg + j)) (y_hs p1 p2) (z_Ar M 31 av.toNatClampNeg).toInt.toNat x) : (x = -1 ∧ ∀ s, s < 2 ^ q → B s = 0 → ¬ z_has s p1.toInt.toNat p2.toInt.toNat) ∨ (0 ≤ x ∧ z_nrst B q (fun s => z_sbi (z_LV M sv) s 10) p1.toInt.toNat p2.toInt.toNat x.toNat) := by
  obtain ⟨hW, ⟨hb9, ea, a8⟩, ⟨hs, hsv⟩, ⟨q1, q10⟩, ⟨t, hG⟩, hm, hans, hok⟩ := hR
  have hP : 2 ^ q ≤ 1024 := Nat.pow_le_pow_right (n := 2) (by decide) q10
  have hLS := hG.2.2.2.2.2.2
  have e31 := hG.2.2.2.2.1
  have hJ : sv.toInt.toNat ≤ 9 := by omega
  rw [z_tnA ea] at h
  have hLA : ∀ k : Nat, k < 10 → (z_lj (z_Ar M 39) (z_Ar M 40) (z_Ar M 41) (Int32.ofNat k) sv.toInt.toNat).toInt = z_LV M sv k ∧ -81 ≤ (z_lj (z_Ar M 39) (z_Ar M 40) (z_Ar M 41) (Int32.ofNat k) sv.toInt.toNat).toInt ∧ (z_lj (z_Ar M 39) (z_Ar M 40) (z_Ar M 41) (Int32.ofNat k) sv.toInt.toNat).toInt ≤ 81 := fun k hk => by
    have e := z_ofN k (by omega)
    have g1 := z_ljI (k := Int32.ofNat k) (by omega) sv.toInt.toNat hJ hok
    exact ⟨z_ljV (k := Int32.ofNat k) (by omega) hJ hok, by omega, by omega⟩
  refine z_nofN (S := fun n => z_Ar M 30 (1024 * a + n)) (C := z_tot0 (z_Ar M 39) (z_Ar M 40) sv.toInt.toNat) (by omega) hLS (fun s v hs2 _ hv => ?_) (fun s v hs2 _ hv => ?_) h
  · have e : v.toInt.toNat = s := by omega
    have g1 := z_farL (s := v) (LA := fun k => z_lj (z_Ar M 39) (z_Ar M 40) (z_Ar M 41) (Int32.ofNat k) sv.toInt.toNat) (q := q) ⟨by omega, by generalize 2 ^ q = Pq at *; omega⟩ q10 hJ hok (fun k k0 _ => by
      show z_lj (z_Ar M 39) (z_Ar M 40) (z_Ar M 41) (Int32.ofNat k.toInt.toNat) sv.toInt.toNat = _
      rw [← z_ofI k0 rfl])
    show (z_ds (z_Ar M 39) (z_Ar M 40) (z_Ar M 41) v sv.toInt.toNat).toInt = _
    rw [g1, e, (z_sbI 10 (Nat.le_refl 10) fun k hk _ => (hLA k hk).2).1]
    rw [z_sbiC (g2 := z_LV M sv) 10 fun k hk _ => (hLA k hk).1]
  · have e : v.toInt.toNat = s := by omega
    have g2 := z_htb (s := v) (y := p1) (n := p2) ⟨by omega, by generalize 2 ^ q = Pq at *; omega⟩ h1 h2
    rw [e] at g2
    exact g2
theorem z_all2 {c x : Int32} {q : Nat} {x5 : Int32} (h5 : x5.toInt = (q : Int)) (q10 : q ≤ 10) (hc : c = (1 : Int32) <<< (x5 &&& 31)) (hx : x.toInt = c.toInt - 1) : x.toInt = ((2 ^ q : Nat) : Int) - 1 := by
  have h := z_2q1 (x := x5) (by omega) (by omega) hc
  rw [hx]
  rw [show x5.toInt.toNat = q by omega] at h
  omega
section ZEN
variable {B : Nat → Nat} {q en : Nat} {L : Nat → Int} {y n s al e42 o44 s48 y50 s57 s59 n61 ev : Int32}
/-- the nearest's answers for the others -/
theorem z_enW (q10 : q ≤ 10) (hA : al.toInt = ((2 ^ q : Nat) : Int) - 1) (he : ev.toInt = (en : Int)) (h42 : e42 = ev ^^^ (-1 : Int32)) (h44 : o44 = al &&& e42) (s0 : 0 ≤ s.toInt) (hy : z_wy (fun k => en / 2 ^ k % 2 = 1 ∧ 0 < L k) q y.toInt) (hn : z_wy (fun k => en / 2 ^ k % 2 = 1 ∧ L k < 0) q n.toInt) (h48 : s48 = s &&& o44) (h50 : y50 = y ||| s48) (h57 : s57 = s ^^^ (-1 : Int32)) (h59 : s59 = s57 &&& o44) (h61 : n61 = n ||| s59) : ((0 ≤ y50.toInt ∧ y50.toInt < 1024) ∧ (0 ≤ n61.toInt ∧ n61.toInt < 1024)) ∧ z_wbo q (fun k => (en / 2 ^ k % 2 = 1 ∧ 0 < L k) ∨ (¬ en / 2 ^ k % 2 = 1 ∧ s.toInt.toNat / 2 ^ k % 2 = 1)) (fun k => (en / 2 ^ k % 2 = 1 ∧ L k < 0) ∨ (¬ en / 2 ^ k % 2 = 1 ∧ ¬ s.toInt.toNat / 2 ^ k % 2 = 1)) y50.toInt.toNat n61.toInt.toNat := by
  have hP : 2 ^ q ≤ 1024 := Nat.pow_le_pow_right (n := 2) (by decide) q10
  have hP1 : 0 < 2 ^ q := Nat.two_pow_pos q
  obtain ⟨a1, a2, a3⟩ := z_ib_no h42 h44 (by omega) (x := ev) (by omega)
  obtain ⟨b1, b2, b3⟩ := z_ib_and h48 s0 a1
  obtain ⟨_, b4, _⟩ := z_ib_and (h48.trans (Int32.and_comm _ _)) a1 s0
  obtain ⟨c1, c2⟩ := z_ib_or h50 hy.1.1 b1
  obtain ⟨d1, d2, d3⟩ := z_ib_no h57 (h59.trans (Int32.and_comm _ _)) a1 s0
  obtain ⟨f1, f2⟩ := z_ib_or h61 hn.1.1 d1
  have lt : ∀ {u v w : Int32}, u = v ||| w → 0 ≤ v.toInt ∧ v.toInt < 1024 → 0 ≤ w.toInt ∧ w.toInt < 1024 → 0 ≤ u.toInt ∧ u.toInt < 1024 := fun {u v w} h hv hw => by
    obtain ⟨g1, g2⟩ := z_nn hv.1
    obtain ⟨g3, g4⟩ := z_nn hw.1
    have e : u.toBitVec.toNat = v.toBitVec.toNat ||| w.toBitVec.toNat := by rw [h, Int32.toBitVec_or, BitVec.toNat_or]
    have h5 : u.toBitVec.toNat < 2 ^ 10 := by rw [e]; exact Nat.or_lt_two_pow (by omega) (by omega)
    have h6 : u.toInt = (u.toBitVec.toNat : Int) := BitVec.toInt_eq_toNat_of_lt (by omega)
    omega
  have r1 := lt h50 hy.1 ⟨b1, by omega⟩
  have r2 := lt h61 hn.1 ⟨d1, by omega⟩
  have hE : ∀ k, z_ib ev k ↔ en / 2 ^ k % 2 = 1 := z_ibN he
  refine ⟨⟨r1, r2⟩, ⟨by omega, by omega⟩, fun k hk => ⟨?_, ?_⟩⟩
  · have h := c2 k
    rw [b3 k, a3 k, z_allb hA q10 k, hE k] at h
    unfold z_ib at h
    rw [h, hy.2 k hk]
    exact ⟨fun a => a.elim (fun ⟨g1, g2⟩ => ⟨g1, Or.inl g2⟩) fun ⟨g1, g2, g3⟩ => ⟨g2, Or.inr ⟨g3, g1⟩⟩, fun ⟨g1, g2⟩ => g2.elim (fun g => Or.inl ⟨g1, g⟩) fun ⟨g3, g4⟩ => Or.inr ⟨g4, g1, g3⟩⟩
  · have h := f2 k
    rw [d3 k, a3 k, z_allb hA q10 k, hE k] at h
    unfold z_ib at h
    rw [h, hn.2 k hk]
    exact ⟨fun a => a.elim (fun ⟨g1, g2⟩ => ⟨g1, Or.inl g2⟩) fun ⟨⟨g2, g3⟩, g1⟩ => ⟨g2, Or.inr ⟨g3, g1⟩⟩, fun ⟨g1, g2⟩ => g2.elim (fun g => Or.inl ⟨g1, g⟩) fun ⟨g3, g4⟩ => Or.inr ⟨⟨g1, g3⟩, g4⟩⟩
end ZEN
theorem zUC245 {T : List zK} {d : Nat} {K : Option Value → zH → Prop} {a q m pr en : Nat} {B : Nat → Nat} {av sv : Int32} {M0 : zH} (hR : z_RP T M0 a q m pr en B av sv) (hy0 : z_F M0 19 34 = some (.int 0)) (hn0 : z_F M0 19 35 = some (.int 0)) (kk : ∀ (M1 : zH) (y n : Int32), z_X T zw245 M0 M1 → z_F M1 19 34 = some (.int y) → z_F M1 19 35 = some (.int n) → ((0 ≤ y.toInt ∧ y.toInt < 1024) ∧ (0 ≤ n.toInt ∧ n.toInt < 1024)) → z_oE B q en (z_LV M0 sv) y.toInt.toNat n.toInt.toNat → K none M1) : z_ev (d + 3) 245 0 [some (.ref 19), none, none] [] M0 K := by
  obtain ⟨hW, ⟨hb9, ea, a8⟩, ⟨hs, hsv⟩, ⟨q1, q10⟩, ⟨t, hG⟩, hm, hans, hok⟩ := id hR
  have X : z_X T zw245 M0 M0 := .refl hW
  refine z_xP zt245 0 2 [some (.ref 19), none, none] [.ref 19, .ref 19] rfl rfl ?_
  have f19 : T[19]? = some (.inl (12, 0, 0, 0, 0)) := X.1.k rfl (by decide)
  refine z_xgX (b := 28) zt245 1 rfl zo245 zzf12_34 X f19 (by decide) (by decide) rfl ?_
  refine z_xP zt245 2 6 [some (.ref 19), none, none] [.ref 19, .ref 28, .ref 19] rfl rfl ?_
  refine z_xgv zt245 3 rfl zo245 zzf12_242 X f19 (by decide) hb9 ?_
  have f28 : T[28]? = some (.inr (28, 0, 8, (-2147483648), 2147483647)) := X.1.k rfl (by decide)
  refine z_xil zt245 4 rfl X f28 (by decide) (by omega) (by omega) (fun (x5 : Int32) h6 (h7 : (-2147483648) ≤ x5.toInt) (h8 : x5.toInt ≤ 2147483647) => ?_)
  refine z_xcV (vs := [.ref 19, .int x5]) (r := []) (L2 := [some (.ref 19), some (.int x5), none]) zt245 5 rfl zo245 zzcV12_288 (Or.inl rfl) rfl X f19 rfl rfl rfl (Nat.le_of_ble_eq_true rfl) zzm241 (Nat.le_of_ble_eq_true rfl) rfl ?_
  have e5 : x5.toInt = (en : Int) := by rw [← h6, z_tnA ea]; exact hG.2.2.2.1.1
  refine zUC241 (q := q) X.1 hs hsv hb9 ⟨by omega, by omega⟩ (by rw [z_tnA ea]; exact hG.1) (by omega) hy0 hn0 (fun M9 X10 ⟨y, n, h34, h35, hy, hn⟩ => ?_)
  rw [show x5.toInt.toNat = en by omega] at hy hn
  obtain ⟨hy, hn⟩ := z_hdW hy hn
  have X11 := X.go X10 (z_sb (by decide))
  show z_ev (d + 3) 245 13 [some (.ref 19), none, none] [] M9 _
  refine z_xP zt245 6 15 [some (.ref 19), none, none] [.ref 19, .ref 19] rfl rfl ?_
  refine z_xgv zt245 7 rfl zo245 zzf12_275 X11 f19 (by decide) h34 ?_
  refine z_xP zt245 8 19 [some (.ref 19), none, none] [.ref 19, .int y, .ref 19] rfl rfl ?_
  refine z_xgv zt245 9 rfl zo245 zzf12_278 X11 f19 (by decide) h35 ?_
  refine z_xcV (vs := [.ref 19, .int y, .int n]) (r := []) (L2 := [some (.ref 19), some (.int y), some (.int n), none, none, none]) zt245 10 rfl zo245 zzcV12_262 (Or.inl rfl) rfl X11 f19 rfl rfl rfl (Nat.le_of_ble_eq_true rfl) zzm234 (Nat.le_of_ble_eq_true rfl) rfl ?_
  have hR9 := hR.ke X11 (by decide)
  refine zUC234 X11.1 hR9.2.2.1.1 hR9.2.2.1.2 (fun j hj => ⟨(hR9.2.2.2.2.2.2.1 j hj).1.1, (hR9.2.2.2.2.2.2.1 j hj).2.1.1⟩) hR9.2.1.1 ⟨by omega, by omega⟩ (fun a ha => by
    obtain ⟨f, _, e, h⟩ := X11.1.ai (X11.1.k (k := 31) (κ := z_ai 31 8 0 1024) rfl (by decide)) (by decide)
    rw [e]
    exact h a ha) (fun x23 M21 X22 h24 h25 h23 => ?_)
  have h23b := z_rnr hR9 hy.1 hn.1 h23
  rw [z_LV.ke (sv := sv) hW X11 (by decide)] at h23b
  have X26 := X11.go X22 (z_sb (by decide))
  show z_ev (d + 3) 245 25 [some (.ref 19), none, none] [.int x23] M21 _
  refine z_xP zt245 11 27 [some (.ref 19), some (.int x23), none] [.ref 19] rfl rfl ?_
  refine z_xcV (vs := [.ref 19]) (r := []) (L2 := [some (.ref 19)]) zt245 12 rfl zo245 zzcV12_248 (Or.inl rfl) rfl X26 f19 rfl rfl rfl (Nat.le_of_ble_eq_true rfl) zzm240 (Nat.le_of_ble_eq_true rfl) rfl ?_
  refine z_xP zt240 0 2 [some (.ref 19)] [.ref 19, .int 1] rfl rfl ?_
  refine z_xgX (b := 24) zt240 1 rfl zo240 zzf12_22 X26 f19 (by decide) (by decide) rfl ?_
  refine z_xP zt240 2 6 [some (.ref 19)] [.ref 19, .ref 24, .int 1] rfl rfl ?_
  have h28 := (X22.2.f f19 (by decide) (X10.2.f f19 (by decide) hb9))
  refine z_xgv zt240 3 rfl zo240 zzf12_242 X26 f19 (by decide) h28 ?_
  have f24 : T[24]? = some (.inr (24, 0, 8, 0, 10)) := X26.1.k rfl (by decide)
  refine z_xil zt240 4 rfl X26 f24 (by decide) (by omega) (by omega) (fun (x29 : Int32) h30 (h31 : 0 ≤ x29.toInt) (h32 : x29.toInt ≤ 10) => ?_)
  refine z_xI zt240 5 rfl rfl (fun (x33 : Int32) (h33 : x33 = (1 : Int32) <<< (x29 &&& 31) ∧ 1 ≤ x33.toInt ∧ x33.toInt ≤ 1024) => ?_) (⟨rfl, z_pShlB (a := 1) (b := 10) (c := 1024) (r := 1024) rfl rfl (by omega) (by omega) (by omega) (by omega) (by decide) (by decide) (by decide) (by decide)⟩)
  refine z_xP zt240 6 12 [some (.ref 19)] [.int 1, .int x33] rfl rfl ?_
  refine z_xI zt240 7 rfl rfl (fun (x35 : Int32) (h36 : x35.toInt = x33.toInt - 1) => ?_) (z_pSub rfl rfl (by omega) (by omega))
  have e29 : x29.toInt = (q : Int) := by
    rw [← h30, X26.2.a (hW.k (k := 24) (κ := z_ai 24 8 0 10) rfl (by decide)) (by decide), z_tnA ea]
    exact hG.1
  have hA := z_all2 e29 q10 h33.1 h36
  refine z_xri zt240 8 rfl zzr240 ?_
  show z_ev (d + 3) 245 30 [some (.ref 19), some (.int x23), none] [.int x35] M21 _
  refine z_xP zt245 13 31 [some (.ref 19), some (.int x23), none] [.ref 19, .int x35] rfl rfl ?_
  refine z_xgX (b := 28) zt245 14 rfl zo245 zzf12_34 X26 f19 (by decide) (by decide) rfl ?_
  refine z_xP zt245 15 35 [some (.ref 19), some (.int x23), none] [.ref 19, .ref 28, .int x35] rfl rfl ?_
  refine z_xgv zt245 16 rfl zo245 zzf12_242 X26 f19 (by decide) h28 ?_
  refine z_xil zt245 17 rfl X26 f28 (by decide) (by omega) (by omega) (fun (x37 : Int32) h38 (h39 : (-2147483648) ≤ x37.toInt) (h40 : x37.toInt ≤ 2147483647) => ?_)
  have h41 := congrArg Int32.toInt (h38.symm.trans ((congrFun (X22.2.a f28 (by decide)) _).trans ((congrFun (X10.2.a f28 (by decide)) _).trans h6)))
  refine z_xP zt245 18 40 [some (.ref 19), some (.int x23), none] [.int (-1), .int x37, .int x35] rfl rfl ?_
  refine z_xI zt245 19 rfl rfl (fun (x42 : Int32) (h42 : x42 = x37 ^^^ (-1 : Int32)) => ?_) rfl
  refine z_xI zt245 20 rfl rfl (fun (x44 : Int32) (h44 : x44 = x35 &&& x42) => ?_) rfl
  have e37 : x37.toInt = (en : Int) := by omega
  refine z_xP zt245 21 44 [some (.ref 19), some (.int x23), some (.int x44)] [.int x23] rfl rfl ?_
  refine z_xZ zt245 22 rfl rfl (fun (h46 : x23.toInt < 0) => ?_) (fun (h46 : 0 ≤ x23.toInt) => ?_)
  · skip
    refine z_xrv zt245 37 rfl zzr245 (kk M21 y n X26 (X22.2.f f19 (by decide) h34) (X22.2.f f19 (by decide) h35) ⟨hy.1, hn.1⟩ ⟨_, _, z_wyB hy hn, Or.inl ⟨?_, rfl, rfl⟩⟩)
    rcases h23b with ⟨_, g⟩ | ⟨g, _⟩
    · exact g
    · omega
  refine z_xP zt245 23 49 [some (.ref 19), some (.int x23), some (.int x44)] [.ref 19, .ref 19] rfl rfl ?_
  have h47 := (X22.2.f f19 (by decide) h34)
  refine z_xgv zt245 24 rfl zo245 zzf12_275 X26 f19 (by decide) h47 ?_
  refine z_xP zt245 25 54 [some (.ref 19), some (.int x23), some (.int x44)] [.int x44, .int x23, .int y, .ref 19] rfl rfl ?_
  refine z_xI zt245 26 rfl rfl (fun (x48 : Int32) (h48 : x48 = x23 &&& x44) => ?_) rfl
  refine z_xI zt245 27 rfl rfl (fun (x50 : Int32) (h50 : x50 = y ||| x48) => ?_) rfl
  refine z_xpf zt245 28 rfl zo245 zzf12_275 X26 f19 (by decide) (by decide) ⟨Int32.le_toInt _, Int32.toInt_le _⟩ rfl (by decide) zw12_34 (fun M52 X53 e54 h55 => ?_)
  refine z_xP zt245 29 61 [some (.ref 19), some (.int x23), some (.int x44)] [.ref 19, .ref 19] rfl rfl ?_
  have h56 := (e54.f f19 (by decide) (X22.2.f f19 (by decide) h35))
  refine z_xgv zt245 30 rfl zo245 zzf12_278 X53 f19 (by decide) h56 ?_
  refine z_xP zt245 31 66 [some (.ref 19), some (.int x23), some (.int x44)] [.int (-1), .int x23, .int n, .ref 19] rfl rfl ?_
  refine z_xI zt245 32 rfl rfl (fun (x57 : Int32) (h57 : x57 = x23 ^^^ (-1 : Int32)) => ?_) rfl
  refine z_xP zt245 33 68 [some (.ref 19), some (.int x23), some (.int x44)] [.int x44, .int x57, .int n, .ref 19] rfl rfl ?_
  refine z_xI zt245 34 rfl rfl (fun (x59 : Int32) (h59 : x59 = x57 &&& x44) => ?_) rfl
  refine z_xI zt245 35 rfl rfl (fun (x61 : Int32) (h61 : x61 = n ||| x59) => ?_) rfl
  refine z_xpf zt245 36 rfl zo245 zzf12_278 X53 f19 (by decide) (by decide) ⟨Int32.le_toInt _, Int32.toInt_le _⟩ rfl (by decide) zw12_35 (fun M63 X64 e65 h66 => ?_)
  have hw := z_enW (L := z_LV M0 sv) q10 hA e37 h42 h44 h46 hy hn h48 h50 h57 h59 h61
  refine z_xrv zt245 37 rfl zzr245 (kk M63 x50 x61 X64 (e65.f f19 (by decide) h55) h66 hw.1 ⟨_, _, z_wyB hy hn, Or.inr ⟨x23.toInt.toNat, ?_, hw.2⟩⟩)
  rcases h23b with ⟨g, _⟩ | ⟨_, g⟩
  · omega
  · exact g
