/-! outcome of the reference, told -/
def y_vO (M : zH) (p1 p2 p3 : Int32) : Prop := (0 ≤ p1.toInt ∧ p1.toInt < (z_Fv M 19 21).toInt) ∧ (0 ≤ p2.toInt ∧ p2.toInt < (z_Fv M 19 13).toInt) ∧ 0 ≤ p3.toInt ∧ p3.toInt ≤ 4
/-- a told bench of the reference -/
def y_tob (M : zH) (a q t m pr en J : Nat) (B : Nat → Nat) (ww yy nn : Nat → Int32) : Prop := (1 ≤ q ∧ q ≤ 10) ∧ y_AGO M a q t m pr en B ∧ (m = z_lc B (2 ^ q) ∧ 1 ≤ m) ∧ J ≤ 9 ∧ y_CB M a J ww yy nn ∧ ∀ j, j < J → z_jok q (ww j) (yy j) (nn j)
/-- an outcome for these judges, whatever stands behind them -/
def z_oJ (c : Nat) (B : Nat → Nat) (q pr en sh J ch : Nat) (ww yy nn : Nat → Int32) (y n : Nat) : Prop := ∃ (L : Nat → Int) (Y N : Nat → Nat), (∀ k, k < q → L k = z_LW ww yy nn J k) ∧ (∀ j, j < J → Y j = (yy j).toInt.toNat ∧ N j = (nn j).toInt.toNat) ∧ z_wout c B q pr en L sh J ch Y N y n
theorem z_oJU {c q pr en sh J ch y n y2 n2 : Nat} {B : Nat → Nat} {ww yy nn : Nat → Int32} (h : z_oJ c B q pr en sh J ch ww yy nn y n) (h2 : z_oJ c B q pr en sh J ch ww yy nn y2 n2) (q1 : 1 ≤ q) : y = y2 ∧ n = n2 := by
  obtain ⟨L, Y, N, a1, a2, a3⟩ := h
  obtain ⟨L2, Y2, N2, b1, b2, b3⟩ := h2
  exact z_outU a3 b3 q1 (fun k hk => (a1 k hk).trans (b1 k hk).symm) fun j hj => ⟨(a2 j hj).1.trans (b2 j hj).1.symm, (a2 j hj).2.trans (b2 j hj).2.symm⟩
def y_cO (M0 : zH) (p1 p2 p3 : Int32) (q t pr en J : Nat) (B : Nat → Nat) (ww yy nn : Nat → Int32) (x : Int) : Prop := (x = -1 ∧ ¬ y_vO M0 p1 p2 p3) ∨ (y_vO M0 p1 p2 p3 ∧ ∃ kd sh ch y n : Nat, (z_Ar M0 36 p1.toNatClampNeg).toInt = (kd : Int) ∧ (z_Ar M0 37 p1.toNatClampNeg).toInt = (sh : Int) ∧ (z_Ar M0 38 p1.toNatClampNeg).toInt = (ch : Int) ∧ z_oJ (kd + 4) B q pr en sh J ch ww yy nn y n ∧ z_oA B q t y n p3.toInt x)
theorem y_cO0 {M : zH} {p1 p2 p3 : Int32} {q t pr en J : Nat} {B : Nat → Nat} {ww yy nn : Nat → Int32} {x : Int} (h : ¬ y_vO M p1 p2 p3) (hx : x = -1) : y_cO M p1 p2 p3 q t pr en J B ww yy nn x := Or.inl ⟨hx, h⟩
theorem z_aiN {M : zH} {T : List zK} (hW : z_W M T) {r n : Nat} {hi : Int} (k : Nat) (hk : z_kf[k]? = some (.inr (r, 0, n, 0, hi))) (hl : k < 53) (hr : r ≠ 99) (i : Nat) (hi2 : i < n) : ∃ v : Nat, (z_Ar M k i).toInt = (v : Int) := by
  obtain ⟨f, _, e, h⟩ := hW.ai (hW.k hk hl) hr
  have h2 := (h i hi2).1
  rw [e]
  exact ⟨(f i).toInt.toNat, by omega⟩
/-- the seats after a bench has sat down -/
theorem z_RPof {T : List zK} {M0 M1 : zH} {a q t m pr en J : Nat} {B : Nat → Nat} {ww yy nn : Nat → Int32} {rs : List Nat} {p : Int32} (hY : y_tob M0 a q t m pr en J B ww yy nn) (hW : z_W M0 T) (X : z_X T rs M0 M1) (hr : (z_agr.all fun x => !rs.elem x) = true) (a8 : a < 8) (hp : z_F M1 19 29 = some (.int p)) (ea : p.toInt = (a : Int)) (hs : z_sit M0 M1 a) : z_RP T M1 a q m pr en B p (z_Ar M0 35 a) ∧ (z_Ar M0 35 a).toInt.toNat = J ∧ ∀ j, j < J → z_Ar M1 39 j = ww j ∧ z_Ar M1 40 j = yy j ∧ z_Ar M1 41 j = nn j := by
  obtain ⟨hq, hG, hm, J9, cb, jok⟩ := hY
  have eJ := cb.1
  have eq : ∀ j, j < J → z_Ar M1 39 j = ww j ∧ z_Ar M1 40 j = yy j ∧ z_Ar M1 41 j = nn j := fun j hj => by
    obtain ⟨u1, u2, u3⟩ := hs.2 j (by omega)
    obtain ⟨v1, v2, v3⟩ := cb.2 j hj
    exact ⟨u1.trans v1, u2.trans v2, u3.trans v3⟩
  have ok := z_jokJ hq.2 jok
  refine ⟨⟨X.1, ⟨hp, ea, a8⟩, ⟨hs.1, by omega, by omega⟩, hq, ⟨t, hG.ke hW X.2 hr⟩, hm, fun j hj => ?_, fun j hj => ?_⟩, by omega, eq⟩
  · obtain ⟨_, u2, u3⟩ := eq j (by omega)
    rw [u2, u3]
    exact (jok j (by omega)).1
  · obtain ⟨u1, u2, u3⟩ := eq j (by omega)
    rw [u1, u2, u3]
    exact ok j (by omega)
theorem z_LVof {M : zH} {sv : Int32} {J : Nat} {ww yy nn : Nat → Int32} (eJ : sv.toInt.toNat = J) (eq : ∀ j, j < J → z_Ar M 39 j = ww j ∧ z_Ar M 40 j = yy j ∧ z_Ar M 41 j = nn j) (k : Nat) : z_LV M sv k = z_LW ww yy nn J k := by
  unfold z_LV z_LW
  rw [eJ, z_vsC (f := z_Ar M 40) (w := z_Ar M 39) (f2 := yy) (w2 := ww) fun j hj => ⟨(eq j hj).2.1, (eq j hj).1⟩, z_vsC (f := z_Ar M 41) (w := z_Ar M 39) (f2 := nn) (w2 := ww) fun j hj => ⟨(eq j hj).2.2, (eq j hj).1⟩]
theorem zUC238 {T : List zK} {d : Nat} {K : Option Value → zH → Prop} {p1 : Int32} {p2 : Int32} {p3 : Int32} {M0 : zH} (hW : z_W M0 T) {q t m pr en J : Nat} {B : Nat → Nat} {ww yy nn : Nat → Int32} (hTB : y_vO M0 p1 p2 p3 → y_tob M0 p2.toNatClampNeg q t m pr en J B ww yy nn) (kk : ∀ (x : Int32) (M1 : zH), z_X T zw238 M0 M1 → y_cO M0 p1 p2 p3 q t pr en J B ww yy nn x.toInt → K (some (.int x)) M1) : z_ev (d + 5) 238 0 [some (.ref 19), some (.int p1), some (.int p2), some (.int p3)] [] M0 K := by
  have X : z_X T zw238 M0 M0 := .refl hW
  refine z_xP zt238 0 2 [some (.ref 19), some (.int p1), some (.int p2), some (.int p3)] [.int p1, .ref 19] rfl rfl ?_
  have f19 : T[19]? = some (.inl (12, 0, 0, 0, 0)) := X.1.k rfl (by decide)
  refine z_xcV (vs := [.ref 19, .int p1]) (r := []) (L2 := [some (.ref 19), some (.int p1)]) zt238 1 rfl zo238 zzcV12_272 (Or.inl rfl) rfl X f19 rfl rfl rfl (Nat.le_of_ble_eq_true rfl) zzm237 (Nat.le_of_ble_eq_true rfl) rfl ?_
  refine z_xP zt237 0 1 [some (.ref 19), some (.int p1)] [.int p1] rfl rfl ?_
  refine z_xZ zt237 1 rfl rfl (fun (h1 : p1.toInt < 0) => ?_) (fun (h1 : 0 ≤ p1.toInt) => ?_)
  · skip
    refine z_xP zt237 6 17 [some (.ref 19), some (.int p1)] [.int 0] rfl rfl ?_
    refine z_xrz zt237 7 rfl zzr237 (by decide) (by decide) ?_
    show z_ev (d + 5) 238 5 [some (.ref 19), some (.int p1), some (.int p2), some (.int p3)] [.int 0] M0 _
    refine z_xZ zt238 2 rfl rfl (fun (h2 : (0 : Int) = 0) => ?_) (fun (h2 : (0 : Int) ≠ 0) => absurd h2 (by omega))
    refine z_xP zt238 12 29 [some (.ref 19), some (.int p1), some (.int p2), some (.int p3)] [.int (-1)] rfl rfl ?_
    have qm1 : (((-1) : Int32)).toInt = (-1) := rfl
    exact z_xri zt238 13 rfl zzr238 (kk (-1) M0 X (y_cO0 (by unfold y_vO; omega) rfl))
  refine z_xP zt237 2 6 [some (.ref 19), some (.int p1)] [.ref 19, .int p1] rfl rfl ?_
  refine z_xgI zt237 3 rfl zo237 zzf12_269 X f19 (by decide) (by decide) rfl (fun (x4 : Int32) h3 (h5 : 0 ≤ x4.toInt) (h6 : x4.toInt ≤ 20) => ?_)
  have ex4 : (z_Fv M0 19 21).toInt = x4.toInt := by rw [z_Fv.of h3]
  have h7 := z_b32 p1
  refine z_xJ zt237 4 rfl rfl (fun (h8 : x4.toInt ≤ p1.toInt) => ?_) (fun (h8 : p1.toInt < x4.toInt) => ?_)
  · skip
    refine z_xP zt237 6 17 [some (.ref 19), some (.int p1)] [.int 0] rfl rfl ?_
    refine z_xrz zt237 7 rfl zzr237 (by decide) (by decide) ?_
    show z_ev (d + 5) 238 5 [some (.ref 19), some (.int p1), some (.int p2), some (.int p3)] [.int 0] M0 _
    refine z_xZ zt238 2 rfl rfl (fun (h9 : (0 : Int) = 0) => ?_) (fun (h9 : (0 : Int) ≠ 0) => absurd h9 (by omega))
    refine z_xP zt238 12 29 [some (.ref 19), some (.int p1), some (.int p2), some (.int p3)] [.int (-1)] rfl rfl ?_
    have qm1 : (((-1) : Int32)).toInt = (-1) := rfl
    exact z_xri zt238 13 rfl zzr238 (kk (-1) M0 X (y_cO0 (by unfold y_vO; omega) rfl))
  refine z_xP zt237 5 17 [some (.ref 19), some (.int p1)] [.int 1] rfl rfl ?_
  refine z_xrz zt237 7 rfl zzr237 (by decide) (by decide) ?_
  show z_ev (d + 5) 238 5 [some (.ref 19), some (.int p1), some (.int p2), some (.int p3)] [.int 1] M0 _
  refine z_xZ zt238 2 rfl rfl (fun (h10 : (1 : Int) = 0) => absurd h10 (by omega)) (fun (h10 : (1 : Int) ≠ 0) => ?_)
  refine z_xP zt238 3 10 [some (.ref 19), some (.int p1), some (.int p2), some (.int p3)] [.int p2, .ref 19] rfl rfl ?_
  refine z_xcV (vs := [.ref 19, .int p2]) (r := []) (L2 := [some (.ref 19), some (.int p2)]) zt238 4 rfl zo238 zzcV12_209 (Or.inl rfl) rfl X f19 rfl rfl rfl (Nat.le_of_ble_eq_true rfl) zzm209 (Nat.le_of_ble_eq_true rfl) rfl ?_
  refine z_xP zt209 0 1 [some (.ref 19), some (.int p2)] [.int p2] rfl rfl ?_
  refine z_xZ zt209 1 rfl rfl (fun (h11 : p2.toInt < 0) => ?_) (fun (h11 : 0 ≤ p2.toInt) => ?_)
  · skip
    refine z_xP zt209 6 17 [some (.ref 19), some (.int p2)] [.int 0] rfl rfl ?_
    refine z_xrz zt209 7 rfl zzr209 (by decide) (by decide) ?_
    show z_ev (d + 5) 238 13 [some (.ref 19), some (.int p1), some (.int p2), some (.int p3)] [.int 0] M0 _
    refine z_xZ zt238 5 rfl rfl (fun (h12 : (0 : Int) = 0) => ?_) (fun (h12 : (0 : Int) ≠ 0) => absurd h12 (by omega))
    refine z_xP zt238 12 29 [some (.ref 19), some (.int p1), some (.int p2), some (.int p3)] [.int (-1)] rfl rfl ?_
    have qm1 : (((-1) : Int32)).toInt = (-1) := rfl
    exact z_xri zt238 13 rfl zzr238 (kk (-1) M0 X (y_cO0 (by unfold y_vO; omega) rfl))
  refine z_xP zt209 2 6 [some (.ref 19), some (.int p2)] [.ref 19, .int p2] rfl rfl ?_
  refine z_xgI zt209 3 rfl zo209 zzf12_110 X f19 (by decide) (by decide) rfl (fun (x14 : Int32) h13 (h15 : 0 ≤ x14.toInt) (h16 : x14.toInt ≤ 8) => ?_)
  have ex14 : (z_Fv M0 19 13).toInt = x14.toInt := by rw [z_Fv.of h13]
  have h17 := z_b32 p2
  refine z_xJ zt209 4 rfl rfl (fun (h18 : x14.toInt ≤ p2.toInt) => ?_) (fun (h18 : p2.toInt < x14.toInt) => ?_)
  · skip
    refine z_xP zt209 6 17 [some (.ref 19), some (.int p2)] [.int 0] rfl rfl ?_
    refine z_xrz zt209 7 rfl zzr209 (by decide) (by decide) ?_
    show z_ev (d + 5) 238 13 [some (.ref 19), some (.int p1), some (.int p2), some (.int p3)] [.int 0] M0 _
    refine z_xZ zt238 5 rfl rfl (fun (h19 : (0 : Int) = 0) => ?_) (fun (h19 : (0 : Int) ≠ 0) => absurd h19 (by omega))
    refine z_xP zt238 12 29 [some (.ref 19), some (.int p1), some (.int p2), some (.int p3)] [.int (-1)] rfl rfl ?_
    have qm1 : (((-1) : Int32)).toInt = (-1) := rfl
    exact z_xri zt238 13 rfl zzr238 (kk (-1) M0 X (y_cO0 (by unfold y_vO; omega) rfl))
  refine z_xP zt209 5 17 [some (.ref 19), some (.int p2)] [.int 1] rfl rfl ?_
  refine z_xrz zt209 7 rfl zzr209 (by decide) (by decide) ?_
  show z_ev (d + 5) 238 13 [some (.ref 19), some (.int p1), some (.int p2), some (.int p3)] [.int 1] M0 _
  refine z_xZ zt238 5 rfl rfl (fun (h20 : (1 : Int) = 0) => absurd h20 (by omega)) (fun (h20 : (1 : Int) ≠ 0) => ?_)
  refine z_xP zt238 6 17 [some (.ref 19), some (.int p1), some (.int p2), some (.int p3)] [.int p3] rfl rfl ?_
  have h21 := z_b32 p3
  refine z_xL zt238 7 rfl rfl (fun (y22 : Int64) (h23 : y22.toInt = p3.toInt) => ?_) (z_qI2L rfl)
  refine z_xP zt238 8 19 [some (.ref 19), some (.int p1), some (.int p2), some (.int p3)] [.long 0, .long y22] rfl rfl ?_
  refine z_xl2 zt238 9 rfl zo238 zkl12_114 ?_
  refine z_xcS (vs := [.long y22, .long 0, .long 4]) (r := []) (L2 := [some (.long y22), none, some (.long 0), none, some (.long 4), none]) zt238 10 rfl zo238 zzcS12_116 (Or.inl rfl) (Nat.le_of_ble_eq_true rfl) rfl rfl (Nat.le_of_ble_eq_true rfl) zzm189 (Nat.le_of_ble_eq_true rfl) rfl ?_
  refine z_xP zt189 0 2 [some (.long y22), none, some (.long 0), none, some (.long 4), none] [.long 0, .long y22] rfl rfl ?_
  refine z_xI zt189 1 rfl rfl (fun (x24 : Int32) (h25 : (x24.toInt < 0 ∧ y22.toInt < 0) ∨ (x24.toInt = 0 ∧ y22.toInt = 0) ∨ (0 < x24.toInt ∧ 0 < y22.toInt)) => ?_) (z_qCmp rfl rfl)
  refine z_xZ zt189 2 rfl rfl (fun (h26 : x24.toInt < 0) => ?_) (fun (h26 : 0 ≤ x24.toInt) => ?_)
  · skip
    refine z_xP zt189 7 18 [some (.long y22), none, some (.long 0), none, some (.long 4), none] [.int 0] rfl rfl ?_
    refine z_xrz zt189 8 rfl zzr189 (by decide) (by decide) ?_
    show z_ev (d + 5) 238 25 [some (.ref 19), some (.int p1), some (.int p2), some (.int p3)] [.int 0] M0 _
    refine z_xZ zt238 11 rfl rfl (fun (h27 : (0 : Int) ≠ 0) => absurd h27 (by omega)) (fun (h27 : (0 : Int) = 0) => ?_)
    refine z_xP zt238 12 29 [some (.ref 19), some (.int p1), some (.int p2), some (.int p3)] [.int (-1)] rfl rfl ?_
    have qm1 : (((-1) : Int32)).toInt = (-1) := rfl
    exact z_xri zt238 13 rfl zzr238 (kk (-1) M0 X (y_cO0 (by unfold y_vO; omega) rfl))
  refine z_xP zt189 3 9 [some (.long y22), none, some (.long 0), none, some (.long 4), none] [.long 4, .long y22] rfl rfl ?_
  refine z_xI zt189 4 rfl rfl (fun (x28 : Int32) (h29 : (x28.toInt < 0 ∧ y22.toInt < 4) ∨ (x28.toInt = 0 ∧ y22.toInt = 4) ∨ (0 < x28.toInt ∧ 4 < y22.toInt)) => ?_) (z_qCmp rfl rfl)
  refine z_xZ zt189 5 rfl rfl (fun (h30 : 0 < x28.toInt) => ?_) (fun (h30 : x28.toInt ≤ 0) => ?_)
  · skip
    refine z_xP zt189 7 18 [some (.long y22), none, some (.long 0), none, some (.long 4), none] [.int 0] rfl rfl ?_
    refine z_xrz zt189 8 rfl zzr189 (by decide) (by decide) ?_
    show z_ev (d + 5) 238 25 [some (.ref 19), some (.int p1), some (.int p2), some (.int p3)] [.int 0] M0 _
    refine z_xZ zt238 11 rfl rfl (fun (h31 : (0 : Int) ≠ 0) => absurd h31 (by omega)) (fun (h31 : (0 : Int) = 0) => ?_)
    refine z_xP zt238 12 29 [some (.ref 19), some (.int p1), some (.int p2), some (.int p3)] [.int (-1)] rfl rfl ?_
    have qm1 : (((-1) : Int32)).toInt = (-1) := rfl
    exact z_xri zt238 13 rfl zzr238 (kk (-1) M0 X (y_cO0 (by unfold y_vO; omega) rfl))
  refine z_xP zt189 6 18 [some (.long y22), none, some (.long 0), none, some (.long 4), none] [.int 1] rfl rfl ?_
  refine z_xrz zt189 8 rfl zzr189 (by decide) (by decide) ?_
  show z_ev (d + 5) 238 25 [some (.ref 19), some (.int p1), some (.int p2), some (.int p3)] [.int 1] M0 _
  refine z_xZ zt238 11 rfl rfl (fun (h32 : (1 : Int) ≠ 0) => ?_) (fun (h32 : (1 : Int) = 0) => absurd h32 (by omega))
  refine z_xP zt238 14 32 [some (.ref 19), some (.int p1), some (.int p2), some (.int p3)] [.int p2, .ref 19] rfl rfl ?_
  refine z_xcV (vs := [.ref 19, .int p2]) (r := []) (L2 := [some (.ref 19), some (.int p2), none]) zt238 15 rfl zo238 zzcV12_255 (Or.inl rfl) rfl X f19 rfl rfl rfl (Nat.le_of_ble_eq_true rfl) zzm229 (Nat.le_of_ble_eq_true rfl) rfl ?_
  obtain ⟨x33, h34, h35, h36⟩ := z_W.fi X.1 f19 (k := 29) (lo := 0) (hi := 7) (by decide) rfl
  have hvO : y_vO M0 p1 p2 p3 := by unfold y_vO; omega
  have hY := hTB hvO
  have hq := hY.1
  refine zUC229 X.1 (by omega) h34 ⟨by omega, by omega⟩ (fun M37 X38 hsit z39 h40 h41 h42 => ?_)
  have X43 := X.go X38 (z_sb (by decide))
  show z_ev (d + 5) 238 35 [some (.ref 19), some (.int p1), some (.int p2), some (.int p3)] [] M37 _
  have h45 : z39 = p2 := z_sub (c := p2.toInt) (by omega) rfl
  have h46 := h40
  rw [h45] at h46
  refine z_xP zt238 16 37 [some (.ref 19), some (.int p1), some (.int p2), some (.int p3)] [.int p1, .ref 19] rfl rfl ?_
  refine z_xcV (vs := [.ref 19, .int p1]) (r := []) (L2 := [some (.ref 19), some (.int p1), none]) zt238 17 rfl zo238 zzcV12_303 (Or.inl rfl) rfl X43 f19 rfl rfl rfl (Nat.le_of_ble_eq_true rfl) zzm239 (Nat.le_of_ble_eq_true rfl) rfl ?_
  obtain ⟨hRP, eJ, eqs⟩ := z_RPof hY hW X38 (by decide) (show p2.toNatClampNeg < 8 by show p2.toInt.toNat < 8; omega) h46 (show p2.toInt = ((p2.toNatClampNeg : Nat) : Int) by show p2.toInt = ((p2.toInt.toNat : Nat) : Int); omega) hsit
  have hp20 : p1.toNatClampNeg < 20 := by
    show p1.toInt.toNat < 20
    omega
  obtain ⟨kd, ekd⟩ := z_aiN hW (r := 36) (n := 20) (hi := 7) 36 rfl (by decide) (by decide) p1.toNatClampNeg hp20
  have fkd : (z_Ar M37 36 p1.toInt.toNat).toInt = (kd : Int) := by
    rw [X38.2.a (hW.k (k := 36) (κ := z_ai 36 20 0 7) rfl (by decide)) (by decide)]
    exact ekd
  obtain ⟨sh, esh⟩ := z_aiN hW (r := 37) (n := 20) (hi := 9) 37 rfl (by decide) (by decide) p1.toNatClampNeg hp20
  have fsh : (z_Ar M37 37 p1.toInt.toNat).toInt = (sh : Int) := by
    rw [X38.2.a (hW.k (k := 37) (κ := z_ai 37 20 0 9) rfl (by decide)) (by decide)]
    exact esh
  obtain ⟨ch, ech⟩ := z_aiN hW (r := 38) (n := 20) (hi := 8) 38 rfl (by decide) (by decide) p1.toNatClampNeg hp20
  have fch : (z_Ar M37 38 p1.toInt.toNat).toInt = (ch : Int) := by
    rw [X38.2.a (hW.k (k := 38) (κ := z_ai 38 20 0 8) rfl (by decide)) (by decide)]
    exact ech
  refine zUC239 hRP ⟨by omega, by omega⟩ fkd fsh fch (fun M47 yv nv X48 hyv hnv hyn hout => ?_)
  rw [eJ] at hout
  have hoJ : z_oJ (kd + 4) B q pr en sh J ch ww yy nn yv.toInt.toNat nv.toInt.toNat := ⟨_, _, _, fun k _ => z_LVof eJ eqs k, fun j hj => ⟨by rw [(eqs j hj).2.1], by rw [(eqs j hj).2.2]⟩, hout⟩
  have hyl := z_outL hout hq.1
  have X49 := X43.go X48 (z_sb (by decide))
  show z_ev (d + 5) 238 40 [some (.ref 19), some (.int p1), some (.int p2), some (.int p3)] [] M47 _
  refine z_xP zt238 18 41 [some (.ref 19), some (.int p1), some (.int p2), some (.int p3)] [.int p3] rfl rfl ?_
  by_cases h51 : p3.toInt = 0
  · refine z_xSC zt238 19 (z_sub (k := 0) h51 rfl) 72 rfl rfl ?_
    refine z_xP zt238 20 73 [some (.ref 19), some (.int p1), some (.int p2), some (.int p3)] [.ref 19] rfl rfl ?_
    refine z_xgv zt238 21 rfl zo238 zzf12_275 X49 f19 (by decide) hyv ?_
    exact z_xri zt238 22 rfl zzr238 (kk yv M47 X49 (Or.inr ⟨hvO, kd, sh, ch, _, _, ekd, esh, ech, hoJ, Or.inl ⟨h51, by omega⟩⟩))
  by_cases h56 : p3.toInt = 1
  · refine z_xSC zt238 19 (z_sub (k := 1) h56 rfl) 77 rfl rfl ?_
    refine z_xP zt238 23 78 [some (.ref 19), some (.int p1), some (.int p2), some (.int p3)] [.ref 19] rfl rfl ?_
    refine z_xgv zt238 24 rfl zo238 zzf12_278 X49 f19 (by decide) hnv ?_
    exact z_xri zt238 25 rfl zzr238 (kk nv M47 X49 (Or.inr ⟨hvO, kd, sh, ch, _, _, ekd, esh, ech, hoJ, Or.inr (Or.inl ⟨h56, by omega⟩)⟩))
  by_cases h61 : p3.toInt = 2
  · refine z_xSC zt238 19 (z_sub (k := 2) h61 rfl) 82 rfl rfl ?_
    refine z_xP zt238 26 83 [some (.ref 19), some (.int p1), some (.int p2), some (.int p3)] [.ref 19] rfl rfl ?_
    refine z_xcV (vs := [.ref 19]) (r := []) (L2 := [some (.ref 19)]) zt238 27 rfl zo238 zzcV12_248 (Or.inl rfl) rfl X49 f19 rfl rfl rfl (Nat.le_of_ble_eq_true rfl) zzm240 (Nat.le_of_ble_eq_true rfl) rfl ?_
    refine z_xP zt240 0 2 [some (.ref 19)] [.ref 19, .int 1] rfl rfl ?_
    refine z_xgX (b := 24) zt240 1 rfl zo240 zzf12_22 X49 f19 (by decide) (by decide) rfl ?_
    refine z_xP zt240 2 6 [some (.ref 19)] [.ref 19, .ref 24, .int 1] rfl rfl ?_
    have h62 := (X48.2.f f19 (by decide) h46)
    refine z_xgv zt240 3 rfl zo240 zzf12_242 X49 f19 (by decide) h62 ?_
    have f24 : T[24]? = some (.inr (24, 0, 8, 0, 10)) := X49.1.k rfl (by decide)
    refine z_xil zt240 4 rfl X49 f24 (by decide) (by omega) (by omega) (fun (x63 : Int32) h64 (h65 : 0 ≤ x63.toInt) (h66 : x63.toInt ≤ 10) => ?_)
    refine z_xI zt240 5 rfl rfl (fun (x67 : Int32) (h68 : x67 = (1 : Int32) <<< (x63 &&& 31) ∧ 1 ≤ x67.toInt ∧ x67.toInt ≤ 1024) => ?_) (⟨rfl, z_pShlB (a := 1) (b := 10) (c := 1024) (r := 1024) rfl rfl (by omega) (by omega) (by omega) (by omega) (by decide) (by decide) (by decide) (by decide)⟩)
    have e63 : x63.toInt = (q : Int) := by
      rw [← h64, X49.2.a (hW.k (k := 24) (κ := z_ai 24 8 0 10) rfl (by decide)) (by decide)]
      exact hY.2.1.1
    refine z_xP zt240 6 12 [some (.ref 19)] [.int 1, .int x67] rfl rfl ?_
    refine z_xI zt240 7 rfl rfl (fun (x69 : Int32) (h70 : x69.toInt = x67.toInt - 1) => ?_) (z_pSub rfl rfl (by omega) (by omega))
    have hA := z_all2 e63 hq.2 h68.1 h70
    refine z_xri zt240 8 rfl zzr240 ?_
    show z_ev (d + 5) 238 86 [some (.ref 19), some (.int p1), some (.int p2), some (.int p3)] [.int x69] M47 _
    refine z_xP zt238 28 87 [some (.ref 19), some (.int p1), some (.int p2), some (.int p3)] [.ref 19, .int x69] rfl rfl ?_
    refine z_xgv zt238 29 rfl zo238 zzf12_275 X49 f19 (by decide) hyv ?_
    refine z_xP zt238 30 91 [some (.ref 19), some (.int p1), some (.int p2), some (.int p3)] [.int (-1), .int yv, .int x69] rfl rfl ?_
    refine z_xI zt238 31 rfl rfl (fun (x75 : Int32) (h75 : x75 = yv ^^^ (-1 : Int32)) => ?_) rfl
    refine z_xI zt238 32 rfl rfl (fun (x77 : Int32) (h78 : x77 = x69 &&& x75) => ?_) rfl
    refine z_xP zt238 33 94 [some (.ref 19), some (.int p1), some (.int p2), some (.int p3)] [.ref 19, .int x77] rfl rfl ?_
    refine z_xgv zt238 34 rfl zo238 zzf12_278 X49 f19 (by decide) hnv ?_
    refine z_xP zt238 35 98 [some (.ref 19), some (.int p1), some (.int p2), some (.int p3)] [.int (-1), .int nv, .int x77] rfl rfl ?_
    refine z_xI zt238 36 rfl rfl (fun (x83 : Int32) (h83 : x83 = nv ^^^ (-1 : Int32)) => ?_) rfl
    refine z_xI zt238 37 rfl rfl (fun (x85 : Int32) (h86 : x85 = x77 &&& x83) => ?_) rfl
    exact z_xri zt238 38 rfl zzr238 (kk x85 M47 X49 (Or.inr ⟨hvO, kd, sh, ch, _, _, ekd, esh, ech, hoJ, Or.inr (Or.inr (Or.inl ⟨h61, y_oA2 hA hq.2 hyn.1.1 hyn.2.1 h75 h78 h83 h86⟩))⟩))
  by_cases h87 : p3.toInt = 3
  · refine z_xSC zt238 19 (z_sub (k := 3) h87 rfl) 101 rfl rfl ?_
    refine z_xP zt238 39 102 [some (.ref 19), some (.int p1), some (.int p2), some (.int p3)] [.ref 19] rfl rfl ?_
    refine z_xcV (vs := [.ref 19]) (r := []) (L2 := [some (.ref 19), none, none]) zt238 40 rfl zo238 zzcV12_306 (Or.inl rfl) rfl X49 f19 rfl rfl rfl (Nat.le_of_ble_eq_true rfl) zzm248 (Nat.le_of_ble_eq_true rfl) rfl ?_
    refine zUC248 X49.1 (X48.2.f f19 (by decide) h46) (show p2.toInt = ((p2.toNatClampNeg : Nat) : Int) by show p2.toInt = ((p2.toInt.toNat : Nat) : Int); omega) (show p2.toNatClampNeg < 8 by show p2.toInt.toNat < 8; omega) (hY.2.1.ke hW X49.2 (by decide)) hq.2 hyv hnv hyn.1 hyn.2 (fun x90 M88 X89 h91 h92 h90 => ?_)
    have X93 := X49.go X89 (z_sb (by decide))
    show z_ev (d + 5) 238 105 [some (.ref 19), some (.int p1), some (.int p2), some (.int p3)] [.int x90] M88 _
    exact z_xri zt238 41 rfl zzr238 (kk x90 M88 X93 (Or.inr ⟨hvO, kd, sh, ch, _, _, ekd, esh, ech, hoJ, Or.inr (Or.inr (Or.inr (Or.inl ⟨h87, h90⟩)))⟩))
  refine z_xSD zt238 19 rfl rfl (by omega) ?_
  refine z_xP zt238 42 107 [some (.ref 19), some (.int p1), some (.int p2), some (.int p3)] [.ref 19] rfl rfl ?_
  refine z_xcV (vs := [.ref 19]) (r := []) (L2 := [some (.ref 19)]) zt238 43 rfl zo238 zzcV12_309 (Or.inl rfl) rfl X49 f19 rfl rfl rfl (Nat.le_of_ble_eq_true rfl) zzm249 (Nat.le_of_ble_eq_true rfl) rfl ?_
  refine z_xP zt249 0 2 [some (.ref 19)] [.ref 19, .ref 19] rfl rfl ?_
  have h95 := (X48.2.f f19 (by decide) h46)
  refine z_xgv zt249 1 rfl zo249 zzf12_242 X49 f19 (by decide) h95 ?_
  refine z_xP zt249 2 6 [some (.ref 19)] [.ref 19, .int p2, .ref 19] rfl rfl ?_
  refine z_xgv zt249 3 rfl zo249 zzf12_275 X49 f19 (by decide) hyv ?_
  refine z_xP zt249 4 10 [some (.ref 19)] [.ref 19, .int yv, .int p2, .ref 19] rfl rfl ?_
  refine z_xgv zt249 5 rfl zo249 zzf12_278 X49 f19 (by decide) hnv ?_
  refine z_xcV (vs := [.ref 19, .int p2, .int yv, .int nv]) (r := []) (L2 := [some (.ref 19), some (.int p2), some (.int yv), some (.int nv), none, none]) zt249 6 rfl zo249 zzcV12_222 (Or.inl rfl) rfl X49 f19 rfl rfl rfl (Nat.le_of_ble_eq_true rfl) zzm215 (Nat.le_of_ble_eq_true rfl) rfl ?_
  refine zUC215 X49.1 (by omega) (fun x106 M104 X105 h107 h108 h106 => ?_)
  have h106b : (x106.toInt = 1 ∧ z_cs B q yv.toInt.toNat nv.toInt.toNat) ∨ (x106.toInt = 0 ∧ ¬ z_cs B q yv.toInt.toNat nv.toInt.toNat) := by
    have hG49 := hY.2.1.ke hW X49.2 (by decide)
    have e31 := hG49.2.2.2.2.1
    have e := y_csE (y := yv) (n := nv) hG49.2.2.2.2.2.2 hY.2.2.1.1 hq.2 hyn.1 hyn.2
    rw [← e, show m = (z_Ar M47 31 p2.toNatClampNeg).toInt.toNat by omega]
    exact h106
  have X109 := X49.go X105 (z_sb (by decide))
  show z_ev (d + 4) 249 16 [some (.ref 19)] [.int x106] M104 _
  refine z_xZ zt249 7 rfl rfl (fun (h111 : x106.toInt ≠ 0) => ?_) (fun (h111 : x106.toInt = 0) => ?_)
  · skip
    refine z_xP zt249 9 24 [some (.ref 19)] [.int 0] rfl rfl ?_
    refine z_xrz zt249 10 rfl zzr249 (by decide) (by decide) ?_
    show z_ev (d + 5) 238 110 [some (.ref 19), some (.int p1), some (.int p2), some (.int p3)] [.int 0] M104 _
    refine z_xZ zt238 44 rfl rfl (fun (h112 : (0 : Int) = 0) => ?_) (fun (h112 : (0 : Int) ≠ 0) => absurd h112 (by omega))
    refine z_xP zt238 46 118 [some (.ref 19), some (.int p1), some (.int p2), some (.int p3)] [.int 0] rfl rfl ?_
    have q0 : ((0 : Int32)).toInt = 0 := rfl
    exact z_xri zt238 47 rfl zzr238 (kk 0 M104 X109 (Or.inr ⟨hvO, kd, sh, ch, _, _, ekd, esh, ech, hoJ, Or.inr (Or.inr (Or.inr (Or.inr ⟨by omega, Or.inr ⟨rfl, z_or1 h106b h111⟩⟩)))⟩))
  refine z_xP zt249 8 24 [some (.ref 19)] [.int 1] rfl rfl ?_
  refine z_xrz zt249 10 rfl zzr249 (by decide) (by decide) ?_
  show z_ev (d + 5) 238 110 [some (.ref 19), some (.int p1), some (.int p2), some (.int p3)] [.int 1] M104 _
  refine z_xZ zt238 44 rfl rfl (fun (h113 : (1 : Int) = 0) => absurd h113 (by omega)) (fun (h113 : (1 : Int) ≠ 0) => ?_)
  refine z_xP zt238 45 118 [some (.ref 19), some (.int p1), some (.int p2), some (.int p3)] [.int 1] rfl rfl ?_
  have q1 : ((1 : Int32)).toInt = 1 := rfl
  exact z_xri zt238 47 rfl zzr238 (kk 1 M104 X109 (Or.inr ⟨hvO, kd, sh, ch, _, _, ekd, esh, ech, hoJ, Or.inr (Or.inr (Or.inr (Or.inr ⟨by omega, Or.inl ⟨rfl, z_orn h106b h111⟩⟩)))⟩))
