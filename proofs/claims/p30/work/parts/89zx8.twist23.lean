/-! twist of the reference, told -/
def y_vT (M : zH) (p1 p2 : Int32) : Prop := (0 ≤ p1.toInt ∧ p1.toInt < (z_Fv M 19 21).toInt) ∧ (0 ≤ p2.toInt ∧ p2.toInt < (z_Fv M 19 13).toInt)
def y_cT (M0 : zH) (p1 p2 p3 : Int32) (q m pr en J : Nat) (B : Nat → Nat) (ww yy nn : Nat → Int32) (x : Int) : Prop := (x = -1 ∧ ¬ y_vT M0 p1 p2) ∨ (y_vT M0 p1 p2 ∧ ((x = -1 ∧ (¬ (0 ≤ p3.toInt ∧ p3.toInt < (J : Int)) ∨ (0 ≤ p3.toInt ∧ p3.toInt < (J : Int) ∧ (yy p3.toInt.toNat ||| nn p3.toInt.toNat).toInt ≠ ((2 ^ q : Nat) : Int) - 1))) ∨ ((0 ≤ p3.toInt ∧ p3.toInt < (J : Int)) ∧ ∃ kd sh ch : Nat, (z_Ar M0 36 p1.toNatClampNeg).toInt = (kd : Int) ∧ (z_Ar M0 37 p1.toNatClampNeg).toInt = (sh : Int) ∧ (z_Ar M0 38 p1.toNatClampNeg).toInt = (ch : Int) ∧ z_tA q (kd + 4) pr en sh J ch m p3.toInt.toNat B ww yy nn (fun k => (z_Ar M0 30 (1024 * p2.toNatClampNeg + k)).toInt.toNat) x)))
theorem y_cT0 {M : zH} {p1 p2 p3 : Int32} {q m pr en J : Nat} {B : Nat → Nat} {ww yy nn : Nat → Int32} {x : Int} (h : ¬ y_vT M p1 p2) (hx : x = -1) : y_cT M p1 p2 p3 q m pr en J B ww yy nn x := Or.inl ⟨hx, h⟩
theorem zUC260 {T : List zK} {d : Nat} {K : Option Value → zH → Prop} {p1 : Int32} {p2 : Int32} {p3 : Int32} {M0 : zH} (hW : z_W M0 T) {q t m pr en J : Nat} {B : Nat → Nat} {ww yy nn : Nat → Int32} (hTB : y_vT M0 p1 p2 → y_tob M0 p2.toNatClampNeg q t m pr en J B ww yy nn) (kk : ∀ (x : Int32) (M1 : zH), z_X T zw260 M0 M1 → y_cT M0 p1 p2 p3 q m pr en J B ww yy nn x.toInt → K (some (.int x)) M1) : z_ev (d + 6) 260 0 [some (.ref 19), some (.int p1), some (.int p2), some (.int p3)] [] M0 K := by
  have X : z_X T zw260 M0 M0 := .refl hW
  refine z_xP zt260 0 2 [some (.ref 19), some (.int p1), some (.int p2), some (.int p3)] [.int p1, .ref 19] rfl rfl ?_
  have f19 : T[19]? = some (.inl (12, 0, 0, 0, 0)) := X.1.k rfl (by decide)
  refine z_xcV (vs := [.ref 19, .int p1]) (r := []) (L2 := [some (.ref 19), some (.int p1)]) zt260 1 rfl zo260 zzcV12_272 (Or.inl rfl) rfl X f19 rfl rfl rfl (Nat.le_of_ble_eq_true rfl) zzm237 (Nat.le_of_ble_eq_true rfl) rfl ?_
  refine z_xP zt237 0 1 [some (.ref 19), some (.int p1)] [.int p1] rfl rfl ?_
  refine z_xZ zt237 1 rfl rfl (fun (h1 : p1.toInt < 0) => ?_) (fun (h1 : 0 ≤ p1.toInt) => ?_)
  · skip
    refine z_xP zt237 6 17 [some (.ref 19), some (.int p1)] [.int 0] rfl rfl ?_
    refine z_xrz zt237 7 rfl zzr237 (by decide) (by decide) ?_
    show z_ev (d + 6) 260 5 [some (.ref 19), some (.int p1), some (.int p2), some (.int p3)] [.int 0] M0 _
    refine z_xZ zt260 2 rfl rfl (fun (h2 : (0 : Int) = 0) => ?_) (fun (h2 : (0 : Int) ≠ 0) => absurd h2 (by omega))
    refine z_xP zt260 6 18 [some (.ref 19), some (.int p1), some (.int p2), some (.int p3)] [.int (-1)] rfl rfl ?_
    have qm1 : (((-1) : Int32)).toInt = (-1) := rfl
    exact z_xri zt260 7 rfl zzr260 (kk (-1) M0 X (y_cT0 (by unfold y_vT; omega) rfl))
  refine z_xP zt237 2 6 [some (.ref 19), some (.int p1)] [.ref 19, .int p1] rfl rfl ?_
  refine z_xgI zt237 3 rfl zo237 zzf12_269 X f19 (by decide) (by decide) rfl (fun (x4 : Int32) h3 (h5 : 0 ≤ x4.toInt) (h6 : x4.toInt ≤ 20) => ?_)
  have ex4 : (z_Fv M0 19 21).toInt = x4.toInt := by rw [z_Fv.of h3]
  have h7 := z_b32 p1
  refine z_xJ zt237 4 rfl rfl (fun (h8 : x4.toInt ≤ p1.toInt) => ?_) (fun (h8 : p1.toInt < x4.toInt) => ?_)
  · skip
    refine z_xP zt237 6 17 [some (.ref 19), some (.int p1)] [.int 0] rfl rfl ?_
    refine z_xrz zt237 7 rfl zzr237 (by decide) (by decide) ?_
    show z_ev (d + 6) 260 5 [some (.ref 19), some (.int p1), some (.int p2), some (.int p3)] [.int 0] M0 _
    refine z_xZ zt260 2 rfl rfl (fun (h9 : (0 : Int) = 0) => ?_) (fun (h9 : (0 : Int) ≠ 0) => absurd h9 (by omega))
    refine z_xP zt260 6 18 [some (.ref 19), some (.int p1), some (.int p2), some (.int p3)] [.int (-1)] rfl rfl ?_
    have qm1 : (((-1) : Int32)).toInt = (-1) := rfl
    exact z_xri zt260 7 rfl zzr260 (kk (-1) M0 X (y_cT0 (by unfold y_vT; omega) rfl))
  refine z_xP zt237 5 17 [some (.ref 19), some (.int p1)] [.int 1] rfl rfl ?_
  refine z_xrz zt237 7 rfl zzr237 (by decide) (by decide) ?_
  show z_ev (d + 6) 260 5 [some (.ref 19), some (.int p1), some (.int p2), some (.int p3)] [.int 1] M0 _
  refine z_xZ zt260 2 rfl rfl (fun (h10 : (1 : Int) = 0) => absurd h10 (by omega)) (fun (h10 : (1 : Int) ≠ 0) => ?_)
  refine z_xP zt260 3 11 [some (.ref 19), some (.int p1), some (.int p2), some (.int p3)] [.int p3, .int p2, .ref 19] rfl rfl ?_
  refine z_xcV (vs := [.ref 19, .int p2, .int p3]) (r := []) (L2 := [some (.ref 19), some (.int p2), some (.int p3)]) zt260 4 rfl zo260 zzcV12_234 (Or.inl rfl) rfl X f19 rfl rfl rfl (Nat.le_of_ble_eq_true rfl) zzm223 (Nat.le_of_ble_eq_true rfl) rfl ?_
  refine z_xP zt223 0 2 [some (.ref 19), some (.int p2), some (.int p3)] [.int p2, .ref 19] rfl rfl ?_
  refine z_xcV (vs := [.ref 19, .int p2]) (r := []) (L2 := [some (.ref 19), some (.int p2)]) zt223 1 rfl zo223 zzcV12_209 (Or.inl rfl) rfl X f19 rfl rfl rfl (Nat.le_of_ble_eq_true rfl) zzm209 (Nat.le_of_ble_eq_true rfl) rfl ?_
  refine z_xP zt209 0 1 [some (.ref 19), some (.int p2)] [.int p2] rfl rfl ?_
  refine z_xZ zt209 1 rfl rfl (fun (h11 : p2.toInt < 0) => ?_) (fun (h11 : 0 ≤ p2.toInt) => ?_)
  · skip
    refine z_xP zt209 6 17 [some (.ref 19), some (.int p2)] [.int 0] rfl rfl ?_
    refine z_xrz zt209 7 rfl zzr209 (by decide) (by decide) ?_
    show z_ev (d + 5) 223 5 [some (.ref 19), some (.int p2), some (.int p3)] [.int 0] M0 _
    refine z_xZ zt223 2 rfl rfl (fun (h12 : (0 : Int) = 0) => ?_) (fun (h12 : (0 : Int) ≠ 0) => absurd h12 (by omega))
    refine z_xP zt223 11 27 [some (.ref 19), some (.int p2), some (.int p3)] [.int 0] rfl rfl ?_
    refine z_xrz zt223 12 rfl zzr223 (by decide) (by decide) ?_
    show z_ev (d + 6) 260 14 [some (.ref 19), some (.int p1), some (.int p2), some (.int p3)] [.int 0] M0 _
    refine z_xZ zt260 5 rfl rfl (fun (h13 : (0 : Int) ≠ 0) => absurd h13 (by omega)) (fun (h13 : (0 : Int) = 0) => ?_)
    refine z_xP zt260 6 18 [some (.ref 19), some (.int p1), some (.int p2), some (.int p3)] [.int (-1)] rfl rfl ?_
    have qm1 : (((-1) : Int32)).toInt = (-1) := rfl
    exact z_xri zt260 7 rfl zzr260 (kk (-1) M0 X (y_cT0 (by unfold y_vT; omega) rfl))
  refine z_xP zt209 2 6 [some (.ref 19), some (.int p2)] [.ref 19, .int p2] rfl rfl ?_
  refine z_xgI zt209 3 rfl zo209 zzf12_110 X f19 (by decide) (by decide) rfl (fun (x15 : Int32) h14 (h16 : 0 ≤ x15.toInt) (h17 : x15.toInt ≤ 8) => ?_)
  have ex15 : (z_Fv M0 19 13).toInt = x15.toInt := by rw [z_Fv.of h14]
  have h18 := z_b32 p2
  refine z_xJ zt209 4 rfl rfl (fun (h19 : x15.toInt ≤ p2.toInt) => ?_) (fun (h19 : p2.toInt < x15.toInt) => ?_)
  · skip
    refine z_xP zt209 6 17 [some (.ref 19), some (.int p2)] [.int 0] rfl rfl ?_
    refine z_xrz zt209 7 rfl zzr209 (by decide) (by decide) ?_
    show z_ev (d + 5) 223 5 [some (.ref 19), some (.int p2), some (.int p3)] [.int 0] M0 _
    refine z_xZ zt223 2 rfl rfl (fun (h20 : (0 : Int) = 0) => ?_) (fun (h20 : (0 : Int) ≠ 0) => absurd h20 (by omega))
    refine z_xP zt223 11 27 [some (.ref 19), some (.int p2), some (.int p3)] [.int 0] rfl rfl ?_
    refine z_xrz zt223 12 rfl zzr223 (by decide) (by decide) ?_
    show z_ev (d + 6) 260 14 [some (.ref 19), some (.int p1), some (.int p2), some (.int p3)] [.int 0] M0 _
    refine z_xZ zt260 5 rfl rfl (fun (h21 : (0 : Int) ≠ 0) => absurd h21 (by omega)) (fun (h21 : (0 : Int) = 0) => ?_)
    refine z_xP zt260 6 18 [some (.ref 19), some (.int p1), some (.int p2), some (.int p3)] [.int (-1)] rfl rfl ?_
    have qm1 : (((-1) : Int32)).toInt = (-1) := rfl
    exact z_xri zt260 7 rfl zzr260 (kk (-1) M0 X (y_cT0 (by unfold y_vT; omega) rfl))
  refine z_xP zt209 5 17 [some (.ref 19), some (.int p2)] [.int 1] rfl rfl ?_
  refine z_xrz zt209 7 rfl zzr209 (by decide) (by decide) ?_
  show z_ev (d + 5) 223 5 [some (.ref 19), some (.int p2), some (.int p3)] [.int 1] M0 _
  refine z_xZ zt223 2 rfl rfl (fun (h22 : (1 : Int) = 0) => absurd h22 (by omega)) (fun (h22 : (1 : Int) ≠ 0) => ?_)
  have hvT : y_vT M0 p1 p2 := by unfold y_vT; omega
  have hY := hTB hvT
  have hq := hY.1
  have jok := hY.2.2.2.2.2
  refine z_xP zt223 3 9 [some (.ref 19), some (.int p2), some (.int p3)] [.int p3] rfl rfl ?_
  refine z_xZ zt223 4 rfl rfl (fun (h23 : p3.toInt < 0) => ?_) (fun (h23 : 0 ≤ p3.toInt) => ?_)
  · skip
    refine z_xP zt223 11 27 [some (.ref 19), some (.int p2), some (.int p3)] [.int 0] rfl rfl ?_
    refine z_xrz zt223 12 rfl zzr223 (by decide) (by decide) ?_
    show z_ev (d + 6) 260 14 [some (.ref 19), some (.int p1), some (.int p2), some (.int p3)] [.int 0] M0 _
    refine z_xZ zt260 5 rfl rfl (fun (h24 : (0 : Int) ≠ 0) => absurd h24 (by omega)) (fun (h24 : (0 : Int) = 0) => ?_)
    refine z_xP zt260 6 18 [some (.ref 19), some (.int p1), some (.int p2), some (.int p3)] [.int (-1)] rfl rfl ?_
    have qm1 : (((-1) : Int32)).toInt = (-1) := rfl
    exact z_xri zt260 7 rfl zzr260 (kk (-1) M0 X (Or.inr ⟨hvT, Or.inl ⟨rfl, Or.inl (by omega)⟩⟩))
  refine z_xP zt223 5 14 [some (.ref 19), some (.int p2), some (.int p3)] [.ref 19, .int p3] rfl rfl ?_
  refine z_xgX (b := 35) zt223 6 rfl zo223 zzf12_55 X f19 (by decide) (by decide) rfl ?_
  refine z_xP zt223 7 18 [some (.ref 19), some (.int p2), some (.int p3)] [.int p2, .ref 35, .int p3] rfl rfl ?_
  have f35 : T[35]? = some (.inr (35, 0, 8, 0, 9)) := X.1.k rfl (by decide)
  refine z_xil zt223 8 rfl X f35 (by decide) (by omega) (by omega) (fun (x25 : Int32) h26 (h27 : 0 ≤ x25.toInt) (h28 : x25.toInt ≤ 9) => ?_)
  have e25 : x25.toInt = (J : Int) := by
    rw [← h26]
    exact hY.2.2.2.2.1.1
  have h29 := z_b32 p3
  refine z_xJ zt223 9 rfl rfl (fun (h30 : x25.toInt ≤ p3.toInt) => ?_) (fun (h30 : p3.toInt < x25.toInt) => ?_)
  · skip
    refine z_xP zt223 11 27 [some (.ref 19), some (.int p2), some (.int p3)] [.int 0] rfl rfl ?_
    refine z_xrz zt223 12 rfl zzr223 (by decide) (by decide) ?_
    show z_ev (d + 6) 260 14 [some (.ref 19), some (.int p1), some (.int p2), some (.int p3)] [.int 0] M0 _
    refine z_xZ zt260 5 rfl rfl (fun (h31 : (0 : Int) ≠ 0) => absurd h31 (by omega)) (fun (h31 : (0 : Int) = 0) => ?_)
    refine z_xP zt260 6 18 [some (.ref 19), some (.int p1), some (.int p2), some (.int p3)] [.int (-1)] rfl rfl ?_
    have qm1 : (((-1) : Int32)).toInt = (-1) := rfl
    exact z_xri zt260 7 rfl zzr260 (kk (-1) M0 X (Or.inr ⟨hvT, Or.inl ⟨rfl, Or.inl (by omega)⟩⟩))
  refine z_xP zt223 10 27 [some (.ref 19), some (.int p2), some (.int p3)] [.int 1] rfl rfl ?_
  refine z_xrz zt223 12 rfl zzr223 (by decide) (by decide) ?_
  show z_ev (d + 6) 260 14 [some (.ref 19), some (.int p1), some (.int p2), some (.int p3)] [.int 1] M0 _
  refine z_xZ zt260 5 rfl rfl (fun (h32 : (1 : Int) ≠ 0) => ?_) (fun (h32 : (1 : Int) = 0) => absurd h32 (by omega))
  refine z_xP zt260 8 21 [some (.ref 19), some (.int p1), some (.int p2), some (.int p3)] [.int p2, .ref 19] rfl rfl ?_
  refine z_xcV (vs := [.ref 19, .int p2]) (r := []) (L2 := [some (.ref 19), some (.int p2), none]) zt260 9 rfl zo260 zzcV12_255 (Or.inl rfl) rfl X f19 rfl rfl rfl (Nat.le_of_ble_eq_true rfl) zzm229 (Nat.le_of_ble_eq_true rfl) rfl ?_
  obtain ⟨x33, h34, h35, h36⟩ := z_W.fi X.1 f19 (k := 29) (lo := 0) (hi := 7) (by decide) rfl
  have J9 := hY.2.2.2.1
  refine zUC229 X.1 (by omega) h34 ⟨by omega, by omega⟩ (fun M37 X38 hsit z39 h40 h41 h42 => ?_)
  have X43 := X.go X38 (z_sb (by decide))
  show z_ev (d + 6) 260 24 [some (.ref 19), some (.int p1), some (.int p2), some (.int p3)] [] M37 _
  have h45 : z39 = p2 := z_sub (c := p2.toInt) (by omega) rfl
  have h46 := h40
  rw [h45] at h46
  obtain ⟨hRP, eJ, eqs⟩ := z_RPof hY hW X38 (by decide) (show p2.toNatClampNeg < 8 by show p2.toInt.toNat < 8; omega) h46 (show p2.toInt = ((p2.toNatClampNeg : Nat) : Int) by show p2.toInt = ((p2.toInt.toNat : Nat) : Int); omega) hsit
  have hp20 : p1.toNatClampNeg < 20 := by
    show p1.toInt.toNat < 20
    omega
  have hjJ : p3.toInt.toNat < J := by omega
  obtain ⟨kd, ekd⟩ := z_aiN hW (r := 36) (n := 20) (hi := 7) 36 rfl (by decide) (by decide) p1.toNatClampNeg hp20
  have fkd : (z_Ar M37 36 p1.toInt.toNat).toInt = (kd : Int) := by
    rw [X38.2.a (hW.k (k := 36) (κ := z_ai 36 20 0 7) rfl (by decide)) (by decide)]
    exact ekd
  obtain ⟨sh, esh⟩ := z_aiN hW (r := 37) (n := 20) (hi := 9) 37 rfl (by decide) (by decide) p1.toNatClampNeg hp20
  have fsh : (z_Ar M37 37 p1.toInt.toNat).toInt = (sh : Int) := by
    rw [X38.2.a (hW.k (k := 37) (κ := z_ai 37 20 0 9) rfl (by decide)) (by decide)]
    exact esh
  obtain ⟨ch, ech⟩ := z_aiN hW (r := 38) (n := 20) (hi := 8) 38 rfl (by decide) (by decide) p1.toNatClampNeg hp20
  have fch : (z_Ar M37 38 p1.toInt.toNat).toInt = (ch : Int) := by
    rw [X38.2.a (hW.k (k := 38) (κ := z_ai 38 20 0 8) rfl (by decide)) (by decide)]
    exact ech
  have e30 : z_Ar M37 30 = z_Ar M0 30 := X38.2.a (hW.k (k := 30) rfl (by decide)) (by decide)
  refine z_xP zt260 10 25 [some (.ref 19), some (.int p1), some (.int p2), some (.int p3)] [.ref 19] rfl rfl ?_
  refine z_xgX (b := 40) zt260 11 rfl zo260 zzf12_70 X43 f19 (by decide) (by decide) rfl ?_
  refine z_xP zt260 12 29 [some (.ref 19), some (.int p1), some (.int p2), some (.int p3)] [.int p3, .ref 40] rfl rfl ?_
  have f40 : T[40]? = some (.inr (40, 0, 9, (-2147483648), 2147483647)) := X43.1.k rfl (by decide)
  refine z_xil zt260 13 rfl X43 f40 (by decide) (by omega) (by omega) (fun (x47 : Int32) h48 (h49 : (-2147483648) ≤ x47.toInt) (h50 : x47.toInt ≤ 2147483647) => ?_)
  have ey : x47 = yy p3.toInt.toNat := h48.symm.trans (eqs _ hjJ).2.1
  refine z_xP zt260 14 31 [some (.ref 19), some (.int p1), some (.int p2), some (.int p3)] [.ref 19, .int x47] rfl rfl ?_
  refine z_xgX (b := 41) zt260 15 rfl zo260 zzf12_73 X43 f19 (by decide) (by decide) rfl ?_
  refine z_xP zt260 16 35 [some (.ref 19), some (.int p1), some (.int p2), some (.int p3)] [.int p3, .ref 41, .int x47] rfl rfl ?_
  have f41 : T[41]? = some (.inr (41, 0, 9, (-2147483648), 2147483647)) := X43.1.k rfl (by decide)
  refine z_xil zt260 17 rfl X43 f41 (by decide) (by omega) (by omega) (fun (x51 : Int32) h52 (h53 : (-2147483648) ≤ x51.toInt) (h54 : x51.toInt ≤ 2147483647) => ?_)
  have en : x51 = nn p3.toInt.toNat := h52.symm.trans (eqs _ hjJ).2.2
  refine z_xI zt260 18 rfl rfl (fun (x55 : Int32) (h55 : x55 = x47 ||| x51) => ?_) rfl
  refine z_xP zt260 19 38 [some (.ref 19), some (.int p1), some (.int p2), some (.int p3)] [.ref 19, .int x55] rfl rfl ?_
  refine z_xcV (vs := [.ref 19]) (r := [.int x55]) (L2 := [some (.ref 19)]) zt260 20 rfl zo260 zzcV12_248 (Or.inl rfl) rfl X43 f19 rfl rfl rfl (Nat.le_of_ble_eq_true rfl) zzm240 (Nat.le_of_ble_eq_true rfl) rfl ?_
  refine z_xP zt240 0 2 [some (.ref 19)] [.ref 19, .int 1] rfl rfl ?_
  refine z_xgX (b := 24) zt240 1 rfl zo240 zzf12_22 X43 f19 (by decide) (by decide) rfl ?_
  refine z_xP zt240 2 6 [some (.ref 19)] [.ref 19, .ref 24, .int 1] rfl rfl ?_
  refine z_xgv zt240 3 rfl zo240 zzf12_242 X43 f19 (by decide) h46 ?_
  have f24 : T[24]? = some (.inr (24, 0, 8, 0, 10)) := X43.1.k rfl (by decide)
  refine z_xil zt240 4 rfl X43 f24 (by decide) (by omega) (by omega) (fun (x57 : Int32) h58 (h59 : 0 ≤ x57.toInt) (h60 : x57.toInt ≤ 10) => ?_)
  refine z_xI zt240 5 rfl rfl (fun (x61 : Int32) (h62 : x61 = (1 : Int32) <<< (x57 &&& 31) ∧ 1 ≤ x61.toInt ∧ x61.toInt ≤ 1024) => ?_) (⟨rfl, z_pShlB (a := 1) (b := 10) (c := 1024) (r := 1024) rfl rfl (by omega) (by omega) (by omega) (by omega) (by decide) (by decide) (by decide) (by decide)⟩)
  have e57 : x57.toInt = (q : Int) := by
    rw [← h58, X38.2.a (hW.k (k := 24) (κ := z_ai 24 8 0 10) rfl (by decide)) (by decide)]
    exact hY.2.1.1
  refine z_xP zt240 6 12 [some (.ref 19)] [.int 1, .int x61] rfl rfl ?_
  refine z_xI zt240 7 rfl rfl (fun (x63 : Int32) (h64 : x63.toInt = x61.toInt - 1) => ?_) (z_pSub rfl rfl (by omega) (by omega))
  have hA := z_all2 e57 hq.2 h62.1 h64
  refine z_xri zt240 8 rfl zzr240 ?_
  show z_ev (d + 6) 260 41 [some (.ref 19), some (.int p1), some (.int p2), some (.int p3)] [.int x63, .int x55] M37 _
  have h65 := z_b32 x55
  refine z_xJ zt260 21 rfl rfl (fun (h66 : x55.toInt = x63.toInt) => ?_) (fun (h66 : x55.toInt ≠ x63.toInt) => ?_)
  · skip
    refine z_xP zt260 24 49 [some (.ref 19), some (.int p1), some (.int p2), some (.int p3)] [.int p3, .int p1, .ref 19] rfl rfl ?_
    refine z_xcV (vs := [.ref 19, .int p1, .int p3]) (r := []) (L2 := [some (.ref 19), some (.int p1), some (.int p3), none, none, none, none, none, none]) zt260 25 rfl zo260 zzcV12_336 (Or.inl rfl) rfl X43 f19 rfl rfl rfl (Nat.le_of_ble_eq_true rfl) zzm261 (Nat.le_of_ble_eq_true rfl) rfl ?_
    have hyn : (yy p3.toInt.toNat ||| nn p3.toInt.toNat).toInt = x63.toInt := by
      rw [← ey, ← en, ← h55]
      exact h66
    have hnn : nn p3.toInt.toNat = x63 &&& (yy p3.toInt.toNat ^^^ (-1 : Int32)) := (z_silent hyn (jok p3.toInt.toNat hjJ).1.2.2).symm
    refine zUC261 hRP eJ eqs jok ⟨by omega, by omega⟩ ⟨by omega, by omega⟩ hjJ fkd fsh fch hA hnn (fun x69 M67 X68 g => ?_)
    rw [e30] at g
    have X72 := X43.go X68 (z_sb (by decide))
    show z_ev (d + 6) 260 52 [some (.ref 19), some (.int p1), some (.int p2), some (.int p3)] [.int x69] M67 _
    exact z_xri zt260 26 rfl zzr260 (kk x69 M67 X72 (Or.inr ⟨hvT, Or.inr ⟨⟨by omega, by omega⟩, kd, sh, ch, ekd, esh, ech, ⟨x63, hA, hyn, hnn⟩, g⟩⟩))
  refine z_xP zt260 22 45 [some (.ref 19), some (.int p1), some (.int p2), some (.int p3)] [.int (-1)] rfl rfl ?_
  have qm1 : (((-1) : Int32)).toInt = (-1) := rfl
  exact z_xri zt260 23 rfl zzr260 (kk (-1) M37 X43 (Or.inr ⟨hvT, Or.inl ⟨rfl, Or.inr ⟨by omega, by omega, by rw [← hA, ← ey, ← en, ← h55]; exact h66⟩⟩⟩))
theorem zT23 {x1 x2 x3 : Int32} {M : zH} (hJA : z_JA M) (hJ : z_J M) : z_ev 2046 116 0 (z_ent [.ref 4, .int x1, .int x2, .int x3] (z_ml 116)) [] M fun v M1 => (∃ y, v = some (.int y)) ∧ z_ev 2046 260 0 (z_ent [.ref 19, .int x1, .int x2, .int x3] (z_ml 260)) [] M1 fun v2 M2 => (∃ y, v2 = some (.int y)) ∧ v = v2 ∧ z_J M2 ∧ M2.length ≤ M.length + 1171 ∧ z_szr M2 ≤ z_szr M + 14000 := by
  obtain ⟨TA, hAA, hRA⟩ := hJA
  obtain ⟨T, hA, hR, h9⟩ := hJ
  have hW := hA.1.1
  have hbk := hR.2.2.1
  obtain ⟨v1, v2, v3, v4⟩ := z_R5.v hR.1
  have k4 : T[4]? = some (.inl (0, 0, 0, 0, 0)) := hW.k rfl (by decide)
  have k19 : T[19]? = some (.inl (12, 0, 0, 0, 0)) := hW.k rfl (by decide)
  obtain ⟨V, hV, _, _⟩ := hW.fi k4 (k := 5) (lo := 0) (hi := 20) (by decide) rfl
  obtain ⟨A, hAe, _, A8⟩ := hW.fi k4 (k := 3) (lo := 0) (hi := 8) (by decide) rfl
  refine z_twoG (C := fun v v2 => v = v2) ?_
  rw [zzm116]
  show z_ev 2046 116 0 [some (.ref 4), some (.int x1), some (.int x2), some (.int x3), none, none] [] M _
  refine zUC116 (d := 2041) hW hR h9 hA.1 fun y M1 X1 h1 => ?_
  have hB := z_kee hA X1 (by decide)
  refine ⟨⟨y, rfl⟩, Or.inl ⟨X1.1.1.trans hW.1.symm, z_kep X1 (by decide)⟩, ?_⟩
  have hN : (z_Fv M1 19 13).toInt = (z_Fv M 4 3).toInt := (congrArg Int32.toInt (z_FvK (X1.2.1 19 12 0 0 0 0 13 k19 (by decide)))).trans v2
  have hN5 : (z_Fv M1 19 21).toInt = (z_Fv M 4 5).toInt := by
    have e1 := z_FvK (X1.2.1 19 12 0 0 0 0 21 k19 (by decide))
    have e2 : z_Fv M 19 21 = z_Fv M 4 5 := by
      unfold z_Fv
      rw [hA.2.2.2]
    rw [e1, e2]
  have ev : y_vT M1 x1 x2 ↔ z_vT M x1 x2 := by
    unfold y_vT z_vT
    rw [hN, hN5]
  have hk7 : z_ke T [] M M1 → ∀ M2, z_X T zw260 M1 M2 → z_R7 T M2 := fun k1 M2 X2 => (hR.2.2.ke hW (fun _ _ h => h) (hbk.ke k1 rfl) k1 rfl).ke X1.1 (fun _ _ h => h) ((hbk.ke k1 rfl).ke X2.2 rfl) X2.2 rfl
  have hk9 : z_ke T [] M M1 → z_R89 T M1 := fun k1 => h9.ke hbk hW (fun _ _ _ _ _ h => h) k1 rfl
  obtain ⟨q, t, m, pr, en, J, B, ww, yy, nn, hTB, hcmp, h91, key⟩ : ∃ (q t m pr en J : Nat) (B : Nat → Nat) (ww yy nn : Nat → Int32), (y_vT M1 x1 x2 → y_tob M1 x2.toNatClampNeg q t m pr en J B ww yy nn) ∧ (∀ z : Int32, y_cT M1 x1 x2 x3 q m pr en J B ww yy nn z.toInt → y = z) ∧ z_R89 T M1 ∧ ∀ M2, z_X T zw260 M1 M2 → z_R7 T M2 := by
    rcases h1 with ⟨e1, n1, k1⟩ | ⟨w1, w, c, b, N, q, t, m, pr, en, J, sa, B, sh, jv, ch, ww, yy, nn, ow, kw, hD, hTB, f5, h1⟩
    · refine ⟨0, 0, 0, 0, 0, 0, fun _ => 0, fun _ => 0, fun _ => 0, fun _ => 0, fun h => absurd (ev.mp h) n1, fun z h2 => ?_, hk9 k1, hk7 k1⟩
      rcases h2 with ⟨e2, _⟩ | ⟨w2, _⟩
      · exact Int32.toInt_inj.mp (e1.trans e2.symm)
      · exact absurd (ev.mp w2) n1
    · have kb := hD.2.1
      have hY : y_tob M1 x2.toNatClampNeg q t m pr en J B ww yy nn := hTB.y hW X1.2 rfl rfl
      have hp2 : 0 ≤ x2.toInt ∧ x2.toInt < A.toInt := by
        have h := w1.2
        rw [z_Fv.of hAe] at h
        exact h
      rcases h1 with ⟨e1, n1, k1⟩ | ⟨hj, hT, ho, htw, hln, hlz⟩
      · refine ⟨q, t, m, pr, en, J, B, ww, yy, nn, fun _ => hY, fun z h2 => ?_, hk9 k1, hk7 k1⟩
        rcases h2 with ⟨_, n2⟩ | ⟨_, ⟨e2, _⟩ | ⟨hj2, kd, sh2, ch2, _, _, _, ⟨A2, a1, a2, _⟩, _⟩⟩
        · exact absurd (ev.mpr w1) n2
        · exact Int32.toInt_inj.mp (e1.trans e2.symm)
        · rcases n1 with n1 | ⟨_, _, n1⟩
          · exact absurd hj2 n1
          · exact absurd (a2.trans a1) n1
      · refine ⟨q, t, m, pr, en, J, B, ww, yy, nn, fun _ => hY, fun z h2 => ?_, h9.one ho kb ⟨hln, hlz⟩, fun M2 X2 => ?_⟩
        · rcases h2 with ⟨_, n2⟩ | ⟨_, ⟨_, n2⟩ | ⟨_, kd, sh2, ch2, ek, es, ec, hT2⟩⟩
          · exact absurd (ev.mpr w1) n2
          · obtain ⟨⟨A2, a1, a2, _⟩, _⟩ := hT
            rcases n2 with n2 | ⟨_, _, n2⟩
            · exact absurd hj n2
            · exact absurd (a2.trans a1) n2
          · have hp : 0 ≤ x1.toInt ∧ x1.toInt < V.toInt := by
              have h := w1.1
              rw [z_Fv.of hV] at h
              exact h
            obtain ⟨hc, g36, g37, g38⟩ := z_wayof hAA.1.1 hW hRA.1 hV hp ow kw hD.2.2.2.2.2.2.2.2.1 hD.2.2.2.2.2.2.2.2.2
            rw [X1.2.a (hW.k (k := 36) (κ := z_ai 36 20 0 7) rfl (by decide)) (by decide)] at ek
            rw [X1.2.a (hW.k (k := 37) (κ := z_ai 37 20 0 9) rfl (by decide)) (by decide), ← g37] at es
            rw [X1.2.a (hW.k (k := 38) (κ := z_ai 38 20 0 8) rfl (by decide)) (by decide), ← g38] at ec
            have hq := hW.p3 kb
            have q1 : 1 ≤ q := by omega
            rw [show kd + 4 = c by omega, show sh2 = sh.toInt.toNat by omega, show ch2 = ch.toInt.toNat by omega] at hT2
            obtain ⟨_, y1, n1, mo, o1, b1⟩ := hT
            obtain ⟨_, y2, n2, mo2, o2, b2⟩ := hT2
            obtain ⟨ey, en⟩ := z_oJU o1 o2 q1
            rw [← ey, ← en] at b2
            have hS := hY.2.1.2.2.2.2.2.2
            obtain ⟨_, _, hm1, _, _, _, ⟨sa2, f52, _, hSS⟩, _⟩ := hD.2.2.2.1
            obtain rfl : sa = sa2 := z_rfe f5 f52
            have hm := hY.2.2.1.1
            refine Int32.toInt_inj.mp (z_bsU (z_lkJU q1) b1 (z_bsC b2 fun k hk => ?_))
            obtain ⟨s, s1, s2, s3⟩ := z_lc_ex (B := B) (2 ^ q) k (by omega)
            have e1 : (z_Ar M1 30 (1024 * x2.toNatClampNeg + z_lc B s)).toInt = (s : Int) := hS s s1 s2
            have e2 := hSS s s1 s2
            rw [s3] at e1 e2
            show (z_Ar M1 30 (1024 * x2.toNatClampNeg + k)).toInt.toNat = (z_Ar M sa k).toInt.toNat
            omega
        · obtain ⟨w1, w2, A1, w3, w4⟩ := htw
          obtain ⟨hAB, ej, J9, fj, cb, yb, jok, _⟩ := hTB
          have ob := hAB.1
          have hjJ : x3.toInt.toNat < J := by omega
          obtain ⟨c1, c2, c3⟩ := cb.2 x3.toInt.toNat hjJ
          obtain ⟨⟨A2, a1, a2, a3⟩, _⟩ := hT
          have e2 : z_Ar M1 (b + 2) = z_Ar M (b + 2) := by
            funext i
            by_cases c : i = x3.toNatClampNeg
            · rw [c]
              exact w2
            · exact (w1 i c).1
          have e3 : z_Ar M1 (b + 3) = z_Ar M (b + 3) := by
            funext i
            by_cases c : i = x3.toNatClampNeg
            · rw [c, w4]
              have hpo : z_po q = 2 ^ q := rfl
              rw [hpo] at w3
              have eA : A1 = A2 := Int32.toInt_inj.mp (w3.trans a1.symm)
              have c2' : z_Ar M (b + 2) x3.toNatClampNeg = yy x3.toInt.toNat := c2
              have c3' : z_Ar M (b + 3) x3.toNatClampNeg = nn x3.toInt.toNat := c3
              rw [c2', c3', eA]
              exact a3.symm
            · exact (w1 i c).2
          have e1 : z_Ar M1 (b + 1) = z_Ar M (b + 1) := X1.2.a (hbk.k1 hW kb) (by decide)
          have e4 : z_F M1 b 4 = z_F M b 4 := X1.2.1 b 3 q t m 9 4 kb (by decide)
          refine hR.2.2.one hW hAe (z_pc hp2) A8 ob kb X1.2 rfl rfl ho X1.1 X2.2 rfl rfl (fun a2 _ _ => ?_) ⟨J, ww, yy, nn, J9, ⟨by rw [e4]; exact cb.1, by rw [e1, e2, e3]; exact cb.2⟩, (yb.ke hW X1.2 rfl).ke hW X2.2 rfl, jok⟩
          have h32 : z_Ar M2 32 = z_Ar M1 32 := X2.2.a (hW.k (k := 32) (κ := z_af 32 72) rfl (by decide)) (by decide)
          have h33 : z_Ar M2 33 = z_Ar M1 33 := X2.2.a (hW.k (k := 33) (κ := z_af 33 72) rfl (by decide)) (by decide)
          have h34 : z_Ar M2 34 = z_Ar M1 34 := X2.2.a (hW.k (k := 34) (κ := z_af 34 72) rfl (by decide)) (by decide)
          have h35 : z_Ar M2 35 = z_Ar M1 35 := X2.2.a (hW.k (k := 35) (κ := z_ai 35 8 0 9) rfl (by decide)) (by decide)
          exact ⟨by rw [h35], fun j _ => ⟨by rw [h32], by rw [h33], by rw [h34]⟩⟩
  rw [zzm260]
  show z_ev 2046 260 0 [some (.ref 19), some (.int x1), some (.int x2), some (.int x3)] [] M1 _
  refine zUC260 (d := 2040) hB.1.1 hTB fun z M2 X2 h2 => ?_
  exact ⟨⟨z, rfl⟩, by rw [hcmp z h2], ⟨T, z_kee hB X2 (by decide), hR.two7 hW X1 X2 rfl rfl (key M2 X2), h91.go (hbk.ke X1.2 rfl) X1.1 X2 rfl⟩, X2.1.1.trans X1.1.1.symm, z_kep X2 (by decide)⟩
