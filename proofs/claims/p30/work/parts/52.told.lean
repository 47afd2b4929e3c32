/-! put, shift, keep, row, element: answers told -/
def zw179 : List Nat := []
def zw288 : List Nat := []
theorem zRB20 {T : List zK} {d : Nat} {K : Option Value → zH → Prop} {a0 : Nat} {rr : Nat} {len : Nat} {p1 : Int32} {p2 : Int32} {p3 : Int64} {M0 : zH} (r0 : rr ≠ 99 ∧ 4 ≤ a0) (k0 : T[a0]? = some (.inr (rr, 1, len, 0, 0))) (u1 : 0 ≤ p1.toInt ∧ p1.toInt ≤ 360) (u2 : 0 ≤ p2.toInt ∧ p2.toInt ≤ 360) (hl : len < 2147483648) (hb : p1.toInt ≤ p2.toInt ∧ p2.toInt ≤ (len : Int)) (kk : ∀ (M1 : zH), z_X T [rr] M0 M1 → z_Lg M1 a0 = z_fil (z_Lg M0 a0) p1.toInt.toNat p2.toInt.toNat p3 → K none M1) : ∀ n : Nat, (∀ (M : zH) (b5 : Int32), z_X T [rr] M0 M → 0 ≤ b5.toInt ∧ b5.toInt ≤ 360 → b5.toInt ≤ p2.toInt → p1.toInt ≤ b5.toInt → z_Lg M a0 = z_fil (z_Lg M0 a0) p1.toInt.toNat b5.toInt.toNat p3 → ((0) * 2 + 0) * 361 + (360 - b5.toInt) < (n : Int) → z_ev (d + 1) 20 10 [some (.ref a0), some (.int p1), some (.int p2), some (.long p3), none, some (.int b5)] [] M K) := by
  intro n
  induction n with
  | zero => exact by intros; exfalso; omega
  | succ n ih =>
    intro M b5 X hh0 hh1 hh2 hfl hE
    refine z_xP zt20 5 13 [some (.ref a0), some (.int p1), some (.int p2), some (.long p3), none, some (.int b5)] [.int p2, .int b5] rfl rfl ?_
    refine z_xJ zt20 6 rfl rfl (fun (h1 : p2.toInt ≤ b5.toInt) => ?_) (fun (h1 : b5.toInt < p2.toInt) => ?_)
    · skip
      exact z_xrv zt20 11 rfl zzr20 (kk M X (hfl.trans (z_filc rfl rfl (by omega))))
    refine z_xP zt20 7 20 [some (.ref a0), some (.int p1), some (.int p2), some (.long p3), none, some (.int b5)] [.long p3, .int b5, .ref a0] rfl rfl ?_
    refine z_xlsv zt20 8 rfl X k0 r0.1 r0.2 (by omega) (by omega) (List.mem_singleton.mpr rfl) (fun M2 X3 e4 h5 => ?_)
    refine z_xN zt20 9 rfl rfl (fun (x6 : Int32) (h7 : x6.toInt = b5.toInt + 1) => ?_) (z_pAdd rfl rfl (by omega) (by omega))
    show z_ev (d + 1) 20 24 [some (.ref a0), some (.int p1), some (.int p2), some (.long p3), none, some (.int x6)] [] M2 _
    refine z_xP zt20 10 10 [some (.ref a0), some (.int p1), some (.int p2), some (.long p3), none, some (.int x6)] [] rfl rfl ?_
    exact ih M2 x6 X3 ⟨by omega, by omega⟩ (by omega) (by omega) (z_fils hfl h5 (by unfold Int32.toNatClampNeg <;> omega) (by omega) (by omega)) (by omega)
theorem zRC20 {T : List zK} {d : Nat} {K : Option Value → zH → Prop} {a0 : Nat} {rr : Nat} {len : Nat} {p1 : Int32} {p2 : Int32} {p3 : Int64} {M0 : zH} (hW : z_W M0 T) (r0 : rr ≠ 99 ∧ 4 ≤ a0) (k0 : T[a0]? = some (.inr (rr, 1, len, 0, 0))) (u1 : 0 ≤ p1.toInt ∧ p1.toInt ≤ 360) (u2 : 0 ≤ p2.toInt ∧ p2.toInt ≤ 360) (hl : len < 2147483648) (hb : p1.toInt ≤ p2.toInt ∧ p2.toInt ≤ (len : Int)) (kk : ∀ (M1 : zH), z_X T [rr] M0 M1 → z_Lg M1 a0 = z_fil (z_Lg M0 a0) p1.toInt.toNat p2.toInt.toNat p3 → K none M1) : z_ev (d + 1) 20 0 [some (.ref a0), some (.int p1), some (.int p2), some (.long p3), none, none] [] M0 K := by
  have X : z_X T [rr] M0 M0 := .refl hW
  refine z_xP zt20 0 1 [some (.ref a0), some (.int p1), some (.int p2), some (.long p3), none, none] [.ref a0] rfl rfl ?_
  refine z_xln zt20 1 rfl X k0 r0.1 (by omega) (fun (x1 : Int32) (h2 : x1.toInt = ((len : Nat) : Int)) => ?_)
  refine z_xP zt20 2 4 [some (.ref a0), some (.int p1), some (.int p2), some (.long p3), none, none] [.int p2, .int p1, .int x1] rfl rfl ?_
  refine z_xcS (vs := [.int x1, .int p1, .int p2]) (r := []) (L2 := [some (.int x1), some (.int p1), some (.int p2)]) zt20 3 rfl zo20 zzcS14_13 (Or.inl rfl) (Nat.le_of_ble_eq_true rfl) rfl rfl (Nat.le_of_ble_eq_true rfl) zzm21 (Nat.le_of_ble_eq_true rfl) rfl ?_
  refine z_xP zt21 0 2 [some (.int x1), some (.int p1), some (.int p2)] [.int p2, .int p1] rfl rfl ?_
  refine z_xJ zt21 1 rfl rfl (fun (h3 : p1.toInt ≤ p2.toInt) => ?_) (fun (h3 : p2.toInt < p1.toInt) => ?_)
  · skip
    refine z_xP zt21 20 47 [some (.int x1), some (.int p1), some (.int p2)] [.int p1] rfl rfl ?_
    refine z_xZ zt21 21 rfl rfl (fun (h4 : 0 ≤ p1.toInt) => ?_) (fun (h4 : p1.toInt < 0) => absurd h4 (by omega))
    refine z_xP zt21 26 61 [some (.int x1), some (.int p1), some (.int p2)] [.int x1, .int p2] rfl rfl ?_
    have h5 := z_b32 x1
    refine z_xJ zt21 27 rfl rfl (fun (h6 : p2.toInt ≤ x1.toInt) => ?_) (fun (h6 : x1.toInt < p2.toInt) => ?_)
    · skip
      refine z_xrv zt21 32 rfl zzr21 ?_
      show z_ev (d + 1) 20 7 [some (.ref a0), some (.int p1), some (.int p2), some (.long p3), none, none] [] M0 _
      refine z_xP zt20 4 10 [some (.ref a0), some (.int p1), some (.int p2), some (.long p3), none, some (.int p1)] [] rfl rfl ?_
      exact (zRB20 r0 k0 u1 u2 hl hb kk 722) M0 p1 X ⟨by omega, by omega⟩ (by omega) (by omega) ((rfl).trans (z_fil0 (by omega))) (by omega)
    exfalso; omega
  exfalso; omega
theorem zRC179 {T : List zK} {d : Nat} {K : Option Value → zH → Prop} {p0 : Int32} {p1 : Int64} {M0 : zH} (hW : z_W M0 T)  (kk : ∀ (x : Int64) (M1 : zH), z_X T zw179 M0 M1 → z_lbP p0.toInt p1 x → K (some (.long x)) M1) : z_ev d 179 0 [some (.int p0), some (.long p1), none] [] M0 K := by
  have X : z_X T zw179 M0 M0 := .refl hW
  refine z_xP zt179 0 1 [some (.int p0), some (.long p1), none] [.int p0] rfl rfl ?_
  by_cases h1 : p0.toInt = 0
  · refine z_xSC zt179 1 (z_sub (k := 0) h1 rfl) 32 rfl rfl ?_
    refine z_xP zt179 2 33 [some (.int p0), some (.long p1), none] [.long p1] rfl rfl ?_
    refine z_xI zt179 3 rfl rfl (fun (x2 : Int32) (h3 : x2 = p1.toInt32) => ?_) (rfl)
    refine z_xI zt179 4 rfl rfl (fun (x4 : Int32) (h5 : x4 = x2.toInt8.toInt32) => ?_) (rfl)
    have h6 := z_b32 x4
    refine z_xL zt179 5 rfl rfl (fun (y7 : Int64) (h8 : y7 = x4.toInt64) => ?_) (rfl)
    have q0 : ((0 : Int64)).toInt = 0 := rfl
    exact z_xrl zt179 6 rfl zzr179 (kk y7 M0 X (z_lbP0 (by omega) (by rw [h8, h5, h3])))
  by_cases h9 : p0.toInt = 1
  · refine z_xSC zt179 1 (z_sub (k := 1) h9 rfl) 37 rfl rfl ?_
    refine z_xP zt179 7 38 [some (.int p0), some (.long p1), none] [.long p1] rfl rfl ?_
    refine z_xI zt179 8 rfl rfl (fun (x10 : Int32) (h11 : x10 = p1.toInt32) => ?_) (rfl)
    refine z_xI zt179 9 rfl rfl (fun (x12 : Int32) (h13 : x12 = x10.toInt16.toInt32) => ?_) (rfl)
    have h14 := z_b32 x12
    refine z_xL zt179 10 rfl rfl (fun (y15 : Int64) (h16 : y15 = x12.toInt64) => ?_) (rfl)
    have q0 : ((0 : Int64)).toInt = 0 := rfl
    exact z_xrl zt179 11 rfl zzr179 (kk y15 M0 X (z_lbP1 (by omega) (by rw [h16, h13, h11])))
  by_cases h17 : p0.toInt = 2
  · refine z_xSC zt179 1 (z_sub (k := 2) h17 rfl) 42 rfl rfl ?_
    refine z_xP zt179 12 43 [some (.int p0), some (.long p1), none] [.long p1] rfl rfl ?_
    refine z_xI zt179 13 rfl rfl (fun (x18 : Int32) (h19 : x18 = p1.toInt32) => ?_) (rfl)
    have h20 := z_b32 x18
    refine z_xL zt179 14 rfl rfl (fun (y21 : Int64) (h22 : y21 = x18.toInt64) => ?_) (rfl)
    have q0 : ((0 : Int64)).toInt = 0 := rfl
    exact z_xrl zt179 15 rfl zzr179 (kk y21 M0 X (z_lbP2 (by omega) (by rw [h22, h19])))
  by_cases h23 : p0.toInt = 3
  · refine z_xSC zt179 1 (z_sub (k := 3) h23 rfl) 46 rfl rfl ?_
    refine z_xP zt179 16 47 [some (.int p0), some (.long p1), none] [.long p1] rfl rfl ?_
    have q0 : ((0 : Int64)).toInt = 0 := rfl
    exact z_xrl zt179 17 rfl zzr179 (kk p1 M0 X (z_lbP3 (by omega)))
  refine z_xSD zt179 1 rfl rfl (by omega) ?_
  refine z_xP zt179 18 50 [some (.int p0), some (.long p1), none] [.long 0, .long p1] rfl rfl ?_
  refine z_xI zt179 19 rfl rfl (fun (x24 : Int32) (h25 : (x24.toInt < 0 ∧ p1.toInt < 0) ∨ (x24.toInt = 0 ∧ p1.toInt = 0) ∨ (0 < x24.toInt ∧ 0 < p1.toInt)) => ?_) (z_qCmp rfl rfl)
  refine z_xZ zt179 20 rfl rfl (fun (h26 : x24.toInt = 0) => ?_) (fun (h26 : x24.toInt ≠ 0) => ?_)
  · skip
    refine z_xP zt179 22 59 [some (.int p0), some (.long p1), none] [.long 0] rfl rfl ?_
    have q0 : ((0 : Int64)).toInt = 0 := rfl
    have q0 : ((0 : Int64)).toInt = 0 := rfl
    exact z_xrl zt179 23 rfl zzr179 (kk 0 M0 X (z_lbP4z ⟨by omega, by omega, by omega, by omega⟩ (by omega)))
  refine z_xP zt179 21 59 [some (.int p0), some (.long p1), none] [.long 1] rfl rfl ?_
  have q0 : ((0 : Int64)).toInt = 0 := rfl
  have q1 : ((1 : Int64)).toInt = 1 := rfl
  have q1 : ((1 : Int64)).toInt = 1 := rfl
  exact z_xrl zt179 23 rfl zzr179 (kk 1 M0 X (z_lbP4n ⟨by omega, by omega, by omega, by omega⟩ (by omega)))
theorem zRC288 {T : List zK} {d : Nat} {K : Option Value → zH → Prop} {p0 : Int32} {p1 : Int64} {M0 : zH} (hW : z_W M0 T) (u0 : 0 ≤ p0.toInt ∧ p0.toInt ≤ 4) (kk : ∀ (x : Int64) (M1 : zH), z_X T zw288 M0 M1 → z_lbP p0.toInt p1 x → K (some (.long x)) M1) : z_ev d 288 0 [some (.int p0), some (.long p1), none] [] M0 K := by
  have X : z_X T zw288 M0 M0 := .refl hW
  refine z_xP zt288 0 1 [some (.int p0), some (.long p1), none] [.int p0] rfl rfl ?_
  refine z_xZ zt288 1 rfl rfl (fun (h1 : p0.toInt ≠ 0) => ?_) (fun (h1 : p0.toInt = 0) => ?_)
  · skip
    refine z_xP zt288 7 13 [some (.int p0), some (.long p1), none] [.int 1, .int p0] rfl rfl ?_
    refine z_xJ zt288 8 rfl rfl (fun (h2 : p0.toInt ≠ 1) => ?_) (fun (h2 : p0.toInt = 1) => ?_)
    · skip
      refine z_xP zt288 14 25 [some (.int p0), some (.long p1), none] [.int 2, .int p0] rfl rfl ?_
      refine z_xJ zt288 15 rfl rfl (fun (h3 : p0.toInt ≠ 2) => ?_) (fun (h3 : p0.toInt = 2) => ?_)
      · skip
        refine z_xP zt288 20 36 [some (.int p0), some (.long p1), none] [.int 4, .int p0] rfl rfl ?_
        refine z_xJ zt288 21 rfl rfl (fun (h4 : p0.toInt ≠ 4) => ?_) (fun (h4 : p0.toInt = 4) => ?_)
        · skip
          refine z_xP zt288 27 54 [some (.int p0), some (.long p1), none] [.long p1] rfl rfl ?_
          have q0 : ((0 : Int64)).toInt = 0 := rfl
          exact z_xrl zt288 28 rfl zzr288 (kk p1 M0 X (z_lbP3 (by omega)))
        refine z_xP zt288 22 41 [some (.int p0), some (.long p1), none] [.long 0, .long p1] rfl rfl ?_
        refine z_xI zt288 23 rfl rfl (fun (x5 : Int32) (h6 : (x5.toInt < 0 ∧ p1.toInt < 0) ∨ (x5.toInt = 0 ∧ p1.toInt = 0) ∨ (0 < x5.toInt ∧ 0 < p1.toInt)) => ?_) (z_qCmp rfl rfl)
        refine z_xZ zt288 24 rfl rfl (fun (h7 : x5.toInt = 0) => ?_) (fun (h7 : x5.toInt ≠ 0) => ?_)
        · skip
          refine z_xP zt288 26 54 [some (.int p0), some (.long p1), none] [.long 0] rfl rfl ?_
          have q0 : ((0 : Int64)).toInt = 0 := rfl
          have q0 : ((0 : Int64)).toInt = 0 := rfl
          exact z_xrl zt288 28 rfl zzr288 (kk 0 M0 X (z_lbP4z ⟨by omega, by omega, by omega, by omega⟩ (by omega)))
        refine z_xP zt288 25 54 [some (.int p0), some (.long p1), none] [.long 1] rfl rfl ?_
        have q0 : ((0 : Int64)).toInt = 0 := rfl
        have q1 : ((1 : Int64)).toInt = 1 := rfl
        have q1 : ((1 : Int64)).toInt = 1 := rfl
        exact z_xrl zt288 28 rfl zzr288 (kk 1 M0 X (z_lbP4n ⟨by omega, by omega, by omega, by omega⟩ (by omega)))
      refine z_xP zt288 16 29 [some (.int p0), some (.long p1), none] [.long p1] rfl rfl ?_
      refine z_xI zt288 17 rfl rfl (fun (x8 : Int32) (h9 : x8 = p1.toInt32) => ?_) (rfl)
      have h10 := z_b32 x8
      refine z_xL zt288 18 rfl rfl (fun (y11 : Int64) (h12 : y11 = x8.toInt64) => ?_) (rfl)
      refine z_xP zt288 19 54 [some (.int p0), some (.long p1), none] [.long y11] rfl rfl ?_
      have q0 : ((0 : Int64)).toInt = 0 := rfl
      exact z_xrl zt288 28 rfl zzr288 (kk y11 M0 X (z_lbP2 (by omega) (by rw [h12, h9])))
    refine z_xP zt288 9 17 [some (.int p0), some (.long p1), none] [.long p1] rfl rfl ?_
    refine z_xI zt288 10 rfl rfl (fun (x13 : Int32) (h14 : x13 = p1.toInt32) => ?_) (rfl)
    refine z_xI zt288 11 rfl rfl (fun (x15 : Int32) (h16 : x15 = x13.toInt16.toInt32) => ?_) (rfl)
    have h17 := z_b32 x15
    refine z_xL zt288 12 rfl rfl (fun (y18 : Int64) (h19 : y18 = x15.toInt64) => ?_) (rfl)
    refine z_xP zt288 13 54 [some (.int p0), some (.long p1), none] [.long y18] rfl rfl ?_
    have q0 : ((0 : Int64)).toInt = 0 := rfl
    exact z_xrl zt288 28 rfl zzr288 (kk y18 M0 X (z_lbP1 (by omega) (by rw [h19, h16, h14])))
  refine z_xP zt288 2 5 [some (.int p0), some (.long p1), none] [.long p1] rfl rfl ?_
  refine z_xI zt288 3 rfl rfl (fun (x20 : Int32) (h21 : x20 = p1.toInt32) => ?_) (rfl)
  refine z_xI zt288 4 rfl rfl (fun (x22 : Int32) (h23 : x22 = x20.toInt8.toInt32) => ?_) (rfl)
  have h24 := z_b32 x22
  refine z_xL zt288 5 rfl rfl (fun (y25 : Int64) (h26 : y25 = x22.toInt64) => ?_) (rfl)
  refine z_xP zt288 6 54 [some (.int p0), some (.long p1), none] [.long y25] rfl rfl ?_
  have q0 : ((0 : Int64)).toInt = 0 := rfl
  exact z_xrl zt288 28 rfl zzr288 (kk y25 M0 X (z_lbP0 (by omega) (by rw [h26, h23, h21])))
theorem zRC177 {T : List zK} {d : Nat} {K : Option Value → zH → Prop} {p1 : Int32} {p2 : Int32} {p3 : Int64} {M0 : zH} (hW : z_W M0 T)  (kk : ∀ (x : Int32) (M1 : zH), z_X T zw177 M0 M1 → (-13) ≤ x.toInt → x.toInt ≤ 1 → ((x.toInt = -1 ∧ (p1.toInt < 0 ∨ 5 < p1.toInt)) ∨ (0 ≤ p1.toInt ∧ p1.toInt ≤ 5 ∧ ((x.toInt = -11 ∧ (z_Ar M0 14 p1.toNatClampNeg).toInt = -1) ∨ (x.toInt = -12 ∧ (z_Ar M0 14 p1.toNatClampNeg).toInt = 5) ∨ (x.toInt = -13 ∧ 0 ≤ (z_Ar M0 14 p1.toNatClampNeg).toInt ∧ (z_Ar M0 14 p1.toNatClampNeg).toInt ≤ 4 ∧ (p2.toInt < 0 ∨ (z_Ar M0 15 p1.toNatClampNeg).toInt ≤ p2.toInt)) ∨ (x.toInt = 1 ∧ 0 ≤ (z_Ar M0 14 p1.toNatClampNeg).toInt ∧ (z_Ar M0 14 p1.toNatClampNeg).toInt ≤ 4 ∧ 0 ≤ p2.toInt ∧ p2.toInt < (z_Ar M0 15 p1.toNatClampNeg).toInt)))) → (x.toInt = 1 → ∃ w : Int64, z_lbP (z_Ar M0 14 p1.toNatClampNeg).toInt p3 w ∧ z_Lg M1 16 = z_updL (z_Lg M0 16) (60 * p1.toInt.toNat + p2.toInt.toNat) w) → (x.toInt ≠ 1 → z_Lg M1 16 = z_Lg M0 16) → K (some (.int x)) M1) : z_ev (d + 2) 177 0 [some (.ref 4), some (.int p1), some (.int p2), some (.long p3), none, none] [] M0 K := by
  have X : z_X T zw177 M0 M0 := .refl hW
  refine z_xP zt177 0 3 [some (.ref 4), some (.int p1), some (.int p2), some (.long p3), none, none] [.int p2, .int p1, .ref 4] rfl rfl ?_
  have f4 : T[4]? = some (.inl (0, 0, 0, 0, 0)) := X.1.k rfl (by decide)
  refine z_xcV (vs := [.ref 4, .int p1, .int p2]) (r := []) (L2 := [some (.ref 4), some (.int p1), some (.int p2)]) zt177 1 rfl zo177 zzcV0_313 (Or.inl rfl) rfl X f4 rfl rfl rfl (Nat.le_of_ble_eq_true rfl) zzm178 (Nat.le_of_ble_eq_true rfl) rfl ?_
  refine z_xP zt178 0 1 [some (.ref 4), some (.int p1), some (.int p2)] [.int p1] rfl rfl ?_
  refine z_xcS (vs := [.int p1]) (r := []) (L2 := [some (.int p1)]) zt178 1 rfl zo178 zzcS0_148 (Or.inl rfl) (Nat.le_of_ble_eq_true rfl) rfl rfl (Nat.le_of_ble_eq_true rfl) zzm58 (Nat.le_of_ble_eq_true rfl) rfl ?_
  refine z_xP zt58 0 1 [some (.int p1)] [.int p1] rfl rfl ?_
  refine z_xZ zt58 1 rfl rfl (fun (h1 : p1.toInt < 0) => ?_) (fun (h1 : 0 ≤ p1.toInt) => ?_)
  · skip
    refine z_xP zt58 5 15 [some (.int p1)] [.int 0] rfl rfl ?_
    refine z_xrz zt58 6 rfl zzr58 (by decide) (by decide) ?_
    show z_ev (d + 1) 178 4 [some (.ref 4), some (.int p1), some (.int p2)] [.int 0] M0 _
    refine z_xZ zt178 2 rfl rfl (fun (h2 : (0 : Int) ≠ 0) => absurd h2 (by omega)) (fun (h2 : (0 : Int) = 0) => ?_)
    refine z_xP zt178 3 8 [some (.ref 4), some (.int p1), some (.int p2)] [.int (-1)] rfl rfl ?_
    refine z_xri zt178 4 rfl zzr178 ?_
    show z_ev (d + 2) 177 6 [some (.ref 4), some (.int p1), some (.int p2), some (.long p3), none, none] [.int (-1)] M0 _
    refine z_xP zt177 2 10 [some (.ref 4), some (.int p1), some (.int p2), some (.long p3), none, some (.int (-1))] [.int (-1)] rfl rfl ?_
    refine z_xZ zt177 3 rfl rfl (fun (h3 : ((-1) : Int) = 0) => absurd h3 (by omega)) (fun (h3 : ((-1) : Int) ≠ 0) => ?_)
    refine z_xP zt177 4 15 [some (.ref 4), some (.int p1), some (.int p2), some (.long p3), none, some (.int (-1))] [.int (-1)] rfl rfl ?_
    have qm1 : (((-1) : Int32)).toInt = (-1) := rfl
    have qm1 : (((-1) : Int32)).toInt = (-1) := rfl
    have qm1 : (((-1) : Int32)).toInt = (-1) := rfl
    have qm1 : (((-1) : Int32)).toInt = (-1) := rfl
    exact z_xri zt177 5 rfl zzr177 (kk (-1) M0 X (by omega) (by omega) (by omega) (fun hx => absurd hx (by omega)) (fun _ => rfl))
  refine z_xP zt58 2 7 [some (.int p1)] [.int 6, .int p1] rfl rfl ?_
  refine z_xJ zt58 3 rfl rfl (fun (h4 : 6 ≤ p1.toInt) => ?_) (fun (h4 : p1.toInt < 6) => ?_)
  · skip
    refine z_xP zt58 5 15 [some (.int p1)] [.int 0] rfl rfl ?_
    refine z_xrz zt58 6 rfl zzr58 (by decide) (by decide) ?_
    show z_ev (d + 1) 178 4 [some (.ref 4), some (.int p1), some (.int p2)] [.int 0] M0 _
    refine z_xZ zt178 2 rfl rfl (fun (h5 : (0 : Int) ≠ 0) => absurd h5 (by omega)) (fun (h5 : (0 : Int) = 0) => ?_)
    refine z_xP zt178 3 8 [some (.ref 4), some (.int p1), some (.int p2)] [.int (-1)] rfl rfl ?_
    refine z_xri zt178 4 rfl zzr178 ?_
    show z_ev (d + 2) 177 6 [some (.ref 4), some (.int p1), some (.int p2), some (.long p3), none, none] [.int (-1)] M0 _
    refine z_xP zt177 2 10 [some (.ref 4), some (.int p1), some (.int p2), some (.long p3), none, some (.int (-1))] [.int (-1)] rfl rfl ?_
    refine z_xZ zt177 3 rfl rfl (fun (h6 : ((-1) : Int) = 0) => absurd h6 (by omega)) (fun (h6 : ((-1) : Int) ≠ 0) => ?_)
    refine z_xP zt177 4 15 [some (.ref 4), some (.int p1), some (.int p2), some (.long p3), none, some (.int (-1))] [.int (-1)] rfl rfl ?_
    have qm1 : (((-1) : Int32)).toInt = (-1) := rfl
    have qm1 : (((-1) : Int32)).toInt = (-1) := rfl
    have qm1 : (((-1) : Int32)).toInt = (-1) := rfl
    have qm1 : (((-1) : Int32)).toInt = (-1) := rfl
    exact z_xri zt177 5 rfl zzr177 (kk (-1) M0 X (by omega) (by omega) (by omega) (fun hx => absurd hx (by omega)) (fun _ => rfl))
  refine z_xP zt58 4 15 [some (.int p1)] [.int 1] rfl rfl ?_
  refine z_xrz zt58 6 rfl zzr58 (by decide) (by decide) ?_
  show z_ev (d + 1) 178 4 [some (.ref 4), some (.int p1), some (.int p2)] [.int 1] M0 _
  refine z_xZ zt178 2 rfl rfl (fun (h7 : (1 : Int) ≠ 0) => ?_) (fun (h7 : (1 : Int) = 0) => absurd h7 (by omega))
  refine z_xP zt178 5 10 [some (.ref 4), some (.int p1), some (.int p2)] [.ref 4] rfl rfl ?_
  refine z_xgX (b := 14) zt178 6 rfl zo178 zzf0_35 X f4 (by decide) (by decide) rfl ?_
  refine z_xP zt178 7 14 [some (.ref 4), some (.int p1), some (.int p2)] [.int p1, .ref 14] rfl rfl ?_
  have f14 : T[14]? = some (.inr (14, 0, 6, (-1), 5)) := X.1.k rfl (by decide)
  refine z_xil zt178 8 rfl X f14 (by decide) (by omega) (by omega) (fun (x8 : Int32) h9 (h10 : (-1) ≤ x8.toInt) (h11 : x8.toInt ≤ 5) => ?_)
  have h12 : (z_Ar M0 14 (p1).toNatClampNeg).toInt = x8.toInt := congrArg Int32.toInt (h9)
  refine z_xP zt178 9 16 [some (.ref 4), some (.int p1), some (.int p2)] [.int (-1), .int x8] rfl rfl ?_
  refine z_xJ zt178 10 rfl rfl (fun (h13 : x8.toInt ≠ (-1)) => ?_) (fun (h13 : x8.toInt = (-1)) => ?_)
  · skip
    refine z_xP zt178 13 23 [some (.ref 4), some (.int p1), some (.int p2)] [.ref 4] rfl rfl ?_
    refine z_xgX (b := 14) zt178 14 rfl zo178 zzf0_35 X f4 (by decide) (by decide) rfl ?_
    refine z_xP zt178 15 27 [some (.ref 4), some (.int p1), some (.int p2)] [.int p1, .ref 14] rfl rfl ?_
    refine z_xil zt178 16 rfl X f14 (by decide) (by omega) (by omega) (fun (x14 : Int32) h15 (h16 : (-1) ≤ x14.toInt) (h17 : x14.toInt ≤ 5) => ?_)
    have h18 := congrArg Int32.toInt (h15.symm.trans h9)
    have h19 : (z_Ar M0 14 (p1).toNatClampNeg).toInt = x14.toInt := congrArg Int32.toInt (h15)
    refine z_xP zt178 17 29 [some (.ref 4), some (.int p1), some (.int p2)] [.int 5, .int x14] rfl rfl ?_
    refine z_xJ zt178 18 rfl rfl (fun (h20 : x14.toInt ≠ 5) => ?_) (fun (h20 : x14.toInt = 5) => ?_)
    · skip
      refine z_xP zt178 21 36 [some (.ref 4), some (.int p1), some (.int p2)] [.int p2] rfl rfl ?_
      refine z_xZ zt178 22 rfl rfl (fun (h21 : p2.toInt < 0) => ?_) (fun (h21 : 0 ≤ p2.toInt) => ?_)
      · skip
        refine z_xP zt178 28 55 [some (.ref 4), some (.int p1), some (.int p2)] [.int (-13)] rfl rfl ?_
        refine z_xri zt178 30 rfl zzr178 ?_
        show z_ev (d + 2) 177 6 [some (.ref 4), some (.int p1), some (.int p2), some (.long p3), none, none] [.int (-13)] M0 _
        refine z_xP zt177 2 10 [some (.ref 4), some (.int p1), some (.int p2), some (.long p3), none, some (.int (-13))] [.int (-13)] rfl rfl ?_
        refine z_xZ zt177 3 rfl rfl (fun (h22 : ((-13) : Int) = 0) => absurd h22 (by omega)) (fun (h22 : ((-13) : Int) ≠ 0) => ?_)
        refine z_xP zt177 4 15 [some (.ref 4), some (.int p1), some (.int p2), some (.long p3), none, some (.int (-13))] [.int (-13)] rfl rfl ?_
        have qm13 : (((-13) : Int32)).toInt = (-13) := rfl
        have qm13 : (((-13) : Int32)).toInt = (-13) := rfl
        have qm13 : (((-13) : Int32)).toInt = (-13) := rfl
        have qm13 : (((-13) : Int32)).toInt = (-13) := rfl
        exact z_xri zt177 5 rfl zzr177 (kk (-13) M0 X (by omega) (by omega) (by omega) (fun hx => absurd hx (by omega)) (fun _ => rfl))
      refine z_xP zt178 23 41 [some (.ref 4), some (.int p1), some (.int p2)] [.ref 4, .int p2] rfl rfl ?_
      refine z_xgX (b := 15) zt178 24 rfl zo178 zzf0_38 X f4 (by decide) (by decide) rfl ?_
      refine z_xP zt178 25 45 [some (.ref 4), some (.int p1), some (.int p2)] [.int p1, .ref 15, .int p2] rfl rfl ?_
      have f15 : T[15]? = some (.inr (15, 0, 6, 0, 60)) := X.1.k rfl (by decide)
      refine z_xil zt178 26 rfl X f15 (by decide) (by omega) (by omega) (fun (x23 : Int32) h24 (h25 : 0 ≤ x23.toInt) (h26 : x23.toInt ≤ 60) => ?_)
      have h27 : (z_Ar M0 15 (p1).toNatClampNeg).toInt = x23.toInt := congrArg Int32.toInt (h24)
      have h28 := z_b32 p2
      refine z_xJ zt178 27 rfl rfl (fun (h29 : p2.toInt < x23.toInt) => ?_) (fun (h29 : x23.toInt ≤ p2.toInt) => ?_)
      · skip
        refine z_xP zt178 29 55 [some (.ref 4), some (.int p1), some (.int p2)] [.int 0] rfl rfl ?_
        refine z_xri zt178 30 rfl zzr178 ?_
        show z_ev (d + 2) 177 6 [some (.ref 4), some (.int p1), some (.int p2), some (.long p3), none, none] [.int 0] M0 _
        refine z_xP zt177 2 10 [some (.ref 4), some (.int p1), some (.int p2), some (.long p3), none, some (.int 0)] [.int 0] rfl rfl ?_
        refine z_xZ zt177 3 rfl rfl (fun (h30 : (0 : Int) = 0) => ?_) (fun (h30 : (0 : Int) ≠ 0) => absurd h30 (by omega))
        refine z_xP zt177 6 17 [some (.ref 4), some (.int p1), some (.int p2), some (.long p3), none, some (.int 0)] [.ref 4] rfl rfl ?_
        refine z_xgX (b := 16) zt177 7 rfl zo177 zzf0_41 X f4 (by decide) (by decide) rfl ?_
        refine z_xP zt177 8 23 [some (.ref 4), some (.int p1), some (.int p2), some (.long p3), none, some (.int 0)] [.int 60, .int p1, .ref 16] rfl rfl ?_
        refine z_xI zt177 9 rfl rfl (fun (x31 : Int32) (h32 : x31.toInt = p1.toInt * 60) => ?_) (z_pMul rfl rfl (by omega) (by omega))
        refine z_xP zt177 10 25 [some (.ref 4), some (.int p1), some (.int p2), some (.long p3), none, some (.int 0)] [.int p2, .int x31, .ref 16] rfl rfl ?_
        refine z_xI zt177 11 rfl rfl (fun (x33 : Int32) (h34 : x33.toInt = x31.toInt + p2.toInt) => ?_) (z_pAdd rfl rfl (by omega) (by omega))
        refine z_xP zt177 12 27 [some (.ref 4), some (.int p1), some (.int p2), some (.long p3), none, some (.int 0)] [.ref 4, .int x33, .ref 16] rfl rfl ?_
        refine z_xgX (b := 14) zt177 13 rfl zo177 zzf0_35 X f4 (by decide) (by decide) rfl ?_
        refine z_xP zt177 14 31 [some (.ref 4), some (.int p1), some (.int p2), some (.long p3), none, some (.int 0)] [.int p1, .ref 14, .int x33, .ref 16] rfl rfl ?_
        refine z_xil zt177 15 rfl X f14 (by decide) (by omega) (by omega) (fun (x35 : Int32) h36 (h37 : (-1) ≤ x35.toInt) (h38 : x35.toInt ≤ 5) => ?_)
        have h39 := congrArg Int32.toInt (h36.symm.trans h9)
        have h40 : (z_Ar M0 14 (p1).toNatClampNeg).toInt = x35.toInt := congrArg Int32.toInt (h36)
        refine z_xP zt177 16 33 [some (.ref 4), some (.int p1), some (.int p2), some (.long p3), none, some (.int 0)] [.long p3, .int x35, .int x33, .ref 16] rfl rfl ?_
        refine z_xcS (vs := [.int x35, .long p3]) (r := [.int x33, .ref 16]) (L2 := [some (.int x35), some (.long p3), none]) zt177 17 rfl zo177 zzcS0_316 (Or.inl rfl) (Nat.le_of_ble_eq_true rfl) rfl rfl (Nat.le_of_ble_eq_true rfl) zzm179 (Nat.le_of_ble_eq_true rfl) rfl ?_
        refine zRC179 X.1 (fun y44 M41 X42 h43 => ?_)
        have X45 := X.go X42 (z_sb (by decide))
        show z_ev (d + 2) 177 36 [some (.ref 4), some (.int p1), some (.int p2), some (.long p3), none, some (.int 0)] [.long y44, .int x33, .ref 16] M41 _
        have f16 : T[16]? = some (.inr (16, 1, 360, 0, 0)) := X45.1.k rfl (by decide)
        refine z_xlsv zt177 18 rfl X45 f16 (by decide) (by decide) (by omega) (by omega) (by decide) (fun M47 X48 e49 h50 => ?_)
        refine z_xP zt177 19 38 [some (.ref 4), some (.int p1), some (.int p2), some (.long p3), none, some (.int 0)] [.int 1] rfl rfl ?_
        have q1 : ((1 : Int32)).toInt = 1 := rfl
        have q1 : ((1 : Int32)).toInt = 1 := rfl
        have q1 : ((1 : Int32)).toInt = 1 := rfl
        have q1 : ((1 : Int32)).toInt = 1 := rfl
        exact z_xri zt177 20 rfl zzr177 (kk 1 M47 X48 (by omega) (by omega) (by omega) (fun _ => ⟨y44, z_lbPc (by omega) h43, h50.trans (z_updLc (X42.2.lg f16 (by decide)) (by unfold Int32.toNatClampNeg <;> omega))⟩) (fun hx => absurd (by omega) hx))
      refine z_xP zt178 28 55 [some (.ref 4), some (.int p1), some (.int p2)] [.int (-13)] rfl rfl ?_
      refine z_xri zt178 30 rfl zzr178 ?_
      show z_ev (d + 2) 177 6 [some (.ref 4), some (.int p1), some (.int p2), some (.long p3), none, none] [.int (-13)] M0 _
      refine z_xP zt177 2 10 [some (.ref 4), some (.int p1), some (.int p2), some (.long p3), none, some (.int (-13))] [.int (-13)] rfl rfl ?_
      refine z_xZ zt177 3 rfl rfl (fun (h51 : ((-13) : Int) = 0) => absurd h51 (by omega)) (fun (h51 : ((-13) : Int) ≠ 0) => ?_)
      refine z_xP zt177 4 15 [some (.ref 4), some (.int p1), some (.int p2), some (.long p3), none, some (.int (-13))] [.int (-13)] rfl rfl ?_
      have qm13 : (((-13) : Int32)).toInt = (-13) := rfl
      have qm13 : (((-13) : Int32)).toInt = (-13) := rfl
      have qm13 : (((-13) : Int32)).toInt = (-13) := rfl
      have qm13 : (((-13) : Int32)).toInt = (-13) := rfl
      exact z_xri zt177 5 rfl zzr177 (kk (-13) M0 X (by omega) (by omega) (by omega) (fun hx => absurd hx (by omega)) (fun _ => rfl))
    refine z_xP zt178 19 34 [some (.ref 4), some (.int p1), some (.int p2)] [.int (-12)] rfl rfl ?_
    refine z_xri zt178 20 rfl zzr178 ?_
    show z_ev (d + 2) 177 6 [some (.ref 4), some (.int p1), some (.int p2), some (.long p3), none, none] [.int (-12)] M0 _
    refine z_xP zt177 2 10 [some (.ref 4), some (.int p1), some (.int p2), some (.long p3), none, some (.int (-12))] [.int (-12)] rfl rfl ?_
    refine z_xZ zt177 3 rfl rfl (fun (h52 : ((-12) : Int) = 0) => absurd h52 (by omega)) (fun (h52 : ((-12) : Int) ≠ 0) => ?_)
    refine z_xP zt177 4 15 [some (.ref 4), some (.int p1), some (.int p2), some (.long p3), none, some (.int (-12))] [.int (-12)] rfl rfl ?_
    have qm12 : (((-12) : Int32)).toInt = (-12) := rfl
    have qm12 : (((-12) : Int32)).toInt = (-12) := rfl
    have qm12 : (((-12) : Int32)).toInt = (-12) := rfl
    have qm12 : (((-12) : Int32)).toInt = (-12) := rfl
    exact z_xri zt177 5 rfl zzr177 (kk (-12) M0 X (by omega) (by omega) (by omega) (fun hx => absurd hx (by omega)) (fun _ => rfl))
  refine z_xP zt178 11 21 [some (.ref 4), some (.int p1), some (.int p2)] [.int (-11)] rfl rfl ?_
  refine z_xri zt178 12 rfl zzr178 ?_
  show z_ev (d + 2) 177 6 [some (.ref 4), some (.int p1), some (.int p2), some (.long p3), none, none] [.int (-11)] M0 _
  refine z_xP zt177 2 10 [some (.ref 4), some (.int p1), some (.int p2), some (.long p3), none, some (.int (-11))] [.int (-11)] rfl rfl ?_
  refine z_xZ zt177 3 rfl rfl (fun (h53 : ((-11) : Int) = 0) => absurd h53 (by omega)) (fun (h53 : ((-11) : Int) ≠ 0) => ?_)
  refine z_xP zt177 4 15 [some (.ref 4), some (.int p1), some (.int p2), some (.long p3), none, some (.int (-11))] [.int (-11)] rfl rfl ?_
  have qm11 : (((-11) : Int32)).toInt = (-11) := rfl
  have qm11 : (((-11) : Int32)).toInt = (-11) := rfl
  have qm11 : (((-11) : Int32)).toInt = (-11) := rfl
  have qm11 : (((-11) : Int32)).toInt = (-11) := rfl
  exact z_xri zt177 5 rfl zzr177 (kk (-11) M0 X (by omega) (by omega) (by omega) (fun hx => absurd hx (by omega)) (fun _ => rfl))
theorem zRC286 {T : List zK} {d : Nat} {K : Option Value → zH → Prop} {p1 : Int32} {p2 : Int32} {p3 : Int64} {M0 : zH} (hW : z_W M0 T)  (kk : ∀ (x : Int32) (M1 : zH), z_X T zw286 M0 M1 → (-13) ≤ x.toInt → x.toInt ≤ 1 → ((x.toInt = -1 ∧ (p1.toInt < 0 ∨ 5 < p1.toInt)) ∨ (0 ≤ p1.toInt ∧ p1.toInt ≤ 5 ∧ ((x.toInt = -11 ∧ (z_Ar M0 49 p1.toNatClampNeg).toInt < 0) ∨ (x.toInt = -12 ∧ 0 ≤ (z_Ar M0 49 p1.toNatClampNeg).toInt ∧ (z_Ar M0 49 p1.toNatClampNeg).toInt < 20) ∨ (x.toInt = -13 ∧ 20 ≤ (z_Ar M0 49 p1.toNatClampNeg).toInt ∧ (p2.toInt < 0 ∨ (z_Ar M0 50 p1.toNatClampNeg).toInt ≤ p2.toInt)) ∨ (x.toInt = 1 ∧ 20 ≤ (z_Ar M0 49 p1.toNatClampNeg).toInt ∧ 0 ≤ p2.toInt ∧ p2.toInt < (z_Ar M0 50 p1.toNatClampNeg).toInt)))) → (x.toInt = 1 → ∃ w : Int64, z_lbP ((z_Ar M0 49 p1.toNatClampNeg).toInt - 20) p3 w ∧ z_Lg M1 51 = z_updL (z_Lg M0 51) (60 * p1.toInt.toNat + p2.toInt.toNat) w) → (x.toInt ≠ 1 → z_Lg M1 51 = z_Lg M0 51) → K (some (.int x)) M1) : z_ev (d + 3) 286 0 [some (.ref 19), some (.int p1), some (.int p2), some (.long p3), none, none] [] M0 K := by
  have X : z_X T zw286 M0 M0 := .refl hW
  refine z_xP zt286 0 3 [some (.ref 19), some (.int p1), some (.int p2), some (.long p3), none, none] [.int p2, .int p1, .ref 19] rfl rfl ?_
  have f19 : T[19]? = some (.inl (12, 0, 0, 0, 0)) := X.1.k rfl (by decide)
  refine z_xcV (vs := [.ref 19, .int p1, .int p2]) (r := []) (L2 := [some (.ref 19), some (.int p1), some (.int p2)]) zt286 1 rfl zo286 zzcV12_405 (Or.inl rfl) rfl X f19 rfl rfl rfl (Nat.le_of_ble_eq_true rfl) zzm287 (Nat.le_of_ble_eq_true rfl) rfl ?_
  refine z_xP zt287 0 1 [some (.ref 19), some (.int p1), some (.int p2)] [.int p1] rfl rfl ?_
  refine z_xcS (vs := [.int p1]) (r := []) (L2 := [some (.int p1)]) zt287 1 rfl zo287 zzcS12_237 (Or.inl rfl) (Nat.le_of_ble_eq_true rfl) rfl rfl (Nat.le_of_ble_eq_true rfl) zzm225 (Nat.le_of_ble_eq_true rfl) rfl ?_
  refine z_xP zt225 0 1 [some (.int p1)] [.int p1] rfl rfl ?_
  have h1 := z_b32 p1
  refine z_xL zt225 1 rfl rfl (fun (y2 : Int64) (h3 : y2.toInt = p1.toInt) => ?_) (z_qI2L rfl)
  refine z_xP zt225 2 3 [some (.int p1)] [.long 0, .long y2] rfl rfl ?_
  refine z_xl2 zt225 3 rfl zo225 zkl12_318 ?_
  refine z_xcS (vs := [.long y2, .long 0, .long 5]) (r := []) (L2 := [some (.long y2), none, some (.long 0), none, some (.long 5), none]) zt225 4 rfl zo225 zzcS12_116 (Or.inl rfl) (Nat.le_of_ble_eq_true rfl) rfl rfl (Nat.le_of_ble_eq_true rfl) zzm189 (Nat.le_of_ble_eq_true rfl) rfl ?_
  refine z_xP zt189 0 2 [some (.long y2), none, some (.long 0), none, some (.long 5), none] [.long 0, .long y2] rfl rfl ?_
  refine z_xI zt189 1 rfl rfl (fun (x4 : Int32) (h5 : (x4.toInt < 0 ∧ y2.toInt < 0) ∨ (x4.toInt = 0 ∧ y2.toInt = 0) ∨ (0 < x4.toInt ∧ 0 < y2.toInt)) => ?_) (z_qCmp rfl rfl)
  refine z_xZ zt189 2 rfl rfl (fun (h6 : x4.toInt < 0) => ?_) (fun (h6 : 0 ≤ x4.toInt) => ?_)
  · skip
    refine z_xP zt189 7 18 [some (.long y2), none, some (.long 0), none, some (.long 5), none] [.int 0] rfl rfl ?_
    refine z_xrz zt189 8 rfl zzr189 (by decide) (by decide) ?_
    show z_ev (d + 1) 225 9 [some (.int p1)] [.int 0] M0 _
    refine z_xrz zt225 5 rfl zzr225 (by decide) (by decide) ?_
    show z_ev (d + 2) 287 4 [some (.ref 19), some (.int p1), some (.int p2)] [.int 0] M0 _
    refine z_xZ zt287 2 rfl rfl (fun (h7 : (0 : Int) ≠ 0) => absurd h7 (by omega)) (fun (h7 : (0 : Int) = 0) => ?_)
    refine z_xP zt287 3 8 [some (.ref 19), some (.int p1), some (.int p2)] [.int (-1)] rfl rfl ?_
    refine z_xri zt287 4 rfl zzr287 ?_
    show z_ev (d + 3) 286 6 [some (.ref 19), some (.int p1), some (.int p2), some (.long p3), none, none] [.int (-1)] M0 _
    refine z_xP zt286 2 10 [some (.ref 19), some (.int p1), some (.int p2), some (.long p3), none, some (.int (-1))] [.int (-1)] rfl rfl ?_
    refine z_xZ zt286 3 rfl rfl (fun (h8 : ((-1) : Int) ≠ 0) => ?_) (fun (h8 : ((-1) : Int) = 0) => absurd h8 (by omega))
    refine z_xP zt286 19 39 [some (.ref 19), some (.int p1), some (.int p2), some (.long p3), none, some (.int (-1))] [.int (-1)] rfl rfl ?_
    refine z_xZ zt286 20 rfl rfl (fun (h9 : ((-1) : Int) ≠ 0) => ?_) (fun (h9 : ((-1) : Int) = 0) => absurd h9 (by omega))
    refine z_xP zt286 22 48 [some (.ref 19), some (.int p1), some (.int p2), some (.long p3), none, some (.int (-1))] [.int (-1)] rfl rfl ?_
    have qm1 : (((-1) : Int32)).toInt = (-1) := rfl
    have qm1 : (((-1) : Int32)).toInt = (-1) := rfl
    have qm1 : (((-1) : Int32)).toInt = (-1) := rfl
    have qm1 : (((-1) : Int32)).toInt = (-1) := rfl
    exact z_xri zt286 23 rfl zzr286 (kk (-1) M0 X (by omega) (by omega) (by omega) (fun hx => absurd hx (by omega)) (fun _ => rfl))
  refine z_xP zt189 3 9 [some (.long y2), none, some (.long 0), none, some (.long 5), none] [.long 5, .long y2] rfl rfl ?_
  refine z_xI zt189 4 rfl rfl (fun (x10 : Int32) (h11 : (x10.toInt < 0 ∧ y2.toInt < 5) ∨ (x10.toInt = 0 ∧ y2.toInt = 5) ∨ (0 < x10.toInt ∧ 5 < y2.toInt)) => ?_) (z_qCmp rfl rfl)
  refine z_xZ zt189 5 rfl rfl (fun (h12 : 0 < x10.toInt) => ?_) (fun (h12 : x10.toInt ≤ 0) => ?_)
  · skip
    refine z_xP zt189 7 18 [some (.long y2), none, some (.long 0), none, some (.long 5), none] [.int 0] rfl rfl ?_
    refine z_xrz zt189 8 rfl zzr189 (by decide) (by decide) ?_
    show z_ev (d + 1) 225 9 [some (.int p1)] [.int 0] M0 _
    refine z_xrz zt225 5 rfl zzr225 (by decide) (by decide) ?_
    show z_ev (d + 2) 287 4 [some (.ref 19), some (.int p1), some (.int p2)] [.int 0] M0 _
    refine z_xZ zt287 2 rfl rfl (fun (h13 : (0 : Int) ≠ 0) => absurd h13 (by omega)) (fun (h13 : (0 : Int) = 0) => ?_)
    refine z_xP zt287 3 8 [some (.ref 19), some (.int p1), some (.int p2)] [.int (-1)] rfl rfl ?_
    refine z_xri zt287 4 rfl zzr287 ?_
    show z_ev (d + 3) 286 6 [some (.ref 19), some (.int p1), some (.int p2), some (.long p3), none, none] [.int (-1)] M0 _
    refine z_xP zt286 2 10 [some (.ref 19), some (.int p1), some (.int p2), some (.long p3), none, some (.int (-1))] [.int (-1)] rfl rfl ?_
    refine z_xZ zt286 3 rfl rfl (fun (h14 : ((-1) : Int) ≠ 0) => ?_) (fun (h14 : ((-1) : Int) = 0) => absurd h14 (by omega))
    refine z_xP zt286 19 39 [some (.ref 19), some (.int p1), some (.int p2), some (.long p3), none, some (.int (-1))] [.int (-1)] rfl rfl ?_
    refine z_xZ zt286 20 rfl rfl (fun (h15 : ((-1) : Int) ≠ 0) => ?_) (fun (h15 : ((-1) : Int) = 0) => absurd h15 (by omega))
    refine z_xP zt286 22 48 [some (.ref 19), some (.int p1), some (.int p2), some (.long p3), none, some (.int (-1))] [.int (-1)] rfl rfl ?_
    have qm1 : (((-1) : Int32)).toInt = (-1) := rfl
    have qm1 : (((-1) : Int32)).toInt = (-1) := rfl
    have qm1 : (((-1) : Int32)).toInt = (-1) := rfl
    have qm1 : (((-1) : Int32)).toInt = (-1) := rfl
    exact z_xri zt286 23 rfl zzr286 (kk (-1) M0 X (by omega) (by omega) (by omega) (fun hx => absurd hx (by omega)) (fun _ => rfl))
  refine z_xP zt189 6 18 [some (.long y2), none, some (.long 0), none, some (.long 5), none] [.int 1] rfl rfl ?_
  refine z_xrz zt189 8 rfl zzr189 (by decide) (by decide) ?_
  show z_ev (d + 1) 225 9 [some (.int p1)] [.int 1] M0 _
  refine z_xrz zt225 5 rfl zzr225 (by decide) (by decide) ?_
  show z_ev (d + 2) 287 4 [some (.ref 19), some (.int p1), some (.int p2)] [.int 1] M0 _
  refine z_xZ zt287 2 rfl rfl (fun (h16 : (1 : Int) ≠ 0) => ?_) (fun (h16 : (1 : Int) = 0) => absurd h16 (by omega))
  refine z_xP zt287 5 10 [some (.ref 19), some (.int p1), some (.int p2)] [.ref 19] rfl rfl ?_
  refine z_xgX (b := 49) zt287 6 rfl zo287 zzf12_97 X f19 (by decide) (by decide) rfl ?_
  refine z_xP zt287 7 14 [some (.ref 19), some (.int p1), some (.int p2)] [.int p1, .ref 49] rfl rfl ?_
  have f49 : T[49]? = some (.inr (49, 0, 6, (-1), 24)) := X.1.k rfl (by decide)
  refine z_xil zt287 8 rfl X f49 (by decide) (by omega) (by omega) (fun (x17 : Int32) h18 (h19 : (-1) ≤ x17.toInt) (h20 : x17.toInt ≤ 24) => ?_)
  have h21 : (z_Ar M0 49 (p1).toNatClampNeg).toInt = x17.toInt := congrArg Int32.toInt (h18)
  refine z_xZ zt287 9 rfl rfl (fun (h22 : 0 ≤ x17.toInt) => ?_) (fun (h22 : x17.toInt < 0) => ?_)
  · skip
    refine z_xP zt287 12 22 [some (.ref 19), some (.int p1), some (.int p2)] [.ref 19] rfl rfl ?_
    refine z_xgX (b := 49) zt287 13 rfl zo287 zzf12_97 X f19 (by decide) (by decide) rfl ?_
    refine z_xP zt287 14 26 [some (.ref 19), some (.int p1), some (.int p2)] [.int p1, .ref 49] rfl rfl ?_
    refine z_xil zt287 15 rfl X f49 (by decide) (by omega) (by omega) (fun (x23 : Int32) h24 (h25 : (-1) ≤ x23.toInt) (h26 : x23.toInt ≤ 24) => ?_)
    have h27 := congrArg Int32.toInt (h24.symm.trans h18)
    have h28 : (z_Ar M0 49 (p1).toNatClampNeg).toInt = x23.toInt := congrArg Int32.toInt (h24)
    refine z_xP zt287 16 29 [some (.ref 19), some (.int p1), some (.int p2)] [.int 20, .int x23] rfl rfl ?_
    refine z_xJ zt287 17 rfl rfl (fun (h29 : 20 ≤ x23.toInt) => ?_) (fun (h29 : x23.toInt < 20) => ?_)
    · skip
      refine z_xP zt287 20 36 [some (.ref 19), some (.int p1), some (.int p2)] [.int p2] rfl rfl ?_
      refine z_xZ zt287 21 rfl rfl (fun (h30 : p2.toInt < 0) => ?_) (fun (h30 : 0 ≤ p2.toInt) => ?_)
      · skip
        refine z_xP zt287 28 55 [some (.ref 19), some (.int p1), some (.int p2)] [.int (-13)] rfl rfl ?_
        refine z_xri zt287 29 rfl zzr287 ?_
        show z_ev (d + 3) 286 6 [some (.ref 19), some (.int p1), some (.int p2), some (.long p3), none, none] [.int (-13)] M0 _
        refine z_xP zt286 2 10 [some (.ref 19), some (.int p1), some (.int p2), some (.long p3), none, some (.int (-13))] [.int (-13)] rfl rfl ?_
        refine z_xZ zt286 3 rfl rfl (fun (h31 : ((-13) : Int) ≠ 0) => ?_) (fun (h31 : ((-13) : Int) = 0) => absurd h31 (by omega))
        refine z_xP zt286 19 39 [some (.ref 19), some (.int p1), some (.int p2), some (.long p3), none, some (.int (-13))] [.int (-13)] rfl rfl ?_
        refine z_xZ zt286 20 rfl rfl (fun (h32 : ((-13) : Int) ≠ 0) => ?_) (fun (h32 : ((-13) : Int) = 0) => absurd h32 (by omega))
        refine z_xP zt286 22 48 [some (.ref 19), some (.int p1), some (.int p2), some (.long p3), none, some (.int (-13))] [.int (-13)] rfl rfl ?_
        have qm13 : (((-13) : Int32)).toInt = (-13) := rfl
        have qm13 : (((-13) : Int32)).toInt = (-13) := rfl
        have qm13 : (((-13) : Int32)).toInt = (-13) := rfl
        have qm13 : (((-13) : Int32)).toInt = (-13) := rfl
        exact z_xri zt286 23 rfl zzr286 (kk (-13) M0 X (by omega) (by omega) (by omega) (fun hx => absurd hx (by omega)) (fun _ => rfl))
      refine z_xP zt287 22 41 [some (.ref 19), some (.int p1), some (.int p2)] [.ref 19, .int p2] rfl rfl ?_
      refine z_xgX (b := 50) zt287 23 rfl zo287 zzf12_100 X f19 (by decide) (by decide) rfl ?_
      refine z_xP zt287 24 45 [some (.ref 19), some (.int p1), some (.int p2)] [.int p1, .ref 50, .int p2] rfl rfl ?_
      have f50 : T[50]? = some (.inr (50, 0, 6, 0, 60)) := X.1.k rfl (by decide)
      refine z_xil zt287 25 rfl X f50 (by decide) (by omega) (by omega) (fun (x33 : Int32) h34 (h35 : 0 ≤ x33.toInt) (h36 : x33.toInt ≤ 60) => ?_)
      have h37 : (z_Ar M0 50 (p1).toNatClampNeg).toInt = x33.toInt := congrArg Int32.toInt (h34)
      have h38 := z_b32 p2
      refine z_xJ zt287 26 rfl rfl (fun (h39 : x33.toInt ≤ p2.toInt) => ?_) (fun (h39 : p2.toInt < x33.toInt) => ?_)
      · skip
        refine z_xP zt287 28 55 [some (.ref 19), some (.int p1), some (.int p2)] [.int (-13)] rfl rfl ?_
        refine z_xri zt287 29 rfl zzr287 ?_
        show z_ev (d + 3) 286 6 [some (.ref 19), some (.int p1), some (.int p2), some (.long p3), none, none] [.int (-13)] M0 _
        refine z_xP zt286 2 10 [some (.ref 19), some (.int p1), some (.int p2), some (.long p3), none, some (.int (-13))] [.int (-13)] rfl rfl ?_
        refine z_xZ zt286 3 rfl rfl (fun (h40 : ((-13) : Int) ≠ 0) => ?_) (fun (h40 : ((-13) : Int) = 0) => absurd h40 (by omega))
        refine z_xP zt286 19 39 [some (.ref 19), some (.int p1), some (.int p2), some (.long p3), none, some (.int (-13))] [.int (-13)] rfl rfl ?_
        refine z_xZ zt286 20 rfl rfl (fun (h41 : ((-13) : Int) ≠ 0) => ?_) (fun (h41 : ((-13) : Int) = 0) => absurd h41 (by omega))
        refine z_xP zt286 22 48 [some (.ref 19), some (.int p1), some (.int p2), some (.long p3), none, some (.int (-13))] [.int (-13)] rfl rfl ?_
        have qm13 : (((-13) : Int32)).toInt = (-13) := rfl
        have qm13 : (((-13) : Int32)).toInt = (-13) := rfl
        have qm13 : (((-13) : Int32)).toInt = (-13) := rfl
        have qm13 : (((-13) : Int32)).toInt = (-13) := rfl
        exact z_xri zt286 23 rfl zzr286 (kk (-13) M0 X (by omega) (by omega) (by omega) (fun hx => absurd hx (by omega)) (fun _ => rfl))
      refine z_xP zt287 27 55 [some (.ref 19), some (.int p1), some (.int p2)] [.int 0] rfl rfl ?_
      refine z_xri zt287 29 rfl zzr287 ?_
      show z_ev (d + 3) 286 6 [some (.ref 19), some (.int p1), some (.int p2), some (.long p3), none, none] [.int 0] M0 _
      refine z_xP zt286 2 10 [some (.ref 19), some (.int p1), some (.int p2), some (.long p3), none, some (.int 0)] [.int 0] rfl rfl ?_
      refine z_xZ zt286 3 rfl rfl (fun (h42 : (0 : Int) ≠ 0) => absurd h42 (by omega)) (fun (h42 : (0 : Int) = 0) => ?_)
      refine z_xP zt286 4 14 [some (.ref 19), some (.int p1), some (.int p2), some (.long p3), none, some (.int 0)] [.ref 19] rfl rfl ?_
      refine z_xgX (b := 51) zt286 5 rfl zo286 zzf12_103 X f19 (by decide) (by decide) rfl ?_
      refine z_xP zt286 6 20 [some (.ref 19), some (.int p1), some (.int p2), some (.long p3), none, some (.int 0)] [.int p1, .int 60, .ref 51] rfl rfl ?_
      refine z_xI zt286 7 rfl rfl (fun (x43 : Int32) (h44 : x43.toInt = 60 * p1.toInt) => ?_) (z_pMul rfl rfl (by omega) (by omega))
      refine z_xP zt286 8 22 [some (.ref 19), some (.int p1), some (.int p2), some (.long p3), none, some (.int 0)] [.int p2, .int x43, .ref 51] rfl rfl ?_
      refine z_xI zt286 9 rfl rfl (fun (x45 : Int32) (h46 : x45.toInt = x43.toInt + p2.toInt) => ?_) (z_pAdd rfl rfl (by omega) (by omega))
      refine z_xP zt286 10 24 [some (.ref 19), some (.int p1), some (.int p2), some (.long p3), none, some (.int 0)] [.ref 19, .int x45, .ref 51] rfl rfl ?_
      refine z_xgX (b := 49) zt286 11 rfl zo286 zzf12_97 X f19 (by decide) (by decide) rfl ?_
      refine z_xP zt286 12 28 [some (.ref 19), some (.int p1), some (.int p2), some (.long p3), none, some (.int 0)] [.int p1, .ref 49, .int x45, .ref 51] rfl rfl ?_
      refine z_xil zt286 13 rfl X f49 (by decide) (by omega) (by omega) (fun (x47 : Int32) h48 (h49 : (-1) ≤ x47.toInt) (h50 : x47.toInt ≤ 24) => ?_)
      have h51 := congrArg Int32.toInt (h48.symm.trans h18)
      have h52 : (z_Ar M0 49 (p1).toNatClampNeg).toInt = x47.toInt := congrArg Int32.toInt (h48)
      refine z_xP zt286 14 31 [some (.ref 19), some (.int p1), some (.int p2), some (.long p3), none, some (.int 0)] [.int 20, .int x47, .int x45, .ref 51] rfl rfl ?_
      refine z_xI zt286 15 rfl rfl (fun (x53 : Int32) (h54 : x53.toInt = x47.toInt - 20) => ?_) (z_pSub rfl rfl (by omega) (by omega))
      refine z_xP zt286 16 33 [some (.ref 19), some (.int p1), some (.int p2), some (.long p3), none, some (.int 0)] [.long p3, .int x53, .int x45, .ref 51] rfl rfl ?_
      refine z_xcS (vs := [.int x53, .long p3]) (r := [.int x45, .ref 51]) (L2 := [some (.int x53), some (.long p3), none]) zt286 17 rfl zo286 zzcS12_408 (Or.inl rfl) (Nat.le_of_ble_eq_true rfl) rfl rfl (Nat.le_of_ble_eq_true rfl) zzm288 (Nat.le_of_ble_eq_true rfl) rfl ?_
      refine zRC288 X.1 (by omega) (fun y58 M55 X56 h57 => ?_)
      have X59 := X.go X56 (z_sb (by decide))
      show z_ev (d + 3) 286 36 [some (.ref 19), some (.int p1), some (.int p2), some (.long p3), none, some (.int 0)] [.long y58, .int x45, .ref 51] M55 _
      have f51 : T[51]? = some (.inr (51, 1, 360, 0, 0)) := X59.1.k rfl (by decide)
      refine z_xlsv zt286 18 rfl X59 f51 (by decide) (by decide) (by omega) (by omega) (by decide) (fun M61 X62 e63 h64 => ?_)
      refine z_xP zt286 19 39 [some (.ref 19), some (.int p1), some (.int p2), some (.long p3), none, some (.int 0)] [.int 0] rfl rfl ?_
      refine z_xZ zt286 20 rfl rfl (fun (h65 : (0 : Int) ≠ 0) => absurd h65 (by omega)) (fun (h65 : (0 : Int) = 0) => ?_)
      refine z_xP zt286 21 48 [some (.ref 19), some (.int p1), some (.int p2), some (.long p3), none, some (.int 0)] [.int 1] rfl rfl ?_
      have q1 : ((1 : Int32)).toInt = 1 := rfl
      have q1 : ((1 : Int32)).toInt = 1 := rfl
      have q1 : ((1 : Int32)).toInt = 1 := rfl
      have q1 : ((1 : Int32)).toInt = 1 := rfl
      exact z_xri zt286 23 rfl zzr286 (kk 1 M61 X62 (by omega) (by omega) (by omega) (fun _ => ⟨y58, z_lbPc (by omega) h57, h64.trans (z_updLc (X56.2.lg f51 (by decide)) (by unfold Int32.toNatClampNeg <;> omega))⟩) (fun hx => absurd (by omega) hx))
    refine z_xP zt287 18 34 [some (.ref 19), some (.int p1), some (.int p2)] [.int (-12)] rfl rfl ?_
    refine z_xri zt287 19 rfl zzr287 ?_
    show z_ev (d + 3) 286 6 [some (.ref 19), some (.int p1), some (.int p2), some (.long p3), none, none] [.int (-12)] M0 _
    refine z_xP zt286 2 10 [some (.ref 19), some (.int p1), some (.int p2), some (.long p3), none, some (.int (-12))] [.int (-12)] rfl rfl ?_
    refine z_xZ zt286 3 rfl rfl (fun (h66 : ((-12) : Int) ≠ 0) => ?_) (fun (h66 : ((-12) : Int) = 0) => absurd h66 (by omega))
    refine z_xP zt286 19 39 [some (.ref 19), some (.int p1), some (.int p2), some (.long p3), none, some (.int (-12))] [.int (-12)] rfl rfl ?_
    refine z_xZ zt286 20 rfl rfl (fun (h67 : ((-12) : Int) ≠ 0) => ?_) (fun (h67 : ((-12) : Int) = 0) => absurd h67 (by omega))
    refine z_xP zt286 22 48 [some (.ref 19), some (.int p1), some (.int p2), some (.long p3), none, some (.int (-12))] [.int (-12)] rfl rfl ?_
    have qm12 : (((-12) : Int32)).toInt = (-12) := rfl
    have qm12 : (((-12) : Int32)).toInt = (-12) := rfl
    have qm12 : (((-12) : Int32)).toInt = (-12) := rfl
    have qm12 : (((-12) : Int32)).toInt = (-12) := rfl
    exact z_xri zt286 23 rfl zzr286 (kk (-12) M0 X (by omega) (by omega) (by omega) (fun hx => absurd hx (by omega)) (fun _ => rfl))
  refine z_xP zt287 10 20 [some (.ref 19), some (.int p1), some (.int p2)] [.int (-11)] rfl rfl ?_
  refine z_xri zt287 11 rfl zzr287 ?_
  show z_ev (d + 3) 286 6 [some (.ref 19), some (.int p1), some (.int p2), some (.long p3), none, none] [.int (-11)] M0 _
  refine z_xP zt286 2 10 [some (.ref 19), some (.int p1), some (.int p2), some (.long p3), none, some (.int (-11))] [.int (-11)] rfl rfl ?_
  refine z_xZ zt286 3 rfl rfl (fun (h68 : ((-11) : Int) ≠ 0) => ?_) (fun (h68 : ((-11) : Int) = 0) => absurd h68 (by omega))
  refine z_xP zt286 19 39 [some (.ref 19), some (.int p1), some (.int p2), some (.long p3), none, some (.int (-11))] [.int (-11)] rfl rfl ?_
  refine z_xZ zt286 20 rfl rfl (fun (h69 : ((-11) : Int) ≠ 0) => ?_) (fun (h69 : ((-11) : Int) = 0) => absurd h69 (by omega))
  refine z_xP zt286 22 48 [some (.ref 19), some (.int p1), some (.int p2), some (.long p3), none, some (.int (-11))] [.int (-11)] rfl rfl ?_
  have qm11 : (((-11) : Int32)).toInt = (-11) := rfl
  have qm11 : (((-11) : Int32)).toInt = (-11) := rfl
  have qm11 : (((-11) : Int32)).toInt = (-11) := rfl
  have qm11 : (((-11) : Int32)).toInt = (-11) := rfl
  exact z_xri zt286 23 rfl zzr286 (kk (-11) M0 X (by omega) (by omega) (by omega) (fun hx => absurd hx (by omega)) (fun _ => rfl))
theorem zRC181 {T : List zK} {d : Nat} {K : Option Value → zH → Prop} {p1 : Int32} {p2 : Int32} {p3 : Int32} {p4 : Int32} {p5 : Int32} {M0 : zH} (hW : z_W M0 T)  (kk : ∀ (x : Int32) (M1 : zH), z_X T zw181 M0 M1 → (-13) ≤ x.toInt → x.toInt ≤ 60 → ((x.toInt = -1 ∧ (p1.toInt < 0 ∨ 5 < p1.toInt ∨ p3.toInt < 0 ∨ 5 < p3.toInt)) ∨ (0 ≤ p1.toInt ∧ p1.toInt ≤ 5 ∧ 0 ≤ p3.toInt ∧ p3.toInt ≤ 5 ∧ ((x.toInt = -11 ∧ ((z_Ar M0 14 p1.toNatClampNeg).toInt = -1 ∨ (z_Ar M0 14 p3.toNatClampNeg).toInt = -1)) ∨ ((z_Ar M0 14 p1.toNatClampNeg).toInt ≠ -1 ∧ (z_Ar M0 14 p3.toNatClampNeg).toInt ≠ -1 ∧ ((x.toInt = -12 ∧ ((z_Ar M0 14 p1.toNatClampNeg).toInt = 5 ∨ (z_Ar M0 14 p1.toNatClampNeg).toInt ≠ (z_Ar M0 14 p3.toNatClampNeg).toInt)) ∨ ((z_Ar M0 14 p1.toNatClampNeg).toInt ≠ 5 ∧ (z_Ar M0 14 p1.toNatClampNeg).toInt = (z_Ar M0 14 p3.toNatClampNeg).toInt ∧ ((x.toInt = -13 ∧ (p5.toInt < 0 ∨ p2.toInt < 0 ∨ p4.toInt < 0 ∨ (z_Ar M0 15 p1.toNatClampNeg).toInt - p5.toInt < p2.toInt ∨ (z_Ar M0 15 p3.toNatClampNeg).toInt - p5.toInt < p4.toInt)) ∨ (x.toInt = p5.toInt ∧ 0 ≤ p5.toInt ∧ 0 ≤ p2.toInt ∧ 0 ≤ p4.toInt ∧ p2.toInt ≤ (z_Ar M0 15 p1.toNatClampNeg).toInt - p5.toInt ∧ p4.toInt ≤ (z_Ar M0 15 p3.toNatClampNeg).toInt - p5.toInt)))))))) → (0 ≤ x.toInt → z_Lg M1 16 = z_cpy (z_Lg M0 16) (z_Lg M0 16) (60 * p1.toInt.toNat + p2.toInt.toNat) (60 * p3.toInt.toNat + p4.toInt.toNat) p5.toInt.toNat) → (x.toInt < 0 → z_Lg M1 16 = z_Lg M0 16) → K (some (.int x)) M1) : z_ev (d + 1) 181 0 [some (.ref 4), some (.int p1), some (.int p2), some (.int p3), some (.int p4), some (.int p5)] [] M0 K := by
  have X : z_X T zw181 M0 M0 := .refl hW
  refine z_xP zt181 0 1 [some (.ref 4), some (.int p1), some (.int p2), some (.int p3), some (.int p4), some (.int p5)] [.int p1] rfl rfl ?_
  refine z_xcS (vs := [.int p1]) (r := []) (L2 := [some (.int p1)]) zt181 1 rfl zo181 zzcS0_148 (Or.inl rfl) (Nat.le_of_ble_eq_true rfl) rfl rfl (Nat.le_of_ble_eq_true rfl) zzm58 (Nat.le_of_ble_eq_true rfl) rfl ?_
  refine z_xP zt58 0 1 [some (.int p1)] [.int p1] rfl rfl ?_
  refine z_xZ zt58 1 rfl rfl (fun (h1 : p1.toInt < 0) => ?_) (fun (h1 : 0 ≤ p1.toInt) => ?_)
  · skip
    refine z_xP zt58 5 15 [some (.int p1)] [.int 0] rfl rfl ?_
    refine z_xrz zt58 6 rfl zzr58 (by decide) (by decide) ?_
    show z_ev (d + 1) 181 4 [some (.ref 4), some (.int p1), some (.int p2), some (.int p3), some (.int p4), some (.int p5)] [.int 0] M0 _
    refine z_xZ zt181 2 rfl rfl (fun (h2 : (0 : Int) = 0) => ?_) (fun (h2 : (0 : Int) ≠ 0) => absurd h2 (by omega))
    refine z_xP zt181 6 15 [some (.ref 4), some (.int p1), some (.int p2), some (.int p3), some (.int p4), some (.int p5)] [.int (-1)] rfl rfl ?_
    have qm1 : (((-1) : Int32)).toInt = (-1) := rfl
    have qm1 : (((-1) : Int32)).toInt = (-1) := rfl
    have qm1 : (((-1) : Int32)).toInt = (-1) := rfl
    have qm1 : (((-1) : Int32)).toInt = (-1) := rfl
    exact z_xri zt181 7 rfl zzr181 (kk (-1) M0 X (by omega) (by omega) (by omega) (fun hx => absurd hx (by omega)) (fun _ => rfl))
  refine z_xP zt58 2 7 [some (.int p1)] [.int 6, .int p1] rfl rfl ?_
  refine z_xJ zt58 3 rfl rfl (fun (h3 : 6 ≤ p1.toInt) => ?_) (fun (h3 : p1.toInt < 6) => ?_)
  · skip
    refine z_xP zt58 5 15 [some (.int p1)] [.int 0] rfl rfl ?_
    refine z_xrz zt58 6 rfl zzr58 (by decide) (by decide) ?_
    show z_ev (d + 1) 181 4 [some (.ref 4), some (.int p1), some (.int p2), some (.int p3), some (.int p4), some (.int p5)] [.int 0] M0 _
    refine z_xZ zt181 2 rfl rfl (fun (h4 : (0 : Int) = 0) => ?_) (fun (h4 : (0 : Int) ≠ 0) => absurd h4 (by omega))
    refine z_xP zt181 6 15 [some (.ref 4), some (.int p1), some (.int p2), some (.int p3), some (.int p4), some (.int p5)] [.int (-1)] rfl rfl ?_
    have qm1 : (((-1) : Int32)).toInt = (-1) := rfl
    have qm1 : (((-1) : Int32)).toInt = (-1) := rfl
    have qm1 : (((-1) : Int32)).toInt = (-1) := rfl
    have qm1 : (((-1) : Int32)).toInt = (-1) := rfl
    exact z_xri zt181 7 rfl zzr181 (kk (-1) M0 X (by omega) (by omega) (by omega) (fun hx => absurd hx (by omega)) (fun _ => rfl))
  refine z_xP zt58 4 15 [some (.int p1)] [.int 1] rfl rfl ?_
  refine z_xrz zt58 6 rfl zzr58 (by decide) (by decide) ?_
  show z_ev (d + 1) 181 4 [some (.ref 4), some (.int p1), some (.int p2), some (.int p3), some (.int p4), some (.int p5)] [.int 1] M0 _
  refine z_xZ zt181 2 rfl rfl (fun (h5 : (1 : Int) = 0) => absurd h5 (by omega)) (fun (h5 : (1 : Int) ≠ 0) => ?_)
  refine z_xP zt181 3 8 [some (.ref 4), some (.int p1), some (.int p2), some (.int p3), some (.int p4), some (.int p5)] [.int p3] rfl rfl ?_
  refine z_xcS (vs := [.int p3]) (r := []) (L2 := [some (.int p3)]) zt181 4 rfl zo181 zzcS0_148 (Or.inl rfl) (Nat.le_of_ble_eq_true rfl) rfl rfl (Nat.le_of_ble_eq_true rfl) zzm58 (Nat.le_of_ble_eq_true rfl) rfl ?_
  refine z_xP zt58 0 1 [some (.int p3)] [.int p3] rfl rfl ?_
  refine z_xZ zt58 1 rfl rfl (fun (h6 : p3.toInt < 0) => ?_) (fun (h6 : 0 ≤ p3.toInt) => ?_)
  · skip
    refine z_xP zt58 5 15 [some (.int p3)] [.int 0] rfl rfl ?_
    refine z_xrz zt58 6 rfl zzr58 (by decide) (by decide) ?_
    show z_ev (d + 1) 181 11 [some (.ref 4), some (.int p1), some (.int p2), some (.int p3), some (.int p4), some (.int p5)] [.int 0] M0 _
    refine z_xZ zt181 5 rfl rfl (fun (h7 : (0 : Int) ≠ 0) => absurd h7 (by omega)) (fun (h7 : (0 : Int) = 0) => ?_)
    refine z_xP zt181 6 15 [some (.ref 4), some (.int p1), some (.int p2), some (.int p3), some (.int p4), some (.int p5)] [.int (-1)] rfl rfl ?_
    have qm1 : (((-1) : Int32)).toInt = (-1) := rfl
    have qm1 : (((-1) : Int32)).toInt = (-1) := rfl
    have qm1 : (((-1) : Int32)).toInt = (-1) := rfl
    have qm1 : (((-1) : Int32)).toInt = (-1) := rfl
    exact z_xri zt181 7 rfl zzr181 (kk (-1) M0 X (by omega) (by omega) (by omega) (fun hx => absurd hx (by omega)) (fun _ => rfl))
  refine z_xP zt58 2 7 [some (.int p3)] [.int 6, .int p3] rfl rfl ?_
  refine z_xJ zt58 3 rfl rfl (fun (h8 : 6 ≤ p3.toInt) => ?_) (fun (h8 : p3.toInt < 6) => ?_)
  · skip
    refine z_xP zt58 5 15 [some (.int p3)] [.int 0] rfl rfl ?_
    refine z_xrz zt58 6 rfl zzr58 (by decide) (by decide) ?_
    show z_ev (d + 1) 181 11 [some (.ref 4), some (.int p1), some (.int p2), some (.int p3), some (.int p4), some (.int p5)] [.int 0] M0 _
    refine z_xZ zt181 5 rfl rfl (fun (h9 : (0 : Int) ≠ 0) => absurd h9 (by omega)) (fun (h9 : (0 : Int) = 0) => ?_)
    refine z_xP zt181 6 15 [some (.ref 4), some (.int p1), some (.int p2), some (.int p3), some (.int p4), some (.int p5)] [.int (-1)] rfl rfl ?_
    have qm1 : (((-1) : Int32)).toInt = (-1) := rfl
    have qm1 : (((-1) : Int32)).toInt = (-1) := rfl
    have qm1 : (((-1) : Int32)).toInt = (-1) := rfl
    have qm1 : (((-1) : Int32)).toInt = (-1) := rfl
    exact z_xri zt181 7 rfl zzr181 (kk (-1) M0 X (by omega) (by omega) (by omega) (fun hx => absurd hx (by omega)) (fun _ => rfl))
  refine z_xP zt58 4 15 [some (.int p3)] [.int 1] rfl rfl ?_
  refine z_xrz zt58 6 rfl zzr58 (by decide) (by decide) ?_
  show z_ev (d + 1) 181 11 [some (.ref 4), some (.int p1), some (.int p2), some (.int p3), some (.int p4), some (.int p5)] [.int 1] M0 _
  refine z_xZ zt181 5 rfl rfl (fun (h10 : (1 : Int) ≠ 0) => ?_) (fun (h10 : (1 : Int) = 0) => absurd h10 (by omega))
  refine z_xP zt181 8 17 [some (.ref 4), some (.int p1), some (.int p2), some (.int p3), some (.int p4), some (.int p5)] [.ref 4] rfl rfl ?_
  have f4 : T[4]? = some (.inl (0, 0, 0, 0, 0)) := X.1.k rfl (by decide)
  refine z_xgX (b := 14) zt181 9 rfl zo181 zzf0_35 X f4 (by decide) (by decide) rfl ?_
  refine z_xP zt181 10 21 [some (.ref 4), some (.int p1), some (.int p2), some (.int p3), some (.int p4), some (.int p5)] [.int p1, .ref 14] rfl rfl ?_
  have f14 : T[14]? = some (.inr (14, 0, 6, (-1), 5)) := X.1.k rfl (by decide)
  refine z_xil zt181 11 rfl X f14 (by decide) (by omega) (by omega) (fun (x11 : Int32) h12 (h13 : (-1) ≤ x11.toInt) (h14 : x11.toInt ≤ 5) => ?_)
  have h15 : (z_Ar M0 14 (p1).toNatClampNeg).toInt = x11.toInt := congrArg Int32.toInt (h12)
  refine z_xP zt181 12 23 [some (.ref 4), some (.int p1), some (.int p2), some (.int p3), some (.int p4), some (.int p5)] [.int (-1), .int x11] rfl rfl ?_
  refine z_xJ zt181 13 rfl rfl (fun (h16 : x11.toInt = (-1)) => ?_) (fun (h16 : x11.toInt ≠ (-1)) => ?_)
  · skip
    refine z_xP zt181 20 38 [some (.ref 4), some (.int p1), some (.int p2), some (.int p3), some (.int p4), some (.int p5)] [.int (-11)] rfl rfl ?_
    have qm11 : (((-11) : Int32)).toInt = (-11) := rfl
    have qm11 : (((-11) : Int32)).toInt = (-11) := rfl
    have qm11 : (((-11) : Int32)).toInt = (-11) := rfl
    have qm11 : (((-11) : Int32)).toInt = (-11) := rfl
    exact z_xri zt181 21 rfl zzr181 (kk (-11) M0 X (by omega) (by omega) (by omega) (fun hx => absurd hx (by omega)) (fun _ => rfl))
  refine z_xP zt181 14 27 [some (.ref 4), some (.int p1), some (.int p2), some (.int p3), some (.int p4), some (.int p5)] [.ref 4] rfl rfl ?_
  refine z_xgX (b := 14) zt181 15 rfl zo181 zzf0_35 X f4 (by decide) (by decide) rfl ?_
  refine z_xP zt181 16 31 [some (.ref 4), some (.int p1), some (.int p2), some (.int p3), some (.int p4), some (.int p5)] [.int p3, .ref 14] rfl rfl ?_
  refine z_xil zt181 17 rfl X f14 (by decide) (by omega) (by omega) (fun (x17 : Int32) h18 (h19 : (-1) ≤ x17.toInt) (h20 : x17.toInt ≤ 5) => ?_)
  have h21 : (z_Ar M0 14 (p3).toNatClampNeg).toInt = x17.toInt := congrArg Int32.toInt (h18)
  refine z_xP zt181 18 33 [some (.ref 4), some (.int p1), some (.int p2), some (.int p3), some (.int p4), some (.int p5)] [.int (-1), .int x17] rfl rfl ?_
  refine z_xJ zt181 19 rfl rfl (fun (h22 : x17.toInt ≠ (-1)) => ?_) (fun (h22 : x17.toInt = (-1)) => ?_)
  · skip
    refine z_xP zt181 22 40 [some (.ref 4), some (.int p1), some (.int p2), some (.int p3), some (.int p4), some (.int p5)] [.ref 4] rfl rfl ?_
    refine z_xgX (b := 14) zt181 23 rfl zo181 zzf0_35 X f4 (by decide) (by decide) rfl ?_
    refine z_xP zt181 24 44 [some (.ref 4), some (.int p1), some (.int p2), some (.int p3), some (.int p4), some (.int p5)] [.int p1, .ref 14] rfl rfl ?_
    refine z_xil zt181 25 rfl X f14 (by decide) (by omega) (by omega) (fun (x23 : Int32) h24 (h25 : (-1) ≤ x23.toInt) (h26 : x23.toInt ≤ 5) => ?_)
    have h27 := congrArg Int32.toInt (h24.symm.trans h12)
    have h28 : (z_Ar M0 14 (p1).toNatClampNeg).toInt = x23.toInt := congrArg Int32.toInt (h24)
    refine z_xP zt181 26 46 [some (.ref 4), some (.int p1), some (.int p2), some (.int p3), some (.int p4), some (.int p5)] [.int 5, .int x23] rfl rfl ?_
    refine z_xJ zt181 27 rfl rfl (fun (h29 : x23.toInt = 5) => ?_) (fun (h29 : x23.toInt ≠ 5) => ?_)
    · skip
      refine z_xP zt181 37 66 [some (.ref 4), some (.int p1), some (.int p2), some (.int p3), some (.int p4), some (.int p5)] [.int (-12)] rfl rfl ?_
      have qm12 : (((-12) : Int32)).toInt = (-12) := rfl
      have qm12 : (((-12) : Int32)).toInt = (-12) := rfl
      have qm12 : (((-12) : Int32)).toInt = (-12) := rfl
      have qm12 : (((-12) : Int32)).toInt = (-12) := rfl
      exact z_xri zt181 38 rfl zzr181 (kk (-12) M0 X (by omega) (by omega) (by omega) (fun hx => absurd hx (by omega)) (fun _ => rfl))
    refine z_xP zt181 28 50 [some (.ref 4), some (.int p1), some (.int p2), some (.int p3), some (.int p4), some (.int p5)] [.ref 4] rfl rfl ?_
    refine z_xgX (b := 14) zt181 29 rfl zo181 zzf0_35 X f4 (by decide) (by decide) rfl ?_
    refine z_xP zt181 30 54 [some (.ref 4), some (.int p1), some (.int p2), some (.int p3), some (.int p4), some (.int p5)] [.int p1, .ref 14] rfl rfl ?_
    refine z_xil zt181 31 rfl X f14 (by decide) (by omega) (by omega) (fun (x30 : Int32) h31 (h32 : (-1) ≤ x30.toInt) (h33 : x30.toInt ≤ 5) => ?_)
    have h34 := congrArg Int32.toInt (h31.symm.trans h12)
    have h35 : (z_Ar M0 14 (p1).toNatClampNeg).toInt = x30.toInt := congrArg Int32.toInt (h31)
    refine z_xP zt181 32 56 [some (.ref 4), some (.int p1), some (.int p2), some (.int p3), some (.int p4), some (.int p5)] [.ref 4, .int x30] rfl rfl ?_
    refine z_xgX (b := 14) zt181 33 rfl zo181 zzf0_35 X f4 (by decide) (by decide) rfl ?_
    refine z_xP zt181 34 60 [some (.ref 4), some (.int p1), some (.int p2), some (.int p3), some (.int p4), some (.int p5)] [.int p3, .ref 14, .int x30] rfl rfl ?_
    refine z_xil zt181 35 rfl X f14 (by decide) (by omega) (by omega) (fun (x36 : Int32) h37 (h38 : (-1) ≤ x36.toInt) (h39 : x36.toInt ≤ 5) => ?_)
    have h40 := congrArg Int32.toInt (h37.symm.trans h18)
    have h41 : (z_Ar M0 14 (p3).toNatClampNeg).toInt = x36.toInt := congrArg Int32.toInt (h37)
    refine z_xJ zt181 36 rfl rfl (fun (h42 : x30.toInt = x36.toInt) => ?_) (fun (h42 : x30.toInt ≠ x36.toInt) => ?_)
    · skip
      refine z_xP zt181 39 72 [some (.ref 4), some (.int p1), some (.int p2), some (.int p3), some (.int p4), some (.int p5)] [.int p5, .int p2, .int p1, .ref 4] rfl rfl ?_
      refine z_xcV (vs := [.ref 4, .int p1, .int p2, .int p5]) (r := []) (L2 := [some (.ref 4), some (.int p1), some (.int p2), some (.int p5)]) zt181 40 rfl zo181 zzcV0_324 (Or.inl rfl) rfl X f4 rfl rfl rfl (Nat.le_of_ble_eq_true rfl) zzm182 (Nat.le_of_ble_eq_true rfl) rfl ?_
      refine z_xP zt182 0 1 [some (.ref 4), some (.int p1), some (.int p2), some (.int p5)] [.int p2] rfl rfl ?_
      refine z_xZ zt182 1 rfl rfl (fun (h43 : p2.toInt < 0) => ?_) (fun (h43 : 0 ≤ p2.toInt) => ?_)
      · skip
        refine z_xP zt182 12 25 [some (.ref 4), some (.int p1), some (.int p2), some (.int p5)] [.int 0] rfl rfl ?_
        refine z_xrz zt182 13 rfl zzr182 (by decide) (by decide) ?_
        show z_ev (d + 1) 181 75 [some (.ref 4), some (.int p1), some (.int p2), some (.int p3), some (.int p4), some (.int p5)] [.int 0] M0 _
        refine z_xZ zt181 41 rfl rfl (fun (h44 : (0 : Int) = 0) => ?_) (fun (h44 : (0 : Int) ≠ 0) => absurd h44 (by omega))
        refine z_xP zt181 45 92 [some (.ref 4), some (.int p1), some (.int p2), some (.int p3), some (.int p4), some (.int p5)] [.int (-13)] rfl rfl ?_
        have qm13 : (((-13) : Int32)).toInt = (-13) := rfl
        have qm13 : (((-13) : Int32)).toInt = (-13) := rfl
        have qm13 : (((-13) : Int32)).toInt = (-13) := rfl
        have qm13 : (((-13) : Int32)).toInt = (-13) := rfl
        exact z_xri zt181 46 rfl zzr181 (kk (-13) M0 X (by omega) (by omega) (by omega) (fun hx => absurd hx (by omega)) (fun _ => rfl))
      refine z_xP zt182 2 5 [some (.ref 4), some (.int p1), some (.int p2), some (.int p5)] [.int p5] rfl rfl ?_
      refine z_xZ zt182 3 rfl rfl (fun (h45 : p5.toInt < 0) => ?_) (fun (h45 : 0 ≤ p5.toInt) => ?_)
      · skip
        refine z_xP zt182 12 25 [some (.ref 4), some (.int p1), some (.int p2), some (.int p5)] [.int 0] rfl rfl ?_
        refine z_xrz zt182 13 rfl zzr182 (by decide) (by decide) ?_
        show z_ev (d + 1) 181 75 [some (.ref 4), some (.int p1), some (.int p2), some (.int p3), some (.int p4), some (.int p5)] [.int 0] M0 _
        refine z_xZ zt181 41 rfl rfl (fun (h46 : (0 : Int) = 0) => ?_) (fun (h46 : (0 : Int) ≠ 0) => absurd h46 (by omega))
        refine z_xP zt181 45 92 [some (.ref 4), some (.int p1), some (.int p2), some (.int p3), some (.int p4), some (.int p5)] [.int (-13)] rfl rfl ?_
        have qm13 : (((-13) : Int32)).toInt = (-13) := rfl
        have qm13 : (((-13) : Int32)).toInt = (-13) := rfl
        have qm13 : (((-13) : Int32)).toInt = (-13) := rfl
        have qm13 : (((-13) : Int32)).toInt = (-13) := rfl
        exact z_xri zt181 46 rfl zzr181 (kk (-13) M0 X (by omega) (by omega) (by omega) (fun hx => absurd hx (by omega)) (fun _ => rfl))
      refine z_xP zt182 4 10 [some (.ref 4), some (.int p1), some (.int p2), some (.int p5)] [.ref 4, .int p5] rfl rfl ?_
      refine z_xgX (b := 15) zt182 5 rfl zo182 zzf0_38 X f4 (by decide) (by decide) rfl ?_
      refine z_xP zt182 6 14 [some (.ref 4), some (.int p1), some (.int p2), some (.int p5)] [.int p1, .ref 15, .int p5] rfl rfl ?_
      have f15 : T[15]? = some (.inr (15, 0, 6, 0, 60)) := X.1.k rfl (by decide)
      refine z_xil zt182 7 rfl X f15 (by decide) (by omega) (by omega) (fun (x47 : Int32) h48 (h49 : 0 ≤ x47.toInt) (h50 : x47.toInt ≤ 60) => ?_)
      have h51 : (z_Ar M0 15 (p1).toNatClampNeg).toInt = x47.toInt := congrArg Int32.toInt (h48)
      refine z_xP zt182 8 16 [some (.ref 4), some (.int p1), some (.int p2), some (.int p5)] [.int p2, .int x47, .int p5] rfl rfl ?_
      have h52 := z_b32 p2
      refine z_xI zt182 9 rfl rfl (fun (x53 : Int32) (h54 : x53.toInt = x47.toInt - p2.toInt) => ?_) (z_pSub rfl rfl (by omega) (by omega))
      have h55 := z_b32 p5
      refine z_xJ zt182 10 rfl rfl (fun (h56 : x53.toInt < p5.toInt) => ?_) (fun (h56 : p5.toInt ≤ x53.toInt) => ?_)
      · skip
        refine z_xP zt182 12 25 [some (.ref 4), some (.int p1), some (.int p2), some (.int p5)] [.int 0] rfl rfl ?_
        refine z_xrz zt182 13 rfl zzr182 (by decide) (by decide) ?_
        show z_ev (d + 1) 181 75 [some (.ref 4), some (.int p1), some (.int p2), some (.int p3), some (.int p4), some (.int p5)] [.int 0] M0 _
        refine z_xZ zt181 41 rfl rfl (fun (h57 : (0 : Int) = 0) => ?_) (fun (h57 : (0 : Int) ≠ 0) => absurd h57 (by omega))
        refine z_xP zt181 45 92 [some (.ref 4), some (.int p1), some (.int p2), some (.int p3), some (.int p4), some (.int p5)] [.int (-13)] rfl rfl ?_
        have qm13 : (((-13) : Int32)).toInt = (-13) := rfl
        have qm13 : (((-13) : Int32)).toInt = (-13) := rfl
        have qm13 : (((-13) : Int32)).toInt = (-13) := rfl
        have qm13 : (((-13) : Int32)).toInt = (-13) := rfl
        exact z_xri zt181 46 rfl zzr181 (kk (-13) M0 X (by omega) (by omega) (by omega) (fun hx => absurd hx (by omega)) (fun _ => rfl))
      refine z_xP zt182 11 25 [some (.ref 4), some (.int p1), some (.int p2), some (.int p5)] [.int 1] rfl rfl ?_
      refine z_xrz zt182 13 rfl zzr182 (by decide) (by decide) ?_
      show z_ev (d + 1) 181 75 [some (.ref 4), some (.int p1), some (.int p2), some (.int p3), some (.int p4), some (.int p5)] [.int 1] M0 _
      refine z_xZ zt181 41 rfl rfl (fun (h58 : (1 : Int) = 0) => absurd h58 (by omega)) (fun (h58 : (1 : Int) ≠ 0) => ?_)
      refine z_xP zt181 42 84 [some (.ref 4), some (.int p1), some (.int p2), some (.int p3), some (.int p4), some (.int p5)] [.int p5, .int p4, .int p3, .ref 4] rfl rfl ?_
      refine z_xcV (vs := [.ref 4, .int p3, .int p4, .int p5]) (r := []) (L2 := [some (.ref 4), some (.int p3), some (.int p4), some (.int p5)]) zt181 43 rfl zo181 zzcV0_324 (Or.inl rfl) rfl X f4 rfl rfl rfl (Nat.le_of_ble_eq_true rfl) zzm182 (Nat.le_of_ble_eq_true rfl) rfl ?_
      refine z_xP zt182 0 1 [some (.ref 4), some (.int p3), some (.int p4), some (.int p5)] [.int p4] rfl rfl ?_
      refine z_xZ zt182 1 rfl rfl (fun (h59 : p4.toInt < 0) => ?_) (fun (h59 : 0 ≤ p4.toInt) => ?_)
      · skip
        refine z_xP zt182 12 25 [some (.ref 4), some (.int p3), some (.int p4), some (.int p5)] [.int 0] rfl rfl ?_
        refine z_xrz zt182 13 rfl zzr182 (by decide) (by decide) ?_
        show z_ev (d + 1) 181 87 [some (.ref 4), some (.int p1), some (.int p2), some (.int p3), some (.int p4), some (.int p5)] [.int 0] M0 _
        refine z_xZ zt181 44 rfl rfl (fun (h60 : (0 : Int) ≠ 0) => absurd h60 (by omega)) (fun (h60 : (0 : Int) = 0) => ?_)
        refine z_xP zt181 45 92 [some (.ref 4), some (.int p1), some (.int p2), some (.int p3), some (.int p4), some (.int p5)] [.int (-13)] rfl rfl ?_
        have qm13 : (((-13) : Int32)).toInt = (-13) := rfl
        have qm13 : (((-13) : Int32)).toInt = (-13) := rfl
        have qm13 : (((-13) : Int32)).toInt = (-13) := rfl
        have qm13 : (((-13) : Int32)).toInt = (-13) := rfl
        exact z_xri zt181 46 rfl zzr181 (kk (-13) M0 X (by omega) (by omega) (by omega) (fun hx => absurd hx (by omega)) (fun _ => rfl))
      refine z_xP zt182 2 5 [some (.ref 4), some (.int p3), some (.int p4), some (.int p5)] [.int p5] rfl rfl ?_
      refine z_xZ zt182 3 rfl rfl (fun (h61 : p5.toInt < 0) => absurd h61 (by omega)) (fun (h61 : 0 ≤ p5.toInt) => ?_)
      refine z_xP zt182 4 10 [some (.ref 4), some (.int p3), some (.int p4), some (.int p5)] [.ref 4, .int p5] rfl rfl ?_
      refine z_xgX (b := 15) zt182 5 rfl zo182 zzf0_38 X f4 (by decide) (by decide) rfl ?_
      refine z_xP zt182 6 14 [some (.ref 4), some (.int p3), some (.int p4), some (.int p5)] [.int p3, .ref 15, .int p5] rfl rfl ?_
      refine z_xil zt182 7 rfl X f15 (by decide) (by omega) (by omega) (fun (x62 : Int32) h63 (h64 : 0 ≤ x62.toInt) (h65 : x62.toInt ≤ 60) => ?_)
      have h66 : (z_Ar M0 15 (p3).toNatClampNeg).toInt = x62.toInt := congrArg Int32.toInt (h63)
      refine z_xP zt182 8 16 [some (.ref 4), some (.int p3), some (.int p4), some (.int p5)] [.int p4, .int x62, .int p5] rfl rfl ?_
      have h67 := z_b32 p4
      refine z_xI zt182 9 rfl rfl (fun (x68 : Int32) (h69 : x68.toInt = x62.toInt - p4.toInt) => ?_) (z_pSub rfl rfl (by omega) (by omega))
      refine z_xJ zt182 10 rfl rfl (fun (h70 : x68.toInt < p5.toInt) => ?_) (fun (h70 : p5.toInt ≤ x68.toInt) => ?_)
      · skip
        refine z_xP zt182 12 25 [some (.ref 4), some (.int p3), some (.int p4), some (.int p5)] [.int 0] rfl rfl ?_
        refine z_xrz zt182 13 rfl zzr182 (by decide) (by decide) ?_
        show z_ev (d + 1) 181 87 [some (.ref 4), some (.int p1), some (.int p2), some (.int p3), some (.int p4), some (.int p5)] [.int 0] M0 _
        refine z_xZ zt181 44 rfl rfl (fun (h71 : (0 : Int) ≠ 0) => absurd h71 (by omega)) (fun (h71 : (0 : Int) = 0) => ?_)
        refine z_xP zt181 45 92 [some (.ref 4), some (.int p1), some (.int p2), some (.int p3), some (.int p4), some (.int p5)] [.int (-13)] rfl rfl ?_
        have qm13 : (((-13) : Int32)).toInt = (-13) := rfl
        have qm13 : (((-13) : Int32)).toInt = (-13) := rfl
        have qm13 : (((-13) : Int32)).toInt = (-13) := rfl
        have qm13 : (((-13) : Int32)).toInt = (-13) := rfl
        exact z_xri zt181 46 rfl zzr181 (kk (-13) M0 X (by omega) (by omega) (by omega) (fun hx => absurd hx (by omega)) (fun _ => rfl))
      refine z_xP zt182 11 25 [some (.ref 4), some (.int p3), some (.int p4), some (.int p5)] [.int 1] rfl rfl ?_
      refine z_xrz zt182 13 rfl zzr182 (by decide) (by decide) ?_
      show z_ev (d + 1) 181 87 [some (.ref 4), some (.int p1), some (.int p2), some (.int p3), some (.int p4), some (.int p5)] [.int 1] M0 _
      refine z_xZ zt181 44 rfl rfl (fun (h72 : (1 : Int) ≠ 0) => ?_) (fun (h72 : (1 : Int) = 0) => absurd h72 (by omega))
      refine z_xP zt181 47 94 [some (.ref 4), some (.int p1), some (.int p2), some (.int p3), some (.int p4), some (.int p5)] [.ref 4] rfl rfl ?_
      refine z_xgX (b := 16) zt181 48 rfl zo181 zzf0_41 X f4 (by decide) (by decide) rfl ?_
      refine z_xP zt181 49 100 [some (.ref 4), some (.int p1), some (.int p2), some (.int p3), some (.int p4), some (.int p5)] [.int 60, .int p1, .ref 16] rfl rfl ?_
      refine z_xI zt181 50 rfl rfl (fun (x73 : Int32) (h74 : x73.toInt = p1.toInt * 60) => ?_) (z_pMul rfl rfl (by omega) (by omega))
      refine z_xP zt181 51 102 [some (.ref 4), some (.int p1), some (.int p2), some (.int p3), some (.int p4), some (.int p5)] [.int p2, .int x73, .ref 16] rfl rfl ?_
      refine z_xI zt181 52 rfl rfl (fun (x75 : Int32) (h76 : x75.toInt = x73.toInt + p2.toInt) => ?_) (z_pAdd rfl rfl (by omega) (by omega))
      refine z_xP zt181 53 104 [some (.ref 4), some (.int p1), some (.int p2), some (.int p3), some (.int p4), some (.int p5)] [.ref 4, .int x75, .ref 16] rfl rfl ?_
      refine z_xgX (b := 16) zt181 54 rfl zo181 zzf0_41 X f4 (by decide) (by decide) rfl ?_
      refine z_xP zt181 55 110 [some (.ref 4), some (.int p1), some (.int p2), some (.int p3), some (.int p4), some (.int p5)] [.int 60, .int p3, .ref 16, .int x75, .ref 16] rfl rfl ?_
      refine z_xI zt181 56 rfl rfl (fun (x77 : Int32) (h78 : x77.toInt = p3.toInt * 60) => ?_) (z_pMul rfl rfl (by omega) (by omega))
      refine z_xP zt181 57 113 [some (.ref 4), some (.int p1), some (.int p2), some (.int p3), some (.int p4), some (.int p5)] [.int p4, .int x77, .ref 16, .int x75, .ref 16] rfl rfl ?_
      refine z_xI zt181 58 rfl rfl (fun (x79 : Int32) (h80 : x79.toInt = x77.toInt + p4.toInt) => ?_) (z_pAdd rfl rfl (by omega) (by omega))
      refine z_xP zt181 59 116 [some (.ref 4), some (.int p1), some (.int p2), some (.int p3), some (.int p4), some (.int p5)] [.int p5, .int x79, .ref 16, .int x75, .ref 16] rfl rfl ?_
      have f16 : T[16]? = some (.inr (16, 1, 360, 0, 0)) := X.1.k rfl (by decide)
      refine z_xcpv zt181 60 rfl zo181 zzcS0_328 (Nat.le_of_ble_eq_true rfl) X f16 f16 (by decide) (by decide) (by decide) (by decide) (by omega) (by omega) (by omega) (by omega) (by omega) (by decide) (fun M81 X82 e83 h84 => ?_)
      refine z_xP zt181 61 121 [some (.ref 4), some (.int p1), some (.int p2), some (.int p3), some (.int p4), some (.int p5)] [.int p5] rfl rfl ?_
      exact z_xri zt181 62 rfl zzr181 (kk p5 M81 X82 (by omega) (by omega) (by omega) (fun _ => h84.trans (z_cpyc rfl (by unfold Int32.toNatClampNeg <;> omega) (by unfold Int32.toNatClampNeg <;> omega) (by unfold Int32.toNatClampNeg <;> omega))) (fun hx => absurd hx (by omega)))
    refine z_xP zt181 37 66 [some (.ref 4), some (.int p1), some (.int p2), some (.int p3), some (.int p4), some (.int p5)] [.int (-12)] rfl rfl ?_
    have qm12 : (((-12) : Int32)).toInt = (-12) := rfl
    have qm12 : (((-12) : Int32)).toInt = (-12) := rfl
    have qm12 : (((-12) : Int32)).toInt = (-12) := rfl
    have qm12 : (((-12) : Int32)).toInt = (-12) := rfl
    exact z_xri zt181 38 rfl zzr181 (kk (-12) M0 X (by omega) (by omega) (by omega) (fun hx => absurd hx (by omega)) (fun _ => rfl))
  refine z_xP zt181 20 38 [some (.ref 4), some (.int p1), some (.int p2), some (.int p3), some (.int p4), some (.int p5)] [.int (-11)] rfl rfl ?_
  have qm11 : (((-11) : Int32)).toInt = (-11) := rfl
  have qm11 : (((-11) : Int32)).toInt = (-11) := rfl
  have qm11 : (((-11) : Int32)).toInt = (-11) := rfl
  have qm11 : (((-11) : Int32)).toInt = (-11) := rfl
  exact z_xri zt181 21 rfl zzr181 (kk (-11) M0 X (by omega) (by omega) (by omega) (fun hx => absurd hx (by omega)) (fun _ => rfl))
theorem zRB290 {T : List zK} {d : Nat} {K : Option Value → zH → Prop} {p1 : Int32} {p2 : Int32} {p3 : Int32} {p4 : Int32} {p5 : Int32} {M0 : zH}  (kk : ∀ (x : Int32) (M1 : zH), z_X T zw290 M0 M1 → (-13) ≤ x.toInt → x.toInt ≤ 60 → ((x.toInt = -1 ∧ (p1.toInt < 0 ∨ 5 < p1.toInt ∨ p3.toInt < 0 ∨ 5 < p3.toInt)) ∨ (0 ≤ p1.toInt ∧ p1.toInt ≤ 5 ∧ 0 ≤ p3.toInt ∧ p3.toInt ≤ 5 ∧ ((x.toInt = -11 ∧ ((z_Ar M0 49 p1.toNatClampNeg).toInt < 0 ∨ (z_Ar M0 49 p3.toNatClampNeg).toInt < 0)) ∨ (0 ≤ (z_Ar M0 49 p1.toNatClampNeg).toInt ∧ 0 ≤ (z_Ar M0 49 p3.toNatClampNeg).toInt ∧ ((x.toInt = -12 ∧ ((z_Ar M0 49 p1.toNatClampNeg).toInt < 20 ∨ (z_Ar M0 49 p1.toNatClampNeg).toInt ≠ (z_Ar M0 49 p3.toNatClampNeg).toInt)) ∨ (20 ≤ (z_Ar M0 49 p1.toNatClampNeg).toInt ∧ (z_Ar M0 49 p1.toNatClampNeg).toInt = (z_Ar M0 49 p3.toNatClampNeg).toInt ∧ ((x.toInt = -13 ∧ (p5.toInt < 0 ∨ p2.toInt < 0 ∨ p4.toInt < 0 ∨ (z_Ar M0 50 p1.toNatClampNeg).toInt - p5.toInt < p2.toInt ∨ (z_Ar M0 50 p3.toNatClampNeg).toInt - p5.toInt < p4.toInt)) ∨ (x.toInt = p5.toInt ∧ 0 ≤ p5.toInt ∧ 0 ≤ p2.toInt ∧ 0 ≤ p4.toInt ∧ p2.toInt ≤ (z_Ar M0 50 p1.toNatClampNeg).toInt - p5.toInt ∧ p4.toInt ≤ (z_Ar M0 50 p3.toNatClampNeg).toInt - p5.toInt)))))))) → (0 ≤ x.toInt → z_Lg M1 51 = z_cpy (z_Lg M0 51) (z_Lg M0 51) (60 * p1.toInt.toNat + p2.toInt.toNat) (60 * p3.toInt.toNat + p4.toInt.toNat) p5.toInt.toNat) → (x.toInt < 0 → z_Lg M1 51 = z_Lg M0 51) → K (some (.int x)) M1) : ∀ n : Nat, (∀ (M : zH) (b6 : Int32), z_X T zw290 M0 M → 0 ≤ p1.toInt ∧ p1.toInt ≤ 5 → 0 ≤ p2.toInt ∧ p2.toInt ≤ 60 → 0 ≤ p3.toInt ∧ p3.toInt ≤ 5 → 0 ≤ p4.toInt ∧ p4.toInt ≤ 60 → 0 ≤ p5.toInt ∧ p5.toInt ≤ 2147483647 → 0 ≤ b6.toInt ∧ b6.toInt ≤ 60 → p2.toInt + p5.toInt ≤ 60 → 0 ≤ p2.toInt → 0 ≤ p5.toInt → 0 ≤ p4.toInt ∧ p4.toInt + p5.toInt ≤ 60 → 0 ≤ p1.toInt ∧ p1.toInt ≤ 5 ∧ 0 ≤ p3.toInt ∧ p3.toInt ≤ 5 ∧ 20 ≤ (z_Ar M0 49 p1.toNatClampNeg).toInt ∧ (z_Ar M0 49 p1.toNatClampNeg).toInt = (z_Ar M0 49 p3.toNatClampNeg).toInt ∧ 0 ≤ p5.toInt ∧ 0 ≤ p2.toInt ∧ 0 ≤ p4.toInt ∧ p2.toInt ≤ (z_Ar M0 50 p1.toNatClampNeg).toInt - p5.toInt ∧ p4.toInt ≤ (z_Ar M0 50 p3.toNatClampNeg).toInt - p5.toInt → z_Lg M 51 = z_Lg M0 51 → (∀ k : Nat, (k : Int) < b6.toInt → z_Lg M 52 k = z_Lg M0 51 ((60 * p1.toInt.toNat + p2.toInt.toNat) + k)) → ((0) * 3 + 1) * 61 + (60 - b6.toInt) < (n : Int) → z_ev (d + 2) 290 113 [some (.ref 19), some (.int p1), some (.int p2), some (.int p3), some (.int p4), some (.int p5), some (.int b6)] [] M K) ∧ (∀ (M : zH) (b6 : Int32), z_X T zw290 M0 M → 0 ≤ p1.toInt ∧ p1.toInt ≤ 5 → 0 ≤ p2.toInt ∧ p2.toInt ≤ 60 → 0 ≤ p3.toInt ∧ p3.toInt ≤ 5 → 0 ≤ p4.toInt ∧ p4.toInt ≤ 60 → 0 ≤ p5.toInt ∧ p5.toInt ≤ 60 → 0 ≤ b6.toInt ∧ b6.toInt ≤ 60 → 0 ≤ p5.toInt → 0 ≤ p4.toInt ∧ p4.toInt + p5.toInt ≤ 60 → 0 ≤ p1.toInt ∧ p1.toInt ≤ 5 ∧ 0 ≤ p3.toInt ∧ p3.toInt ≤ 5 ∧ 20 ≤ (z_Ar M0 49 p1.toNatClampNeg).toInt ∧ (z_Ar M0 49 p1.toNatClampNeg).toInt = (z_Ar M0 49 p3.toNatClampNeg).toInt ∧ 0 ≤ p5.toInt ∧ 0 ≤ p2.toInt ∧ 0 ≤ p4.toInt ∧ p2.toInt ≤ (z_Ar M0 50 p1.toNatClampNeg).toInt - p5.toInt ∧ p4.toInt ≤ (z_Ar M0 50 p3.toNatClampNeg).toInt - p5.toInt → b6.toInt ≤ p5.toInt → (∀ k : Nat, (k : Int) < p5.toInt → z_Lg M 52 k = z_Lg M0 51 ((60 * p1.toInt.toNat + p2.toInt.toNat) + k)) → z_Lg M 51 = z_cpy (z_Lg M0 51) (z_Lg M0 51) (60 * p1.toInt.toNat + p2.toInt.toNat) (60 * p3.toInt.toNat + p4.toInt.toNat) b6.toInt.toNat → ((0) * 3 + 0) * 61 + (60 - b6.toInt) < (n : Int) → z_ev (d + 2) 290 150 [some (.ref 19), some (.int p1), some (.int p2), some (.int p3), some (.int p4), some (.int p5), some (.int b6)] [] M K) := by
  intro n
  induction n with
  | zero => exact ⟨(by intros; exfalso; omega), (by intros; exfalso; omega)⟩
  | succ n ih =>
    refine ⟨?_, ?_⟩
    · skip
      intro M b6 X hh0 hh1 hh2 hh3 hh4 hh5 hh6 hh7 hh8 hh9 hh10 hk1 hk2 hE
      refine z_xP zt290 60 117 [some (.ref 19), some (.int p1), some (.int p2), some (.int p3), some (.int p4), some (.int p5), some (.int b6)] [.int p5, .int b6] rfl rfl ?_
      have h1 := z_b32 p5
      refine z_xJ zt290 61 rfl rfl (fun (h2 : p5.toInt ≤ b6.toInt) => ?_) (fun (h2 : b6.toInt < p5.toInt) => ?_)
      · skip
        refine z_xP zt290 76 150 [some (.ref 19), some (.int p1), some (.int p2), some (.int p3), some (.int p4), some (.int p5), some (.int 0)] [] rfl rfl ?_
        have q0 : ((0 : Int32)).toInt = 0 := rfl
        exact ih.2 M (0) X ⟨by omega, by omega⟩ ⟨by omega, by omega⟩ ⟨by omega, by omega⟩ ⟨by omega, by omega⟩ ⟨by omega, by omega⟩ (by decide) (by omega) (by omega) (by omega) (by omega) (fun k hk => hk2 k (by omega)) (hk1.trans (z_cpy0 (by omega))) (by omega)
      refine z_xP zt290 62 121 [some (.ref 19), some (.int p1), some (.int p2), some (.int p3), some (.int p4), some (.int p5), some (.int b6)] [.ref 19] rfl rfl ?_
      have f19 : T[19]? = some (.inl (12, 0, 0, 0, 0)) := X.1.k rfl (by decide)
      refine z_xgX (b := 52) zt290 63 rfl zo290 zzf12_107 X f19 (by decide) (by decide) rfl ?_
      refine z_xP zt290 64 127 [some (.ref 19), some (.int p1), some (.int p2), some (.int p3), some (.int p4), some (.int p5), some (.int b6)] [.ref 19, .int b6, .ref 52] rfl rfl ?_
      refine z_xgX (b := 51) zt290 65 rfl zo290 zzf12_103 X f19 (by decide) (by decide) rfl ?_
      refine z_xP zt290 66 133 [some (.ref 19), some (.int p1), some (.int p2), some (.int p3), some (.int p4), some (.int p5), some (.int b6)] [.int p1, .int 60, .ref 51, .int b6, .ref 52] rfl rfl ?_
      refine z_xI zt290 67 rfl rfl (fun (x3 : Int32) (h4 : x3.toInt = 60 * p1.toInt) => ?_) (z_pMul rfl rfl (by omega) (by omega))
      refine z_xP zt290 68 135 [some (.ref 19), some (.int p1), some (.int p2), some (.int p3), some (.int p4), some (.int p5), some (.int b6)] [.int p2, .int x3, .ref 51, .int b6, .ref 52] rfl rfl ?_
      refine z_xI zt290 69 rfl rfl (fun (x5 : Int32) (h6 : x5.toInt = x3.toInt + p2.toInt) => ?_) (z_pAdd rfl rfl (by omega) (by omega))
      refine z_xP zt290 70 138 [some (.ref 19), some (.int p1), some (.int p2), some (.int p3), some (.int p4), some (.int p5), some (.int b6)] [.int b6, .int x5, .ref 51, .int b6, .ref 52] rfl rfl ?_
      refine z_xI zt290 71 rfl rfl (fun (x7 : Int32) (h8 : x7.toInt = x5.toInt + b6.toInt) => ?_) (z_pAdd rfl rfl (by omega) (by omega))
      have f51 : T[51]? = some (.inr (51, 1, 360, 0, 0)) := X.1.k rfl (by decide)
      refine z_xllv zt290 72 rfl X f51 (by decide) (by omega) (by omega) (fun (y9 : Int64) h10 => ?_)
      have f52 : T[52]? = some (.inr (52, 1, 60, 0, 0)) := X.1.k rfl (by decide)
      refine z_xlsv zt290 73 rfl X f52 (by decide) (by decide) (by omega) (by omega) (by decide) (fun M11 X12 e13 h14 => ?_)
      refine z_xN zt290 74 rfl rfl (fun (x15 : Int32) (h16 : x15.toInt = b6.toInt + 1) => ?_) (z_pAdd rfl rfl (by omega) (by omega))
      show z_ev (d + 2) 290 144 [some (.ref 19), some (.int p1), some (.int p2), some (.int p3), some (.int p4), some (.int p5), some (.int x15)] [] M11 _
      refine z_xP zt290 75 113 [some (.ref 19), some (.int p1), some (.int p2), some (.int p3), some (.int p4), some (.int p5), some (.int x15)] [] rfl rfl ?_
      exact ih.1 M11 x15 X12 ⟨by omega, by omega⟩ ⟨by omega, by omega⟩ ⟨by omega, by omega⟩ ⟨by omega, by omega⟩ ⟨by omega, by omega⟩ ⟨by omega, by omega⟩ (by omega) (by omega) (by omega) (by omega) (by omega) ((e13.lg f51 (by decide)).trans hk1) (z_cars hk2 hk1 h14 h10 (by unfold Int32.toNatClampNeg <;> omega) (by unfold Int32.toNatClampNeg <;> omega) ⟨by omega, by omega⟩) (by omega)
    · skip
      intro M b6 X hh0 hh1 hh2 hh3 hh4 hh5 hh6 hh7 hh8 hh9 hk2 hk3 hE
      refine z_xP zt290 77 154 [some (.ref 19), some (.int p1), some (.int p2), some (.int p3), some (.int p4), some (.int p5), some (.int b6)] [.int p5, .int b6] rfl rfl ?_
      refine z_xJ zt290 78 rfl rfl (fun (h1 : p5.toInt ≤ b6.toInt) => ?_) (fun (h1 : b6.toInt < p5.toInt) => ?_)
      · skip
        refine z_xP zt290 94 187 [some (.ref 19), some (.int p1), some (.int p2), some (.int p3), some (.int p4), some (.int p5), some (.int b6)] [.int p5] rfl rfl ?_
        exact z_xri zt290 95 rfl zzr290 (kk p5 M X (by omega) (by omega) (by omega) (fun _ => hk3.trans (z_cpyc rfl rfl rfl (by omega))) (fun hx => absurd hx (by omega)))
      refine z_xP zt290 79 158 [some (.ref 19), some (.int p1), some (.int p2), some (.int p3), some (.int p4), some (.int p5), some (.int b6)] [.ref 19] rfl rfl ?_
      have f19 : T[19]? = some (.inl (12, 0, 0, 0, 0)) := X.1.k rfl (by decide)
      refine z_xgX (b := 51) zt290 80 rfl zo290 zzf12_103 X f19 (by decide) (by decide) rfl ?_
      refine z_xP zt290 81 164 [some (.ref 19), some (.int p1), some (.int p2), some (.int p3), some (.int p4), some (.int p5), some (.int b6)] [.int p3, .int 60, .ref 51] rfl rfl ?_
      refine z_xI zt290 82 rfl rfl (fun (x2 : Int32) (h3 : x2.toInt = 60 * p3.toInt) => ?_) (z_pMul rfl rfl (by omega) (by omega))
      refine z_xP zt290 83 167 [some (.ref 19), some (.int p1), some (.int p2), some (.int p3), some (.int p4), some (.int p5), some (.int b6)] [.int p4, .int x2, .ref 51] rfl rfl ?_
      refine z_xI zt290 84 rfl rfl (fun (x4 : Int32) (h5 : x4.toInt = x2.toInt + p4.toInt) => ?_) (z_pAdd rfl rfl (by omega) (by omega))
      refine z_xP zt290 85 170 [some (.ref 19), some (.int p1), some (.int p2), some (.int p3), some (.int p4), some (.int p5), some (.int b6)] [.int b6, .int x4, .ref 51] rfl rfl ?_
      refine z_xI zt290 86 rfl rfl (fun (x6 : Int32) (h7 : x6.toInt = x4.toInt + b6.toInt) => ?_) (z_pAdd rfl rfl (by omega) (by omega))
      refine z_xP zt290 87 172 [some (.ref 19), some (.int p1), some (.int p2), some (.int p3), some (.int p4), some (.int p5), some (.int b6)] [.ref 19, .int x6, .ref 51] rfl rfl ?_
      refine z_xgX (b := 52) zt290 88 rfl zo290 zzf12_107 X f19 (by decide) (by decide) rfl ?_
      refine z_xP zt290 89 177 [some (.ref 19), some (.int p1), some (.int p2), some (.int p3), some (.int p4), some (.int p5), some (.int b6)] [.int b6, .ref 52, .int x6, .ref 51] rfl rfl ?_
      have f52 : T[52]? = some (.inr (52, 1, 60, 0, 0)) := X.1.k rfl (by decide)
      refine z_xllv zt290 90 rfl X f52 (by decide) (by omega) (by omega) (fun (y8 : Int64) h9 => ?_)
      have f51 : T[51]? = some (.inr (51, 1, 360, 0, 0)) := X.1.k rfl (by decide)
      refine z_xlsv zt290 91 rfl X f51 (by decide) (by decide) (by omega) (by omega) (by decide) (fun M10 X11 e12 h13 => ?_)
      refine z_xN zt290 92 rfl rfl (fun (x14 : Int32) (h15 : x14.toInt = b6.toInt + 1) => ?_) (z_pAdd rfl rfl (by omega) (by omega))
      show z_ev (d + 2) 290 182 [some (.ref 19), some (.int p1), some (.int p2), some (.int p3), some (.int p4), some (.int p5), some (.int x14)] [] M10 _
      refine z_xP zt290 93 150 [some (.ref 19), some (.int p1), some (.int p2), some (.int p3), some (.int p4), some (.int p5), some (.int x14)] [] rfl rfl ?_
      exact ih.2 M10 x14 X11 ⟨by omega, by omega⟩ ⟨by omega, by omega⟩ ⟨by omega, by omega⟩ ⟨by omega, by omega⟩ ⟨by omega, by omega⟩ ⟨by omega, by omega⟩ (by omega) (by omega) (by omega) (by omega) (fun k hk => (congrFun (e12.lg f52 (by decide)) k).trans (hk2 k hk)) (z_cpys hk3 h13 (by unfold Int32.toNatClampNeg <;> omega) (h9.symm.trans (hk2 _ (by unfold Int32.toNatClampNeg <;> omega))) (by omega)) (by omega)
theorem zRC290 {T : List zK} {d : Nat} {K : Option Value → zH → Prop} {p1 : Int32} {p2 : Int32} {p3 : Int32} {p4 : Int32} {p5 : Int32} {M0 : zH} (hW : z_W M0 T)  (kk : ∀ (x : Int32) (M1 : zH), z_X T zw290 M0 M1 → (-13) ≤ x.toInt → x.toInt ≤ 60 → ((x.toInt = -1 ∧ (p1.toInt < 0 ∨ 5 < p1.toInt ∨ p3.toInt < 0 ∨ 5 < p3.toInt)) ∨ (0 ≤ p1.toInt ∧ p1.toInt ≤ 5 ∧ 0 ≤ p3.toInt ∧ p3.toInt ≤ 5 ∧ ((x.toInt = -11 ∧ ((z_Ar M0 49 p1.toNatClampNeg).toInt < 0 ∨ (z_Ar M0 49 p3.toNatClampNeg).toInt < 0)) ∨ (0 ≤ (z_Ar M0 49 p1.toNatClampNeg).toInt ∧ 0 ≤ (z_Ar M0 49 p3.toNatClampNeg).toInt ∧ ((x.toInt = -12 ∧ ((z_Ar M0 49 p1.toNatClampNeg).toInt < 20 ∨ (z_Ar M0 49 p1.toNatClampNeg).toInt ≠ (z_Ar M0 49 p3.toNatClampNeg).toInt)) ∨ (20 ≤ (z_Ar M0 49 p1.toNatClampNeg).toInt ∧ (z_Ar M0 49 p1.toNatClampNeg).toInt = (z_Ar M0 49 p3.toNatClampNeg).toInt ∧ ((x.toInt = -13 ∧ (p5.toInt < 0 ∨ p2.toInt < 0 ∨ p4.toInt < 0 ∨ (z_Ar M0 50 p1.toNatClampNeg).toInt - p5.toInt < p2.toInt ∨ (z_Ar M0 50 p3.toNatClampNeg).toInt - p5.toInt < p4.toInt)) ∨ (x.toInt = p5.toInt ∧ 0 ≤ p5.toInt ∧ 0 ≤ p2.toInt ∧ 0 ≤ p4.toInt ∧ p2.toInt ≤ (z_Ar M0 50 p1.toNatClampNeg).toInt - p5.toInt ∧ p4.toInt ≤ (z_Ar M0 50 p3.toNatClampNeg).toInt - p5.toInt)))))))) → (0 ≤ x.toInt → z_Lg M1 51 = z_cpy (z_Lg M0 51) (z_Lg M0 51) (60 * p1.toInt.toNat + p2.toInt.toNat) (60 * p3.toInt.toNat + p4.toInt.toNat) p5.toInt.toNat) → (x.toInt < 0 → z_Lg M1 51 = z_Lg M0 51) → K (some (.int x)) M1) : z_ev (d + 2) 290 0 [some (.ref 19), some (.int p1), some (.int p2), some (.int p3), some (.int p4), some (.int p5), none] [] M0 K := by
  have X : z_X T zw290 M0 M0 := .refl hW
  refine z_xP zt290 0 1 [some (.ref 19), some (.int p1), some (.int p2), some (.int p3), some (.int p4), some (.int p5), none] [.int p1] rfl rfl ?_
  refine z_xcS (vs := [.int p1]) (r := []) (L2 := [some (.int p1)]) zt290 1 rfl zo290 zzcS12_237 (Or.inl rfl) (Nat.le_of_ble_eq_true rfl) rfl rfl (Nat.le_of_ble_eq_true rfl) zzm225 (Nat.le_of_ble_eq_true rfl) rfl ?_
  refine z_xP zt225 0 1 [some (.int p1)] [.int p1] rfl rfl ?_
  have h1 := z_b32 p1
  refine z_xL zt225 1 rfl rfl (fun (y2 : Int64) (h3 : y2.toInt = p1.toInt) => ?_) (z_qI2L rfl)
  refine z_xP zt225 2 3 [some (.int p1)] [.long 0, .long y2] rfl rfl ?_
  refine z_xl2 zt225 3 rfl zo225 zkl12_318 ?_
  refine z_xcS (vs := [.long y2, .long 0, .long 5]) (r := []) (L2 := [some (.long y2), none, some (.long 0), none, some (.long 5), none]) zt225 4 rfl zo225 zzcS12_116 (Or.inl rfl) (Nat.le_of_ble_eq_true rfl) rfl rfl (Nat.le_of_ble_eq_true rfl) zzm189 (Nat.le_of_ble_eq_true rfl) rfl ?_
  refine z_xP zt189 0 2 [some (.long y2), none, some (.long 0), none, some (.long 5), none] [.long 0, .long y2] rfl rfl ?_
  refine z_xI zt189 1 rfl rfl (fun (x4 : Int32) (h5 : (x4.toInt < 0 ∧ y2.toInt < 0) ∨ (x4.toInt = 0 ∧ y2.toInt = 0) ∨ (0 < x4.toInt ∧ 0 < y2.toInt)) => ?_) (z_qCmp rfl rfl)
  refine z_xZ zt189 2 rfl rfl (fun (h6 : x4.toInt < 0) => ?_) (fun (h6 : 0 ≤ x4.toInt) => ?_)
  · skip
    refine z_xP zt189 7 18 [some (.long y2), none, some (.long 0), none, some (.long 5), none] [.int 0] rfl rfl ?_
    refine z_xrz zt189 8 rfl zzr189 (by decide) (by decide) ?_
    show z_ev (d + 1) 225 9 [some (.int p1)] [.int 0] M0 _
    refine z_xrz zt225 5 rfl zzr225 (by decide) (by decide) ?_
    show z_ev (d + 2) 290 4 [some (.ref 19), some (.int p1), some (.int p2), some (.int p3), some (.int p4), some (.int p5), none] [.int 0] M0 _
    refine z_xZ zt290 2 rfl rfl (fun (h7 : (0 : Int) = 0) => ?_) (fun (h7 : (0 : Int) ≠ 0) => absurd h7 (by omega))
    refine z_xP zt290 6 15 [some (.ref 19), some (.int p1), some (.int p2), some (.int p3), some (.int p4), some (.int p5), none] [.int (-1)] rfl rfl ?_
    have qm1 : (((-1) : Int32)).toInt = (-1) := rfl
    have qm1 : (((-1) : Int32)).toInt = (-1) := rfl
    have qm1 : (((-1) : Int32)).toInt = (-1) := rfl
    have qm1 : (((-1) : Int32)).toInt = (-1) := rfl
    exact z_xri zt290 7 rfl zzr290 (kk (-1) M0 X (by omega) (by omega) (by omega) (fun hx => absurd hx (by omega)) (fun _ => rfl))
  refine z_xP zt189 3 9 [some (.long y2), none, some (.long 0), none, some (.long 5), none] [.long 5, .long y2] rfl rfl ?_
  refine z_xI zt189 4 rfl rfl (fun (x8 : Int32) (h9 : (x8.toInt < 0 ∧ y2.toInt < 5) ∨ (x8.toInt = 0 ∧ y2.toInt = 5) ∨ (0 < x8.toInt ∧ 5 < y2.toInt)) => ?_) (z_qCmp rfl rfl)
  refine z_xZ zt189 5 rfl rfl (fun (h10 : 0 < x8.toInt) => ?_) (fun (h10 : x8.toInt ≤ 0) => ?_)
  · skip
    refine z_xP zt189 7 18 [some (.long y2), none, some (.long 0), none, some (.long 5), none] [.int 0] rfl rfl ?_
    refine z_xrz zt189 8 rfl zzr189 (by decide) (by decide) ?_
    show z_ev (d + 1) 225 9 [some (.int p1)] [.int 0] M0 _
    refine z_xrz zt225 5 rfl zzr225 (by decide) (by decide) ?_
    show z_ev (d + 2) 290 4 [some (.ref 19), some (.int p1), some (.int p2), some (.int p3), some (.int p4), some (.int p5), none] [.int 0] M0 _
    refine z_xZ zt290 2 rfl rfl (fun (h11 : (0 : Int) = 0) => ?_) (fun (h11 : (0 : Int) ≠ 0) => absurd h11 (by omega))
    refine z_xP zt290 6 15 [some (.ref 19), some (.int p1), some (.int p2), some (.int p3), some (.int p4), some (.int p5), none] [.int (-1)] rfl rfl ?_
    have qm1 : (((-1) : Int32)).toInt = (-1) := rfl
    have qm1 : (((-1) : Int32)).toInt = (-1) := rfl
    have qm1 : (((-1) : Int32)).toInt = (-1) := rfl
    have qm1 : (((-1) : Int32)).toInt = (-1) := rfl
    exact z_xri zt290 7 rfl zzr290 (kk (-1) M0 X (by omega) (by omega) (by omega) (fun hx => absurd hx (by omega)) (fun _ => rfl))
  refine z_xP zt189 6 18 [some (.long y2), none, some (.long 0), none, some (.long 5), none] [.int 1] rfl rfl ?_
  refine z_xrz zt189 8 rfl zzr189 (by decide) (by decide) ?_
  show z_ev (d + 1) 225 9 [some (.int p1)] [.int 1] M0 _
  refine z_xrz zt225 5 rfl zzr225 (by decide) (by decide) ?_
  show z_ev (d + 2) 290 4 [some (.ref 19), some (.int p1), some (.int p2), some (.int p3), some (.int p4), some (.int p5), none] [.int 1] M0 _
  refine z_xZ zt290 2 rfl rfl (fun (h12 : (1 : Int) = 0) => absurd h12 (by omega)) (fun (h12 : (1 : Int) ≠ 0) => ?_)
  refine z_xP zt290 3 8 [some (.ref 19), some (.int p1), some (.int p2), some (.int p3), some (.int p4), some (.int p5), none] [.int p3] rfl rfl ?_
  refine z_xcS (vs := [.int p3]) (r := []) (L2 := [some (.int p3)]) zt290 4 rfl zo290 zzcS12_237 (Or.inl rfl) (Nat.le_of_ble_eq_true rfl) rfl rfl (Nat.le_of_ble_eq_true rfl) zzm225 (Nat.le_of_ble_eq_true rfl) rfl ?_
  refine z_xP zt225 0 1 [some (.int p3)] [.int p3] rfl rfl ?_
  have h13 := z_b32 p3
  refine z_xL zt225 1 rfl rfl (fun (y14 : Int64) (h15 : y14.toInt = p3.toInt) => ?_) (z_qI2L rfl)
  refine z_xP zt225 2 3 [some (.int p3)] [.long 0, .long y14] rfl rfl ?_
  refine z_xl2 zt225 3 rfl zo225 zkl12_318 ?_
  refine z_xcS (vs := [.long y14, .long 0, .long 5]) (r := []) (L2 := [some (.long y14), none, some (.long 0), none, some (.long 5), none]) zt225 4 rfl zo225 zzcS12_116 (Or.inl rfl) (Nat.le_of_ble_eq_true rfl) rfl rfl (Nat.le_of_ble_eq_true rfl) zzm189 (Nat.le_of_ble_eq_true rfl) rfl ?_
  refine z_xP zt189 0 2 [some (.long y14), none, some (.long 0), none, some (.long 5), none] [.long 0, .long y14] rfl rfl ?_
  refine z_xI zt189 1 rfl rfl (fun (x16 : Int32) (h17 : (x16.toInt < 0 ∧ y14.toInt < 0) ∨ (x16.toInt = 0 ∧ y14.toInt = 0) ∨ (0 < x16.toInt ∧ 0 < y14.toInt)) => ?_) (z_qCmp rfl rfl)
  refine z_xZ zt189 2 rfl rfl (fun (h18 : x16.toInt < 0) => ?_) (fun (h18 : 0 ≤ x16.toInt) => ?_)
  · skip
    refine z_xP zt189 7 18 [some (.long y14), none, some (.long 0), none, some (.long 5), none] [.int 0] rfl rfl ?_
    refine z_xrz zt189 8 rfl zzr189 (by decide) (by decide) ?_
    show z_ev (d + 1) 225 9 [some (.int p3)] [.int 0] M0 _
    refine z_xrz zt225 5 rfl zzr225 (by decide) (by decide) ?_
    show z_ev (d + 2) 290 11 [some (.ref 19), some (.int p1), some (.int p2), some (.int p3), some (.int p4), some (.int p5), none] [.int 0] M0 _
    refine z_xZ zt290 5 rfl rfl (fun (h19 : (0 : Int) ≠ 0) => absurd h19 (by omega)) (fun (h19 : (0 : Int) = 0) => ?_)
    refine z_xP zt290 6 15 [some (.ref 19), some (.int p1), some (.int p2), some (.int p3), some (.int p4), some (.int p5), none] [.int (-1)] rfl rfl ?_
    have qm1 : (((-1) : Int32)).toInt = (-1) := rfl
    have qm1 : (((-1) : Int32)).toInt = (-1) := rfl
    have qm1 : (((-1) : Int32)).toInt = (-1) := rfl
    have qm1 : (((-1) : Int32)).toInt = (-1) := rfl
    exact z_xri zt290 7 rfl zzr290 (kk (-1) M0 X (by omega) (by omega) (by omega) (fun hx => absurd hx (by omega)) (fun _ => rfl))
  refine z_xP zt189 3 9 [some (.long y14), none, some (.long 0), none, some (.long 5), none] [.long 5, .long y14] rfl rfl ?_
  refine z_xI zt189 4 rfl rfl (fun (x20 : Int32) (h21 : (x20.toInt < 0 ∧ y14.toInt < 5) ∨ (x20.toInt = 0 ∧ y14.toInt = 5) ∨ (0 < x20.toInt ∧ 5 < y14.toInt)) => ?_) (z_qCmp rfl rfl)
  refine z_xZ zt189 5 rfl rfl (fun (h22 : 0 < x20.toInt) => ?_) (fun (h22 : x20.toInt ≤ 0) => ?_)
  · skip
    refine z_xP zt189 7 18 [some (.long y14), none, some (.long 0), none, some (.long 5), none] [.int 0] rfl rfl ?_
    refine z_xrz zt189 8 rfl zzr189 (by decide) (by decide) ?_
    show z_ev (d + 1) 225 9 [some (.int p3)] [.int 0] M0 _
    refine z_xrz zt225 5 rfl zzr225 (by decide) (by decide) ?_
    show z_ev (d + 2) 290 11 [some (.ref 19), some (.int p1), some (.int p2), some (.int p3), some (.int p4), some (.int p5), none] [.int 0] M0 _
    refine z_xZ zt290 5 rfl rfl (fun (h23 : (0 : Int) ≠ 0) => absurd h23 (by omega)) (fun (h23 : (0 : Int) = 0) => ?_)
    refine z_xP zt290 6 15 [some (.ref 19), some (.int p1), some (.int p2), some (.int p3), some (.int p4), some (.int p5), none] [.int (-1)] rfl rfl ?_
    have qm1 : (((-1) : Int32)).toInt = (-1) := rfl
    have qm1 : (((-1) : Int32)).toInt = (-1) := rfl
    have qm1 : (((-1) : Int32)).toInt = (-1) := rfl
    have qm1 : (((-1) : Int32)).toInt = (-1) := rfl
    exact z_xri zt290 7 rfl zzr290 (kk (-1) M0 X (by omega) (by omega) (by omega) (fun hx => absurd hx (by omega)) (fun _ => rfl))
  refine z_xP zt189 6 18 [some (.long y14), none, some (.long 0), none, some (.long 5), none] [.int 1] rfl rfl ?_
  refine z_xrz zt189 8 rfl zzr189 (by decide) (by decide) ?_
  show z_ev (d + 1) 225 9 [some (.int p3)] [.int 1] M0 _
  refine z_xrz zt225 5 rfl zzr225 (by decide) (by decide) ?_
  show z_ev (d + 2) 290 11 [some (.ref 19), some (.int p1), some (.int p2), some (.int p3), some (.int p4), some (.int p5), none] [.int 1] M0 _
  refine z_xZ zt290 5 rfl rfl (fun (h24 : (1 : Int) ≠ 0) => ?_) (fun (h24 : (1 : Int) = 0) => absurd h24 (by omega))
  refine z_xP zt290 8 17 [some (.ref 19), some (.int p1), some (.int p2), some (.int p3), some (.int p4), some (.int p5), none] [.ref 19] rfl rfl ?_
  have f19 : T[19]? = some (.inl (12, 0, 0, 0, 0)) := X.1.k rfl (by decide)
  refine z_xgX (b := 49) zt290 9 rfl zo290 zzf12_97 X f19 (by decide) (by decide) rfl ?_
  refine z_xP zt290 10 21 [some (.ref 19), some (.int p1), some (.int p2), some (.int p3), some (.int p4), some (.int p5), none] [.int p1, .ref 49] rfl rfl ?_
  have f49 : T[49]? = some (.inr (49, 0, 6, (-1), 24)) := X.1.k rfl (by decide)
  refine z_xil zt290 11 rfl X f49 (by decide) (by omega) (by omega) (fun (x25 : Int32) h26 (h27 : (-1) ≤ x25.toInt) (h28 : x25.toInt ≤ 24) => ?_)
  have h29 : (z_Ar M0 49 (p1).toNatClampNeg).toInt = x25.toInt := congrArg Int32.toInt (h26)
  refine z_xZ zt290 12 rfl rfl (fun (h30 : x25.toInt < 0) => ?_) (fun (h30 : 0 ≤ x25.toInt) => ?_)
  · skip
    refine z_xP zt290 18 36 [some (.ref 19), some (.int p1), some (.int p2), some (.int p3), some (.int p4), some (.int p5), none] [.int (-11)] rfl rfl ?_
    have qm11 : (((-11) : Int32)).toInt = (-11) := rfl
    have qm11 : (((-11) : Int32)).toInt = (-11) := rfl
    have qm11 : (((-11) : Int32)).toInt = (-11) := rfl
    have qm11 : (((-11) : Int32)).toInt = (-11) := rfl
    exact z_xri zt290 19 rfl zzr290 (kk (-11) M0 X (by omega) (by omega) (by omega) (fun hx => absurd hx (by omega)) (fun _ => rfl))
  refine z_xP zt290 13 26 [some (.ref 19), some (.int p1), some (.int p2), some (.int p3), some (.int p4), some (.int p5), none] [.ref 19] rfl rfl ?_
  refine z_xgX (b := 49) zt290 14 rfl zo290 zzf12_97 X f19 (by decide) (by decide) rfl ?_
  refine z_xP zt290 15 30 [some (.ref 19), some (.int p1), some (.int p2), some (.int p3), some (.int p4), some (.int p5), none] [.int p3, .ref 49] rfl rfl ?_
  refine z_xil zt290 16 rfl X f49 (by decide) (by omega) (by omega) (fun (x31 : Int32) h32 (h33 : (-1) ≤ x31.toInt) (h34 : x31.toInt ≤ 24) => ?_)
  have h35 : (z_Ar M0 49 (p3).toNatClampNeg).toInt = x31.toInt := congrArg Int32.toInt (h32)
  refine z_xZ zt290 17 rfl rfl (fun (h36 : 0 ≤ x31.toInt) => ?_) (fun (h36 : x31.toInt < 0) => ?_)
  · skip
    refine z_xP zt290 20 38 [some (.ref 19), some (.int p1), some (.int p2), some (.int p3), some (.int p4), some (.int p5), none] [.ref 19] rfl rfl ?_
    refine z_xgX (b := 49) zt290 21 rfl zo290 zzf12_97 X f19 (by decide) (by decide) rfl ?_
    refine z_xP zt290 22 42 [some (.ref 19), some (.int p1), some (.int p2), some (.int p3), some (.int p4), some (.int p5), none] [.int p1, .ref 49] rfl rfl ?_
    refine z_xil zt290 23 rfl X f49 (by decide) (by omega) (by omega) (fun (x37 : Int32) h38 (h39 : (-1) ≤ x37.toInt) (h40 : x37.toInt ≤ 24) => ?_)
    have h41 := congrArg Int32.toInt (h38.symm.trans h26)
    have h42 : (z_Ar M0 49 (p1).toNatClampNeg).toInt = x37.toInt := congrArg Int32.toInt (h38)
    refine z_xP zt290 24 45 [some (.ref 19), some (.int p1), some (.int p2), some (.int p3), some (.int p4), some (.int p5), none] [.int 20, .int x37] rfl rfl ?_
    refine z_xJ zt290 25 rfl rfl (fun (h43 : x37.toInt < 20) => ?_) (fun (h43 : 20 ≤ x37.toInt) => ?_)
    · skip
      refine z_xP zt290 35 65 [some (.ref 19), some (.int p1), some (.int p2), some (.int p3), some (.int p4), some (.int p5), none] [.int (-12)] rfl rfl ?_
      have qm12 : (((-12) : Int32)).toInt = (-12) := rfl
      have qm12 : (((-12) : Int32)).toInt = (-12) := rfl
      have qm12 : (((-12) : Int32)).toInt = (-12) := rfl
      have qm12 : (((-12) : Int32)).toInt = (-12) := rfl
      exact z_xri zt290 36 rfl zzr290 (kk (-12) M0 X (by omega) (by omega) (by omega) (fun hx => absurd hx (by omega)) (fun _ => rfl))
    refine z_xP zt290 26 49 [some (.ref 19), some (.int p1), some (.int p2), some (.int p3), some (.int p4), some (.int p5), none] [.ref 19] rfl rfl ?_
    refine z_xgX (b := 49) zt290 27 rfl zo290 zzf12_97 X f19 (by decide) (by decide) rfl ?_
    refine z_xP zt290 28 53 [some (.ref 19), some (.int p1), some (.int p2), some (.int p3), some (.int p4), some (.int p5), none] [.int p1, .ref 49] rfl rfl ?_
    refine z_xil zt290 29 rfl X f49 (by decide) (by omega) (by omega) (fun (x44 : Int32) h45 (h46 : (-1) ≤ x44.toInt) (h47 : x44.toInt ≤ 24) => ?_)
    have h48 := congrArg Int32.toInt (h45.symm.trans h26)
    have h49 : (z_Ar M0 49 (p1).toNatClampNeg).toInt = x44.toInt := congrArg Int32.toInt (h45)
    refine z_xP zt290 30 55 [some (.ref 19), some (.int p1), some (.int p2), some (.int p3), some (.int p4), some (.int p5), none] [.ref 19, .int x44] rfl rfl ?_
    refine z_xgX (b := 49) zt290 31 rfl zo290 zzf12_97 X f19 (by decide) (by decide) rfl ?_
    refine z_xP zt290 32 59 [some (.ref 19), some (.int p1), some (.int p2), some (.int p3), some (.int p4), some (.int p5), none] [.int p3, .ref 49, .int x44] rfl rfl ?_
    refine z_xil zt290 33 rfl X f49 (by decide) (by omega) (by omega) (fun (x50 : Int32) h51 (h52 : (-1) ≤ x50.toInt) (h53 : x50.toInt ≤ 24) => ?_)
    have h54 := congrArg Int32.toInt (h51.symm.trans h32)
    have h55 : (z_Ar M0 49 (p3).toNatClampNeg).toInt = x50.toInt := congrArg Int32.toInt (h51)
    refine z_xJ zt290 34 rfl rfl (fun (h56 : x44.toInt = x50.toInt) => ?_) (fun (h56 : x44.toInt ≠ x50.toInt) => ?_)
    · skip
      refine z_xP zt290 37 68 [some (.ref 19), some (.int p1), some (.int p2), some (.int p3), some (.int p4), some (.int p5), none] [.int p5] rfl rfl ?_
      refine z_xZ zt290 38 rfl rfl (fun (h57 : p5.toInt < 0) => ?_) (fun (h57 : 0 ≤ p5.toInt) => ?_)
      · skip
        refine z_xP zt290 57 109 [some (.ref 19), some (.int p1), some (.int p2), some (.int p3), some (.int p4), some (.int p5), none] [.int (-13)] rfl rfl ?_
        have qm13 : (((-13) : Int32)).toInt = (-13) := rfl
        have qm13 : (((-13) : Int32)).toInt = (-13) := rfl
        have qm13 : (((-13) : Int32)).toInt = (-13) := rfl
        have qm13 : (((-13) : Int32)).toInt = (-13) := rfl
        exact z_xri zt290 58 rfl zzr290 (kk (-13) M0 X (by omega) (by omega) (by omega) (fun hx => absurd hx (by omega)) (fun _ => rfl))
      refine z_xP zt290 39 72 [some (.ref 19), some (.int p1), some (.int p2), some (.int p3), some (.int p4), some (.int p5), none] [.int p2] rfl rfl ?_
      refine z_xZ zt290 40 rfl rfl (fun (h58 : p2.toInt < 0) => ?_) (fun (h58 : 0 ≤ p2.toInt) => ?_)
      · skip
        refine z_xP zt290 57 109 [some (.ref 19), some (.int p1), some (.int p2), some (.int p3), some (.int p4), some (.int p5), none] [.int (-13)] rfl rfl ?_
        have qm13 : (((-13) : Int32)).toInt = (-13) := rfl
        have qm13 : (((-13) : Int32)).toInt = (-13) := rfl
        have qm13 : (((-13) : Int32)).toInt = (-13) := rfl
        have qm13 : (((-13) : Int32)).toInt = (-13) := rfl
        exact z_xri zt290 58 rfl zzr290 (kk (-13) M0 X (by omega) (by omega) (by omega) (fun hx => absurd hx (by omega)) (fun _ => rfl))
      refine z_xP zt290 41 77 [some (.ref 19), some (.int p1), some (.int p2), some (.int p3), some (.int p4), some (.int p5), none] [.int p4] rfl rfl ?_
      refine z_xZ zt290 42 rfl rfl (fun (h59 : p4.toInt < 0) => ?_) (fun (h59 : 0 ≤ p4.toInt) => ?_)
      · skip
        refine z_xP zt290 57 109 [some (.ref 19), some (.int p1), some (.int p2), some (.int p3), some (.int p4), some (.int p5), none] [.int (-13)] rfl rfl ?_
        have qm13 : (((-13) : Int32)).toInt = (-13) := rfl
        have qm13 : (((-13) : Int32)).toInt = (-13) := rfl
        have qm13 : (((-13) : Int32)).toInt = (-13) := rfl
        have qm13 : (((-13) : Int32)).toInt = (-13) := rfl
        exact z_xri zt290 58 rfl zzr290 (kk (-13) M0 X (by omega) (by omega) (by omega) (fun hx => absurd hx (by omega)) (fun _ => rfl))
      refine z_xP zt290 43 82 [some (.ref 19), some (.int p1), some (.int p2), some (.int p3), some (.int p4), some (.int p5), none] [.ref 19, .int p2] rfl rfl ?_
      refine z_xgX (b := 50) zt290 44 rfl zo290 zzf12_100 X f19 (by decide) (by decide) rfl ?_
      refine z_xP zt290 45 86 [some (.ref 19), some (.int p1), some (.int p2), some (.int p3), some (.int p4), some (.int p5), none] [.int p1, .ref 50, .int p2] rfl rfl ?_
      have f50 : T[50]? = some (.inr (50, 0, 6, 0, 60)) := X.1.k rfl (by decide)
      refine z_xil zt290 46 rfl X f50 (by decide) (by omega) (by omega) (fun (x60 : Int32) h61 (h62 : 0 ≤ x60.toInt) (h63 : x60.toInt ≤ 60) => ?_)
      have h64 : (z_Ar M0 50 (p1).toNatClampNeg).toInt = x60.toInt := congrArg Int32.toInt (h61)
      refine z_xP zt290 47 89 [some (.ref 19), some (.int p1), some (.int p2), some (.int p3), some (.int p4), some (.int p5), none] [.int p5, .int x60, .int p2] rfl rfl ?_
      have h65 := z_b32 p5
      refine z_xI zt290 48 rfl rfl (fun (x66 : Int32) (h67 : x66.toInt = x60.toInt - p5.toInt) => ?_) (z_pSub rfl rfl (by omega) (by omega))
      have h68 := z_b32 p2
      refine z_xJ zt290 49 rfl rfl (fun (h69 : x66.toInt < p2.toInt) => ?_) (fun (h69 : p2.toInt ≤ x66.toInt) => ?_)
      · skip
        refine z_xP zt290 57 109 [some (.ref 19), some (.int p1), some (.int p2), some (.int p3), some (.int p4), some (.int p5), none] [.int (-13)] rfl rfl ?_
        have qm13 : (((-13) : Int32)).toInt = (-13) := rfl
        have qm13 : (((-13) : Int32)).toInt = (-13) := rfl
        have qm13 : (((-13) : Int32)).toInt = (-13) := rfl
        have qm13 : (((-13) : Int32)).toInt = (-13) := rfl
        exact z_xri zt290 58 rfl zzr290 (kk (-13) M0 X (by omega) (by omega) (by omega) (fun hx => absurd hx (by omega)) (fun _ => rfl))
      refine z_xP zt290 50 96 [some (.ref 19), some (.int p1), some (.int p2), some (.int p3), some (.int p4), some (.int p5), none] [.ref 19, .int p4] rfl rfl ?_
      refine z_xgX (b := 50) zt290 51 rfl zo290 zzf12_100 X f19 (by decide) (by decide) rfl ?_
      refine z_xP zt290 52 100 [some (.ref 19), some (.int p1), some (.int p2), some (.int p3), some (.int p4), some (.int p5), none] [.int p3, .ref 50, .int p4] rfl rfl ?_
      refine z_xil zt290 53 rfl X f50 (by decide) (by omega) (by omega) (fun (x70 : Int32) h71 (h72 : 0 ≤ x70.toInt) (h73 : x70.toInt ≤ 60) => ?_)
      have h74 : (z_Ar M0 50 (p3).toNatClampNeg).toInt = x70.toInt := congrArg Int32.toInt (h71)
      refine z_xP zt290 54 103 [some (.ref 19), some (.int p1), some (.int p2), some (.int p3), some (.int p4), some (.int p5), none] [.int p5, .int x70, .int p4] rfl rfl ?_
      refine z_xI zt290 55 rfl rfl (fun (x75 : Int32) (h76 : x75.toInt = x70.toInt - p5.toInt) => ?_) (z_pSub rfl rfl (by omega) (by omega))
      have h77 := z_b32 p4
      refine z_xJ zt290 56 rfl rfl (fun (h78 : p4.toInt ≤ x75.toInt) => ?_) (fun (h78 : x75.toInt < p4.toInt) => ?_)
      · skip
        refine z_xP zt290 59 113 [some (.ref 19), some (.int p1), some (.int p2), some (.int p3), some (.int p4), some (.int p5), some (.int 0)] [] rfl rfl ?_
        have q0 : ((0 : Int32)).toInt = 0 := rfl
        exact (zRB290 kk 183).1 M0 (0) X ⟨by omega, by omega⟩ ⟨by omega, by omega⟩ ⟨by omega, by omega⟩ ⟨by omega, by omega⟩ ⟨by omega, by omega⟩ (by decide) (by omega) (by omega) (by omega) (by omega) (by omega) rfl (fun k hk => absurd hk (by omega)) (by omega)
      refine z_xP zt290 57 109 [some (.ref 19), some (.int p1), some (.int p2), some (.int p3), some (.int p4), some (.int p5), none] [.int (-13)] rfl rfl ?_
      have qm13 : (((-13) : Int32)).toInt = (-13) := rfl
      have qm13 : (((-13) : Int32)).toInt = (-13) := rfl
      have qm13 : (((-13) : Int32)).toInt = (-13) := rfl
      have qm13 : (((-13) : Int32)).toInt = (-13) := rfl
      exact z_xri zt290 58 rfl zzr290 (kk (-13) M0 X (by omega) (by omega) (by omega) (fun hx => absurd hx (by omega)) (fun _ => rfl))
    refine z_xP zt290 35 65 [some (.ref 19), some (.int p1), some (.int p2), some (.int p3), some (.int p4), some (.int p5), none] [.int (-12)] rfl rfl ?_
    have qm12 : (((-12) : Int32)).toInt = (-12) := rfl
    have qm12 : (((-12) : Int32)).toInt = (-12) := rfl
    have qm12 : (((-12) : Int32)).toInt = (-12) := rfl
    have qm12 : (((-12) : Int32)).toInt = (-12) := rfl
    exact z_xri zt290 36 rfl zzr290 (kk (-12) M0 X (by omega) (by omega) (by omega) (fun hx => absurd hx (by omega)) (fun _ => rfl))
  refine z_xP zt290 18 36 [some (.ref 19), some (.int p1), some (.int p2), some (.int p3), some (.int p4), some (.int p5), none] [.int (-11)] rfl rfl ?_
  have qm11 : (((-11) : Int32)).toInt = (-11) := rfl
  have qm11 : (((-11) : Int32)).toInt = (-11) := rfl
  have qm11 : (((-11) : Int32)).toInt = (-11) := rfl
  have qm11 : (((-11) : Int32)).toInt = (-11) := rfl
  exact z_xri zt290 19 rfl zzr290 (kk (-11) M0 X (by omega) (by omega) (by omega) (fun hx => absurd hx (by omega)) (fun _ => rfl))
theorem zRC175 {T : List zK} {d : Nat} {K : Option Value → zH → Prop} {p1 : Int32} {p2 : Int32} {zp0 : Int32} {M0 : zH} (hW : z_W M0 T) (hz0 : z_F M0 4 5 = some (.int zp0)) (bz0 : 0 ≤ zp0.toInt ∧ zp0.toInt ≤ 20) (hG : z_GG T M0) (kk : ∀ (x : Int32) (M1 : zH), z_X T zw175 M0 M1 → (-1) ≤ x.toInt → x.toInt ≤ 1 → ((x.toInt = 1 ∧ 0 ≤ p1.toInt ∧ p1.toInt ≤ 5 ∧ (-1) ≤ p2.toInt ∧ p2.toInt < zp0.toInt) ∨ (x.toInt = -1 ∧ (p1.toInt < 0 ∨ 5 < p1.toInt ∨ p2.toInt < (-1) ∨ (zp0.toInt ≤ p2.toInt ∧ p2.toInt ≠ -1)))) → (x.toInt = 1 → ∃ v : Int32, ((p2.toInt = -1 ∧ v.toInt = -1) ∨ (p2.toInt ≠ -1 ∧ v.toInt = 5)) ∧ z_Ar M1 14 = upd (z_Ar M0 14) p1.toNatClampNeg v) → (x.toInt ≠ 1 → z_Ar M1 14 = z_Ar M0 14) → (x.toInt = 1 → ∃ o : Option Nat, ((p2.toInt = -1 ∧ o = none) ∨ (p2.toInt ≠ -1 ∧ o = z_O M0 12 p2.toNatClampNeg)) ∧ z_O M1 17 = z_updR (z_O M0 17) p1.toNatClampNeg o) → (x.toInt ≠ 1 → z_O M1 17 = z_O M0 17) → ∀ (w0 : Int32), z_F M1 4 5 = some (.int w0) → 0 ≤ w0.toInt ∧ w0.toInt ≤ 20 → w0.toInt = zp0.toInt → K (some (.int x)) M1) : z_ev (d + 1) 175 0 [some (.ref 4), some (.int p1), some (.int p2)] [] M0 K := by
  have X : z_X T zw175 M0 M0 := .refl hW
  refine z_xP zt175 0 1 [some (.ref 4), some (.int p1), some (.int p2)] [.int p1] rfl rfl ?_
  refine z_xcS (vs := [.int p1]) (r := []) (L2 := [some (.int p1)]) zt175 1 rfl zo175 zzcS0_148 (Or.inl rfl) (Nat.le_of_ble_eq_true rfl) rfl rfl (Nat.le_of_ble_eq_true rfl) zzm58 (Nat.le_of_ble_eq_true rfl) rfl ?_
  refine z_xP zt58 0 1 [some (.int p1)] [.int p1] rfl rfl ?_
  refine z_xZ zt58 1 rfl rfl (fun (h1 : p1.toInt < 0) => ?_) (fun (h1 : 0 ≤ p1.toInt) => ?_)
  · skip
    refine z_xP zt58 5 15 [some (.int p1)] [.int 0] rfl rfl ?_
    refine z_xrz zt58 6 rfl zzr58 (by decide) (by decide) ?_
    show z_ev (d + 1) 175 4 [some (.ref 4), some (.int p1), some (.int p2)] [.int 0] M0 _
    refine z_xZ zt175 2 rfl rfl (fun (h2 : (0 : Int) ≠ 0) => absurd h2 (by omega)) (fun (h2 : (0 : Int) = 0) => ?_)
    refine z_xP zt175 3 8 [some (.ref 4), some (.int p1), some (.int p2)] [.int (-1)] rfl rfl ?_
    have qm1 : (((-1) : Int32)).toInt = (-1) := rfl
    have qm1 : (((-1) : Int32)).toInt = (-1) := rfl
    have qm1 : (((-1) : Int32)).toInt = (-1) := rfl
    have qm1 : (((-1) : Int32)).toInt = (-1) := rfl
    have qm1 : (((-1) : Int32)).toInt = (-1) := rfl
    have f4 : T[4]? = some (.inl (0, 0, 0, 0, 0)) := X.1.k rfl (by decide)
    have qm1 : (((-1) : Int32)).toInt = (-1) := rfl
    exact z_xri zt175 4 rfl zzr175 (kk (-1) M0 X (by omega) (by omega) (by omega) (fun hx => absurd hx (by omega)) (fun _ => rfl) (fun hx => absurd hx (by omega)) (fun _ => rfl) zp0 hz0 ⟨by omega, by omega⟩ (by omega))
  refine z_xP zt58 2 7 [some (.int p1)] [.int 6, .int p1] rfl rfl ?_
  refine z_xJ zt58 3 rfl rfl (fun (h3 : 6 ≤ p1.toInt) => ?_) (fun (h3 : p1.toInt < 6) => ?_)
  · skip
    refine z_xP zt58 5 15 [some (.int p1)] [.int 0] rfl rfl ?_
    refine z_xrz zt58 6 rfl zzr58 (by decide) (by decide) ?_
    show z_ev (d + 1) 175 4 [some (.ref 4), some (.int p1), some (.int p2)] [.int 0] M0 _
    refine z_xZ zt175 2 rfl rfl (fun (h4 : (0 : Int) ≠ 0) => absurd h4 (by omega)) (fun (h4 : (0 : Int) = 0) => ?_)
    refine z_xP zt175 3 8 [some (.ref 4), some (.int p1), some (.int p2)] [.int (-1)] rfl rfl ?_
    have qm1 : (((-1) : Int32)).toInt = (-1) := rfl
    have qm1 : (((-1) : Int32)).toInt = (-1) := rfl
    have qm1 : (((-1) : Int32)).toInt = (-1) := rfl
    have qm1 : (((-1) : Int32)).toInt = (-1) := rfl
    have qm1 : (((-1) : Int32)).toInt = (-1) := rfl
    have f4 : T[4]? = some (.inl (0, 0, 0, 0, 0)) := X.1.k rfl (by decide)
    have qm1 : (((-1) : Int32)).toInt = (-1) := rfl
    exact z_xri zt175 4 rfl zzr175 (kk (-1) M0 X (by omega) (by omega) (by omega) (fun hx => absurd hx (by omega)) (fun _ => rfl) (fun hx => absurd hx (by omega)) (fun _ => rfl) zp0 hz0 ⟨by omega, by omega⟩ (by omega))
  refine z_xP zt58 4 15 [some (.int p1)] [.int 1] rfl rfl ?_
  refine z_xrz zt58 6 rfl zzr58 (by decide) (by decide) ?_
  show z_ev (d + 1) 175 4 [some (.ref 4), some (.int p1), some (.int p2)] [.int 1] M0 _
  refine z_xZ zt175 2 rfl rfl (fun (h5 : (1 : Int) ≠ 0) => ?_) (fun (h5 : (1 : Int) = 0) => absurd h5 (by omega))
  refine z_xP zt175 5 11 [some (.ref 4), some (.int p1), some (.int p2)] [.int (-1), .int p2] rfl rfl ?_
  refine z_xJ zt175 6 rfl rfl (fun (h6 : p2.toInt = (-1)) => ?_) (fun (h6 : p2.toInt ≠ (-1)) => ?_)
  · skip
    refine z_xP zt175 12 25 [some (.ref 4), some (.int p1), some (.int p2)] [.ref 4] rfl rfl ?_
    have f4 : T[4]? = some (.inl (0, 0, 0, 0, 0)) := X.1.k rfl (by decide)
    refine z_xgX (b := 17) zt175 13 rfl zo175 zzf0_45 X f4 (by decide) (by decide) rfl ?_
    refine z_xP zt175 14 31 [some (.ref 4), some (.int p1), some (.int p2)] [.int p2, .ref 4, .int p1, .ref 17] rfl rfl ?_
    refine z_xcV (vs := [.ref 4, .int p2]) (r := [.int p1, .ref 17]) (L2 := [some (.ref 4), some (.int p2)]) zt175 15 rfl zo175 zzcV0_221 (Or.inl rfl) rfl X f4 rfl rfl rfl (Nat.le_of_ble_eq_true rfl) zzm84 (Nat.le_of_ble_eq_true rfl) rfl ?_
    refine z_xP zt84 0 1 [some (.ref 4), some (.int p2)] [.int p2] rfl rfl ?_
    refine z_xZ zt84 1 rfl rfl (fun (h7 : p2.toInt < 0) => ?_) (fun (h7 : 0 ≤ p2.toInt) => absurd h7 (by omega))
    refine z_xP zt84 5 22 [some (.ref 4), some (.int p2)] [.null] rfl rfl ?_
    refine z_xrn zt84 10 rfl zzr84 ?_
    show z_ev (d + 1) 175 34 [some (.ref 4), some (.int p1), some (.int p2)] [.null, .int p1, .ref 17] M0 _
    have f17 : T[17]? = some (.inr (17, 3, 6, 0, 0)) := X.1.k rfl (by decide)
    refine z_xasN zt175 16 rfl X f17 (by decide) (by decide) (by omega) (by omega) (by decide) (by decide) (fun M8 X9 e10 h11 => ?_)
    have h12 := h11
    refine z_xP zt175 17 36 [some (.ref 4), some (.int p1), some (.int p2)] [.ref 4] rfl rfl ?_
    refine z_xgX (b := 14) zt175 18 rfl zo175 zzf0_35 X9 f4 (by decide) (by decide) rfl ?_
    refine z_xP zt175 19 42 [some (.ref 4), some (.int p1), some (.int p2)] [.int (-1), .int p2, .int p1, .ref 14] rfl rfl ?_
    refine z_xJ zt175 20 rfl rfl (fun (h13 : p2.toInt ≠ (-1)) => absurd h13 (by omega)) (fun (h13 : p2.toInt = (-1)) => ?_)
    refine z_xP zt175 21 50 [some (.ref 4), some (.int p1), some (.int p2)] [.int (-1), .int p1, .ref 14] rfl rfl ?_
    have f14 : T[14]? = some (.inr (14, 0, 6, (-1), 5)) := X9.1.k rfl (by decide)
    have qm1 : (((-1) : Int32)).toInt = (-1) := rfl
    refine z_xis zt175 23 rfl X9 f14 (by decide) (by decide) (by omega) (by omega) (by omega) (by omega) (by decide) (fun M14 X15 e16 h17 => ?_)
    have h18 := (h17).trans (congrArg (fun f => upd f (p1).toNatClampNeg ((-1))) (e10.a f14 (by decide)))
    refine z_xP zt175 24 52 [some (.ref 4), some (.int p1), some (.int p2)] [.int 1] rfl rfl ?_
    have q1 : ((1 : Int32)).toInt = 1 := rfl
    have q1 : ((1 : Int32)).toInt = 1 := rfl
    have qm1 : (((-1) : Int32)).toInt = (-1) := rfl
    have q1 : ((1 : Int32)).toInt = 1 := rfl
    have q1 : ((1 : Int32)).toInt = 1 := rfl
    have q1 : ((1 : Int32)).toInt = 1 := rfl
    have h19 := (e16.f f4 (by decide) (e10.f f4 (by decide) hz0))
    have q1 : ((1 : Int32)).toInt = 1 := rfl
    exact z_xri zt175 25 rfl zzr175 (kk 1 M14 X15 (by omega) (by omega) (by omega) (fun _ => ⟨_, by omega, h18⟩) (fun hx => absurd (by omega) hx) (fun _ => ⟨none, Or.inl ⟨by omega, rfl⟩, ((e16.o f17 (by decide)).trans h12)⟩) (fun hx => absurd (by omega) hx) zp0 h19 ⟨by omega, by omega⟩ (by omega))
  refine z_xP zt175 7 16 [some (.ref 4), some (.int p1), some (.int p2)] [.int p2, .ref 4] rfl rfl ?_
  have f4 : T[4]? = some (.inl (0, 0, 0, 0, 0)) := X.1.k rfl (by decide)
  refine z_xcV (vs := [.ref 4, .int p2]) (r := []) (L2 := [some (.ref 4), some (.int p2)]) zt175 8 rfl zo175 zzcV0_221 (Or.inl rfl) rfl X f4 rfl rfl rfl (Nat.le_of_ble_eq_true rfl) zzm84 (Nat.le_of_ble_eq_true rfl) rfl ?_
  refine z_xP zt84 0 1 [some (.ref 4), some (.int p2)] [.int p2] rfl rfl ?_
  refine z_xZ zt84 1 rfl rfl (fun (h20 : p2.toInt < 0) => ?_) (fun (h20 : 0 ≤ p2.toInt) => ?_)
  · skip
    refine z_xP zt84 5 22 [some (.ref 4), some (.int p2)] [.null] rfl rfl ?_
    refine z_xrn zt84 10 rfl zzr84 ?_
    show z_ev (d + 1) 175 19 [some (.ref 4), some (.int p1), some (.int p2)] [.null] M0 _
    refine z_xP zt175 9 22 [some (.ref 4), some (.int p1), some (.int p2)] [] rfl rfl ?_
    refine z_xP zt175 10 23 [some (.ref 4), some (.int p1), some (.int p2)] [.int (-1)] rfl rfl ?_
    have qm1 : (((-1) : Int32)).toInt = (-1) := rfl
    have qm1 : (((-1) : Int32)).toInt = (-1) := rfl
    have qm1 : (((-1) : Int32)).toInt = (-1) := rfl
    have qm1 : (((-1) : Int32)).toInt = (-1) := rfl
    have qm1 : (((-1) : Int32)).toInt = (-1) := rfl
    have qm1 : (((-1) : Int32)).toInt = (-1) := rfl
    exact z_xri zt175 11 rfl zzr175 (kk (-1) M0 X (by omega) (by omega) (by omega) (fun hx => absurd hx (by omega)) (fun _ => rfl) (fun hx => absurd hx (by omega)) (fun _ => rfl) zp0 hz0 ⟨by omega, by omega⟩ (by omega))
  refine z_xP zt84 2 6 [some (.ref 4), some (.int p2)] [.ref 4, .int p2] rfl rfl ?_
  refine z_xgv zt84 3 rfl zo84 zzf0_188 X f4 (by decide) hz0 ?_
  have h21 := z_b32 p2
  refine z_xJ zt84 4 rfl rfl (fun (h22 : p2.toInt < zp0.toInt) => ?_) (fun (h22 : zp0.toInt ≤ p2.toInt) => ?_)
  · skip
    refine z_xP zt84 6 17 [some (.ref 4), some (.int p2)] [.ref 4] rfl rfl ?_
    refine z_xgX (b := 12) zt84 7 rfl zo84 zzf0_27 X f4 (by decide) (by decide) rfl ?_
    refine z_xP zt84 8 21 [some (.ref 4), some (.int p2)] [.int p2, .ref 12] rfl rfl ?_
    have f12 : T[12]? = some (.inr (12, 3, 20, 0, 0)) := X.1.k rfl (by decide)
    refine z_xal zt84 9 rfl X f12 (by decide) (by decide) (by decide) (by omega) (by omega) (fun (a23 : Nat) h24 h25 => ?_) (fun h26 => absurd h26 (z_Gb (hG.go X (by decide)).2.1 hz0 (by omega) (by omega)))
    obtain ⟨c27, w28l, w28u, k29⟩ : ∃ ci, 4 ≤ ci ∧ ci ≤ 11 ∧ T[a23]? = some (.inl (ci, 0, 0, 0, 0)) := h25
    have w28 := And.intro w28l w28u
    refine z_xra zt84 10 rfl zzr84 ?_
    show z_ev (d + 1) 175 19 [some (.ref 4), some (.int p1), some (.int p2)] [.ref a23] M0 _
    refine z_xP zt175 9 24 [some (.ref 4), some (.int p1), some (.int p2)] [] rfl rfl ?_
    refine z_xP zt175 12 25 [some (.ref 4), some (.int p1), some (.int p2)] [.ref 4] rfl rfl ?_
    refine z_xgX (b := 17) zt175 13 rfl zo175 zzf0_45 X f4 (by decide) (by decide) rfl ?_
    refine z_xP zt175 14 31 [some (.ref 4), some (.int p1), some (.int p2)] [.int p2, .ref 4, .int p1, .ref 17] rfl rfl ?_
    refine z_xcV (vs := [.ref 4, .int p2]) (r := [.int p1, .ref 17]) (L2 := [some (.ref 4), some (.int p2)]) zt175 15 rfl zo175 zzcV0_221 (Or.inl rfl) rfl X f4 rfl rfl rfl (Nat.le_of_ble_eq_true rfl) zzm84 (Nat.le_of_ble_eq_true rfl) rfl ?_
    refine z_xP zt84 0 1 [some (.ref 4), some (.int p2)] [.int p2] rfl rfl ?_
    refine z_xZ zt84 1 rfl rfl (fun (h30 : p2.toInt < 0) => absurd h30 (by omega)) (fun (h30 : 0 ≤ p2.toInt) => ?_)
    refine z_xP zt84 2 6 [some (.ref 4), some (.int p2)] [.ref 4, .int p2] rfl rfl ?_
    refine z_xgv zt84 3 rfl zo84 zzf0_188 X f4 (by decide) hz0 ?_
    refine z_xJ zt84 4 rfl rfl (fun (h31 : p2.toInt < zp0.toInt) => ?_) (fun (h31 : zp0.toInt ≤ p2.toInt) => ?_)
    · skip
      refine z_xP zt84 6 17 [some (.ref 4), some (.int p2)] [.ref 4] rfl rfl ?_
      refine z_xgX (b := 12) zt84 7 rfl zo84 zzf0_27 X f4 (by decide) (by decide) rfl ?_
      refine z_xP zt84 8 21 [some (.ref 4), some (.int p2)] [.int p2, .ref 12] rfl rfl ?_
      refine z_xalv zt84 9 rfl X f12 (by decide) (by decide) (by decide) (by omega) (by omega) h24 ?_
      refine z_xra zt84 10 rfl zzr84 ?_
      show z_ev (d + 1) 175 34 [some (.ref 4), some (.int p1), some (.int p2)] [.ref a23, .int p1, .ref 17] M0 _
      have f17 : T[17]? = some (.inr (17, 3, 6, 0, 0)) := X.1.k rfl (by decide)
      refine z_xasW zt175 16 rfl X f17 (by decide) (by omega) (by omega) k29 w28 (by decide) (fun M32 X33 e34 h35 => ?_)
      have h36 := h35
      refine z_xP zt175 17 36 [some (.ref 4), some (.int p1), some (.int p2)] [.ref 4] rfl rfl ?_
      refine z_xgX (b := 14) zt175 18 rfl zo175 zzf0_35 X33 f4 (by decide) (by decide) rfl ?_
      refine z_xP zt175 19 42 [some (.ref 4), some (.int p1), some (.int p2)] [.int (-1), .int p2, .int p1, .ref 14] rfl rfl ?_
      refine z_xJ zt175 20 rfl rfl (fun (h37 : p2.toInt ≠ (-1)) => ?_) (fun (h37 : p2.toInt = (-1)) => absurd h37 (by omega))
      refine z_xP zt175 22 50 [some (.ref 4), some (.int p1), some (.int p2)] [.int 5, .int p1, .ref 14] rfl rfl ?_
      have f14 : T[14]? = some (.inr (14, 0, 6, (-1), 5)) := X33.1.k rfl (by decide)
      have q5 : ((5 : Int32)).toInt = 5 := rfl
      refine z_xis zt175 23 rfl X33 f14 (by decide) (by decide) (by omega) (by omega) (by omega) (by omega) (by decide) (fun M38 X39 e40 h41 => ?_)
      have h42 := (h41).trans (congrArg (fun f => upd f (p1).toNatClampNeg (5)) (e34.a f14 (by decide)))
      refine z_xP zt175 24 52 [some (.ref 4), some (.int p1), some (.int p2)] [.int 1] rfl rfl ?_
      have q1 : ((1 : Int32)).toInt = 1 := rfl
      have q1 : ((1 : Int32)).toInt = 1 := rfl
      have q5 : ((5 : Int32)).toInt = 5 := rfl
      have q1 : ((1 : Int32)).toInt = 1 := rfl
      have q1 : ((1 : Int32)).toInt = 1 := rfl
      have q1 : ((1 : Int32)).toInt = 1 := rfl
      have h43 := (e40.f f4 (by decide) (e34.f f4 (by decide) hz0))
      have q1 : ((1 : Int32)).toInt = 1 := rfl
      exact z_xri zt175 25 rfl zzr175 (kk 1 M38 X39 (by omega) (by omega) (by omega) (fun _ => ⟨_, by omega, h42⟩) (fun hx => absurd (by omega) hx) (fun _ => ⟨some a23, Or.inr ⟨by omega, Eq.symm h24⟩, ((e40.o f17 (by decide)).trans h36)⟩) (fun hx => absurd (by omega) hx) zp0 h43 ⟨by omega, by omega⟩ (by omega))
    refine z_xP zt84 5 22 [some (.ref 4), some (.int p2)] [.null] rfl rfl ?_
    refine z_xrn zt84 10 rfl zzr84 ?_
    show z_ev (d + 1) 175 34 [some (.ref 4), some (.int p1), some (.int p2)] [.null, .int p1, .ref 17] M0 _
    have f17 : T[17]? = some (.inr (17, 3, 6, 0, 0)) := X.1.k rfl (by decide)
    refine z_xasN zt175 16 rfl X f17 (by decide) (by decide) (by omega) (by omega) (by decide) (by decide) (fun M44 X45 e46 h47 => ?_)
    have h48 := h47
    refine z_xP zt175 17 36 [some (.ref 4), some (.int p1), some (.int p2)] [.ref 4] rfl rfl ?_
    refine z_xgX (b := 14) zt175 18 rfl zo175 zzf0_35 X45 f4 (by decide) (by decide) rfl ?_
    refine z_xP zt175 19 42 [some (.ref 4), some (.int p1), some (.int p2)] [.int (-1), .int p2, .int p1, .ref 14] rfl rfl ?_
    refine z_xJ zt175 20 rfl rfl (fun (h49 : p2.toInt ≠ (-1)) => ?_) (fun (h49 : p2.toInt = (-1)) => absurd h49 (by omega))
    refine z_xP zt175 22 50 [some (.ref 4), some (.int p1), some (.int p2)] [.int 5, .int p1, .ref 14] rfl rfl ?_
    have f14 : T[14]? = some (.inr (14, 0, 6, (-1), 5)) := X45.1.k rfl (by decide)
    have q5 : ((5 : Int32)).toInt = 5 := rfl
    refine z_xis zt175 23 rfl X45 f14 (by decide) (by decide) (by omega) (by omega) (by omega) (by omega) (by decide) (fun M50 X51 e52 h53 => ?_)
    have h54 := (h53).trans (congrArg (fun f => upd f (p1).toNatClampNeg (5)) (e46.a f14 (by decide)))
    refine z_xP zt175 24 52 [some (.ref 4), some (.int p1), some (.int p2)] [.int 1] rfl rfl ?_
    have q1 : ((1 : Int32)).toInt = 1 := rfl
    have q1 : ((1 : Int32)).toInt = 1 := rfl
    have q5 : ((5 : Int32)).toInt = 5 := rfl
    have q1 : ((1 : Int32)).toInt = 1 := rfl
    have q1 : ((1 : Int32)).toInt = 1 := rfl
    have q1 : ((1 : Int32)).toInt = 1 := rfl
    have h55 := (e52.f f4 (by decide) (e46.f f4 (by decide) hz0))
    have q1 : ((1 : Int32)).toInt = 1 := rfl
    exact z_xri zt175 25 rfl zzr175 (kk 1 M50 X51 (by omega) (by omega) (by omega) (fun _ => ⟨_, by omega, h54⟩) (fun hx => absurd (by omega) hx) (fun _ => ⟨none, Or.inl ⟨by omega, rfl⟩, ((e52.o f17 (by decide)).trans h48)⟩) (fun hx => absurd (by omega) hx) zp0 h55 ⟨by omega, by omega⟩ (by omega))
  refine z_xP zt84 5 22 [some (.ref 4), some (.int p2)] [.null] rfl rfl ?_
  refine z_xrn zt84 10 rfl zzr84 ?_
  show z_ev (d + 1) 175 19 [some (.ref 4), some (.int p1), some (.int p2)] [.null] M0 _
  refine z_xP zt175 9 22 [some (.ref 4), some (.int p1), some (.int p2)] [] rfl rfl ?_
  refine z_xP zt175 10 23 [some (.ref 4), some (.int p1), some (.int p2)] [.int (-1)] rfl rfl ?_
  have qm1 : (((-1) : Int32)).toInt = (-1) := rfl
  have qm1 : (((-1) : Int32)).toInt = (-1) := rfl
  have qm1 : (((-1) : Int32)).toInt = (-1) := rfl
  have qm1 : (((-1) : Int32)).toInt = (-1) := rfl
  have qm1 : (((-1) : Int32)).toInt = (-1) := rfl
  have qm1 : (((-1) : Int32)).toInt = (-1) := rfl
  exact z_xri zt175 11 rfl zzr175 (kk (-1) M0 X (by omega) (by omega) (by omega) (fun hx => absurd hx (by omega)) (fun _ => rfl) (fun hx => absurd hx (by omega)) (fun _ => rfl) zp0 hz0 ⟨by omega, by omega⟩ (by omega))
theorem zRC284 {T : List zK} {d : Nat} {K : Option Value → zH → Prop} {p1 : Int32} {p2 : Int32} {zp0 : Int32} {M0 : zH} (hW : z_W M0 T) (hz0 : z_F M0 19 21 = some (.int zp0)) (bz0 : 0 ≤ zp0.toInt ∧ zp0.toInt ≤ 20) (kk : ∀ (x : Int32) (M1 : zH), z_X T zw284 M0 M1 → (-1) ≤ x.toInt → x.toInt ≤ 1 → ((x.toInt = 1 ∧ 0 ≤ p1.toInt ∧ p1.toInt ≤ 5 ∧ (-1) ≤ p2.toInt ∧ p2.toInt < zp0.toInt) ∨ (x.toInt = -1 ∧ (p1.toInt < 0 ∨ 5 < p1.toInt ∨ p2.toInt < (-1) ∨ (zp0.toInt ≤ p2.toInt ∧ p2.toInt ≠ -1)))) → (x.toInt = 1 → ∃ v : Int32, (v.toInt = p2.toInt) ∧ z_Ar M1 49 = upd (z_Ar M0 49) p1.toNatClampNeg v) → (x.toInt ≠ 1 → z_Ar M1 49 = z_Ar M0 49) → (x.toInt = 1 → ∃ v : Int32, (v.toInt = 0) ∧ z_Ar M1 50 = upd (z_Ar M0 50) p1.toNatClampNeg v) → (x.toInt ≠ 1 → z_Ar M1 50 = z_Ar M0 50) → ∀ (w0 : Int32), z_F M1 19 21 = some (.int w0) → 0 ≤ w0.toInt ∧ w0.toInt ≤ 20 → w0.toInt = zp0.toInt → K (some (.int x)) M1) : z_ev (d + 2) 284 0 [some (.ref 19), some (.int p1), some (.int p2)] [] M0 K := by
  have X : z_X T zw284 M0 M0 := .refl hW
  refine z_xP zt284 0 1 [some (.ref 19), some (.int p1), some (.int p2)] [.int p1] rfl rfl ?_
  refine z_xcS (vs := [.int p1]) (r := []) (L2 := [some (.int p1)]) zt284 1 rfl zo284 zzcS12_237 (Or.inl rfl) (Nat.le_of_ble_eq_true rfl) rfl rfl (Nat.le_of_ble_eq_true rfl) zzm225 (Nat.le_of_ble_eq_true rfl) rfl ?_
  refine z_xP zt225 0 1 [some (.int p1)] [.int p1] rfl rfl ?_
  have h1 := z_b32 p1
  refine z_xL zt225 1 rfl rfl (fun (y2 : Int64) (h3 : y2.toInt = p1.toInt) => ?_) (z_qI2L rfl)
  refine z_xP zt225 2 3 [some (.int p1)] [.long 0, .long y2] rfl rfl ?_
  refine z_xl2 zt225 3 rfl zo225 zkl12_318 ?_
  refine z_xcS (vs := [.long y2, .long 0, .long 5]) (r := []) (L2 := [some (.long y2), none, some (.long 0), none, some (.long 5), none]) zt225 4 rfl zo225 zzcS12_116 (Or.inl rfl) (Nat.le_of_ble_eq_true rfl) rfl rfl (Nat.le_of_ble_eq_true rfl) zzm189 (Nat.le_of_ble_eq_true rfl) rfl ?_
  refine z_xP zt189 0 2 [some (.long y2), none, some (.long 0), none, some (.long 5), none] [.long 0, .long y2] rfl rfl ?_
  refine z_xI zt189 1 rfl rfl (fun (x4 : Int32) (h5 : (x4.toInt < 0 ∧ y2.toInt < 0) ∨ (x4.toInt = 0 ∧ y2.toInt = 0) ∨ (0 < x4.toInt ∧ 0 < y2.toInt)) => ?_) (z_qCmp rfl rfl)
  refine z_xZ zt189 2 rfl rfl (fun (h6 : x4.toInt < 0) => ?_) (fun (h6 : 0 ≤ x4.toInt) => ?_)
  · skip
    refine z_xP zt189 7 18 [some (.long y2), none, some (.long 0), none, some (.long 5), none] [.int 0] rfl rfl ?_
    refine z_xrz zt189 8 rfl zzr189 (by decide) (by decide) ?_
    show z_ev (d + 1) 225 9 [some (.int p1)] [.int 0] M0 _
    refine z_xrz zt225 5 rfl zzr225 (by decide) (by decide) ?_
    show z_ev (d + 2) 284 4 [some (.ref 19), some (.int p1), some (.int p2)] [.int 0] M0 _
    refine z_xZ zt284 2 rfl rfl (fun (h7 : (0 : Int) = 0) => ?_) (fun (h7 : (0 : Int) ≠ 0) => absurd h7 (by omega))
    refine z_xP zt284 8 21 [some (.ref 19), some (.int p1), some (.int p2)] [.int (-1)] rfl rfl ?_
    have qm1 : (((-1) : Int32)).toInt = (-1) := rfl
    have qm1 : (((-1) : Int32)).toInt = (-1) := rfl
    have qm1 : (((-1) : Int32)).toInt = (-1) := rfl
    have qm1 : (((-1) : Int32)).toInt = (-1) := rfl
    have qm1 : (((-1) : Int32)).toInt = (-1) := rfl
    have f19 : T[19]? = some (.inl (12, 0, 0, 0, 0)) := X.1.k rfl (by decide)
    have qm1 : (((-1) : Int32)).toInt = (-1) := rfl
    exact z_xri zt284 9 rfl zzr284 (kk (-1) M0 X (by omega) (by omega) (by omega) (fun hx => absurd hx (by omega)) (fun _ => rfl) (fun hx => absurd hx (by omega)) (fun _ => rfl) zp0 hz0 ⟨by omega, by omega⟩ (by omega))
  refine z_xP zt189 3 9 [some (.long y2), none, some (.long 0), none, some (.long 5), none] [.long 5, .long y2] rfl rfl ?_
  refine z_xI zt189 4 rfl rfl (fun (x8 : Int32) (h9 : (x8.toInt < 0 ∧ y2.toInt < 5) ∨ (x8.toInt = 0 ∧ y2.toInt = 5) ∨ (0 < x8.toInt ∧ 5 < y2.toInt)) => ?_) (z_qCmp rfl rfl)
  refine z_xZ zt189 5 rfl rfl (fun (h10 : 0 < x8.toInt) => ?_) (fun (h10 : x8.toInt ≤ 0) => ?_)
  · skip
    refine z_xP zt189 7 18 [some (.long y2), none, some (.long 0), none, some (.long 5), none] [.int 0] rfl rfl ?_
    refine z_xrz zt189 8 rfl zzr189 (by decide) (by decide) ?_
    show z_ev (d + 1) 225 9 [some (.int p1)] [.int 0] M0 _
    refine z_xrz zt225 5 rfl zzr225 (by decide) (by decide) ?_
    show z_ev (d + 2) 284 4 [some (.ref 19), some (.int p1), some (.int p2)] [.int 0] M0 _
    refine z_xZ zt284 2 rfl rfl (fun (h11 : (0 : Int) = 0) => ?_) (fun (h11 : (0 : Int) ≠ 0) => absurd h11 (by omega))
    refine z_xP zt284 8 21 [some (.ref 19), some (.int p1), some (.int p2)] [.int (-1)] rfl rfl ?_
    have qm1 : (((-1) : Int32)).toInt = (-1) := rfl
    have qm1 : (((-1) : Int32)).toInt = (-1) := rfl
    have qm1 : (((-1) : Int32)).toInt = (-1) := rfl
    have qm1 : (((-1) : Int32)).toInt = (-1) := rfl
    have qm1 : (((-1) : Int32)).toInt = (-1) := rfl
    have f19 : T[19]? = some (.inl (12, 0, 0, 0, 0)) := X.1.k rfl (by decide)
    have qm1 : (((-1) : Int32)).toInt = (-1) := rfl
    exact z_xri zt284 9 rfl zzr284 (kk (-1) M0 X (by omega) (by omega) (by omega) (fun hx => absurd hx (by omega)) (fun _ => rfl) (fun hx => absurd hx (by omega)) (fun _ => rfl) zp0 hz0 ⟨by omega, by omega⟩ (by omega))
  refine z_xP zt189 6 18 [some (.long y2), none, some (.long 0), none, some (.long 5), none] [.int 1] rfl rfl ?_
  refine z_xrz zt189 8 rfl zzr189 (by decide) (by decide) ?_
  show z_ev (d + 1) 225 9 [some (.int p1)] [.int 1] M0 _
  refine z_xrz zt225 5 rfl zzr225 (by decide) (by decide) ?_
  show z_ev (d + 2) 284 4 [some (.ref 19), some (.int p1), some (.int p2)] [.int 1] M0 _
  refine z_xZ zt284 2 rfl rfl (fun (h12 : (1 : Int) = 0) => absurd h12 (by omega)) (fun (h12 : (1 : Int) ≠ 0) => ?_)
  refine z_xP zt284 3 9 [some (.ref 19), some (.int p1), some (.int p2)] [.int (-1), .int p2] rfl rfl ?_
  refine z_xJ zt284 4 rfl rfl (fun (h13 : p2.toInt = (-1)) => ?_) (fun (h13 : p2.toInt ≠ (-1)) => ?_)
  · skip
    refine z_xP zt284 10 23 [some (.ref 19), some (.int p1), some (.int p2)] [.ref 19] rfl rfl ?_
    have f19 : T[19]? = some (.inl (12, 0, 0, 0, 0)) := X.1.k rfl (by decide)
    refine z_xgX (b := 49) zt284 11 rfl zo284 zzf12_97 X f19 (by decide) (by decide) rfl ?_
    refine z_xP zt284 12 28 [some (.ref 19), some (.int p1), some (.int p2)] [.int p2, .int p1, .ref 49] rfl rfl ?_
    have f49 : T[49]? = some (.inr (49, 0, 6, (-1), 24)) := X.1.k rfl (by decide)
    refine z_xis zt284 13 rfl X f49 (by decide) (by decide) (by omega) (by omega) (by omega) (by omega) (by decide) (fun M14 X15 e16 h17 => ?_)
    have h18 := h17
    refine z_xP zt284 14 30 [some (.ref 19), some (.int p1), some (.int p2)] [.ref 19] rfl rfl ?_
    refine z_xgX (b := 50) zt284 15 rfl zo284 zzf12_100 X15 f19 (by decide) (by decide) rfl ?_
    refine z_xP zt284 16 35 [some (.ref 19), some (.int p1), some (.int p2)] [.int 0, .int p1, .ref 50] rfl rfl ?_
    have f50 : T[50]? = some (.inr (50, 0, 6, 0, 60)) := X15.1.k rfl (by decide)
    have q0 : ((0 : Int32)).toInt = 0 := rfl
    refine z_xis zt284 17 rfl X15 f50 (by decide) (by decide) (by omega) (by omega) (by omega) (by omega) (by decide) (fun M19 X20 e21 h22 => ?_)
    have h23 := (h22).trans (congrArg (fun f => upd f (p1).toNatClampNeg (0)) (e16.a f50 (by decide)))
    refine z_xP zt284 18 37 [some (.ref 19), some (.int p1), some (.int p2)] [.int 1] rfl rfl ?_
    have q1 : ((1 : Int32)).toInt = 1 := rfl
    have q1 : ((1 : Int32)).toInt = 1 := rfl
    have q1 : ((1 : Int32)).toInt = 1 := rfl
    have q1 : ((1 : Int32)).toInt = 1 := rfl
    have q0 : ((0 : Int32)).toInt = 0 := rfl
    have q1 : ((1 : Int32)).toInt = 1 := rfl
    have h24 := (e21.f f19 (by decide) (e16.f f19 (by decide) hz0))
    have q1 : ((1 : Int32)).toInt = 1 := rfl
    exact z_xri zt284 19 rfl zzr284 (kk 1 M19 X20 (by omega) (by omega) (by omega) (fun _ => ⟨_, by omega, ((e21.a f49 (by decide)).trans h18)⟩) (fun hx => absurd (by omega) hx) (fun _ => ⟨_, by omega, h23⟩) (fun hx => absurd (by omega) hx) zp0 h24 ⟨by omega, by omega⟩ (by omega))
  refine z_xP zt284 5 14 [some (.ref 19), some (.int p1), some (.int p2)] [.int p2, .ref 19] rfl rfl ?_
  have f19 : T[19]? = some (.inl (12, 0, 0, 0, 0)) := X.1.k rfl (by decide)
  refine z_xcV (vs := [.ref 19, .int p2]) (r := []) (L2 := [some (.ref 19), some (.int p2)]) zt284 6 rfl zo284 zzcV12_272 (Or.inl rfl) rfl X f19 rfl rfl rfl (Nat.le_of_ble_eq_true rfl) zzm237 (Nat.le_of_ble_eq_true rfl) rfl ?_
  refine z_xP zt237 0 1 [some (.ref 19), some (.int p2)] [.int p2] rfl rfl ?_
  refine z_xZ zt237 1 rfl rfl (fun (h25 : p2.toInt < 0) => ?_) (fun (h25 : 0 ≤ p2.toInt) => ?_)
  · skip
    refine z_xP zt237 6 17 [some (.ref 19), some (.int p2)] [.int 0] rfl rfl ?_
    refine z_xrz zt237 7 rfl zzr237 (by decide) (by decide) ?_
    show z_ev (d + 2) 284 17 [some (.ref 19), some (.int p1), some (.int p2)] [.int 0] M0 _
    refine z_xZ zt284 7 rfl rfl (fun (h26 : (0 : Int) ≠ 0) => absurd h26 (by omega)) (fun (h26 : (0 : Int) = 0) => ?_)
    refine z_xP zt284 8 21 [some (.ref 19), some (.int p1), some (.int p2)] [.int (-1)] rfl rfl ?_
    have qm1 : (((-1) : Int32)).toInt = (-1) := rfl
    have qm1 : (((-1) : Int32)).toInt = (-1) := rfl
    have qm1 : (((-1) : Int32)).toInt = (-1) := rfl
    have qm1 : (((-1) : Int32)).toInt = (-1) := rfl
    have qm1 : (((-1) : Int32)).toInt = (-1) := rfl
    have qm1 : (((-1) : Int32)).toInt = (-1) := rfl
    exact z_xri zt284 9 rfl zzr284 (kk (-1) M0 X (by omega) (by omega) (by omega) (fun hx => absurd hx (by omega)) (fun _ => rfl) (fun hx => absurd hx (by omega)) (fun _ => rfl) zp0 hz0 ⟨by omega, by omega⟩ (by omega))
  refine z_xP zt237 2 6 [some (.ref 19), some (.int p2)] [.ref 19, .int p2] rfl rfl ?_
  refine z_xgv zt237 3 rfl zo237 zzf12_269 X f19 (by decide) hz0 ?_
  have h27 := z_b32 p2
  refine z_xJ zt237 4 rfl rfl (fun (h28 : zp0.toInt ≤ p2.toInt) => ?_) (fun (h28 : p2.toInt < zp0.toInt) => ?_)
  · skip
    refine z_xP zt237 6 17 [some (.ref 19), some (.int p2)] [.int 0] rfl rfl ?_
    refine z_xrz zt237 7 rfl zzr237 (by decide) (by decide) ?_
    show z_ev (d + 2) 284 17 [some (.ref 19), some (.int p1), some (.int p2)] [.int 0] M0 _
    refine z_xZ zt284 7 rfl rfl (fun (h29 : (0 : Int) ≠ 0) => absurd h29 (by omega)) (fun (h29 : (0 : Int) = 0) => ?_)
    refine z_xP zt284 8 21 [some (.ref 19), some (.int p1), some (.int p2)] [.int (-1)] rfl rfl ?_
    have qm1 : (((-1) : Int32)).toInt = (-1) := rfl
    have qm1 : (((-1) : Int32)).toInt = (-1) := rfl
    have qm1 : (((-1) : Int32)).toInt = (-1) := rfl
    have qm1 : (((-1) : Int32)).toInt = (-1) := rfl
    have qm1 : (((-1) : Int32)).toInt = (-1) := rfl
    have qm1 : (((-1) : Int32)).toInt = (-1) := rfl
    exact z_xri zt284 9 rfl zzr284 (kk (-1) M0 X (by omega) (by omega) (by omega) (fun hx => absurd hx (by omega)) (fun _ => rfl) (fun hx => absurd hx (by omega)) (fun _ => rfl) zp0 hz0 ⟨by omega, by omega⟩ (by omega))
  refine z_xP zt237 5 17 [some (.ref 19), some (.int p2)] [.int 1] rfl rfl ?_
  refine z_xrz zt237 7 rfl zzr237 (by decide) (by decide) ?_
  show z_ev (d + 2) 284 17 [some (.ref 19), some (.int p1), some (.int p2)] [.int 1] M0 _
  refine z_xZ zt284 7 rfl rfl (fun (h30 : (1 : Int) ≠ 0) => ?_) (fun (h30 : (1 : Int) = 0) => absurd h30 (by omega))
  refine z_xP zt284 10 23 [some (.ref 19), some (.int p1), some (.int p2)] [.ref 19] rfl rfl ?_
  refine z_xgX (b := 49) zt284 11 rfl zo284 zzf12_97 X f19 (by decide) (by decide) rfl ?_
  refine z_xP zt284 12 28 [some (.ref 19), some (.int p1), some (.int p2)] [.int p2, .int p1, .ref 49] rfl rfl ?_
  have f49 : T[49]? = some (.inr (49, 0, 6, (-1), 24)) := X.1.k rfl (by decide)
  refine z_xis zt284 13 rfl X f49 (by decide) (by decide) (by omega) (by omega) (by omega) (by omega) (by decide) (fun M31 X32 e33 h34 => ?_)
  have h35 := h34
  refine z_xP zt284 14 30 [some (.ref 19), some (.int p1), some (.int p2)] [.ref 19] rfl rfl ?_
  refine z_xgX (b := 50) zt284 15 rfl zo284 zzf12_100 X32 f19 (by decide) (by decide) rfl ?_
  refine z_xP zt284 16 35 [some (.ref 19), some (.int p1), some (.int p2)] [.int 0, .int p1, .ref 50] rfl rfl ?_
  have f50 : T[50]? = some (.inr (50, 0, 6, 0, 60)) := X32.1.k rfl (by decide)
  have q0 : ((0 : Int32)).toInt = 0 := rfl
  refine z_xis zt284 17 rfl X32 f50 (by decide) (by decide) (by omega) (by omega) (by omega) (by omega) (by decide) (fun M36 X37 e38 h39 => ?_)
  have h40 := (h39).trans (congrArg (fun f => upd f (p1).toNatClampNeg (0)) (e33.a f50 (by decide)))
  refine z_xP zt284 18 37 [some (.ref 19), some (.int p1), some (.int p2)] [.int 1] rfl rfl ?_
  have q1 : ((1 : Int32)).toInt = 1 := rfl
  have q1 : ((1 : Int32)).toInt = 1 := rfl
  have q1 : ((1 : Int32)).toInt = 1 := rfl
  have q1 : ((1 : Int32)).toInt = 1 := rfl
  have q0 : ((0 : Int32)).toInt = 0 := rfl
  have q1 : ((1 : Int32)).toInt = 1 := rfl
  have h41 := (e38.f f19 (by decide) (e33.f f19 (by decide) hz0))
  have q1 : ((1 : Int32)).toInt = 1 := rfl
  exact z_xri zt284 19 rfl zzr284 (kk 1 M36 X37 (by omega) (by omega) (by omega) (fun _ => ⟨_, by omega, ((e38.a f49 (by decide)).trans h35)⟩) (fun hx => absurd (by omega) hx) (fun _ => ⟨_, by omega, h40⟩) (fun hx => absurd (by omega) hx) zp0 h41 ⟨by omega, by omega⟩ (by omega))
theorem zRC176 {T : List zK} {d : Nat} {K : Option Value → zH → Prop} {p1 : Int32} {p2 : Int32} {p3 : Int32} {M0 : zH} (hW : z_W M0 T)  (kk : ∀ (x : Int32) (M1 : zH), z_X T zw176 M0 M1 → (-14) ≤ x.toInt → x.toInt ≤ 1 → ((x.toInt = 1 ∧ 0 ≤ p1.toInt ∧ p1.toInt ≤ 5 ∧ 0 ≤ p2.toInt ∧ p2.toInt ≤ 4 ∧ 0 ≤ p3.toInt ∧ p3.toInt ≤ 60) ∨ (x.toInt = -14 ∧ 0 ≤ p1.toInt ∧ p1.toInt ≤ 5 ∧ 0 ≤ p2.toInt ∧ p2.toInt ≤ 4 ∧ p3.toInt < 0) ∨ (x.toInt = -1 ∧ (p1.toInt < 0 ∨ 5 < p1.toInt ∨ p2.toInt < 0 ∨ 4 < p2.toInt ∨ 60 < p3.toInt))) → (x.toInt = 1 → ∃ v : Int32, (v.toInt = p2.toInt) ∧ z_Ar M1 14 = upd (z_Ar M0 14) p1.toNatClampNeg v) → (x.toInt ≠ 1 → z_Ar M1 14 = z_Ar M0 14) → (x.toInt = 1 → ∃ v : Int32, (v.toInt = p3.toInt) ∧ z_Ar M1 15 = upd (z_Ar M0 15) p1.toNatClampNeg v) → (x.toInt ≠ 1 → z_Ar M1 15 = z_Ar M0 15) → (x.toInt = 1 → z_O M1 17 = z_updR (z_O M0 17) p1.toNatClampNeg none) → (x.toInt ≠ 1 → z_O M1 17 = z_O M0 17) → (x.toInt = 1 → z_Lg M1 16 = z_fil (z_Lg M0 16) (60 * p1.toInt.toNat) (60 * p1.toInt.toNat + p3.toInt.toNat) 0) → (x.toInt ≠ 1 → z_Lg M1 16 = z_Lg M0 16) → K (some (.int x)) M1) : z_ev (d + 2) 176 0 [some (.ref 4), some (.int p1), some (.int p2), some (.int p3)] [] M0 K := by
  have X : z_X T zw176 M0 M0 := .refl hW
  refine z_xP zt176 0 1 [some (.ref 4), some (.int p1), some (.int p2), some (.int p3)] [.int p1] rfl rfl ?_
  refine z_xcS (vs := [.int p1]) (r := []) (L2 := [some (.int p1)]) zt176 1 rfl zo176 zzcS0_148 (Or.inl rfl) (Nat.le_of_ble_eq_true rfl) rfl rfl (Nat.le_of_ble_eq_true rfl) zzm58 (Nat.le_of_ble_eq_true rfl) rfl ?_
  refine z_xP zt58 0 1 [some (.int p1)] [.int p1] rfl rfl ?_
  refine z_xZ zt58 1 rfl rfl (fun (h1 : p1.toInt < 0) => ?_) (fun (h1 : 0 ≤ p1.toInt) => ?_)
  · skip
    refine z_xP zt58 5 15 [some (.int p1)] [.int 0] rfl rfl ?_
    refine z_xrz zt58 6 rfl zzr58 (by decide) (by decide) ?_
    show z_ev (d + 2) 176 4 [some (.ref 4), some (.int p1), some (.int p2), some (.int p3)] [.int 0] M0 _
    refine z_xZ zt176 2 rfl rfl (fun (h2 : (0 : Int) = 0) => ?_) (fun (h2 : (0 : Int) ≠ 0) => absurd h2 (by omega))
    refine z_xP zt176 9 23 [some (.ref 4), some (.int p1), some (.int p2), some (.int p3)] [.int (-1)] rfl rfl ?_
    have qm1 : (((-1) : Int32)).toInt = (-1) := rfl
    have qm1 : (((-1) : Int32)).toInt = (-1) := rfl
    have qm1 : (((-1) : Int32)).toInt = (-1) := rfl
    have qm1 : (((-1) : Int32)).toInt = (-1) := rfl
    have qm1 : (((-1) : Int32)).toInt = (-1) := rfl
    have qm1 : (((-1) : Int32)).toInt = (-1) := rfl
    have qm1 : (((-1) : Int32)).toInt = (-1) := rfl
    have qm1 : (((-1) : Int32)).toInt = (-1) := rfl
    have qm1 : (((-1) : Int32)).toInt = (-1) := rfl
    have qm1 : (((-1) : Int32)).toInt = (-1) := rfl
    exact z_xri zt176 10 rfl zzr176 (kk (-1) M0 X (by omega) (by omega) (by omega) (fun hx => absurd hx (by omega)) (fun _ => rfl) (fun hx => absurd hx (by omega)) (fun _ => rfl) (fun hx => absurd hx (by omega)) (fun _ => rfl) (fun hx => absurd hx (by omega)) (fun _ => rfl))
  refine z_xP zt58 2 7 [some (.int p1)] [.int 6, .int p1] rfl rfl ?_
  refine z_xJ zt58 3 rfl rfl (fun (h3 : 6 ≤ p1.toInt) => ?_) (fun (h3 : p1.toInt < 6) => ?_)
  · skip
    refine z_xP zt58 5 15 [some (.int p1)] [.int 0] rfl rfl ?_
    refine z_xrz zt58 6 rfl zzr58 (by decide) (by decide) ?_
    show z_ev (d + 2) 176 4 [some (.ref 4), some (.int p1), some (.int p2), some (.int p3)] [.int 0] M0 _
    refine z_xZ zt176 2 rfl rfl (fun (h4 : (0 : Int) = 0) => ?_) (fun (h4 : (0 : Int) ≠ 0) => absurd h4 (by omega))
    refine z_xP zt176 9 23 [some (.ref 4), some (.int p1), some (.int p2), some (.int p3)] [.int (-1)] rfl rfl ?_
    have qm1 : (((-1) : Int32)).toInt = (-1) := rfl
    have qm1 : (((-1) : Int32)).toInt = (-1) := rfl
    have qm1 : (((-1) : Int32)).toInt = (-1) := rfl
    have qm1 : (((-1) : Int32)).toInt = (-1) := rfl
    have qm1 : (((-1) : Int32)).toInt = (-1) := rfl
    have qm1 : (((-1) : Int32)).toInt = (-1) := rfl
    have qm1 : (((-1) : Int32)).toInt = (-1) := rfl
    have qm1 : (((-1) : Int32)).toInt = (-1) := rfl
    have qm1 : (((-1) : Int32)).toInt = (-1) := rfl
    have qm1 : (((-1) : Int32)).toInt = (-1) := rfl
    exact z_xri zt176 10 rfl zzr176 (kk (-1) M0 X (by omega) (by omega) (by omega) (fun hx => absurd hx (by omega)) (fun _ => rfl) (fun hx => absurd hx (by omega)) (fun _ => rfl) (fun hx => absurd hx (by omega)) (fun _ => rfl) (fun hx => absurd hx (by omega)) (fun _ => rfl))
  refine z_xP zt58 4 15 [some (.int p1)] [.int 1] rfl rfl ?_
  refine z_xrz zt58 6 rfl zzr58 (by decide) (by decide) ?_
  show z_ev (d + 2) 176 4 [some (.ref 4), some (.int p1), some (.int p2), some (.int p3)] [.int 1] M0 _
  refine z_xZ zt176 2 rfl rfl (fun (h5 : (1 : Int) = 0) => absurd h5 (by omega)) (fun (h5 : (1 : Int) ≠ 0) => ?_)
  refine z_xP zt176 3 8 [some (.ref 4), some (.int p1), some (.int p2), some (.int p3)] [.int p2] rfl rfl ?_
  refine z_xZ zt176 4 rfl rfl (fun (h6 : p2.toInt < 0) => ?_) (fun (h6 : 0 ≤ p2.toInt) => ?_)
  · skip
    refine z_xP zt176 9 23 [some (.ref 4), some (.int p1), some (.int p2), some (.int p3)] [.int (-1)] rfl rfl ?_
    have qm1 : (((-1) : Int32)).toInt = (-1) := rfl
    have qm1 : (((-1) : Int32)).toInt = (-1) := rfl
    have qm1 : (((-1) : Int32)).toInt = (-1) := rfl
    have qm1 : (((-1) : Int32)).toInt = (-1) := rfl
    have qm1 : (((-1) : Int32)).toInt = (-1) := rfl
    have qm1 : (((-1) : Int32)).toInt = (-1) := rfl
    have qm1 : (((-1) : Int32)).toInt = (-1) := rfl
    have qm1 : (((-1) : Int32)).toInt = (-1) := rfl
    have qm1 : (((-1) : Int32)).toInt = (-1) := rfl
    have qm1 : (((-1) : Int32)).toInt = (-1) := rfl
    exact z_xri zt176 10 rfl zzr176 (kk (-1) M0 X (by omega) (by omega) (by omega) (fun hx => absurd hx (by omega)) (fun _ => rfl) (fun hx => absurd hx (by omega)) (fun _ => rfl) (fun hx => absurd hx (by omega)) (fun _ => rfl) (fun hx => absurd hx (by omega)) (fun _ => rfl))
  refine z_xP zt176 5 13 [some (.ref 4), some (.int p1), some (.int p2), some (.int p3)] [.int 4, .int p2] rfl rfl ?_
  refine z_xJ zt176 6 rfl rfl (fun (h7 : 4 < p2.toInt) => ?_) (fun (h7 : p2.toInt ≤ 4) => ?_)
  · skip
    refine z_xP zt176 9 23 [some (.ref 4), some (.int p1), some (.int p2), some (.int p3)] [.int (-1)] rfl rfl ?_
    have qm1 : (((-1) : Int32)).toInt = (-1) := rfl
    have qm1 : (((-1) : Int32)).toInt = (-1) := rfl
    have qm1 : (((-1) : Int32)).toInt = (-1) := rfl
    have qm1 : (((-1) : Int32)).toInt = (-1) := rfl
    have qm1 : (((-1) : Int32)).toInt = (-1) := rfl
    have qm1 : (((-1) : Int32)).toInt = (-1) := rfl
    have qm1 : (((-1) : Int32)).toInt = (-1) := rfl
    have qm1 : (((-1) : Int32)).toInt = (-1) := rfl
    have qm1 : (((-1) : Int32)).toInt = (-1) := rfl
    have qm1 : (((-1) : Int32)).toInt = (-1) := rfl
    exact z_xri zt176 10 rfl zzr176 (kk (-1) M0 X (by omega) (by omega) (by omega) (fun hx => absurd hx (by omega)) (fun _ => rfl) (fun hx => absurd hx (by omega)) (fun _ => rfl) (fun hx => absurd hx (by omega)) (fun _ => rfl) (fun hx => absurd hx (by omega)) (fun _ => rfl))
  refine z_xP zt176 7 19 [some (.ref 4), some (.int p1), some (.int p2), some (.int p3)] [.int 60, .int p3] rfl rfl ?_
  refine z_xJ zt176 8 rfl rfl (fun (h8 : p3.toInt ≤ 60) => ?_) (fun (h8 : 60 < p3.toInt) => ?_)
  · skip
    refine z_xP zt176 11 25 [some (.ref 4), some (.int p1), some (.int p2), some (.int p3)] [.int p3] rfl rfl ?_
    refine z_xZ zt176 12 rfl rfl (fun (h9 : 0 ≤ p3.toInt) => ?_) (fun (h9 : p3.toInt < 0) => ?_)
    · skip
      refine z_xP zt176 15 32 [some (.ref 4), some (.int p1), some (.int p2), some (.int p3)] [.ref 4] rfl rfl ?_
      have f4 : T[4]? = some (.inl (0, 0, 0, 0, 0)) := X.1.k rfl (by decide)
      refine z_xgX (b := 17) zt176 16 rfl zo176 zzf0_45 X f4 (by decide) (by decide) rfl ?_
      refine z_xP zt176 17 37 [some (.ref 4), some (.int p1), some (.int p2), some (.int p3)] [.null, .int p1, .ref 17] rfl rfl ?_
      have f17 : T[17]? = some (.inr (17, 3, 6, 0, 0)) := X.1.k rfl (by decide)
      refine z_xasN zt176 18 rfl X f17 (by decide) (by decide) (by omega) (by omega) (by decide) (by decide) (fun M10 X11 e12 h13 => ?_)
      have h14 := h13
      refine z_xP zt176 19 39 [some (.ref 4), some (.int p1), some (.int p2), some (.int p3)] [.ref 4] rfl rfl ?_
      refine z_xgX (b := 14) zt176 20 rfl zo176 zzf0_35 X11 f4 (by decide) (by decide) rfl ?_
      refine z_xP zt176 21 44 [some (.ref 4), some (.int p1), some (.int p2), some (.int p3)] [.int p2, .int p1, .ref 14] rfl rfl ?_
      have f14 : T[14]? = some (.inr (14, 0, 6, (-1), 5)) := X11.1.k rfl (by decide)
      refine z_xis zt176 22 rfl X11 f14 (by decide) (by decide) (by omega) (by omega) (by omega) (by omega) (by decide) (fun M15 X16 e17 h18 => ?_)
      have h19 := (h18).trans (congrArg (fun f => upd f (p1).toNatClampNeg (p2)) (e12.a f14 (by decide)))
      refine z_xP zt176 23 46 [some (.ref 4), some (.int p1), some (.int p2), some (.int p3)] [.ref 4] rfl rfl ?_
      refine z_xgX (b := 15) zt176 24 rfl zo176 zzf0_38 X16 f4 (by decide) (by decide) rfl ?_
      refine z_xP zt176 25 51 [some (.ref 4), some (.int p1), some (.int p2), some (.int p3)] [.int p3, .int p1, .ref 15] rfl rfl ?_
      have f15 : T[15]? = some (.inr (15, 0, 6, 0, 60)) := X16.1.k rfl (by decide)
      refine z_xis zt176 26 rfl X16 f15 (by decide) (by decide) (by omega) (by omega) (by omega) (by omega) (by decide) (fun M20 X21 e22 h23 => ?_)
      have h24 := (h23).trans (congrArg (fun f => upd f (p1).toNatClampNeg (p3)) ((e17.a f15 (by decide)).trans (e12.a f15 (by decide))))
      refine z_xP zt176 27 53 [some (.ref 4), some (.int p1), some (.int p2), some (.int p3)] [.ref 4] rfl rfl ?_
      refine z_xgX (b := 16) zt176 28 rfl zo176 zzf0_41 X21 f4 (by decide) (by decide) rfl ?_
      refine z_xP zt176 29 59 [some (.ref 4), some (.int p1), some (.int p2), some (.int p3)] [.int 60, .int p1, .ref 16] rfl rfl ?_
      refine z_xI zt176 30 rfl rfl (fun (x25 : Int32) (h26 : x25.toInt = p1.toInt * 60) => ?_) (z_pMul rfl rfl (by omega) (by omega))
      refine z_xP zt176 31 63 [some (.ref 4), some (.int p1), some (.int p2), some (.int p3)] [.int 60, .int p1, .int x25, .ref 16] rfl rfl ?_
      refine z_xI zt176 32 rfl rfl (fun (x27 : Int32) (h28 : x27.toInt = p1.toInt * 60) => ?_) (z_pMul rfl rfl (by omega) (by omega))
      refine z_xP zt176 33 65 [some (.ref 4), some (.int p1), some (.int p2), some (.int p3)] [.int p3, .int x27, .int x25, .ref 16] rfl rfl ?_
      refine z_xI zt176 34 rfl rfl (fun (x29 : Int32) (h30 : x29.toInt = x27.toInt + p3.toInt) => ?_) (z_pAdd rfl rfl (by omega) (by omega))
      refine z_xP zt176 35 67 [some (.ref 4), some (.int p1), some (.int p2), some (.int p3)] [.long 0, .int x29, .int x25, .ref 16] rfl rfl ?_
      refine z_xcS (vs := [.ref 16, .int x25, .int x29, .long 0]) (r := []) (L2 := [some (.ref 16), some (.int x25), some (.int x29), some (.long 0), none, none]) zt176 36 rfl zo176 zzcS0_307 (Or.inl rfl) (Nat.le_of_ble_eq_true rfl) rfl rfl (Nat.le_of_ble_eq_true rfl) zzm20 (Nat.le_of_ble_eq_true rfl) rfl ?_
      have q0 : ((0 : Int64)).toInt = 0 := rfl
      have f16 : T[16]? = some (.inr (16, 1, 360, 0, 0)) := X21.1.k rfl (by decide)
      have q0 : ((0 : Int64)).toInt = 0 := rfl
      refine zRC20 X21.1 ⟨(by decide), (by decide)⟩ f16 (by omega) (by omega) (by decide) ⟨by omega, by omega⟩ (fun M31 X32 h33 => ?_)
      have X34 := X21.go X32 (z_sb (by decide))
      show z_ev (d + 2) 176 70 [some (.ref 4), some (.int p1), some (.int p2), some (.int p3)] [] M31 _
      refine z_xP zt176 37 71 [some (.ref 4), some (.int p1), some (.int p2), some (.int p3)] [.int 1] rfl rfl ?_
      have q1 : ((1 : Int32)).toInt = 1 := rfl
      have q1 : ((1 : Int32)).toInt = 1 := rfl
      have q1 : ((1 : Int32)).toInt = 1 := rfl
      have q1 : ((1 : Int32)).toInt = 1 := rfl
      have q1 : ((1 : Int32)).toInt = 1 := rfl
      have q1 : ((1 : Int32)).toInt = 1 := rfl
      have q1 : ((1 : Int32)).toInt = 1 := rfl
      have q1 : ((1 : Int32)).toInt = 1 := rfl
      have q1 : ((1 : Int32)).toInt = 1 := rfl
      have q1 : ((1 : Int32)).toInt = 1 := rfl
      exact z_xri zt176 38 rfl zzr176 (kk 1 M31 X34 (by omega) (by omega) (by omega) (fun _ => ⟨_, by omega, (((X32.2.a f14 (by decide)).trans (e22.a f14 (by decide))).trans h19)⟩) (fun hx => absurd (by omega) hx) (fun _ => ⟨_, by omega, ((X32.2.a f15 (by decide)).trans h24)⟩) (fun hx => absurd (by omega) hx) (fun _ => (((X32.2.o f17 (by decide)).trans ((e22.o f17 (by decide)).trans (e17.o f17 (by decide)))).trans h14)) (fun hx => absurd (by omega) hx) (fun _ => h33.trans (z_filc ((e22.lg f16 (by decide)).trans ((e17.lg f16 (by decide)).trans (e12.lg f16 (by decide)))) (by omega) (by omega))) (fun hx => absurd (by omega) hx))
    refine z_xP zt176 13 30 [some (.ref 4), some (.int p1), some (.int p2), some (.int p3)] [.int (-14)] rfl rfl ?_
    have qm14 : (((-14) : Int32)).toInt = (-14) := rfl
    have qm14 : (((-14) : Int32)).toInt = (-14) := rfl
    have qm14 : (((-14) : Int32)).toInt = (-14) := rfl
    have qm14 : (((-14) : Int32)).toInt = (-14) := rfl
    have qm14 : (((-14) : Int32)).toInt = (-14) := rfl
    have qm14 : (((-14) : Int32)).toInt = (-14) := rfl
    have qm14 : (((-14) : Int32)).toInt = (-14) := rfl
    have qm14 : (((-14) : Int32)).toInt = (-14) := rfl
    have qm14 : (((-14) : Int32)).toInt = (-14) := rfl
    have qm14 : (((-14) : Int32)).toInt = (-14) := rfl
    exact z_xri zt176 14 rfl zzr176 (kk (-14) M0 X (by omega) (by omega) (by omega) (fun hx => absurd hx (by omega)) (fun _ => rfl) (fun hx => absurd hx (by omega)) (fun _ => rfl) (fun hx => absurd hx (by omega)) (fun _ => rfl) (fun hx => absurd hx (by omega)) (fun _ => rfl))
  refine z_xP zt176 9 23 [some (.ref 4), some (.int p1), some (.int p2), some (.int p3)] [.int (-1)] rfl rfl ?_
  have qm1 : (((-1) : Int32)).toInt = (-1) := rfl
  have qm1 : (((-1) : Int32)).toInt = (-1) := rfl
  have qm1 : (((-1) : Int32)).toInt = (-1) := rfl
  have qm1 : (((-1) : Int32)).toInt = (-1) := rfl
  have qm1 : (((-1) : Int32)).toInt = (-1) := rfl
  have qm1 : (((-1) : Int32)).toInt = (-1) := rfl
  have qm1 : (((-1) : Int32)).toInt = (-1) := rfl
  have qm1 : (((-1) : Int32)).toInt = (-1) := rfl
  have qm1 : (((-1) : Int32)).toInt = (-1) := rfl
  have qm1 : (((-1) : Int32)).toInt = (-1) := rfl
  exact z_xri zt176 10 rfl zzr176 (kk (-1) M0 X (by omega) (by omega) (by omega) (fun hx => absurd hx (by omega)) (fun _ => rfl) (fun hx => absurd hx (by omega)) (fun _ => rfl) (fun hx => absurd hx (by omega)) (fun _ => rfl) (fun hx => absurd hx (by omega)) (fun _ => rfl))
theorem zRB285 {T : List zK} {d : Nat} {K : Option Value → zH → Prop} {p1 : Int32} {p2 : Int32} {p3 : Int32} {M0 : zH}  (kk : ∀ (x : Int32) (M1 : zH), z_X T zw285 M0 M1 → (-14) ≤ x.toInt → x.toInt ≤ 1 → ((x.toInt = 1 ∧ 0 ≤ p1.toInt ∧ p1.toInt ≤ 5 ∧ 0 ≤ p2.toInt ∧ p2.toInt ≤ 4 ∧ 0 ≤ p3.toInt ∧ p3.toInt ≤ 60) ∨ (x.toInt = -14 ∧ 0 ≤ p1.toInt ∧ p1.toInt ≤ 5 ∧ 0 ≤ p2.toInt ∧ p2.toInt ≤ 4 ∧ p3.toInt < 0) ∨ (x.toInt = -1 ∧ (p1.toInt < 0 ∨ 5 < p1.toInt ∨ p2.toInt < 0 ∨ 4 < p2.toInt ∨ 60 < p3.toInt))) → (x.toInt = 1 → ∃ v : Int32, (v.toInt = 20 + p2.toInt) ∧ z_Ar M1 49 = upd (z_Ar M0 49) p1.toNatClampNeg v) → (x.toInt ≠ 1 → z_Ar M1 49 = z_Ar M0 49) → (x.toInt = 1 → ∃ v : Int32, (v.toInt = p3.toInt) ∧ z_Ar M1 50 = upd (z_Ar M0 50) p1.toNatClampNeg v) → (x.toInt ≠ 1 → z_Ar M1 50 = z_Ar M0 50) → (x.toInt = 1 → z_Lg M1 51 = z_fil (z_Lg M0 51) (60 * p1.toInt.toNat) (60 * p1.toInt.toNat + 60) 0) → (x.toInt ≠ 1 → z_Lg M1 51 = z_Lg M0 51) → K (some (.int x)) M1) : ∀ n : Nat, (∀ (M : zH) (b4 : Int32), z_X T zw285 M0 M → 0 ≤ p1.toInt ∧ p1.toInt ≤ 5 → 0 ≤ p2.toInt ∧ p2.toInt ≤ 4 → 0 ≤ p3.toInt ∧ p3.toInt ≤ 60 → 0 ≤ b4.toInt ∧ b4.toInt ≤ 360 → 0 ≤ p1.toInt ∧ p1.toInt ≤ 5 ∧ 0 ≤ p2.toInt ∧ p2.toInt ≤ 4 ∧ 0 ≤ p3.toInt ∧ p3.toInt ≤ 60 → 60 * p1.toInt ≤ b4.toInt → b4.toInt ≤ 60 * p1.toInt + 60 → (∃ v : Int32, v.toInt = 20 + p2.toInt ∧ z_Ar M 49 = upd (z_Ar M0 49) p1.toNatClampNeg v) → (∃ v : Int32, v.toInt = p3.toInt ∧ z_Ar M 50 = upd (z_Ar M0 50) p1.toNatClampNeg v) → z_Lg M 51 = z_fil (z_Lg M0 51) (60 * p1.toInt.toNat) b4.toInt.toNat 0 → ((0) * 2 + 0) * 361 + (360 - b4.toInt) < (n : Int) → z_ev (d + 2) 285 57 [some (.ref 19), some (.int p1), some (.int p2), some (.int p3), some (.int b4)] [] M K) := by
  intro n
  induction n with
  | zero => exact by intros; exfalso; omega
  | succ n ih =>
    intro M b4 X hh0 hh1 hh2 hh3 hh4 hh5 hh6 hE49 hE50 hfl hE
    refine z_xP zt285 29 62 [some (.ref 19), some (.int p1), some (.int p2), some (.int p3), some (.int b4)] [.int p1, .int 60, .int b4] rfl rfl ?_
    refine z_xI zt285 30 rfl rfl (fun (x1 : Int32) (h2 : x1.toInt = 60 * p1.toInt) => ?_) (z_pMul rfl rfl (by omega) (by omega))
    refine z_xP zt285 31 65 [some (.ref 19), some (.int p1), some (.int p2), some (.int p3), some (.int b4)] [.int 60, .int x1, .int b4] rfl rfl ?_
    refine z_xI zt285 32 rfl rfl (fun (x3 : Int32) (h4 : x3.toInt = x1.toInt + 60) => ?_) (z_pAdd rfl rfl (by omega) (by omega))
    refine z_xJ zt285 33 rfl rfl (fun (h5 : x3.toInt ≤ b4.toInt) => ?_) (fun (h5 : b4.toInt < x3.toInt) => ?_)
    · skip
      refine z_xP zt285 40 84 [some (.ref 19), some (.int p1), some (.int p2), some (.int p3), some (.int b4)] [.int 1] rfl rfl ?_
      have q1 : ((1 : Int32)).toInt = 1 := rfl
      have q1 : ((1 : Int32)).toInt = 1 := rfl
      have q1 : ((1 : Int32)).toInt = 1 := rfl
      have q1 : ((1 : Int32)).toInt = 1 := rfl
      have q1 : ((1 : Int32)).toInt = 1 := rfl
      have q1 : ((1 : Int32)).toInt = 1 := rfl
      have q1 : ((1 : Int32)).toInt = 1 := rfl
      have q1 : ((1 : Int32)).toInt = 1 := rfl
      exact z_xri zt285 41 rfl zzr285 (kk 1 M X (by omega) (by omega) (by omega) (fun _ => hE49.elim fun v hv => ⟨v, hv.1, hv.2⟩) (fun hx => absurd (by omega) hx) (fun _ => hE50.elim fun v hv => ⟨v, hv.1, hv.2⟩) (fun hx => absurd (by omega) hx) (fun _ => (hfl).trans (z_filc rfl rfl (by omega))) (fun hx => absurd (by omega) hx))
    refine z_xP zt285 34 70 [some (.ref 19), some (.int p1), some (.int p2), some (.int p3), some (.int b4)] [.ref 19] rfl rfl ?_
    have f19 : T[19]? = some (.inl (12, 0, 0, 0, 0)) := X.1.k rfl (by decide)
    refine z_xgX (b := 51) zt285 35 rfl zo285 zzf12_103 X f19 (by decide) (by decide) rfl ?_
    refine z_xP zt285 36 76 [some (.ref 19), some (.int p1), some (.int p2), some (.int p3), some (.int b4)] [.long 0, .int b4, .ref 51] rfl rfl ?_
    have f51 : T[51]? = some (.inr (51, 1, 360, 0, 0)) := X.1.k rfl (by decide)
    refine z_xlsv zt285 37 rfl X f51 (by decide) (by decide) (by omega) (by omega) (by decide) (fun M6 X7 e8 h9 => ?_)
    refine z_xN zt285 38 rfl rfl (fun (x10 : Int32) (h11 : x10.toInt = b4.toInt + 1) => ?_) (z_pAdd rfl rfl (by omega) (by omega))
    show z_ev (d + 2) 285 80 [some (.ref 19), some (.int p1), some (.int p2), some (.int p3), some (.int x10)] [] M6 _
    refine z_xP zt285 39 57 [some (.ref 19), some (.int p1), some (.int p2), some (.int p3), some (.int x10)] [] rfl rfl ?_
    have f49 : T[49]? = some (.inr (49, 0, 6, (-1), 24)) := X7.1.k rfl (by decide)
    have f50 : T[50]? = some (.inr (50, 0, 6, 0, 60)) := X7.1.k rfl (by decide)
    exact ih M6 x10 X7 ⟨by omega, by omega⟩ ⟨by omega, by omega⟩ ⟨by omega, by omega⟩ ⟨by omega, by omega⟩ (by omega) (by omega) (by omega) (hE49.elim fun v hv => ⟨v, hv.1, ((e8.a f49 (by decide))).trans hv.2⟩) (hE50.elim fun v hv => ⟨v, hv.1, ((e8.a f50 (by decide))).trans hv.2⟩) (z_fils hfl h9 (by unfold Int32.toNatClampNeg <;> omega) (by omega) (by omega)) (by omega)
theorem zRC285 {T : List zK} {d : Nat} {K : Option Value → zH → Prop} {p1 : Int32} {p2 : Int32} {p3 : Int32} {M0 : zH} (hW : z_W M0 T)  (kk : ∀ (x : Int32) (M1 : zH), z_X T zw285 M0 M1 → (-14) ≤ x.toInt → x.toInt ≤ 1 → ((x.toInt = 1 ∧ 0 ≤ p1.toInt ∧ p1.toInt ≤ 5 ∧ 0 ≤ p2.toInt ∧ p2.toInt ≤ 4 ∧ 0 ≤ p3.toInt ∧ p3.toInt ≤ 60) ∨ (x.toInt = -14 ∧ 0 ≤ p1.toInt ∧ p1.toInt ≤ 5 ∧ 0 ≤ p2.toInt ∧ p2.toInt ≤ 4 ∧ p3.toInt < 0) ∨ (x.toInt = -1 ∧ (p1.toInt < 0 ∨ 5 < p1.toInt ∨ p2.toInt < 0 ∨ 4 < p2.toInt ∨ 60 < p3.toInt))) → (x.toInt = 1 → ∃ v : Int32, (v.toInt = 20 + p2.toInt) ∧ z_Ar M1 49 = upd (z_Ar M0 49) p1.toNatClampNeg v) → (x.toInt ≠ 1 → z_Ar M1 49 = z_Ar M0 49) → (x.toInt = 1 → ∃ v : Int32, (v.toInt = p3.toInt) ∧ z_Ar M1 50 = upd (z_Ar M0 50) p1.toNatClampNeg v) → (x.toInt ≠ 1 → z_Ar M1 50 = z_Ar M0 50) → (x.toInt = 1 → z_Lg M1 51 = z_fil (z_Lg M0 51) (60 * p1.toInt.toNat) (60 * p1.toInt.toNat + 60) 0) → (x.toInt ≠ 1 → z_Lg M1 51 = z_Lg M0 51) → K (some (.int x)) M1) : z_ev (d + 2) 285 0 [some (.ref 19), some (.int p1), some (.int p2), some (.int p3), none] [] M0 K := by
  have X : z_X T zw285 M0 M0 := .refl hW
  refine z_xP zt285 0 1 [some (.ref 19), some (.int p1), some (.int p2), some (.int p3), none] [.int p1] rfl rfl ?_
  refine z_xcS (vs := [.int p1]) (r := []) (L2 := [some (.int p1)]) zt285 1 rfl zo285 zzcS12_237 (Or.inl rfl) (Nat.le_of_ble_eq_true rfl) rfl rfl (Nat.le_of_ble_eq_true rfl) zzm225 (Nat.le_of_ble_eq_true rfl) rfl ?_
  refine z_xP zt225 0 1 [some (.int p1)] [.int p1] rfl rfl ?_
  have h1 := z_b32 p1
  refine z_xL zt225 1 rfl rfl (fun (y2 : Int64) (h3 : y2.toInt = p1.toInt) => ?_) (z_qI2L rfl)
  refine z_xP zt225 2 3 [some (.int p1)] [.long 0, .long y2] rfl rfl ?_
  refine z_xl2 zt225 3 rfl zo225 zkl12_318 ?_
  refine z_xcS (vs := [.long y2, .long 0, .long 5]) (r := []) (L2 := [some (.long y2), none, some (.long 0), none, some (.long 5), none]) zt225 4 rfl zo225 zzcS12_116 (Or.inl rfl) (Nat.le_of_ble_eq_true rfl) rfl rfl (Nat.le_of_ble_eq_true rfl) zzm189 (Nat.le_of_ble_eq_true rfl) rfl ?_
  refine z_xP zt189 0 2 [some (.long y2), none, some (.long 0), none, some (.long 5), none] [.long 0, .long y2] rfl rfl ?_
  refine z_xI zt189 1 rfl rfl (fun (x4 : Int32) (h5 : (x4.toInt < 0 ∧ y2.toInt < 0) ∨ (x4.toInt = 0 ∧ y2.toInt = 0) ∨ (0 < x4.toInt ∧ 0 < y2.toInt)) => ?_) (z_qCmp rfl rfl)
  refine z_xZ zt189 2 rfl rfl (fun (h6 : x4.toInt < 0) => ?_) (fun (h6 : 0 ≤ x4.toInt) => ?_)
  · skip
    refine z_xP zt189 7 18 [some (.long y2), none, some (.long 0), none, some (.long 5), none] [.int 0] rfl rfl ?_
    refine z_xrz zt189 8 rfl zzr189 (by decide) (by decide) ?_
    show z_ev (d + 1) 225 9 [some (.int p1)] [.int 0] M0 _
    refine z_xrz zt225 5 rfl zzr225 (by decide) (by decide) ?_
    show z_ev (d + 2) 285 4 [some (.ref 19), some (.int p1), some (.int p2), some (.int p3), none] [.int 0] M0 _
    refine z_xZ zt285 2 rfl rfl (fun (h7 : (0 : Int) = 0) => ?_) (fun (h7 : (0 : Int) ≠ 0) => absurd h7 (by omega))
    refine z_xP zt285 11 26 [some (.ref 19), some (.int p1), some (.int p2), some (.int p3), none] [.int (-1)] rfl rfl ?_
    have qm1 : (((-1) : Int32)).toInt = (-1) := rfl
    have qm1 : (((-1) : Int32)).toInt = (-1) := rfl
    have qm1 : (((-1) : Int32)).toInt = (-1) := rfl
    have qm1 : (((-1) : Int32)).toInt = (-1) := rfl
    have qm1 : (((-1) : Int32)).toInt = (-1) := rfl
    have qm1 : (((-1) : Int32)).toInt = (-1) := rfl
    have qm1 : (((-1) : Int32)).toInt = (-1) := rfl
    have qm1 : (((-1) : Int32)).toInt = (-1) := rfl
    exact z_xri zt285 12 rfl zzr285 (kk (-1) M0 X (by omega) (by omega) (by omega) (fun hx => absurd hx (by omega)) (fun _ => rfl) (fun hx => absurd hx (by omega)) (fun _ => rfl) (fun hx => absurd hx (by omega)) (fun _ => rfl))
  refine z_xP zt189 3 9 [some (.long y2), none, some (.long 0), none, some (.long 5), none] [.long 5, .long y2] rfl rfl ?_
  refine z_xI zt189 4 rfl rfl (fun (x8 : Int32) (h9 : (x8.toInt < 0 ∧ y2.toInt < 5) ∨ (x8.toInt = 0 ∧ y2.toInt = 5) ∨ (0 < x8.toInt ∧ 5 < y2.toInt)) => ?_) (z_qCmp rfl rfl)
  refine z_xZ zt189 5 rfl rfl (fun (h10 : 0 < x8.toInt) => ?_) (fun (h10 : x8.toInt ≤ 0) => ?_)
  · skip
    refine z_xP zt189 7 18 [some (.long y2), none, some (.long 0), none, some (.long 5), none] [.int 0] rfl rfl ?_
    refine z_xrz zt189 8 rfl zzr189 (by decide) (by decide) ?_
    show z_ev (d + 1) 225 9 [some (.int p1)] [.int 0] M0 _
    refine z_xrz zt225 5 rfl zzr225 (by decide) (by decide) ?_
    show z_ev (d + 2) 285 4 [some (.ref 19), some (.int p1), some (.int p2), some (.int p3), none] [.int 0] M0 _
    refine z_xZ zt285 2 rfl rfl (fun (h11 : (0 : Int) = 0) => ?_) (fun (h11 : (0 : Int) ≠ 0) => absurd h11 (by omega))
    refine z_xP zt285 11 26 [some (.ref 19), some (.int p1), some (.int p2), some (.int p3), none] [.int (-1)] rfl rfl ?_
    have qm1 : (((-1) : Int32)).toInt = (-1) := rfl
    have qm1 : (((-1) : Int32)).toInt = (-1) := rfl
    have qm1 : (((-1) : Int32)).toInt = (-1) := rfl
    have qm1 : (((-1) : Int32)).toInt = (-1) := rfl
    have qm1 : (((-1) : Int32)).toInt = (-1) := rfl
    have qm1 : (((-1) : Int32)).toInt = (-1) := rfl
    have qm1 : (((-1) : Int32)).toInt = (-1) := rfl
    have qm1 : (((-1) : Int32)).toInt = (-1) := rfl
    exact z_xri zt285 12 rfl zzr285 (kk (-1) M0 X (by omega) (by omega) (by omega) (fun hx => absurd hx (by omega)) (fun _ => rfl) (fun hx => absurd hx (by omega)) (fun _ => rfl) (fun hx => absurd hx (by omega)) (fun _ => rfl))
  refine z_xP zt189 6 18 [some (.long y2), none, some (.long 0), none, some (.long 5), none] [.int 1] rfl rfl ?_
  refine z_xrz zt189 8 rfl zzr189 (by decide) (by decide) ?_
  show z_ev (d + 1) 225 9 [some (.int p1)] [.int 1] M0 _
  refine z_xrz zt225 5 rfl zzr225 (by decide) (by decide) ?_
  show z_ev (d + 2) 285 4 [some (.ref 19), some (.int p1), some (.int p2), some (.int p3), none] [.int 1] M0 _
  refine z_xZ zt285 2 rfl rfl (fun (h12 : (1 : Int) = 0) => absurd h12 (by omega)) (fun (h12 : (1 : Int) ≠ 0) => ?_)
  refine z_xP zt285 3 8 [some (.ref 19), some (.int p1), some (.int p2), some (.int p3), none] [.int p2] rfl rfl ?_
  have h13 := z_b32 p2
  refine z_xL zt285 4 rfl rfl (fun (y14 : Int64) (h15 : y14.toInt = p2.toInt) => ?_) (z_qI2L rfl)
  refine z_xP zt285 5 10 [some (.ref 19), some (.int p1), some (.int p2), some (.int p3), none] [.long 0, .long y14] rfl rfl ?_
  refine z_xl2 zt285 6 rfl zo285 zkl12_114 ?_
  refine z_xcS (vs := [.long y14, .long 0, .long 4]) (r := []) (L2 := [some (.long y14), none, some (.long 0), none, some (.long 4), none]) zt285 7 rfl zo285 zzcS12_116 (Or.inl rfl) (Nat.le_of_ble_eq_true rfl) rfl rfl (Nat.le_of_ble_eq_true rfl) zzm189 (Nat.le_of_ble_eq_true rfl) rfl ?_
  refine z_xP zt189 0 2 [some (.long y14), none, some (.long 0), none, some (.long 4), none] [.long 0, .long y14] rfl rfl ?_
  refine z_xI zt189 1 rfl rfl (fun (x16 : Int32) (h17 : (x16.toInt < 0 ∧ y14.toInt < 0) ∨ (x16.toInt = 0 ∧ y14.toInt = 0) ∨ (0 < x16.toInt ∧ 0 < y14.toInt)) => ?_) (z_qCmp rfl rfl)
  refine z_xZ zt189 2 rfl rfl (fun (h18 : x16.toInt < 0) => ?_) (fun (h18 : 0 ≤ x16.toInt) => ?_)
  · skip
    refine z_xP zt189 7 18 [some (.long y14), none, some (.long 0), none, some (.long 4), none] [.int 0] rfl rfl ?_
    refine z_xrz zt189 8 rfl zzr189 (by decide) (by decide) ?_
    show z_ev (d + 2) 285 16 [some (.ref 19), some (.int p1), some (.int p2), some (.int p3), none] [.int 0] M0 _
    refine z_xZ zt285 8 rfl rfl (fun (h19 : (0 : Int) = 0) => ?_) (fun (h19 : (0 : Int) ≠ 0) => absurd h19 (by omega))
    refine z_xP zt285 11 26 [some (.ref 19), some (.int p1), some (.int p2), some (.int p3), none] [.int (-1)] rfl rfl ?_
    have qm1 : (((-1) : Int32)).toInt = (-1) := rfl
    have qm1 : (((-1) : Int32)).toInt = (-1) := rfl
    have qm1 : (((-1) : Int32)).toInt = (-1) := rfl
    have qm1 : (((-1) : Int32)).toInt = (-1) := rfl
    have qm1 : (((-1) : Int32)).toInt = (-1) := rfl
    have qm1 : (((-1) : Int32)).toInt = (-1) := rfl
    have qm1 : (((-1) : Int32)).toInt = (-1) := rfl
    have qm1 : (((-1) : Int32)).toInt = (-1) := rfl
    exact z_xri zt285 12 rfl zzr285 (kk (-1) M0 X (by omega) (by omega) (by omega) (fun hx => absurd hx (by omega)) (fun _ => rfl) (fun hx => absurd hx (by omega)) (fun _ => rfl) (fun hx => absurd hx (by omega)) (fun _ => rfl))
  refine z_xP zt189 3 9 [some (.long y14), none, some (.long 0), none, some (.long 4), none] [.long 4, .long y14] rfl rfl ?_
  refine z_xI zt189 4 rfl rfl (fun (x20 : Int32) (h21 : (x20.toInt < 0 ∧ y14.toInt < 4) ∨ (x20.toInt = 0 ∧ y14.toInt = 4) ∨ (0 < x20.toInt ∧ 4 < y14.toInt)) => ?_) (z_qCmp rfl rfl)
  refine z_xZ zt189 5 rfl rfl (fun (h22 : 0 < x20.toInt) => ?_) (fun (h22 : x20.toInt ≤ 0) => ?_)
  · skip
    refine z_xP zt189 7 18 [some (.long y14), none, some (.long 0), none, some (.long 4), none] [.int 0] rfl rfl ?_
    refine z_xrz zt189 8 rfl zzr189 (by decide) (by decide) ?_
    show z_ev (d + 2) 285 16 [some (.ref 19), some (.int p1), some (.int p2), some (.int p3), none] [.int 0] M0 _
    refine z_xZ zt285 8 rfl rfl (fun (h23 : (0 : Int) = 0) => ?_) (fun (h23 : (0 : Int) ≠ 0) => absurd h23 (by omega))
    refine z_xP zt285 11 26 [some (.ref 19), some (.int p1), some (.int p2), some (.int p3), none] [.int (-1)] rfl rfl ?_
    have qm1 : (((-1) : Int32)).toInt = (-1) := rfl
    have qm1 : (((-1) : Int32)).toInt = (-1) := rfl
    have qm1 : (((-1) : Int32)).toInt = (-1) := rfl
    have qm1 : (((-1) : Int32)).toInt = (-1) := rfl
    have qm1 : (((-1) : Int32)).toInt = (-1) := rfl
    have qm1 : (((-1) : Int32)).toInt = (-1) := rfl
    have qm1 : (((-1) : Int32)).toInt = (-1) := rfl
    have qm1 : (((-1) : Int32)).toInt = (-1) := rfl
    exact z_xri zt285 12 rfl zzr285 (kk (-1) M0 X (by omega) (by omega) (by omega) (fun hx => absurd hx (by omega)) (fun _ => rfl) (fun hx => absurd hx (by omega)) (fun _ => rfl) (fun hx => absurd hx (by omega)) (fun _ => rfl))
  refine z_xP zt189 6 18 [some (.long y14), none, some (.long 0), none, some (.long 4), none] [.int 1] rfl rfl ?_
  refine z_xrz zt189 8 rfl zzr189 (by decide) (by decide) ?_
  show z_ev (d + 2) 285 16 [some (.ref 19), some (.int p1), some (.int p2), some (.int p3), none] [.int 1] M0 _
  refine z_xZ zt285 8 rfl rfl (fun (h24 : (1 : Int) = 0) => absurd h24 (by omega)) (fun (h24 : (1 : Int) ≠ 0) => ?_)
  refine z_xP zt285 9 22 [some (.ref 19), some (.int p1), some (.int p2), some (.int p3), none] [.int 60, .int p3] rfl rfl ?_
  refine z_xJ zt285 10 rfl rfl (fun (h25 : p3.toInt ≤ 60) => ?_) (fun (h25 : 60 < p3.toInt) => ?_)
  · skip
    refine z_xP zt285 13 28 [some (.ref 19), some (.int p1), some (.int p2), some (.int p3), none] [.int p3] rfl rfl ?_
    refine z_xZ zt285 14 rfl rfl (fun (h26 : 0 ≤ p3.toInt) => ?_) (fun (h26 : p3.toInt < 0) => ?_)
    · skip
      refine z_xP zt285 17 35 [some (.ref 19), some (.int p1), some (.int p2), some (.int p3), none] [.ref 19] rfl rfl ?_
      have f19 : T[19]? = some (.inl (12, 0, 0, 0, 0)) := X.1.k rfl (by decide)
      refine z_xgX (b := 49) zt285 18 rfl zo285 zzf12_97 X f19 (by decide) (by decide) rfl ?_
      refine z_xP zt285 19 42 [some (.ref 19), some (.int p1), some (.int p2), some (.int p3), none] [.int p2, .int 20, .int p1, .ref 49] rfl rfl ?_
      refine z_xI zt285 20 rfl rfl (fun (x27 : Int32) (h28 : x27.toInt = 20 + p2.toInt) => ?_) (z_pAdd rfl rfl (by omega) (by omega))
      have f49 : T[49]? = some (.inr (49, 0, 6, (-1), 24)) := X.1.k rfl (by decide)
      refine z_xis zt285 21 rfl X f49 (by decide) (by decide) (by omega) (by omega) (by omega) (by omega) (by decide) (fun M29 X30 e31 h32 => ?_)
      have h33 := h32
      refine z_xP zt285 22 45 [some (.ref 19), some (.int p1), some (.int p2), some (.int p3), none] [.ref 19] rfl rfl ?_
      refine z_xgX (b := 50) zt285 23 rfl zo285 zzf12_100 X30 f19 (by decide) (by decide) rfl ?_
      refine z_xP zt285 24 50 [some (.ref 19), some (.int p1), some (.int p2), some (.int p3), none] [.int p3, .int p1, .ref 50] rfl rfl ?_
      have f50 : T[50]? = some (.inr (50, 0, 6, 0, 60)) := X30.1.k rfl (by decide)
      refine z_xis zt285 25 rfl X30 f50 (by decide) (by decide) (by omega) (by omega) (by omega) (by omega) (by decide) (fun M34 X35 e36 h37 => ?_)
      have h38 := (h37).trans (congrArg (fun f => upd f (p1).toNatClampNeg (p3)) (e31.a f50 (by decide)))
      refine z_xP zt285 26 54 [some (.ref 19), some (.int p1), some (.int p2), some (.int p3), none] [.int p1, .int 60] rfl rfl ?_
      refine z_xI zt285 27 rfl rfl (fun (x39 : Int32) (h40 : x39.toInt = 60 * p1.toInt) => ?_) (z_pMul rfl rfl (by omega) (by omega))
      refine z_xP zt285 28 57 [some (.ref 19), some (.int p1), some (.int p2), some (.int p3), some (.int x39)] [] rfl rfl ?_
      have f51 : T[51]? = some (.inr (51, 1, 360, 0, 0)) := X35.1.k rfl (by decide)
      exact (zRB285 kk 722) M34 x39 X35 ⟨by omega, by omega⟩ ⟨by omega, by omega⟩ ⟨by omega, by omega⟩ ⟨by omega, by omega⟩ (by omega) (by omega) (by omega) ⟨_, by omega, ((e36.a f49 (by decide)).trans h33)⟩ ⟨_, by omega, h38⟩ ((((e36.lg f51 (by decide)).trans (e31.lg f51 (by decide)))).trans (z_fil0 (by omega))) (by omega)
    refine z_xP zt285 15 33 [some (.ref 19), some (.int p1), some (.int p2), some (.int p3), none] [.int (-14)] rfl rfl ?_
    have qm14 : (((-14) : Int32)).toInt = (-14) := rfl
    have qm14 : (((-14) : Int32)).toInt = (-14) := rfl
    have qm14 : (((-14) : Int32)).toInt = (-14) := rfl
    have qm14 : (((-14) : Int32)).toInt = (-14) := rfl
    have qm14 : (((-14) : Int32)).toInt = (-14) := rfl
    have qm14 : (((-14) : Int32)).toInt = (-14) := rfl
    have qm14 : (((-14) : Int32)).toInt = (-14) := rfl
    have qm14 : (((-14) : Int32)).toInt = (-14) := rfl
    exact z_xri zt285 16 rfl zzr285 (kk (-14) M0 X (by omega) (by omega) (by omega) (fun hx => absurd hx (by omega)) (fun _ => rfl) (fun hx => absurd hx (by omega)) (fun _ => rfl) (fun hx => absurd hx (by omega)) (fun _ => rfl))
  refine z_xP zt285 11 26 [some (.ref 19), some (.int p1), some (.int p2), some (.int p3), none] [.int (-1)] rfl rfl ?_
  have qm1 : (((-1) : Int32)).toInt = (-1) := rfl
  have qm1 : (((-1) : Int32)).toInt = (-1) := rfl
  have qm1 : (((-1) : Int32)).toInt = (-1) := rfl
  have qm1 : (((-1) : Int32)).toInt = (-1) := rfl
  have qm1 : (((-1) : Int32)).toInt = (-1) := rfl
  have qm1 : (((-1) : Int32)).toInt = (-1) := rfl
  have qm1 : (((-1) : Int32)).toInt = (-1) := rfl
  have qm1 : (((-1) : Int32)).toInt = (-1) := rfl
  exact z_xri zt285 12 rfl zzr285 (kk (-1) M0 X (by omega) (by omega) (by omega) (fun hx => absurd hx (by omega)) (fun _ => rfl) (fun hx => absurd hx (by omega)) (fun _ => rfl) (fun hx => absurd hx (by omega)) (fun _ => rfl))
