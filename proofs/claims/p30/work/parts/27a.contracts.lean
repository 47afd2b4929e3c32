/-! contracts of the methods (printed by wip/gen/vparts.py) -/
def zw4 : List Nat := [6, 1101]
theorem zB4 {T : List zK} {d : Nat} {K : Option Value → zH → Prop} {p1 : Int32} {p2 : Int32} {M0 : zH} (u1 : 1 ≤ p1.toInt ∧ p1.toInt ≤ 4) (kk : ∀ (x : Int32) (M1 : zH), z_X T zw4 M0 M1 → 0 ≤ x.toInt → x.toInt ≤ 1 → K (some (.int x)) M1) : ∀ n : Nat, (∀ (M : zH) (b3 : Int32) (z0 : Int32), z_X T zw4 M0 M → 0 ≤ b3.toInt ∧ b3.toInt ≤ 4 → z_F M 5 1 = some (.int z0) → 0 ≤ z0.toInt ∧ z0.toInt ≤ 160 → z0.toInt + p1.toInt - b3.toInt ≤ 160 → b3.toInt ≤ p1.toInt → ((0) * 2 + 0) * 5 + (4 - b3.toInt) < (n : Int) → z_ev d 4 16 [some (.ref 5), some (.int p1), some (.int p2), some (.int b3)] [] M K) := by
  intro n
  induction n with
  | zero => exact by intros; exfalso; omega
  | succ n ih =>
    intro M b3 z0 X hh0 hp0 hh2 hh3 hh4 hE
    refine z_xP zt4 9 18 [some (.ref 5), some (.int p1), some (.int p2), some (.int b3)] [.int p1, .int b3] rfl rfl ?_
    refine z_xJ zt4 10 rfl rfl (fun (h1 : p1.toInt ≤ b3.toInt) => ?_) (fun (h1 : b3.toInt < p1.toInt) => ?_)
    · skip
      refine z_xP zt4 28 57 [some (.ref 5), some (.int p1), some (.int p2), some (.int b3)] [.int 1] rfl rfl ?_
      have q1 : ((1 : Int32)).toInt = 1 := rfl
      exact z_xrz zt4 29 rfl zzr4 (by decide) (by decide) (kk 1 M X (by omega) (by omega))
    refine z_xP zt4 11 22 [some (.ref 5), some (.int p1), some (.int p2), some (.int b3)] [.ref 5] rfl rfl ?_
    have f5 : T[5]? = some (.inl (1, 0, 0, 0, 0)) := X.1.k rfl (by decide)
    refine z_xgX (b := 6) zt4 12 rfl zo4 zzf1_9 X f5 (by decide) (by decide) rfl ?_
    refine z_xP zt4 13 26 [some (.ref 5), some (.int p1), some (.int p2), some (.int b3)] [.ref 5, .ref 6] rfl rfl ?_
    refine z_xgv zt4 14 rfl zo4 zzf1_25 X f5 (by decide) hp0 ?_
    refine z_xP zt4 15 33 [some (.ref 5), some (.int p1), some (.int p2), some (.int b3)] [.int b3, .int 8, .int p2, .int z0, .ref 6] rfl rfl ?_
    refine z_xI zt4 16 rfl rfl (fun (x2 : Int32) (h3 : x2.toInt = 8 * b3.toInt) => ?_) (z_pMul rfl rfl (by omega) (by omega))
    refine z_xI zt4 17 rfl rfl (P := fun _ => True) (fun (x4 : Int32) _ => ?_) trivial
    refine z_xP zt4 18 38 [some (.ref 5), some (.int p1), some (.int p2), some (.int b3)] [.int 255, .int x4, .int z0, .ref 6] rfl rfl ?_
    refine z_xI zt4 19 rfl rfl (fun (x6 : Int32) (h7 : 0 ≤ x6.toInt ∧ x6.toInt ≤ 255) => ?_) (z_pAnd rfl (by omega))
    have f6 : T[6]? = some (.inr (6, 0, 160, (-2147483648), 2147483647)) := X.1.k rfl (by decide)
    refine z_xis zt4 20 rfl X f6 (by decide) (by decide) (by omega) (by omega) (Int32.le_toInt _) (Int32.toInt_le _) (by decide) (fun M8 X9 e10 h11 => ?_)
    refine z_xP zt4 21 42 [some (.ref 5), some (.int p1), some (.int p2), some (.int b3)] [.ref 5, .ref 5] rfl rfl ?_
    have h12 := (e10.f f5 (by decide) hp0)
    refine z_xgv zt4 22 rfl zo4 zzf1_25 X9 f5 (by decide) h12 ?_
    refine z_xP zt4 23 46 [some (.ref 5), some (.int p1), some (.int p2), some (.int b3)] [.int 1, .int z0, .ref 5] rfl rfl ?_
    refine z_xI zt4 24 rfl rfl (fun (x13 : Int32) (h14 : x13.toInt = z0.toInt + 1) => ?_) (z_pAdd rfl rfl (by omega) (by omega))
    refine z_xpf zt4 25 rfl zo4 zzf1_25 X9 f5 (by decide) (by decide) ⟨by omega, by omega⟩ rfl (by decide) zw1_1 (fun M15 X16 e17 h18 => ?_)
    refine z_xN zt4 26 rfl rfl (fun (x19 : Int32) (h20 : x19.toInt = b3.toInt + 1) => ?_) (z_pAdd rfl rfl (by omega) (by omega))
    show z_ev d 4 53 [some (.ref 5), some (.int p1), some (.int p2), some (.int x19)] [] M15 _
    refine z_xP zt4 27 16 [some (.ref 5), some (.int p1), some (.int p2), some (.int x19)] [] rfl rfl ?_
    exact ih M15 x19 x13 X16 ⟨by omega, by omega⟩ h18 ⟨by omega, by omega⟩ (by omega) (by omega) (by omega)
theorem zC4 {T : List zK} {d : Nat} {K : Option Value → zH → Prop} {p1 : Int32} {p2 : Int32} {M0 : zH} (hW : z_W M0 T) (u1 : 1 ≤ p1.toInt ∧ p1.toInt ≤ 4) (kk : ∀ (x : Int32) (M1 : zH), z_X T zw4 M0 M1 → 0 ≤ x.toInt → x.toInt ≤ 1 → K (some (.int x)) M1) : z_ev d 4 0 [some (.ref 5), some (.int p1), some (.int p2), none] [] M0 K := by
  have X : z_X T zw4 M0 M0 := .refl hW
  refine z_xP zt4 0 1 [some (.ref 5), some (.int p1), some (.int p2), none] [.ref 5] rfl rfl ?_
  have f5 : T[5]? = some (.inl (1, 0, 0, 0, 0)) := X.1.k rfl (by decide)
  refine z_xgI zt4 1 rfl zo4 zzf1_25 X f5 (by decide) (by decide) rfl (fun (x2 : Int32) h1 (h3 : 0 ≤ x2.toInt) (h4 : x2.toInt ≤ 160) => ?_)
  refine z_xP zt4 2 5 [some (.ref 5), some (.int p1), some (.int p2), none] [.int p1, .int x2] rfl rfl ?_
  refine z_xI zt4 3 rfl rfl (fun (x5 : Int32) (h6 : x5.toInt = x2.toInt + p1.toInt) => ?_) (z_pAdd rfl rfl (by omega) (by omega))
  refine z_xP zt4 4 9 [some (.ref 5), some (.int p1), some (.int p2), none] [.int 160, .int x5] rfl rfl ?_
  refine z_xJ zt4 5 rfl rfl (fun (h7 : x5.toInt ≤ 160) => ?_) (fun (h7 : 160 < x5.toInt) => ?_)
  · skip
    refine z_xP zt4 8 16 [some (.ref 5), some (.int p1), some (.int p2), some (.int 0)] [] rfl rfl ?_
    have q0 : ((0 : Int32)).toInt = 0 := rfl
    exact (zB4 u1 kk 10) M0 (0) x2 X (by decide) h1 ⟨by omega, by omega⟩ (by omega) (by omega) (by omega)
  refine z_xP zt4 6 13 [some (.ref 5), some (.int p1), some (.int p2), none] [.int 0] rfl rfl ?_
  have q0 : ((0 : Int32)).toInt = 0 := rfl
  exact z_xrz zt4 7 rfl zzr4 (by decide) (by decide) (kk 0 M0 X (by omega) (by omega))
def zw3 : List Nat := [6, 1101]
theorem zC3 {T : List zK} {d : Nat} {K : Option Value → zH → Prop} {p1 : Int32} {p2 : Int32} {M0 : zH} (hW : z_W M0 T)  (kk : ∀ (x : Int32) (M1 : zH), z_X T zw3 M0 M1 → (-3) ≤ x.toInt → x.toInt ≤ 160 → K (some (.int x)) M1) : z_ev (d + 1) 3 0 [some (.ref 4), some (.int p1), some (.int p2)] [] M0 K := by
  have X : z_X T zw3 M0 M0 := .refl hW
  refine z_xP zt3 0 2 [some (.ref 4), some (.int p1), some (.int p2)] [.int 1, .int p1] rfl rfl ?_
  refine z_xJ zt3 1 rfl rfl (fun (h1 : p1.toInt < 1) => ?_) (fun (h1 : 1 ≤ p1.toInt) => ?_)
  · skip
    refine z_xP zt3 4 11 [some (.ref 4), some (.int p1), some (.int p2)] [.int (-1)] rfl rfl ?_
    have qm1 : (((-1) : Int32)).toInt = (-1) := rfl
    exact z_xri zt3 5 rfl zzr3 (kk (-1) M0 X (by omega) (by omega))
  refine z_xP zt3 2 7 [some (.ref 4), some (.int p1), some (.int p2)] [.int 4, .int p1] rfl rfl ?_
  refine z_xJ zt3 3 rfl rfl (fun (h2 : p1.toInt ≤ 4) => ?_) (fun (h2 : 4 < p1.toInt) => ?_)
  · skip
    refine z_xP zt3 6 13 [some (.ref 4), some (.int p1), some (.int p2)] [.ref 4] rfl rfl ?_
    have f4 : T[4]? = some (.inl (0, 0, 0, 0, 0)) := X.1.k rfl (by decide)
    refine z_xgX (b := 5) zt3 7 rfl zo3 zzf0_10 X f4 (by decide) (by decide) rfl ?_
    refine z_xP zt3 8 18 [some (.ref 4), some (.int p1), some (.int p2)] [.int p2, .int p1, .ref 5] rfl rfl ?_
    have f5 : T[5]? = some (.inl (1, 0, 0, 0, 0)) := X.1.k rfl (by decide)
    refine z_xcV (vs := [.ref 5, .int p1, .int p2]) (r := []) (L2 := [some (.ref 5), some (.int p1), some (.int p2), none]) zt3 9 rfl zo3 zzcV0_51 (Or.inl rfl) rfl X f5 rfl rfl rfl (Nat.le_of_ble_eq_true rfl) zzm4 (Nat.le_of_ble_eq_true rfl) rfl ?_
    refine zC4 X.1 (by omega) (fun x5 M3 X4 h6 h7 => ?_)
    have X8 := X.go X4 (z_sb (by decide))
    show z_ev (d + 1) 3 21 [some (.ref 4), some (.int p1), some (.int p2)] [.int x5] M3 _
    refine z_xZ zt3 10 rfl rfl (fun (h10 : x5.toInt = 0) => ?_) (fun (h10 : x5.toInt ≠ 0) => ?_)
    · skip
      refine z_xP zt3 15 36 [some (.ref 4), some (.int p1), some (.int p2)] [.int (-3)] rfl rfl ?_
      have qm3 : (((-3) : Int32)).toInt = (-3) := rfl
      exact z_xri zt3 16 rfl zzr3 (kk (-3) M3 X8 (by omega) (by omega))
    refine z_xP zt3 11 25 [some (.ref 4), some (.int p1), some (.int p2)] [.ref 4] rfl rfl ?_
    refine z_xgX (b := 5) zt3 12 rfl zo3 zzf0_10 X8 f4 (by decide) (by decide) rfl ?_
    refine z_xgI zt3 13 rfl zo3 zzf0_55 X8 f5 (by decide) (by decide) rfl (fun (x12 : Int32) h11 (h13 : 0 ≤ x12.toInt) (h14 : x12.toInt ≤ 160) => ?_)
    refine z_xP zt3 14 36 [some (.ref 4), some (.int p1), some (.int p2)] [.int x12] rfl rfl ?_
    exact z_xri zt3 16 rfl zzr3 (kk x12 M3 X8 (by omega) (by omega))
  refine z_xP zt3 4 11 [some (.ref 4), some (.int p1), some (.int p2)] [.int (-1)] rfl rfl ?_
  have qm1 : (((-1) : Int32)).toInt = (-1) := rfl
  exact z_xri zt3 5 rfl zzr3 (kk (-1) M0 X (by omega) (by omega))
theorem zB7 {T : List zK} {d : Nat} {K : Option Value → zH → Prop} {a0 : Nat} {rr : Nat} {len : Nat} {lo : Int} {hi : Int} {p1 : Int32} {M0 : zH} (r0 : rr ≠ 99 ∧ 4 ≤ a0) (k0 : T[a0]? = some (.inr (rr, 0, len, lo, hi))) (hv : lo ≤ p1.toInt ∧ p1.toInt ≤ hi) (hl : len < 2147483648) (kk : ∀ (M1 : zH), z_X T [rr] M0 M1 → K none M1) : ∀ n : Nat, (∀ (M : zH) (b2 : Int32) (b3 : Int32), z_X T [rr] M0 M → 0 ≤ b2.toInt ∧ b2.toInt ≤ 2147483647 → 0 ≤ b3.toInt ∧ b3.toInt ≤ 2147483647 → b3.toInt = (len : Int) → ((0) * 2 + 0) * 2147483648 + (2147483647 - b2.toInt) < (n : Int) → z_ev d 7 5 [some (.ref a0), some (.int p1), some (.int b2), some (.int b3)] [] M K) := by
  intro n
  induction n with
  | zero => exact by intros; exfalso; omega
  | succ n ih =>
    intro M b2 b3 X hh0 hh1 hh2 hE
    refine z_xP zt7 3 7 [some (.ref a0), some (.int p1), some (.int b2), some (.int b3)] [.int b3, .int b2] rfl rfl ?_
    have h1 := z_b32 b2
    have h2 := z_b32 b3
    refine z_xJ zt7 4 rfl rfl (fun (h3 : b3.toInt ≤ b2.toInt) => ?_) (fun (h3 : b2.toInt < b3.toInt) => ?_)
    · skip
      exact z_xrv zt7 9 rfl zzr7 (kk M X)
    refine z_xP zt7 5 13 [some (.ref a0), some (.int p1), some (.int b2), some (.int b3)] [.int p1, .int b2, .ref a0] rfl rfl ?_
    refine z_xis zt7 6 rfl X k0 r0.1 r0.2 (by omega) (by omega) (by omega) (by omega) (List.mem_singleton.mpr rfl) (fun M4 X5 e6 h7 => ?_)
    refine z_xN zt7 7 rfl rfl (fun (x8 : Int32) (h9 : x8.toInt = b2.toInt + 1) => ?_) (z_pAdd rfl rfl (by omega) (by omega))
    show z_ev d 7 17 [some (.ref a0), some (.int p1), some (.int x8), some (.int b3)] [] M4 _
    refine z_xP zt7 8 5 [some (.ref a0), some (.int p1), some (.int x8), some (.int b3)] [] rfl rfl ?_
    have h10 := z_b32 x8
    exact ih M4 x8 b3 X5 ⟨by omega, by omega⟩ ⟨by omega, by omega⟩ (by omega) (by omega)
theorem zC7 {T : List zK} {d : Nat} {K : Option Value → zH → Prop} {a0 : Nat} {rr : Nat} {len : Nat} {lo : Int} {hi : Int} {p1 : Int32} {M0 : zH} (hW : z_W M0 T) (r0 : rr ≠ 99 ∧ 4 ≤ a0) (k0 : T[a0]? = some (.inr (rr, 0, len, lo, hi))) (hv : lo ≤ p1.toInt ∧ p1.toInt ≤ hi) (hl : len < 2147483648) (kk : ∀ (M1 : zH), z_X T [rr] M0 M1 → K none M1) : z_ev d 7 0 [some (.ref a0), some (.int p1), none, none] [] M0 K := by
  have X : z_X T [rr] M0 M0 := .refl hW
  refine z_xP zt7 0 3 [some (.ref a0), some (.int p1), some (.int 0), none] [.ref a0] rfl rfl ?_
  refine z_xln zt7 1 rfl X k0 r0.1 (by omega) (fun (x1 : Int32) (h2 : x1.toInt = ((len : Nat) : Int)) => ?_)
  refine z_xP zt7 2 5 [some (.ref a0), some (.int p1), some (.int 0), some (.int x1)] [] rfl rfl ?_
  have q0 : ((0 : Int32)).toInt = 0 := rfl
  have h3 := z_b32 x1
  exact (zB7 r0 k0 hv hl kk 4294967296) M0 (0) x1 X (by decide) ⟨by omega, by omega⟩ (by omega) (by omega)
def zw9 : List Nat := [7, 1102, 1103, 1104]
def zw13 : List Nat := [1102, 1103]
theorem zB13 {T : List zK} {d : Nat} {K : Option Value → zH → Prop}  {M0 : zH}  (kk : ∀ (x : Int32) (M1 : zH), z_X T zw13 M0 M1 → 0 ≤ x.toInt → x.toInt ≤ 1023 → K (some (.int x)) M1) : ∀ n : Nat, (∀ (M : zH) (b1 : Int32) (b2 : Int32) (o3 : Option Value), z_X T zw13 M0 M → 0 ≤ b1.toInt ∧ b1.toInt ≤ 1023 → 0 ≤ b2.toInt ∧ b2.toInt ≤ 10 → ((0) * 2 + 0) * 11 + (10 - b2.toInt) < (n : Int) → z_ev (d + 1) 13 10 [some (.ref 5), some (.int b1), some (.int b2), o3] [] M K) := by
  intro n
  induction n with
  | zero => exact by intros; exfalso; omega
  | succ n ih =>
    intro M b1 b2 o3 X hh0 hh1 hE
    refine z_xP zt13 3 13 [some (.ref 5), some (.int b1), some (.int b2), o3] [.int 10, .int b2] rfl rfl ?_
    refine z_xJ zt13 4 rfl rfl (fun (h1 : 10 ≤ b2.toInt) => ?_) (fun (h1 : b2.toInt < 10) => ?_)
    · skip
      refine z_xP zt13 25 59 [some (.ref 5), some (.int b1), some (.int b2), o3] [.int b1] rfl rfl ?_
      refine z_xZ zt13 26 rfl rfl (fun (h2 : b1.toInt ≠ 0) => ?_) (fun (h2 : b1.toInt = 0) => ?_)
      · skip
        refine z_xP zt13 29 67 [some (.ref 5), some (.int b1), some (.int b2), o3] [.int b1] rfl rfl ?_
        exact z_xri zt13 30 rfl zzr13 (kk b1 M X (by omega) (by omega))
      refine z_xP zt13 27 63 [some (.ref 5), some (.int b1), some (.int b2), o3] [.ref 5] rfl rfl ?_
      have f5 : T[5]? = some (.inl (1, 0, 0, 0, 0)) := X.1.k rfl (by decide)
      refine z_xcV (vs := [.ref 5]) (r := []) (L2 := [some (.ref 5)]) zt13 28 rfl zo13 zzcV1_66 (Or.inl rfl) rfl X f5 rfl rfl rfl (Nat.le_of_ble_eq_true rfl) zzm10 (Nat.le_of_ble_eq_true rfl) rfl ?_
      refine z_xP zt10 0 1 [some (.ref 5)] [.ref 5] rfl rfl ?_
      refine z_xgI zt10 1 rfl zo10 zzf1_32 X f5 (by decide) (by decide) rfl (fun (x4 : Int32) h3 (h5 : (-2147483648) ≤ x4.toInt) (h6 : x4.toInt ≤ 2147483647) => ?_)
      refine z_xZ zt10 2 rfl rfl (fun (h7 : 0 ≤ x4.toInt) => ?_) (fun (h7 : x4.toInt < 0) => ?_)
      · skip
        refine z_xrv zt10 6 rfl zzr10 ?_
        show z_ev (d + 1) 13 66 [some (.ref 5), some (.int b1), some (.int b2), o3] [] M _
        refine z_xP zt13 29 67 [some (.ref 5), some (.int b1), some (.int b2), o3] [.int b1] rfl rfl ?_
        exact z_xri zt13 30 rfl zzr13 (kk b1 M X (by omega) (by omega))
      refine z_xP zt10 3 9 [some (.ref 5)] [.ref 5, .ref 5] rfl rfl ?_
      refine z_xgI zt10 4 rfl zo10 zzf1_29 X f5 (by decide) (by decide) rfl (fun (x9 : Int32) h8 (h10 : 0 ≤ x9.toInt) (h11 : x9.toInt ≤ 160) => ?_)
      refine z_xpf zt10 5 rfl zo10 zzf1_32 X f5 (by decide) (by decide) ⟨Int32.le_toInt _, Int32.toInt_le _⟩ rfl (by decide) zw1_3 (fun M12 X13 e14 h15 => ?_)
      refine z_xrv zt10 6 rfl zzr10 ?_
      show z_ev (d + 1) 13 66 [some (.ref 5), some (.int b1), some (.int b2), o3] [] M12 _
      refine z_xP zt13 29 67 [some (.ref 5), some (.int b1), some (.int b2), o3] [.int b1] rfl rfl ?_
      exact z_xri zt13 30 rfl zzr13 (kk b1 M12 X13 (by omega) (by omega))
    refine z_xP zt13 5 17 [some (.ref 5), some (.int b1), some (.int b2), o3] [.ref 5] rfl rfl ?_
    have f5 : T[5]? = some (.inl (1, 0, 0, 0, 0)) := X.1.k rfl (by decide)
    refine z_xcV (vs := [.ref 5]) (r := []) (L2 := [some (.ref 5), none]) zt13 6 rfl zo13 zzcV1_81 (Or.inl rfl) rfl X f5 rfl rfl rfl (Nat.le_of_ble_eq_true rfl) zzm14 (Nat.le_of_ble_eq_true rfl) rfl ?_
    refine z_xP zt14 0 1 [some (.ref 5), none] [.ref 5] rfl rfl ?_
    refine z_xgI zt14 1 rfl zo14 zzf1_32 X f5 (by decide) (by decide) rfl (fun (x17 : Int32) h16 (h18 : (-2147483648) ≤ x17.toInt) (h19 : x17.toInt ≤ 2147483647) => ?_)
    refine z_xZ zt14 2 rfl rfl (fun (h20 : 0 ≤ x17.toInt) => ?_) (fun (h20 : x17.toInt < 0) => ?_)
    · skip
      refine z_xP zt14 16 34 [some (.ref 5), none] [.int (-1)] rfl rfl ?_
      refine z_xP zt14 17 36 [some (.ref 5), some (.int (-1))] [.int (-1)] rfl rfl ?_
      refine z_xZ zt14 18 rfl rfl (fun (h21 : ((-1) : Int) < 0) => ?_) (fun (h21 : 0 ≤ ((-1) : Int)) => absurd h21 (by omega))
      refine z_xP zt14 21 55 [some (.ref 5), some (.int (-1))] [.int (-1)] rfl rfl ?_
      refine z_xri zt14 26 rfl zzr14 ?_
      show z_ev (d + 1) 13 20 [some (.ref 5), some (.int b1), some (.int b2), o3] [.int (-1)] M _
      refine z_xP zt13 7 22 [some (.ref 5), some (.int b1), some (.int b2), some (.int (-1))] [.int (-1)] rfl rfl ?_
      refine z_xZ zt13 8 rfl rfl (fun (h22 : ((-1) : Int) < 0) => ?_) (fun (h22 : 0 ≤ ((-1) : Int)) => absurd h22 (by omega))
      refine z_xP zt13 25 59 [some (.ref 5), some (.int b1), some (.int b2), some (.int (-1))] [.int b1] rfl rfl ?_
      refine z_xZ zt13 26 rfl rfl (fun (h23 : b1.toInt ≠ 0) => ?_) (fun (h23 : b1.toInt = 0) => ?_)
      · skip
        refine z_xP zt13 29 67 [some (.ref 5), some (.int b1), some (.int b2), some (.int (-1))] [.int b1] rfl rfl ?_
        exact z_xri zt13 30 rfl zzr13 (kk b1 M X (by omega) (by omega))
      refine z_xP zt13 27 63 [some (.ref 5), some (.int b1), some (.int b2), some (.int (-1))] [.ref 5] rfl rfl ?_
      refine z_xcV (vs := [.ref 5]) (r := []) (L2 := [some (.ref 5)]) zt13 28 rfl zo13 zzcV1_66 (Or.inl rfl) rfl X f5 rfl rfl rfl (Nat.le_of_ble_eq_true rfl) zzm10 (Nat.le_of_ble_eq_true rfl) rfl ?_
      refine z_xP zt10 0 1 [some (.ref 5)] [.ref 5] rfl rfl ?_
      refine z_xgv zt10 1 rfl zo10 zzf1_32 X f5 (by decide) h16 ?_
      refine z_xZ zt10 2 rfl rfl (fun (h24 : 0 ≤ x17.toInt) => ?_) (fun (h24 : x17.toInt < 0) => absurd h24 (by omega))
      refine z_xrv zt10 6 rfl zzr10 ?_
      show z_ev (d + 1) 13 66 [some (.ref 5), some (.int b1), some (.int b2), some (.int (-1))] [] M _
      refine z_xP zt13 29 67 [some (.ref 5), some (.int b1), some (.int b2), some (.int (-1))] [.int b1] rfl rfl ?_
      exact z_xri zt13 30 rfl zzr13 (kk b1 M X (by omega) (by omega))
    refine z_xP zt14 3 8 [some (.ref 5), none] [.ref 5] rfl rfl ?_
    refine z_xgI zt14 4 rfl zo14 zzf1_29 X f5 (by decide) (by decide) rfl (fun (x26 : Int32) h25 (h27 : 0 ≤ x26.toInt) (h28 : x26.toInt ≤ 160) => ?_)
    refine z_xP zt14 5 12 [some (.ref 5), none] [.ref 5, .int x26] rfl rfl ?_
    refine z_xgI zt14 6 rfl zo14 zzf1_25 X f5 (by decide) (by decide) rfl (fun (x30 : Int32) h29 (h31 : 0 ≤ x30.toInt) (h32 : x30.toInt ≤ 160) => ?_)
    refine z_xJ zt14 7 rfl rfl (fun (h33 : x30.toInt ≤ x26.toInt) => ?_) (fun (h33 : x26.toInt < x30.toInt) => ?_)
    · skip
      refine z_xP zt14 16 34 [some (.ref 5), none] [.int (-1)] rfl rfl ?_
      refine z_xP zt14 17 36 [some (.ref 5), some (.int (-1))] [.int (-1)] rfl rfl ?_
      refine z_xZ zt14 18 rfl rfl (fun (h34 : ((-1) : Int) < 0) => ?_) (fun (h34 : 0 ≤ ((-1) : Int)) => absurd h34 (by omega))
      refine z_xP zt14 21 55 [some (.ref 5), some (.int (-1))] [.int (-1)] rfl rfl ?_
      refine z_xri zt14 26 rfl zzr14 ?_
      show z_ev (d + 1) 13 20 [some (.ref 5), some (.int b1), some (.int b2), o3] [.int (-1)] M _
      refine z_xP zt13 7 22 [some (.ref 5), some (.int b1), some (.int b2), some (.int (-1))] [.int (-1)] rfl rfl ?_
      refine z_xZ zt13 8 rfl rfl (fun (h35 : ((-1) : Int) < 0) => ?_) (fun (h35 : 0 ≤ ((-1) : Int)) => absurd h35 (by omega))
      refine z_xP zt13 25 59 [some (.ref 5), some (.int b1), some (.int b2), some (.int (-1))] [.int b1] rfl rfl ?_
      refine z_xZ zt13 26 rfl rfl (fun (h36 : b1.toInt ≠ 0) => ?_) (fun (h36 : b1.toInt = 0) => ?_)
      · skip
        refine z_xP zt13 29 67 [some (.ref 5), some (.int b1), some (.int b2), some (.int (-1))] [.int b1] rfl rfl ?_
        exact z_xri zt13 30 rfl zzr13 (kk b1 M X (by omega) (by omega))
      refine z_xP zt13 27 63 [some (.ref 5), some (.int b1), some (.int b2), some (.int (-1))] [.ref 5] rfl rfl ?_
      refine z_xcV (vs := [.ref 5]) (r := []) (L2 := [some (.ref 5)]) zt13 28 rfl zo13 zzcV1_66 (Or.inl rfl) rfl X f5 rfl rfl rfl (Nat.le_of_ble_eq_true rfl) zzm10 (Nat.le_of_ble_eq_true rfl) rfl ?_
      refine z_xP zt10 0 1 [some (.ref 5)] [.ref 5] rfl rfl ?_
      refine z_xgv zt10 1 rfl zo10 zzf1_32 X f5 (by decide) h16 ?_
      refine z_xZ zt10 2 rfl rfl (fun (h37 : 0 ≤ x17.toInt) => absurd h37 (by omega)) (fun (h37 : x17.toInt < 0) => ?_)
      refine z_xP zt10 3 9 [some (.ref 5)] [.ref 5, .ref 5] rfl rfl ?_
      refine z_xgv zt10 4 rfl zo10 zzf1_29 X f5 (by decide) h25 ?_
      refine z_xpf zt10 5 rfl zo10 zzf1_32 X f5 (by decide) (by decide) ⟨Int32.le_toInt _, Int32.toInt_le _⟩ rfl (by decide) zw1_3 (fun M38 X39 e40 h41 => ?_)
      refine z_xrv zt10 6 rfl zzr10 ?_
      show z_ev (d + 1) 13 66 [some (.ref 5), some (.int b1), some (.int b2), some (.int (-1))] [] M38 _
      refine z_xP zt13 29 67 [some (.ref 5), some (.int b1), some (.int b2), some (.int (-1))] [.int b1] rfl rfl ?_
      exact z_xri zt13 30 rfl zzr13 (kk b1 M38 X39 (by omega) (by omega))
    refine z_xP zt14 8 19 [some (.ref 5), none] [.ref 5] rfl rfl ?_
    refine z_xgX (b := 6) zt14 9 rfl zo14 zzf1_9 X f5 (by decide) (by decide) rfl ?_
    refine z_xP zt14 10 23 [some (.ref 5), none] [.ref 5, .ref 6] rfl rfl ?_
    refine z_xgv zt14 11 rfl zo14 zzf1_29 X f5 (by decide) h25 ?_
    have f6 : T[6]? = some (.inr (6, 0, 160, (-2147483648), 2147483647)) := X.1.k rfl (by decide)
    refine z_xil zt14 12 rfl X f6 (by decide) (by omega) (by omega) (fun (x42 : Int32) h43 (h44 : (-2147483648) ≤ x42.toInt) (h45 : x42.toInt ≤ 2147483647) => ?_)
    refine z_xP zt14 13 29 [some (.ref 5), none] [.int 97, .int x42] rfl rfl ?_
    have h46 := z_b32 x42
    refine z_xI zt14 14 rfl rfl (P := fun _ => True) (fun (x47 : Int32) _ => ?_) trivial
    refine z_xP zt14 15 34 [some (.ref 5), none] [.int x47] rfl rfl ?_
    refine z_xP zt14 17 36 [some (.ref 5), some (.int x47)] [.int x47] rfl rfl ?_
    refine z_xZ zt14 18 rfl rfl (fun (h49 : x47.toInt < 0) => ?_) (fun (h49 : 0 ≤ x47.toInt) => ?_)
    · skip
      refine z_xP zt14 21 55 [some (.ref 5), some (.int x47)] [.int (-1)] rfl rfl ?_
      refine z_xri zt14 26 rfl zzr14 ?_
      show z_ev (d + 1) 13 20 [some (.ref 5), some (.int b1), some (.int b2), o3] [.int (-1)] M _
      refine z_xP zt13 7 22 [some (.ref 5), some (.int b1), some (.int b2), some (.int (-1))] [.int (-1)] rfl rfl ?_
      refine z_xZ zt13 8 rfl rfl (fun (h50 : ((-1) : Int) < 0) => ?_) (fun (h50 : 0 ≤ ((-1) : Int)) => absurd h50 (by omega))
      refine z_xP zt13 25 59 [some (.ref 5), some (.int b1), some (.int b2), some (.int (-1))] [.int b1] rfl rfl ?_
      refine z_xZ zt13 26 rfl rfl (fun (h51 : b1.toInt ≠ 0) => ?_) (fun (h51 : b1.toInt = 0) => ?_)
      · skip
        refine z_xP zt13 29 67 [some (.ref 5), some (.int b1), some (.int b2), some (.int (-1))] [.int b1] rfl rfl ?_
        exact z_xri zt13 30 rfl zzr13 (kk b1 M X (by omega) (by omega))
      refine z_xP zt13 27 63 [some (.ref 5), some (.int b1), some (.int b2), some (.int (-1))] [.ref 5] rfl rfl ?_
      refine z_xcV (vs := [.ref 5]) (r := []) (L2 := [some (.ref 5)]) zt13 28 rfl zo13 zzcV1_66 (Or.inl rfl) rfl X f5 rfl rfl rfl (Nat.le_of_ble_eq_true rfl) zzm10 (Nat.le_of_ble_eq_true rfl) rfl ?_
      refine z_xP zt10 0 1 [some (.ref 5)] [.ref 5] rfl rfl ?_
      refine z_xgv zt10 1 rfl zo10 zzf1_32 X f5 (by decide) h16 ?_
      refine z_xZ zt10 2 rfl rfl (fun (h52 : 0 ≤ x17.toInt) => absurd h52 (by omega)) (fun (h52 : x17.toInt < 0) => ?_)
      refine z_xP zt10 3 9 [some (.ref 5)] [.ref 5, .ref 5] rfl rfl ?_
      refine z_xgv zt10 4 rfl zo10 zzf1_29 X f5 (by decide) h25 ?_
      refine z_xpf zt10 5 rfl zo10 zzf1_32 X f5 (by decide) (by decide) ⟨Int32.le_toInt _, Int32.toInt_le _⟩ rfl (by decide) zw1_3 (fun M53 X54 e55 h56 => ?_)
      refine z_xrv zt10 6 rfl zzr10 ?_
      show z_ev (d + 1) 13 66 [some (.ref 5), some (.int b1), some (.int b2), some (.int (-1))] [] M53 _
      refine z_xP zt13 29 67 [some (.ref 5), some (.int b1), some (.int b2), some (.int (-1))] [.int b1] rfl rfl ?_
      exact z_xri zt13 30 rfl zzr13 (kk b1 M53 X54 (by omega) (by omega))
    refine z_xP zt14 19 42 [some (.ref 5), some (.int x47)] [.int 10, .int x47] rfl rfl ?_
    refine z_xJ zt14 20 rfl rfl (fun (h57 : x47.toInt < 10) => ?_) (fun (h57 : 10 ≤ x47.toInt) => ?_)
    · skip
      refine z_xP zt14 22 50 [some (.ref 5), some (.int x47)] [.ref 5] rfl rfl ?_
      refine z_xgX (b := 7) zt14 23 rfl zo14 zzf1_15 X f5 (by decide) (by decide) rfl ?_
      refine z_xP zt14 24 54 [some (.ref 5), some (.int x47)] [.int x47, .ref 7] rfl rfl ?_
      have f7 : T[7]? = some (.inr (7, 0, 10, (-1), 9)) := X.1.k rfl (by decide)
      refine z_xil zt14 25 rfl X f7 (by decide) (by omega) (by omega) (fun (x58 : Int32) h59 (h60 : (-1) ≤ x58.toInt) (h61 : x58.toInt ≤ 9) => ?_)
      refine z_xri zt14 26 rfl zzr14 ?_
      show z_ev (d + 1) 13 20 [some (.ref 5), some (.int b1), some (.int b2), o3] [.int x58] M _
      refine z_xP zt13 7 22 [some (.ref 5), some (.int b1), some (.int b2), some (.int x58)] [.int x58] rfl rfl ?_
      refine z_xZ zt13 8 rfl rfl (fun (h62 : x58.toInt < 0) => ?_) (fun (h62 : 0 ≤ x58.toInt) => ?_)
      · skip
        refine z_xP zt13 25 59 [some (.ref 5), some (.int b1), some (.int b2), some (.int x58)] [.int b1] rfl rfl ?_
        refine z_xZ zt13 26 rfl rfl (fun (h63 : b1.toInt ≠ 0) => ?_) (fun (h63 : b1.toInt = 0) => ?_)
        · skip
          refine z_xP zt13 29 67 [some (.ref 5), some (.int b1), some (.int b2), some (.int x58)] [.int b1] rfl rfl ?_
          exact z_xri zt13 30 rfl zzr13 (kk b1 M X (by omega) (by omega))
        refine z_xP zt13 27 63 [some (.ref 5), some (.int b1), some (.int b2), some (.int x58)] [.ref 5] rfl rfl ?_
        refine z_xcV (vs := [.ref 5]) (r := []) (L2 := [some (.ref 5)]) zt13 28 rfl zo13 zzcV1_66 (Or.inl rfl) rfl X f5 rfl rfl rfl (Nat.le_of_ble_eq_true rfl) zzm10 (Nat.le_of_ble_eq_true rfl) rfl ?_
        refine z_xP zt10 0 1 [some (.ref 5)] [.ref 5] rfl rfl ?_
        refine z_xgv zt10 1 rfl zo10 zzf1_32 X f5 (by decide) h16 ?_
        refine z_xZ zt10 2 rfl rfl (fun (h64 : 0 ≤ x17.toInt) => absurd h64 (by omega)) (fun (h64 : x17.toInt < 0) => ?_)
        refine z_xP zt10 3 9 [some (.ref 5)] [.ref 5, .ref 5] rfl rfl ?_
        refine z_xgv zt10 4 rfl zo10 zzf1_29 X f5 (by decide) h25 ?_
        refine z_xpf zt10 5 rfl zo10 zzf1_32 X f5 (by decide) (by decide) ⟨Int32.le_toInt _, Int32.toInt_le _⟩ rfl (by decide) zw1_3 (fun M65 X66 e67 h68 => ?_)
        refine z_xrv zt10 6 rfl zzr10 ?_
        show z_ev (d + 1) 13 66 [some (.ref 5), some (.int b1), some (.int b2), some (.int x58)] [] M65 _
        refine z_xP zt13 29 67 [some (.ref 5), some (.int b1), some (.int b2), some (.int x58)] [.int b1] rfl rfl ?_
        exact z_xri zt13 30 rfl zzr13 (kk b1 M65 X66 (by omega) (by omega))
      refine z_xP zt13 9 27 [some (.ref 5), some (.int b1), some (.int b2), some (.int x58)] [.int x58, .int b1] rfl rfl ?_
      refine z_xI zt13 10 rfl rfl (fun (x69 : Int32) (h70 : 0 ≤ x69.toInt ∧ x69.toInt ≤ b1.toInt) => ?_) (z_pShrN rfl (by omega))
      refine z_xP zt13 11 29 [some (.ref 5), some (.int b1), some (.int b2), some (.int x58)] [.int 1, .int x69] rfl rfl ?_
      refine z_xI zt13 12 rfl rfl (fun (x71 : Int32) (h72 : 0 ≤ x71.toInt ∧ x71.toInt ≤ x69.toInt ∧ x71.toInt ≤ 1) => ?_) (z_pAnd2 rfl rfl (by omega) (by omega))
      refine z_xZ zt13 13 rfl rfl (fun (h73 : x71.toInt = 0) => ?_) (fun (h73 : x71.toInt ≠ 0) => ?_)
      · skip
        refine z_xP zt13 15 39 [some (.ref 5), some (.int b1), some (.int b2), some (.int x58)] [.int x58, .int 1, .int b1] rfl rfl ?_
        refine z_xI zt13 16 rfl rfl (fun (x74 : Int32) (h75 : 1 ≤ x74.toInt ∧ x74.toInt ≤ 512) => ?_) (z_pShlB (a := 1) (b := 9) (c := 512) (r := 512) rfl rfl (by omega) (by omega) (by omega) (by omega) (by decide) (by decide) (by decide) (by decide))
        refine z_xI zt13 17 rfl rfl (fun (x76 : Int32) (h77 : 0 ≤ x76.toInt ∧ x76.toInt < 1024 ∧ b1.toInt ≤ x76.toInt ∧ x74.toInt ≤ x76.toInt) => ?_) (z_pOr 10 rfl rfl (by omega) (by omega) (by decide) (by omega) (by omega) (by decide))
        refine z_xP zt13 18 44 [some (.ref 5), some (.int x76), some (.int b2), some (.int x58)] [.ref 5, .ref 5] rfl rfl ?_
        refine z_xgv zt13 19 rfl zo13 zzf1_29 X f5 (by decide) h25 ?_
        refine z_xP zt13 20 48 [some (.ref 5), some (.int x76), some (.int b2), some (.int x58)] [.int 1, .int x26, .ref 5] rfl rfl ?_
        refine z_xI zt13 21 rfl rfl (fun (x78 : Int32) (h79 : x78.toInt = x26.toInt + 1) => ?_) (z_pAdd rfl rfl (by omega) (by omega))
        refine z_xpf zt13 22 rfl zo13 zzf1_29 X f5 (by decide) (by decide) ⟨by omega, by omega⟩ rfl (by decide) zw1_2 (fun M80 X81 e82 h83 => ?_)
        refine z_xN zt13 23 rfl rfl (fun (x84 : Int32) (h85 : x84.toInt = b2.toInt + 1) => ?_) (z_pAdd rfl rfl (by omega) (by omega))
        show z_ev (d + 1) 13 55 [some (.ref 5), some (.int x76), some (.int x84), some (.int x58)] [] M80 _
        refine z_xP zt13 24 10 [some (.ref 5), some (.int x76), some (.int x84), some (.int x58)] [] rfl rfl ?_
        exact ih M80 x76 x84 (some (.int x58)) X81 ⟨by omega, by omega⟩ ⟨by omega, by omega⟩ (by omega)
      refine z_xP zt13 14 58 [some (.ref 5), some (.int b1), some (.int b2), some (.int x58)] [] rfl rfl ?_
      refine z_xP zt13 25 59 [some (.ref 5), some (.int b1), some (.int b2), some (.int x58)] [.int b1] rfl rfl ?_
      refine z_xZ zt13 26 rfl rfl (fun (h86 : b1.toInt ≠ 0) => ?_) (fun (h86 : b1.toInt = 0) => ?_)
      · skip
        refine z_xP zt13 29 67 [some (.ref 5), some (.int b1), some (.int b2), some (.int x58)] [.int b1] rfl rfl ?_
        exact z_xri zt13 30 rfl zzr13 (kk b1 M X (by omega) (by omega))
      refine z_xP zt13 27 63 [some (.ref 5), some (.int b1), some (.int b2), some (.int x58)] [.ref 5] rfl rfl ?_
      refine z_xcV (vs := [.ref 5]) (r := []) (L2 := [some (.ref 5)]) zt13 28 rfl zo13 zzcV1_66 (Or.inl rfl) rfl X f5 rfl rfl rfl (Nat.le_of_ble_eq_true rfl) zzm10 (Nat.le_of_ble_eq_true rfl) rfl ?_
      refine z_xP zt10 0 1 [some (.ref 5)] [.ref 5] rfl rfl ?_
      refine z_xgv zt10 1 rfl zo10 zzf1_32 X f5 (by decide) h16 ?_
      refine z_xZ zt10 2 rfl rfl (fun (h87 : 0 ≤ x17.toInt) => absurd h87 (by omega)) (fun (h87 : x17.toInt < 0) => ?_)
      refine z_xP zt10 3 9 [some (.ref 5)] [.ref 5, .ref 5] rfl rfl ?_
      refine z_xgv zt10 4 rfl zo10 zzf1_29 X f5 (by decide) h25 ?_
      refine z_xpf zt10 5 rfl zo10 zzf1_32 X f5 (by decide) (by decide) ⟨Int32.le_toInt _, Int32.toInt_le _⟩ rfl (by decide) zw1_3 (fun M88 X89 e90 h91 => ?_)
      refine z_xrv zt10 6 rfl zzr10 ?_
      show z_ev (d + 1) 13 66 [some (.ref 5), some (.int b1), some (.int b2), some (.int x58)] [] M88 _
      refine z_xP zt13 29 67 [some (.ref 5), some (.int b1), some (.int b2), some (.int x58)] [.int b1] rfl rfl ?_
      exact z_xri zt13 30 rfl zzr13 (kk b1 M88 X89 (by omega) (by omega))
    refine z_xP zt14 21 55 [some (.ref 5), some (.int x47)] [.int (-1)] rfl rfl ?_
    refine z_xri zt14 26 rfl zzr14 ?_
    show z_ev (d + 1) 13 20 [some (.ref 5), some (.int b1), some (.int b2), o3] [.int (-1)] M _
    refine z_xP zt13 7 22 [some (.ref 5), some (.int b1), some (.int b2), some (.int (-1))] [.int (-1)] rfl rfl ?_
    refine z_xZ zt13 8 rfl rfl (fun (h92 : ((-1) : Int) < 0) => ?_) (fun (h92 : 0 ≤ ((-1) : Int)) => absurd h92 (by omega))
    refine z_xP zt13 25 59 [some (.ref 5), some (.int b1), some (.int b2), some (.int (-1))] [.int b1] rfl rfl ?_
    refine z_xZ zt13 26 rfl rfl (fun (h93 : b1.toInt ≠ 0) => ?_) (fun (h93 : b1.toInt = 0) => ?_)
    · skip
      refine z_xP zt13 29 67 [some (.ref 5), some (.int b1), some (.int b2), some (.int (-1))] [.int b1] rfl rfl ?_
      exact z_xri zt13 30 rfl zzr13 (kk b1 M X (by omega) (by omega))
    refine z_xP zt13 27 63 [some (.ref 5), some (.int b1), some (.int b2), some (.int (-1))] [.ref 5] rfl rfl ?_
    refine z_xcV (vs := [.ref 5]) (r := []) (L2 := [some (.ref 5)]) zt13 28 rfl zo13 zzcV1_66 (Or.inl rfl) rfl X f5 rfl rfl rfl (Nat.le_of_ble_eq_true rfl) zzm10 (Nat.le_of_ble_eq_true rfl) rfl ?_
    refine z_xP zt10 0 1 [some (.ref 5)] [.ref 5] rfl rfl ?_
    refine z_xgv zt10 1 rfl zo10 zzf1_32 X f5 (by decide) h16 ?_
    refine z_xZ zt10 2 rfl rfl (fun (h94 : 0 ≤ x17.toInt) => absurd h94 (by omega)) (fun (h94 : x17.toInt < 0) => ?_)
    refine z_xP zt10 3 9 [some (.ref 5)] [.ref 5, .ref 5] rfl rfl ?_
    refine z_xgv zt10 4 rfl zo10 zzf1_29 X f5 (by decide) h25 ?_
    refine z_xpf zt10 5 rfl zo10 zzf1_32 X f5 (by decide) (by decide) ⟨Int32.le_toInt _, Int32.toInt_le _⟩ rfl (by decide) zw1_3 (fun M95 X96 e97 h98 => ?_)
    refine z_xrv zt10 6 rfl zzr10 ?_
    show z_ev (d + 1) 13 66 [some (.ref 5), some (.int b1), some (.int b2), some (.int (-1))] [] M95 _
    refine z_xP zt13 29 67 [some (.ref 5), some (.int b1), some (.int b2), some (.int (-1))] [.int b1] rfl rfl ?_
    exact z_xri zt13 30 rfl zzr13 (kk b1 M95 X96 (by omega) (by omega))
theorem zC13 {T : List zK} {d : Nat} {K : Option Value → zH → Prop}  {M0 : zH} (hW : z_W M0 T)  (kk : ∀ (x : Int32) (M1 : zH), z_X T zw13 M0 M1 → 0 ≤ x.toInt → x.toInt ≤ 1023 → K (some (.int x)) M1) : z_ev (d + 1) 13 0 [some (.ref 5), none, none, none] [] M0 K := by
  have X : z_X T zw13 M0 M0 := .refl hW
  refine z_xP zt13 0 3 [some (.ref 5), none, none, none] [.int 32, .ref 5] rfl rfl ?_
  have f5 : T[5]? = some (.inl (1, 0, 0, 0, 0)) := X.1.k rfl (by decide)
  refine z_xcV (vs := [.ref 5, .int 32]) (r := []) (L2 := [some (.ref 5), some (.int 32)]) zt13 1 rfl zo13 zzcV1_56 (Or.inl rfl) rfl X f5 rfl rfl rfl (Nat.le_of_ble_eq_true rfl) zzm8 (Nat.le_of_ble_eq_true rfl) rfl ?_
  refine z_xP zt8 0 1 [some (.ref 5), some (.int 32)] [.ref 5] rfl rfl ?_
  refine z_xgI zt8 1 rfl zo8 zzf1_32 X f5 (by decide) (by decide) rfl (fun (x2 : Int32) h1 (h3 : (-2147483648) ≤ x2.toInt) (h4 : x2.toInt ≤ 2147483647) => ?_)
  refine z_xZ zt8 2 rfl rfl (fun (h5 : x2.toInt < 0) => ?_) (fun (h5 : 0 ≤ x2.toInt) => ?_)
  · skip
    refine z_xP zt8 4 9 [some (.ref 5), some (.int 32)] [.ref 5] rfl rfl ?_
    refine z_xgI zt8 5 rfl zo8 zzf1_29 X f5 (by decide) (by decide) rfl (fun (x7 : Int32) h6 (h8 : 0 ≤ x7.toInt) (h9 : x7.toInt ≤ 160) => ?_)
    refine z_xP zt8 6 13 [some (.ref 5), some (.int 32)] [.ref 5, .int x7] rfl rfl ?_
    refine z_xgI zt8 7 rfl zo8 zzf1_25 X f5 (by decide) (by decide) rfl (fun (x11 : Int32) h10 (h12 : 0 ≤ x11.toInt) (h13 : x11.toInt ≤ 160) => ?_)
    refine z_xJ zt8 8 rfl rfl (fun (h14 : x11.toInt ≤ x7.toInt) => ?_) (fun (h14 : x7.toInt < x11.toInt) => ?_)
    · skip
      refine z_xP zt8 22 47 [some (.ref 5), some (.int 32)] [.ref 5, .ref 5] rfl rfl ?_
      refine z_xgv zt8 23 rfl zo8 zzf1_29 X f5 (by decide) h6 ?_
      refine z_xpf zt8 24 rfl zo8 zzf1_32 X f5 (by decide) (by decide) ⟨Int32.le_toInt _, Int32.toInt_le _⟩ rfl (by decide) zw1_3 (fun M15 X16 e17 h18 => ?_)
      refine z_xrv zt8 25 rfl zzr8 ?_
      show z_ev (d + 1) 13 6 [some (.ref 5), none, none, none] [] M15 _
      refine z_xP zt13 2 10 [some (.ref 5), some (.int 0), some (.int 0), none] [] rfl rfl ?_
      have q0 : ((0 : Int32)).toInt = 0 := rfl
      exact (zB13 kk 22) M15 (0) (0) none X16 (by decide) (by decide) (by omega)
    refine z_xP zt8 9 20 [some (.ref 5), some (.int 32)] [.ref 5] rfl rfl ?_
    refine z_xgX (b := 6) zt8 10 rfl zo8 zzf1_9 X f5 (by decide) (by decide) rfl ?_
    refine z_xP zt8 11 24 [some (.ref 5), some (.int 32)] [.ref 5, .ref 6] rfl rfl ?_
    refine z_xgv zt8 12 rfl zo8 zzf1_29 X f5 (by decide) h6 ?_
    have f6 : T[6]? = some (.inr (6, 0, 160, (-2147483648), 2147483647)) := X.1.k rfl (by decide)
    refine z_xil zt8 13 rfl X f6 (by decide) (by omega) (by omega) (fun (x19 : Int32) h20 (h21 : (-2147483648) ≤ x19.toInt) (h22 : x19.toInt ≤ 2147483647) => ?_)
    refine z_xP zt8 14 29 [some (.ref 5), some (.int 32)] [.int 32, .int x19] rfl rfl ?_
    refine z_xJ zt8 15 rfl rfl (fun (h23 : x19.toInt ≠ 32) => ?_) (fun (h23 : x19.toInt = 32) => ?_)
    · skip
      refine z_xP zt8 22 47 [some (.ref 5), some (.int 32)] [.ref 5, .ref 5] rfl rfl ?_
      refine z_xgv zt8 23 rfl zo8 zzf1_29 X f5 (by decide) h6 ?_
      refine z_xpf zt8 24 rfl zo8 zzf1_32 X f5 (by decide) (by decide) ⟨Int32.le_toInt _, Int32.toInt_le _⟩ rfl (by decide) zw1_3 (fun M24 X25 e26 h27 => ?_)
      refine z_xrv zt8 25 rfl zzr8 ?_
      show z_ev (d + 1) 13 6 [some (.ref 5), none, none, none] [] M24 _
      refine z_xP zt13 2 10 [some (.ref 5), some (.int 0), some (.int 0), none] [] rfl rfl ?_
      have q0 : ((0 : Int32)).toInt = 0 := rfl
      exact (zB13 kk 22) M24 (0) (0) none X25 (by decide) (by decide) (by omega)
    refine z_xP zt8 16 34 [some (.ref 5), some (.int 32)] [.ref 5, .ref 5] rfl rfl ?_
    refine z_xgv zt8 17 rfl zo8 zzf1_29 X f5 (by decide) h6 ?_
    refine z_xP zt8 18 38 [some (.ref 5), some (.int 32)] [.int 1, .int x7, .ref 5] rfl rfl ?_
    refine z_xI zt8 19 rfl rfl (fun (x28 : Int32) (h29 : x28.toInt = x7.toInt + 1) => ?_) (z_pAdd rfl rfl (by omega) (by omega))
    refine z_xpf zt8 20 rfl zo8 zzf1_29 X f5 (by decide) (by decide) ⟨by omega, by omega⟩ rfl (by decide) zw1_2 (fun M30 X31 e32 h33 => ?_)
    refine z_xP zt8 21 53 [some (.ref 5), some (.int 32)] [] rfl rfl ?_
    refine z_xrv zt8 25 rfl zzr8 ?_
    show z_ev (d + 1) 13 6 [some (.ref 5), none, none, none] [] M30 _
    refine z_xP zt13 2 10 [some (.ref 5), some (.int 0), some (.int 0), none] [] rfl rfl ?_
    have q0 : ((0 : Int32)).toInt = 0 := rfl
    exact (zB13 kk 22) M30 (0) (0) none X31 (by decide) (by decide) (by omega)
  refine z_xrv zt8 3 rfl zzr8 ?_
  show z_ev (d + 1) 13 6 [some (.ref 5), none, none, none] [] M0 _
  refine z_xP zt13 2 10 [some (.ref 5), some (.int 0), some (.int 0), none] [] rfl rfl ?_
  have q0 : ((0 : Int32)).toInt = 0 := rfl
  exact (zB13 kk 22) M0 (0) (0) none X (by decide) (by decide) (by omega)
theorem zB20 {T : List zK} {d : Nat} {K : Option Value → zH → Prop} {a0 : Nat} {rr : Nat} {len : Nat} {p1 : Int32} {p2 : Int32} {p3 : Int64} {M0 : zH} (r0 : rr ≠ 99 ∧ 4 ≤ a0) (k0 : T[a0]? = some (.inr (rr, 1, len, 0, 0))) (u1 : 0 ≤ p1.toInt ∧ p1.toInt ≤ 360) (u2 : 0 ≤ p2.toInt ∧ p2.toInt ≤ 360) (hl : len < 2147483648) (hb : p1.toInt ≤ p2.toInt ∧ p2.toInt ≤ (len : Int)) (kk : ∀ (M1 : zH), z_X T [rr] M0 M1 → K none M1) : ∀ n : Nat, (∀ (M : zH) (b5 : Int32), z_X T [rr] M0 M → 0 ≤ b5.toInt ∧ b5.toInt ≤ 360 → ((0) * 2 + 0) * 361 + (360 - b5.toInt) < (n : Int) → z_ev (d + 1) 20 10 [some (.ref a0), some (.int p1), some (.int p2), some (.long p3), none, some (.int b5)] [] M K) := by
  intro n
  induction n with
  | zero => exact by intros; exfalso; omega
  | succ n ih =>
    intro M b5 X hh0 hE
    refine z_xP zt20 5 13 [some (.ref a0), some (.int p1), some (.int p2), some (.long p3), none, some (.int b5)] [.int p2, .int b5] rfl rfl ?_
    refine z_xJ zt20 6 rfl rfl (fun (h1 : p2.toInt ≤ b5.toInt) => ?_) (fun (h1 : b5.toInt < p2.toInt) => ?_)
    · skip
      exact z_xrv zt20 11 rfl zzr20 (kk M X)
    refine z_xP zt20 7 20 [some (.ref a0), some (.int p1), some (.int p2), some (.long p3), none, some (.int b5)] [.long p3, .int b5, .ref a0] rfl rfl ?_
    refine z_xls zt20 8 rfl X k0 r0.1 r0.2 (by omega) (by omega) (List.mem_singleton.mpr rfl) (fun M2 X3 e4 => ?_)
    refine z_xN zt20 9 rfl rfl (fun (x5 : Int32) (h6 : x5.toInt = b5.toInt + 1) => ?_) (z_pAdd rfl rfl (by omega) (by omega))
    show z_ev (d + 1) 20 24 [some (.ref a0), some (.int p1), some (.int p2), some (.long p3), none, some (.int x5)] [] M2 _
    refine z_xP zt20 10 10 [some (.ref a0), some (.int p1), some (.int p2), some (.long p3), none, some (.int x5)] [] rfl rfl ?_
    exact ih M2 x5 X3 ⟨by omega, by omega⟩ (by omega)
theorem zC20 {T : List zK} {d : Nat} {K : Option Value → zH → Prop} {a0 : Nat} {rr : Nat} {len : Nat} {p1 : Int32} {p2 : Int32} {p3 : Int64} {M0 : zH} (hW : z_W M0 T) (r0 : rr ≠ 99 ∧ 4 ≤ a0) (k0 : T[a0]? = some (.inr (rr, 1, len, 0, 0))) (u1 : 0 ≤ p1.toInt ∧ p1.toInt ≤ 360) (u2 : 0 ≤ p2.toInt ∧ p2.toInt ≤ 360) (hl : len < 2147483648) (hb : p1.toInt ≤ p2.toInt ∧ p2.toInt ≤ (len : Int)) (kk : ∀ (M1 : zH), z_X T [rr] M0 M1 → K none M1) : z_ev (d + 1) 20 0 [some (.ref a0), some (.int p1), some (.int p2), some (.long p3), none, none] [] M0 K := by
  have X : z_X T [rr] M0 M0 := .refl hW
  refine z_xP zt20 0 1 [some (.ref a0), some (.int p1), some (.int p2), some (.long p3), none, none] [.ref a0] rfl rfl ?_
  refine z_xln zt20 1 rfl X k0 r0.1 (by omega) (fun (x1 : Int32) (h2 : x1.toInt = ((len : Nat) : Int)) => ?_)
  refine z_xP zt20 2 4 [some (.ref a0), some (.int p1), some (.int p2), some (.long p3), none, none] [.int p2, .int p1, .int x1] rfl rfl ?_
  refine z_xcS (vs := [.int x1, .int p1, .int p2]) (r := []) (L2 := [some (.int x1), some (.int p1), some (.int p2)]) zt20 3 rfl zo20 zzcS14_13 (Or.inl rfl) (Nat.le_of_ble_eq_true rfl) rfl rfl (Nat.le_of_ble_eq_true rfl) zzm21 (Nat.le_of_ble_eq_true rfl) rfl ?_
  refine z_xP zt21 0 2 [some (.int x1), some (.int p1), some (.int p2)] [.int p2, .int p1] rfl rfl ?_
  refine z_xJ zt21 1 rfl rfl (fun (h3 : p1.toInt ≤ p2.toInt) => ?_) (fun (h3 : p2.toInt < p1.toInt) => ?_)
  · skip
    refine z_xP zt21 20 47 [some (.int x1), some (.int p1), some (.int p2)] [.int p1] rfl rfl ?_
    refine z_xZ zt21 21 rfl rfl (fun (h4 : 0 ≤ p1.toInt) => ?_) (fun (h4 : p1.toInt < 0) => absurd h4 (by omega))
    refine z_xP zt21 26 61 [some (.int x1), some (.int p1), some (.int p2)] [.int x1, .int p2] rfl rfl ?_
    have h5 := z_b32 x1
    refine z_xJ zt21 27 rfl rfl (fun (h6 : p2.toInt ≤ x1.toInt) => ?_) (fun (h6 : x1.toInt < p2.toInt) => ?_)
    · skip
      refine z_xrv zt21 32 rfl zzr21 ?_
      show z_ev (d + 1) 20 7 [some (.ref a0), some (.int p1), some (.int p2), some (.long p3), none, none] [] M0 _
      refine z_xP zt20 4 10 [some (.ref a0), some (.int p1), some (.int p2), some (.long p3), none, some (.int p1)] [] rfl rfl ?_
      exact (zB20 r0 k0 u1 u2 hl hb kk 722) M0 p1 X ⟨by omega, by omega⟩ (by omega)
    exfalso; omega
  exfalso; omega
def zw15 : List Nat := [9, 1102, 1103]
def zw16 : List Nat := [9, 1102, 1103]
def zw17 : List Nat := [9, 1102, 1103]
def zw19 : List Nat := [9, 1102, 1103]
def zQ15 (T : List zK) (N : Nat) : Prop := ∀ {d : Nat} {K : Option Value → zH → Prop} {p1 : Int32}  {M0 : zH} (hW : z_W M0 T) (u1 : 0 ≤ p1.toInt ∧ p1.toInt ≤ 6) (hm : 4 * (6 - p1.toInt) + 2 < (N : Int)) (hd : 4 * (6 - p1.toInt) + 2 ≤ (d : Int)) (kk : ∀ (x : Int64) (M1 : zH), z_X T zw15 M0 M1 → K (some (.long x)) M1), z_ev (d + 5) 15 0 [some (.ref 5), some (.int p1), none, none, none, none, none] [] M0 K
def zQ16 (T : List zK) (N : Nat) : Prop := ∀ {d : Nat} {K : Option Value → zH → Prop} {p1 : Int32}  {M0 : zH} (hW : z_W M0 T) (u1 : 0 ≤ p1.toInt ∧ p1.toInt ≤ 6) (hm : 4 * (6 - p1.toInt) + 1 < (N : Int)) (hd : 4 * (6 - p1.toInt) + 1 ≤ (d : Int)) (kk : ∀ (x : Int64) (M1 : zH), z_X T zw16 M0 M1 → K (some (.long x)) M1), z_ev (d + 5) 16 0 [some (.ref 5), some (.int p1), none, none, none, none, none] [] M0 K
def zQ17 (T : List zK) (N : Nat) : Prop := ∀ {d : Nat} {K : Option Value → zH → Prop} {p1 : Int32}  {M0 : zH} (hW : z_W M0 T) (u1 : 0 ≤ p1.toInt ∧ p1.toInt ≤ 6) (hm : 4 * (6 - p1.toInt) < (N : Int)) (hd : 4 * (6 - p1.toInt) ≤ (d : Int)) (kk : ∀ (x : Int64) (M1 : zH), z_X T zw17 M0 M1 → K (some (.long x)) M1), z_ev (d + 5) 17 0 [some (.ref 5), some (.int p1), none, none, none] [] M0 K
def zQ19 (T : List zK) (N : Nat) : Prop := ∀ {d : Nat} {K : Option Value → zH → Prop} {p1 : Int32} {p2 : Int32}  {M0 : zH} (hW : z_W M0 T) (u1 : 1 ≤ p1.toInt ∧ p1.toInt ≤ 9) (u2 : 1 ≤ p2.toInt ∧ p2.toInt ≤ 6) (hm : 4 * (6 - p2.toInt) + 3 < (N : Int)) (hd : 4 * (6 - p2.toInt) + 3 ≤ (d : Int)) (kk : ∀ (x : Int64) (M1 : zH), z_X T zw19 M0 M1 → K (some (.long x)) M1), z_ev (d + 5) 19 0 [some (.ref 5), some (.int p1), some (.int p2), none, none, none, none, none] [] M0 K
theorem zB15 {T : List zK} {d : Nat} {K : Option Value → zH → Prop} {p1 : Int32} {N : Nat} {M0 : zH} (u1 : 0 ≤ p1.toInt ∧ p1.toInt ≤ 6) (ih15 : zQ15 T N) (ih16 : zQ16 T N) (ih17 : zQ17 T N) (ih19 : zQ19 T N) (hm : 4 * (6 - p1.toInt) + 2 < (N : Int) + 1) (hd : 4 * (6 - p1.toInt) + 2 ≤ (d : Int)) (kk : ∀ (x : Int64) (M1 : zH), z_X T zw15 M0 M1 → K (some (.long x)) M1) : ∀ n : Nat, (∀ (M : zH) (b2 : Int64) (b4 : Int32) (o5 : Option Value), z_X T zw15 M0 M → 0 ≤ b4.toInt ∧ b4.toInt ≤ 160 → ((0) * 2 + 0) * 161 + (160 - b4.toInt) < (n : Int) → z_ev (d + 5) 15 7 [some (.ref 5), some (.int p1), some (.long b2), none, some (.int b4), o5, none] [] M K) := by
  intro n
  induction n with
  | zero => exact by intros; exfalso; omega
  | succ n ih =>
    intro M b2 b4 o5 X hh0 hE
    refine z_xP zt15 2 12 [some (.ref 5), some (.int p1), some (.long b2), none, some (.int b4), o5, none] [.int 160, .int b4] rfl rfl ?_
    refine z_xJ zt15 3 rfl rfl (fun (h1 : 160 ≤ b4.toInt) => ?_) (fun (h1 : b4.toInt < 160) => ?_)
    · skip
      refine z_xP zt15 26 73 [some (.ref 5), some (.int p1), some (.long b2), none, some (.int b4), o5, none] [.long b2] rfl rfl ?_
      exact z_xrl zt15 27 rfl zzr15 (kk b2 M X)
    refine z_xP zt15 4 17 [some (.ref 5), some (.int p1), some (.long b2), none, some (.int b4), o5, none] [.int p1, .ref 5] rfl rfl ?_
    have f5 : T[5]? = some (.inl (1, 0, 0, 0, 0)) := X.1.k rfl (by decide)
    obtain ⟨d2, hdd2⟩ : ∃ e, d = e + 1 := ⟨d - 1, by omega⟩
    subst hdd2
    refine z_xcV (vs := [.ref 5, .int p1]) (r := []) (L2 := [some (.ref 5), some (.int p1), none, none, none, none, none]) zt15 5 rfl zo15 zzcV1_86 (Or.inl rfl) rfl X f5 rfl rfl rfl (Nat.le_of_ble_eq_true rfl) zzm16 (Nat.le_of_ble_eq_true rfl) rfl ?_
    refine ih16 X.1 (by omega) (by omega) (by omega) (fun y5 M3 X4  => ?_)
    have X6 := X.go X4 (z_sb (by decide))
    show z_ev (d2 + 1 + 5) 15 20 [some (.ref 5), some (.int p1), some (.long b2), none, some (.int b4), o5, none] [.long y5] M3 _
    refine z_xP zt15 6 25 [some (.ref 5), some (.int p1), some (.long b2), none, some (.int b4), some (.long y5), none] [.int 62, .ref 5] rfl rfl ?_
    refine z_xcV (vs := [.ref 5, .int 62]) (r := []) (L2 := [some (.ref 5), some (.int 62)]) zt15 7 rfl zo15 zzcV1_69 (Or.inl rfl) rfl X6 f5 rfl rfl rfl (Nat.le_of_ble_eq_true rfl) zzm12 (Nat.le_of_ble_eq_true rfl) rfl ?_
    refine z_xP zt12 0 1 [some (.ref 5), some (.int 62)] [.ref 5] rfl rfl ?_
    refine z_xgI zt12 1 rfl zo12 zzf1_32 X6 f5 (by decide) (by decide) rfl (fun (x9 : Int32) h8 (h10 : (-2147483648) ≤ x9.toInt) (h11 : x9.toInt ≤ 2147483647) => ?_)
    refine z_xZ zt12 2 rfl rfl (fun (h12 : 0 ≤ x9.toInt) => ?_) (fun (h12 : x9.toInt < 0) => ?_)
    · skip
      refine z_xP zt12 15 32 [some (.ref 5), some (.int 62)] [.int 0] rfl rfl ?_
      refine z_xrz zt12 16 rfl zzr12 (by decide) (by decide) ?_
      show z_ev (d2 + 1 + 5) 15 28 [some (.ref 5), some (.int p1), some (.long b2), none, some (.int b4), some (.long y5), none] [.int 0] M3 _
      refine z_xZ zt15 8 rfl rfl (fun (h13 : (0 : Int) = 0) => ?_) (fun (h13 : (0 : Int) ≠ 0) => absurd h13 (by omega))
      refine z_xP zt15 16 48 [some (.ref 5), some (.int p1), some (.long b2), none, some (.int b4), some (.long y5), none] [.long y5, .long b2] rfl rfl ?_
      refine z_xL zt15 17 rfl rfl (P := fun _ => True) (fun (y14 : Int64) _ => ?_) trivial
      refine z_xl2 zt15 18 rfl zo15 zkl1_84 ?_
      refine z_xL zt15 19 rfl rfl (P := fun _ => True) (fun (y16 : Int64) _ => ?_) trivial
      refine z_xP zt15 20 57 [some (.ref 5), some (.int p1), some (.long y16), none, some (.int b4), some (.long y5), none] [.int 61, .ref 5] rfl rfl ?_
      refine z_xcV (vs := [.ref 5, .int 61]) (r := []) (L2 := [some (.ref 5), some (.int 61)]) zt15 21 rfl zo15 zzcV1_69 (Or.inl rfl) rfl X6 f5 rfl rfl rfl (Nat.le_of_ble_eq_true rfl) zzm12 (Nat.le_of_ble_eq_true rfl) rfl ?_
      refine z_xP zt12 0 1 [some (.ref 5), some (.int 61)] [.ref 5] rfl rfl ?_
      refine z_xgv zt12 1 rfl zo12 zzf1_32 X6 f5 (by decide) h8 ?_
      refine z_xZ zt12 2 rfl rfl (fun (h18 : 0 ≤ x9.toInt) => ?_) (fun (h18 : x9.toInt < 0) => absurd h18 (by omega))
      refine z_xP zt12 15 32 [some (.ref 5), some (.int 61)] [.int 0] rfl rfl ?_
      refine z_xrz zt12 16 rfl zzr12 (by decide) (by decide) ?_
      show z_ev (d2 + 1 + 5) 15 60 [some (.ref 5), some (.int p1), some (.long y16), none, some (.int b4), some (.long y5), none] [.int 0] M3 _
      refine z_xZ zt15 22 rfl rfl (fun (h19 : (0 : Int) ≠ 0) => absurd h19 (by omega)) (fun (h19 : (0 : Int) = 0) => ?_)
      refine z_xP zt15 23 72 [some (.ref 5), some (.int p1), some (.long y16), none, some (.int b4), some (.long y5), none] [] rfl rfl ?_
      refine z_xP zt15 26 73 [some (.ref 5), some (.int p1), some (.long y16), none, some (.int b4), some (.long y5), none] [.long y16] rfl rfl ?_
      exact z_xrl zt15 27 rfl zzr15 (kk y16 M3 X6)
    refine z_xP zt12 3 8 [some (.ref 5), some (.int 62)] [.ref 5] rfl rfl ?_
    refine z_xgI zt12 4 rfl zo12 zzf1_29 X6 f5 (by decide) (by decide) rfl (fun (x21 : Int32) h20 (h22 : 0 ≤ x21.toInt) (h23 : x21.toInt ≤ 160) => ?_)
    refine z_xP zt12 5 12 [some (.ref 5), some (.int 62)] [.ref 5, .int x21] rfl rfl ?_
    refine z_xgI zt12 6 rfl zo12 zzf1_25 X6 f5 (by decide) (by decide) rfl (fun (x25 : Int32) h24 (h26 : 0 ≤ x25.toInt) (h27 : x25.toInt ≤ 160) => ?_)
    refine z_xJ zt12 7 rfl rfl (fun (h28 : x25.toInt ≤ x21.toInt) => ?_) (fun (h28 : x21.toInt < x25.toInt) => ?_)
    · skip
      refine z_xP zt12 15 32 [some (.ref 5), some (.int 62)] [.int 0] rfl rfl ?_
      refine z_xrz zt12 16 rfl zzr12 (by decide) (by decide) ?_
      show z_ev (d2 + 1 + 5) 15 28 [some (.ref 5), some (.int p1), some (.long b2), none, some (.int b4), some (.long y5), none] [.int 0] M3 _
      refine z_xZ zt15 8 rfl rfl (fun (h29 : (0 : Int) = 0) => ?_) (fun (h29 : (0 : Int) ≠ 0) => absurd h29 (by omega))
      refine z_xP zt15 16 48 [some (.ref 5), some (.int p1), some (.long b2), none, some (.int b4), some (.long y5), none] [.long y5, .long b2] rfl rfl ?_
      refine z_xL zt15 17 rfl rfl (P := fun _ => True) (fun (y30 : Int64) _ => ?_) trivial
      refine z_xl2 zt15 18 rfl zo15 zkl1_84 ?_
      refine z_xL zt15 19 rfl rfl (P := fun _ => True) (fun (y32 : Int64) _ => ?_) trivial
      refine z_xP zt15 20 57 [some (.ref 5), some (.int p1), some (.long y32), none, some (.int b4), some (.long y5), none] [.int 61, .ref 5] rfl rfl ?_
      refine z_xcV (vs := [.ref 5, .int 61]) (r := []) (L2 := [some (.ref 5), some (.int 61)]) zt15 21 rfl zo15 zzcV1_69 (Or.inl rfl) rfl X6 f5 rfl rfl rfl (Nat.le_of_ble_eq_true rfl) zzm12 (Nat.le_of_ble_eq_true rfl) rfl ?_
      refine z_xP zt12 0 1 [some (.ref 5), some (.int 61)] [.ref 5] rfl rfl ?_
      refine z_xgv zt12 1 rfl zo12 zzf1_32 X6 f5 (by decide) h8 ?_
      refine z_xZ zt12 2 rfl rfl (fun (h34 : 0 ≤ x9.toInt) => absurd h34 (by omega)) (fun (h34 : x9.toInt < 0) => ?_)
      refine z_xP zt12 3 8 [some (.ref 5), some (.int 61)] [.ref 5] rfl rfl ?_
      refine z_xgv zt12 4 rfl zo12 zzf1_29 X6 f5 (by decide) h20 ?_
      refine z_xP zt12 5 12 [some (.ref 5), some (.int 61)] [.ref 5, .int x21] rfl rfl ?_
      refine z_xgv zt12 6 rfl zo12 zzf1_25 X6 f5 (by decide) h24 ?_
      refine z_xJ zt12 7 rfl rfl (fun (h35 : x25.toInt ≤ x21.toInt) => ?_) (fun (h35 : x21.toInt < x25.toInt) => ?_)
      · skip
        refine z_xP zt12 15 32 [some (.ref 5), some (.int 61)] [.int 0] rfl rfl ?_
        refine z_xrz zt12 16 rfl zzr12 (by decide) (by decide) ?_
        show z_ev (d2 + 1 + 5) 15 60 [some (.ref 5), some (.int p1), some (.long y32), none, some (.int b4), some (.long y5), none] [.int 0] M3 _
        refine z_xZ zt15 22 rfl rfl (fun (h36 : (0 : Int) ≠ 0) => absurd h36 (by omega)) (fun (h36 : (0 : Int) = 0) => ?_)
        refine z_xP zt15 23 72 [some (.ref 5), some (.int p1), some (.long y32), none, some (.int b4), some (.long y5), none] [] rfl rfl ?_
        refine z_xP zt15 26 73 [some (.ref 5), some (.int p1), some (.long y32), none, some (.int b4), some (.long y5), none] [.long y32] rfl rfl ?_
        exact z_xrl zt15 27 rfl zzr15 (kk y32 M3 X6)
      refine z_xP zt12 8 19 [some (.ref 5), some (.int 61)] [.ref 5] rfl rfl ?_
      refine z_xgX (b := 6) zt12 9 rfl zo12 zzf1_9 X6 f5 (by decide) (by decide) rfl ?_
      refine z_xP zt12 10 23 [some (.ref 5), some (.int 61)] [.ref 5, .ref 6] rfl rfl ?_
      refine z_xgv zt12 11 rfl zo12 zzf1_29 X6 f5 (by decide) h20 ?_
      have f6 : T[6]? = some (.inr (6, 0, 160, (-2147483648), 2147483647)) := X6.1.k rfl (by decide)
      refine z_xil zt12 12 rfl X6 f6 (by decide) (by omega) (by omega) (fun (x37 : Int32) h38 (h39 : (-2147483648) ≤ x37.toInt) (h40 : x37.toInt ≤ 2147483647) => ?_)
      refine z_xP zt12 13 28 [some (.ref 5), some (.int 61)] [.int 61, .int x37] rfl rfl ?_
      refine z_xJ zt12 14 rfl rfl (fun (h41 : x37.toInt = 61) => ?_) (fun (h41 : x37.toInt ≠ 61) => ?_)
      · skip
        refine z_xP zt12 17 35 [some (.ref 5), some (.int 61)] [.ref 5, .ref 5] rfl rfl ?_
        refine z_xgv zt12 18 rfl zo12 zzf1_29 X6 f5 (by decide) h20 ?_
        refine z_xP zt12 19 39 [some (.ref 5), some (.int 61)] [.int 1, .int x21, .ref 5] rfl rfl ?_
        refine z_xI zt12 20 rfl rfl (fun (x42 : Int32) (h43 : x42.toInt = x21.toInt + 1) => ?_) (z_pAdd rfl rfl (by omega) (by omega))
        refine z_xpf zt12 21 rfl zo12 zzf1_29 X6 f5 (by decide) (by decide) ⟨by omega, by omega⟩ rfl (by decide) zw1_2 (fun M44 X45 e46 h47 => ?_)
        refine z_xP zt12 22 44 [some (.ref 5), some (.int 61)] [.int 1] rfl rfl ?_
        refine z_xrz zt12 23 rfl zzr12 (by decide) (by decide) ?_
        show z_ev (d2 + 1 + 5) 15 60 [some (.ref 5), some (.int p1), some (.long y32), none, some (.int b4), some (.long y5), none] [.int 1] M44 _
        refine z_xZ zt15 22 rfl rfl (fun (h48 : (1 : Int) ≠ 0) => ?_) (fun (h48 : (1 : Int) = 0) => absurd h48 (by omega))
        refine z_xN zt15 24 rfl rfl (fun (x49 : Int32) (h50 : x49.toInt = b4.toInt + 1) => ?_) (z_pAdd rfl rfl (by omega) (by omega))
        show z_ev (d2 + 1 + 5) 15 69 [some (.ref 5), some (.int p1), some (.long y32), none, some (.int x49), some (.long y5), none] [] M44 _
        refine z_xP zt15 25 7 [some (.ref 5), some (.int p1), some (.long y32), none, some (.int x49), some (.long y5), none] [] rfl rfl ?_
        exact ih M44 y32 x49 (some (.long y5)) X45 ⟨by omega, by omega⟩ (by omega)
      refine z_xP zt12 15 32 [some (.ref 5), some (.int 61)] [.int 0] rfl rfl ?_
      refine z_xrz zt12 16 rfl zzr12 (by decide) (by decide) ?_
      show z_ev (d2 + 1 + 5) 15 60 [some (.ref 5), some (.int p1), some (.long y32), none, some (.int b4), some (.long y5), none] [.int 0] M3 _
      refine z_xZ zt15 22 rfl rfl (fun (h51 : (0 : Int) ≠ 0) => absurd h51 (by omega)) (fun (h51 : (0 : Int) = 0) => ?_)
      refine z_xP zt15 23 72 [some (.ref 5), some (.int p1), some (.long y32), none, some (.int b4), some (.long y5), none] [] rfl rfl ?_
      refine z_xP zt15 26 73 [some (.ref 5), some (.int p1), some (.long y32), none, some (.int b4), some (.long y5), none] [.long y32] rfl rfl ?_
      exact z_xrl zt15 27 rfl zzr15 (kk y32 M3 X6)
    refine z_xP zt12 8 19 [some (.ref 5), some (.int 62)] [.ref 5] rfl rfl ?_
    refine z_xgX (b := 6) zt12 9 rfl zo12 zzf1_9 X6 f5 (by decide) (by decide) rfl ?_
    refine z_xP zt12 10 23 [some (.ref 5), some (.int 62)] [.ref 5, .ref 6] rfl rfl ?_
    refine z_xgv zt12 11 rfl zo12 zzf1_29 X6 f5 (by decide) h20 ?_
    have f6 : T[6]? = some (.inr (6, 0, 160, (-2147483648), 2147483647)) := X6.1.k rfl (by decide)
    refine z_xil zt12 12 rfl X6 f6 (by decide) (by omega) (by omega) (fun (x52 : Int32) h53 (h54 : (-2147483648) ≤ x52.toInt) (h55 : x52.toInt ≤ 2147483647) => ?_)
    refine z_xP zt12 13 28 [some (.ref 5), some (.int 62)] [.int 62, .int x52] rfl rfl ?_
    refine z_xJ zt12 14 rfl rfl (fun (h56 : x52.toInt = 62) => ?_) (fun (h56 : x52.toInt ≠ 62) => ?_)
    · skip
      refine z_xP zt12 17 35 [some (.ref 5), some (.int 62)] [.ref 5, .ref 5] rfl rfl ?_
      refine z_xgv zt12 18 rfl zo12 zzf1_29 X6 f5 (by decide) h20 ?_
      refine z_xP zt12 19 39 [some (.ref 5), some (.int 62)] [.int 1, .int x21, .ref 5] rfl rfl ?_
      refine z_xI zt12 20 rfl rfl (fun (x57 : Int32) (h58 : x57.toInt = x21.toInt + 1) => ?_) (z_pAdd rfl rfl (by omega) (by omega))
      refine z_xpf zt12 21 rfl zo12 zzf1_29 X6 f5 (by decide) (by decide) ⟨by omega, by omega⟩ rfl (by decide) zw1_2 (fun M59 X60 e61 h62 => ?_)
      refine z_xP zt12 22 44 [some (.ref 5), some (.int 62)] [.int 1] rfl rfl ?_
      refine z_xrz zt12 23 rfl zzr12 (by decide) (by decide) ?_
      show z_ev (d2 + 1 + 5) 15 28 [some (.ref 5), some (.int p1), some (.long b2), none, some (.int b4), some (.long y5), none] [.int 1] M59 _
      refine z_xZ zt15 8 rfl rfl (fun (h63 : (1 : Int) = 0) => absurd h63 (by omega)) (fun (h63 : (1 : Int) ≠ 0) => ?_)
      refine z_xP zt15 9 33 [some (.ref 5), some (.int p1), some (.long b2), none, some (.int b4), some (.long y5), none] [.long y5] rfl rfl ?_
      refine z_xl2 zt15 10 rfl zo15 zkl1_84 ?_
      refine z_xL zt15 11 rfl rfl (P := fun _ => True) (fun (y64 : Int64) _ => ?_) trivial
      refine z_xP zt15 12 39 [some (.ref 5), some (.int p1), some (.long b2), none, some (.int b4), some (.long y5), none] [.int p1, .ref 5, .long y64] rfl rfl ?_
      refine z_xcV (vs := [.ref 5, .int p1]) (r := [.long y64]) (L2 := [some (.ref 5), some (.int p1), none, none, none, none, none]) zt15 13 rfl zo15 zzcV1_86 (Or.inl rfl) rfl X60 f5 rfl rfl rfl (Nat.le_of_ble_eq_true rfl) zzm16 (Nat.le_of_ble_eq_true rfl) rfl ?_
      refine ih16 X60.1 (by omega) (by omega) (by omega) (fun y68 M66 X67  => ?_)
      have X69 := X60.go X67 (z_sb (by decide))
      show z_ev (d2 + 1 + 5) 15 42 [some (.ref 5), some (.int p1), some (.long b2), none, some (.int b4), some (.long y5), none] [.long y68, .long y64] M66 _
      refine z_xL zt15 14 rfl rfl (P := fun _ => True) (fun (y71 : Int64) _ => ?_) trivial
      refine z_xP zt15 15 45 [some (.ref 5), some (.int p1), some (.long b2), none, some (.int b4), some (.long y71), none] [] rfl rfl ?_
      refine z_xP zt15 16 48 [some (.ref 5), some (.int p1), some (.long b2), none, some (.int b4), some (.long y71), none] [.long y71, .long b2] rfl rfl ?_
      refine z_xL zt15 17 rfl rfl (P := fun _ => True) (fun (y73 : Int64) _ => ?_) trivial
      refine z_xl2 zt15 18 rfl zo15 zkl1_84 ?_
      refine z_xL zt15 19 rfl rfl (P := fun _ => True) (fun (y75 : Int64) _ => ?_) trivial
      refine z_xP zt15 20 57 [some (.ref 5), some (.int p1), some (.long y75), none, some (.int b4), some (.long y71), none] [.int 61, .ref 5] rfl rfl ?_
      refine z_xcV (vs := [.ref 5, .int 61]) (r := []) (L2 := [some (.ref 5), some (.int 61)]) zt15 21 rfl zo15 zzcV1_69 (Or.inl rfl) rfl X69 f5 rfl rfl rfl (Nat.le_of_ble_eq_true rfl) zzm12 (Nat.le_of_ble_eq_true rfl) rfl ?_
      refine z_xP zt12 0 1 [some (.ref 5), some (.int 61)] [.ref 5] rfl rfl ?_
      refine z_xgI zt12 1 rfl zo12 zzf1_32 X69 f5 (by decide) (by decide) rfl (fun (x78 : Int32) h77 (h79 : (-2147483648) ≤ x78.toInt) (h80 : x78.toInt ≤ 2147483647) => ?_)
      refine z_xZ zt12 2 rfl rfl (fun (h81 : 0 ≤ x78.toInt) => ?_) (fun (h81 : x78.toInt < 0) => ?_)
      · skip
        refine z_xP zt12 15 32 [some (.ref 5), some (.int 61)] [.int 0] rfl rfl ?_
        refine z_xrz zt12 16 rfl zzr12 (by decide) (by decide) ?_
        show z_ev (d2 + 1 + 5) 15 60 [some (.ref 5), some (.int p1), some (.long y75), none, some (.int b4), some (.long y71), none] [.int 0] M66 _
        refine z_xZ zt15 22 rfl rfl (fun (h82 : (0 : Int) ≠ 0) => absurd h82 (by omega)) (fun (h82 : (0 : Int) = 0) => ?_)
        refine z_xP zt15 23 72 [some (.ref 5), some (.int p1), some (.long y75), none, some (.int b4), some (.long y71), none] [] rfl rfl ?_
        refine z_xP zt15 26 73 [some (.ref 5), some (.int p1), some (.long y75), none, some (.int b4), some (.long y71), none] [.long y75] rfl rfl ?_
        exact z_xrl zt15 27 rfl zzr15 (kk y75 M66 X69)
      refine z_xP zt12 3 8 [some (.ref 5), some (.int 61)] [.ref 5] rfl rfl ?_
      refine z_xgI zt12 4 rfl zo12 zzf1_29 X69 f5 (by decide) (by decide) rfl (fun (x84 : Int32) h83 (h85 : 0 ≤ x84.toInt) (h86 : x84.toInt ≤ 160) => ?_)
      refine z_xP zt12 5 12 [some (.ref 5), some (.int 61)] [.ref 5, .int x84] rfl rfl ?_
      have h87 := (X67.2.f f5 (by decide) (e61.f f5 (by decide) h24))
      refine z_xgv zt12 6 rfl zo12 zzf1_25 X69 f5 (by decide) h87 ?_
      refine z_xJ zt12 7 rfl rfl (fun (h88 : x25.toInt ≤ x84.toInt) => ?_) (fun (h88 : x84.toInt < x25.toInt) => ?_)
      · skip
        refine z_xP zt12 15 32 [some (.ref 5), some (.int 61)] [.int 0] rfl rfl ?_
        refine z_xrz zt12 16 rfl zzr12 (by decide) (by decide) ?_
        show z_ev (d2 + 1 + 5) 15 60 [some (.ref 5), some (.int p1), some (.long y75), none, some (.int b4), some (.long y71), none] [.int 0] M66 _
        refine z_xZ zt15 22 rfl rfl (fun (h89 : (0 : Int) ≠ 0) => absurd h89 (by omega)) (fun (h89 : (0 : Int) = 0) => ?_)
        refine z_xP zt15 23 72 [some (.ref 5), some (.int p1), some (.long y75), none, some (.int b4), some (.long y71), none] [] rfl rfl ?_
        refine z_xP zt15 26 73 [some (.ref 5), some (.int p1), some (.long y75), none, some (.int b4), some (.long y71), none] [.long y75] rfl rfl ?_
        exact z_xrl zt15 27 rfl zzr15 (kk y75 M66 X69)
      refine z_xP zt12 8 19 [some (.ref 5), some (.int 61)] [.ref 5] rfl rfl ?_
      refine z_xgX (b := 6) zt12 9 rfl zo12 zzf1_9 X69 f5 (by decide) (by decide) rfl ?_
      refine z_xP zt12 10 23 [some (.ref 5), some (.int 61)] [.ref 5, .ref 6] rfl rfl ?_
      refine z_xgv zt12 11 rfl zo12 zzf1_29 X69 f5 (by decide) h83 ?_
      refine z_xil zt12 12 rfl X69 f6 (by decide) (by omega) (by omega) (fun (x90 : Int32) h91 (h92 : (-2147483648) ≤ x90.toInt) (h93 : x90.toInt ≤ 2147483647) => ?_)
      refine z_xP zt12 13 28 [some (.ref 5), some (.int 61)] [.int 61, .int x90] rfl rfl ?_
      refine z_xJ zt12 14 rfl rfl (fun (h94 : x90.toInt = 61) => ?_) (fun (h94 : x90.toInt ≠ 61) => ?_)
      · skip
        refine z_xP zt12 17 35 [some (.ref 5), some (.int 61)] [.ref 5, .ref 5] rfl rfl ?_
        refine z_xgv zt12 18 rfl zo12 zzf1_29 X69 f5 (by decide) h83 ?_
        refine z_xP zt12 19 39 [some (.ref 5), some (.int 61)] [.int 1, .int x84, .ref 5] rfl rfl ?_
        refine z_xI zt12 20 rfl rfl (fun (x95 : Int32) (h96 : x95.toInt = x84.toInt + 1) => ?_) (z_pAdd rfl rfl (by omega) (by omega))
        refine z_xpf zt12 21 rfl zo12 zzf1_29 X69 f5 (by decide) (by decide) ⟨by omega, by omega⟩ rfl (by decide) zw1_2 (fun M97 X98 e99 h100 => ?_)
        refine z_xP zt12 22 44 [some (.ref 5), some (.int 61)] [.int 1] rfl rfl ?_
        refine z_xrz zt12 23 rfl zzr12 (by decide) (by decide) ?_
        show z_ev (d2 + 1 + 5) 15 60 [some (.ref 5), some (.int p1), some (.long y75), none, some (.int b4), some (.long y71), none] [.int 1] M97 _
        refine z_xZ zt15 22 rfl rfl (fun (h101 : (1 : Int) ≠ 0) => ?_) (fun (h101 : (1 : Int) = 0) => absurd h101 (by omega))
        refine z_xN zt15 24 rfl rfl (fun (x102 : Int32) (h103 : x102.toInt = b4.toInt + 1) => ?_) (z_pAdd rfl rfl (by omega) (by omega))
        show z_ev (d2 + 1 + 5) 15 69 [some (.ref 5), some (.int p1), some (.long y75), none, some (.int x102), some (.long y71), none] [] M97 _
        refine z_xP zt15 25 7 [some (.ref 5), some (.int p1), some (.long y75), none, some (.int x102), some (.long y71), none] [] rfl rfl ?_
        exact ih M97 y75 x102 (some (.long y71)) X98 ⟨by omega, by omega⟩ (by omega)
      refine z_xP zt12 15 32 [some (.ref 5), some (.int 61)] [.int 0] rfl rfl ?_
      refine z_xrz zt12 16 rfl zzr12 (by decide) (by decide) ?_
      show z_ev (d2 + 1 + 5) 15 60 [some (.ref 5), some (.int p1), some (.long y75), none, some (.int b4), some (.long y71), none] [.int 0] M66 _
      refine z_xZ zt15 22 rfl rfl (fun (h104 : (0 : Int) ≠ 0) => absurd h104 (by omega)) (fun (h104 : (0 : Int) = 0) => ?_)
      refine z_xP zt15 23 72 [some (.ref 5), some (.int p1), some (.long y75), none, some (.int b4), some (.long y71), none] [] rfl rfl ?_
      refine z_xP zt15 26 73 [some (.ref 5), some (.int p1), some (.long y75), none, some (.int b4), some (.long y71), none] [.long y75] rfl rfl ?_
      exact z_xrl zt15 27 rfl zzr15 (kk y75 M66 X69)
    refine z_xP zt12 15 32 [some (.ref 5), some (.int 62)] [.int 0] rfl rfl ?_
    refine z_xrz zt12 16 rfl zzr12 (by decide) (by decide) ?_
    show z_ev (d2 + 1 + 5) 15 28 [some (.ref 5), some (.int p1), some (.long b2), none, some (.int b4), some (.long y5), none] [.int 0] M3 _
    refine z_xZ zt15 8 rfl rfl (fun (h105 : (0 : Int) = 0) => ?_) (fun (h105 : (0 : Int) ≠ 0) => absurd h105 (by omega))
    refine z_xP zt15 16 48 [some (.ref 5), some (.int p1), some (.long b2), none, some (.int b4), some (.long y5), none] [.long y5, .long b2] rfl rfl ?_
    refine z_xL zt15 17 rfl rfl (P := fun _ => True) (fun (y106 : Int64) _ => ?_) trivial
    refine z_xl2 zt15 18 rfl zo15 zkl1_84 ?_
    refine z_xL zt15 19 rfl rfl (P := fun _ => True) (fun (y108 : Int64) _ => ?_) trivial
    refine z_xP zt15 20 57 [some (.ref 5), some (.int p1), some (.long y108), none, some (.int b4), some (.long y5), none] [.int 61, .ref 5] rfl rfl ?_
    refine z_xcV (vs := [.ref 5, .int 61]) (r := []) (L2 := [some (.ref 5), some (.int 61)]) zt15 21 rfl zo15 zzcV1_69 (Or.inl rfl) rfl X6 f5 rfl rfl rfl (Nat.le_of_ble_eq_true rfl) zzm12 (Nat.le_of_ble_eq_true rfl) rfl ?_
    refine z_xP zt12 0 1 [some (.ref 5), some (.int 61)] [.ref 5] rfl rfl ?_
    refine z_xgv zt12 1 rfl zo12 zzf1_32 X6 f5 (by decide) h8 ?_
    refine z_xZ zt12 2 rfl rfl (fun (h110 : 0 ≤ x9.toInt) => absurd h110 (by omega)) (fun (h110 : x9.toInt < 0) => ?_)
    refine z_xP zt12 3 8 [some (.ref 5), some (.int 61)] [.ref 5] rfl rfl ?_
    refine z_xgv zt12 4 rfl zo12 zzf1_29 X6 f5 (by decide) h20 ?_
    refine z_xP zt12 5 12 [some (.ref 5), some (.int 61)] [.ref 5, .int x21] rfl rfl ?_
    refine z_xgv zt12 6 rfl zo12 zzf1_25 X6 f5 (by decide) h24 ?_
    refine z_xJ zt12 7 rfl rfl (fun (h111 : x25.toInt ≤ x21.toInt) => ?_) (fun (h111 : x21.toInt < x25.toInt) => ?_)
    · skip
      refine z_xP zt12 15 32 [some (.ref 5), some (.int 61)] [.int 0] rfl rfl ?_
      refine z_xrz zt12 16 rfl zzr12 (by decide) (by decide) ?_
      show z_ev (d2 + 1 + 5) 15 60 [some (.ref 5), some (.int p1), some (.long y108), none, some (.int b4), some (.long y5), none] [.int 0] M3 _
      refine z_xZ zt15 22 rfl rfl (fun (h112 : (0 : Int) ≠ 0) => absurd h112 (by omega)) (fun (h112 : (0 : Int) = 0) => ?_)
      refine z_xP zt15 23 72 [some (.ref 5), some (.int p1), some (.long y108), none, some (.int b4), some (.long y5), none] [] rfl rfl ?_
      refine z_xP zt15 26 73 [some (.ref 5), some (.int p1), some (.long y108), none, some (.int b4), some (.long y5), none] [.long y108] rfl rfl ?_
      exact z_xrl zt15 27 rfl zzr15 (kk y108 M3 X6)
    refine z_xP zt12 8 19 [some (.ref 5), some (.int 61)] [.ref 5] rfl rfl ?_
    refine z_xgX (b := 6) zt12 9 rfl zo12 zzf1_9 X6 f5 (by decide) (by decide) rfl ?_
    refine z_xP zt12 10 23 [some (.ref 5), some (.int 61)] [.ref 5, .ref 6] rfl rfl ?_
    refine z_xgv zt12 11 rfl zo12 zzf1_29 X6 f5 (by decide) h20 ?_
    refine z_xil zt12 12 rfl X6 f6 (by decide) (by omega) (by omega) (fun (x113 : Int32) h114 (h115 : (-2147483648) ≤ x113.toInt) (h116 : x113.toInt ≤ 2147483647) => ?_)
    have h117 := congrArg Int32.toInt (h114.symm.trans h53)
    refine z_xP zt12 13 28 [some (.ref 5), some (.int 61)] [.int 61, .int x113] rfl rfl ?_
    refine z_xJ zt12 14 rfl rfl (fun (h118 : x113.toInt = 61) => ?_) (fun (h118 : x113.toInt ≠ 61) => ?_)
    · skip
      refine z_xP zt12 17 35 [some (.ref 5), some (.int 61)] [.ref 5, .ref 5] rfl rfl ?_
      refine z_xgv zt12 18 rfl zo12 zzf1_29 X6 f5 (by decide) h20 ?_
      refine z_xP zt12 19 39 [some (.ref 5), some (.int 61)] [.int 1, .int x21, .ref 5] rfl rfl ?_
      refine z_xI zt12 20 rfl rfl (fun (x119 : Int32) (h120 : x119.toInt = x21.toInt + 1) => ?_) (z_pAdd rfl rfl (by omega) (by omega))
      refine z_xpf zt12 21 rfl zo12 zzf1_29 X6 f5 (by decide) (by decide) ⟨by omega, by omega⟩ rfl (by decide) zw1_2 (fun M121 X122 e123 h124 => ?_)
      refine z_xP zt12 22 44 [some (.ref 5), some (.int 61)] [.int 1] rfl rfl ?_
      refine z_xrz zt12 23 rfl zzr12 (by decide) (by decide) ?_
      show z_ev (d2 + 1 + 5) 15 60 [some (.ref 5), some (.int p1), some (.long y108), none, some (.int b4), some (.long y5), none] [.int 1] M121 _
      refine z_xZ zt15 22 rfl rfl (fun (h125 : (1 : Int) ≠ 0) => ?_) (fun (h125 : (1 : Int) = 0) => absurd h125 (by omega))
      refine z_xN zt15 24 rfl rfl (fun (x126 : Int32) (h127 : x126.toInt = b4.toInt + 1) => ?_) (z_pAdd rfl rfl (by omega) (by omega))
      show z_ev (d2 + 1 + 5) 15 69 [some (.ref 5), some (.int p1), some (.long y108), none, some (.int x126), some (.long y5), none] [] M121 _
      refine z_xP zt15 25 7 [some (.ref 5), some (.int p1), some (.long y108), none, some (.int x126), some (.long y5), none] [] rfl rfl ?_
      exact ih M121 y108 x126 (some (.long y5)) X122 ⟨by omega, by omega⟩ (by omega)
    refine z_xP zt12 15 32 [some (.ref 5), some (.int 61)] [.int 0] rfl rfl ?_
    refine z_xrz zt12 16 rfl zzr12 (by decide) (by decide) ?_
    show z_ev (d2 + 1 + 5) 15 60 [some (.ref 5), some (.int p1), some (.long y108), none, some (.int b4), some (.long y5), none] [.int 0] M3 _
    refine z_xZ zt15 22 rfl rfl (fun (h128 : (0 : Int) ≠ 0) => absurd h128 (by omega)) (fun (h128 : (0 : Int) = 0) => ?_)
    refine z_xP zt15 23 72 [some (.ref 5), some (.int p1), some (.long y108), none, some (.int b4), some (.long y5), none] [] rfl rfl ?_
    refine z_xP zt15 26 73 [some (.ref 5), some (.int p1), some (.long y108), none, some (.int b4), some (.long y5), none] [.long y108] rfl rfl ?_
    exact z_xrl zt15 27 rfl zzr15 (kk y108 M3 X6)
theorem zC15r {T : List zK} {d : Nat} {K : Option Value → zH → Prop} {p1 : Int32} {N : Nat} {M0 : zH} (hW : z_W M0 T) (u1 : 0 ≤ p1.toInt ∧ p1.toInt ≤ 6) (ih15 : zQ15 T N) (ih16 : zQ16 T N) (ih17 : zQ17 T N) (ih19 : zQ19 T N) (hm : 4 * (6 - p1.toInt) + 2 < (N : Int) + 1) (hd : 4 * (6 - p1.toInt) + 2 ≤ (d : Int)) (kk : ∀ (x : Int64) (M1 : zH), z_X T zw15 M0 M1 → K (some (.long x)) M1) : z_ev (d + 5) 15 0 [some (.ref 5), some (.int p1), none, none, none, none, none] [] M0 K := by
  have X : z_X T zw15 M0 M0 := .refl hW
  refine z_xl2 zt15 0 rfl zo15 zkl1_84 ?_
  refine z_xP zt15 1 7 [some (.ref 5), some (.int p1), some (.long (-1)), none, some (.int 0), none, none] [] rfl rfl ?_
  have qm1 : (((-1) : Int64)).toInt = (-1) := rfl
  have q0 : ((0 : Int32)).toInt = 0 := rfl
  exact (zB15 u1 ih15 ih16 ih17 ih19 hm hd kk 322) M0 ((-1)) (0) none X (by decide) (by omega)
theorem zB16 {T : List zK} {d : Nat} {K : Option Value → zH → Prop} {p1 : Int32} {N : Nat} {M0 : zH} (u1 : 0 ≤ p1.toInt ∧ p1.toInt ≤ 6) (ih15 : zQ15 T N) (ih16 : zQ16 T N) (ih17 : zQ17 T N) (ih19 : zQ19 T N) (hm : 4 * (6 - p1.toInt) + 1 < (N : Int) + 1) (hd : 4 * (6 - p1.toInt) + 1 ≤ (d : Int)) (kk : ∀ (x : Int64) (M1 : zH), z_X T zw16 M0 M1 → K (some (.long x)) M1) : ∀ n : Nat, (∀ (M : zH) (b2 : Int64) (b4 : Int64) (b6 : Int32), z_X T zw16 M0 M → 0 ≤ b6.toInt ∧ b6.toInt ≤ 160 → ((0) * 2 + 0) * 161 + (160 - b6.toInt) < (n : Int) → z_ev (d + 5) 16 12 [some (.ref 5), some (.int p1), some (.long b2), none, some (.long b4), none, some (.int b6)] [] M K) := by
  intro n
  induction n with
  | zero => exact by intros; exfalso; omega
  | succ n ih =>
    intro M b2 b4 b6 X hh0 hE
    refine z_xP zt16 3 17 [some (.ref 5), some (.int p1), some (.long b2), none, some (.long b4), none, some (.int b6)] [.int 160, .int b6] rfl rfl ?_
    refine z_xJ zt16 4 rfl rfl (fun (h1 : 160 ≤ b6.toInt) => ?_) (fun (h1 : b6.toInt < 160) => ?_)
    · skip
      refine z_xP zt16 22 72 [some (.ref 5), some (.int p1), some (.long b2), none, some (.long b4), none, some (.int b6)] [.long b4, .long b2] rfl rfl ?_
      refine z_xL zt16 23 rfl rfl (P := fun _ => True) (fun (y2 : Int64) _ => ?_) trivial
      exact z_xrl zt16 24 rfl zzr16 (kk y2 M X)
    refine z_xP zt16 5 23 [some (.ref 5), some (.int p1), some (.long b2), none, some (.long b4), none, some (.int b6)] [.int 38, .ref 5] rfl rfl ?_
    have f5 : T[5]? = some (.inl (1, 0, 0, 0, 0)) := X.1.k rfl (by decide)
    refine z_xcV (vs := [.ref 5, .int 38]) (r := []) (L2 := [some (.ref 5), some (.int 38)]) zt16 6 rfl zo16 zzcV1_69 (Or.inl rfl) rfl X f5 rfl rfl rfl (Nat.le_of_ble_eq_true rfl) zzm12 (Nat.le_of_ble_eq_true rfl) rfl ?_
    refine z_xP zt12 0 1 [some (.ref 5), some (.int 38)] [.ref 5] rfl rfl ?_
    refine z_xgI zt12 1 rfl zo12 zzf1_32 X f5 (by decide) (by decide) rfl (fun (x5 : Int32) h4 (h6 : (-2147483648) ≤ x5.toInt) (h7 : x5.toInt ≤ 2147483647) => ?_)
    refine z_xZ zt12 2 rfl rfl (fun (h8 : 0 ≤ x5.toInt) => ?_) (fun (h8 : x5.toInt < 0) => ?_)
    · skip
      refine z_xP zt12 15 32 [some (.ref 5), some (.int 38)] [.int 0] rfl rfl ?_
      refine z_xrz zt12 16 rfl zzr12 (by decide) (by decide) ?_
      show z_ev (d + 5) 16 26 [some (.ref 5), some (.int p1), some (.long b2), none, some (.long b4), none, some (.int b6)] [.int 0] M _
      refine z_xZ zt16 7 rfl rfl (fun (h9 : (0 : Int) = 0) => ?_) (fun (h9 : (0 : Int) ≠ 0) => absurd h9 (by omega))
      refine z_xP zt16 12 45 [some (.ref 5), some (.int p1), some (.long b2), none, some (.long b4), none, some (.int b6)] [.int 124, .ref 5] rfl rfl ?_
      refine z_xcV (vs := [.ref 5, .int 124]) (r := []) (L2 := [some (.ref 5), some (.int 124)]) zt16 13 rfl zo16 zzcV1_69 (Or.inl rfl) rfl X f5 rfl rfl rfl (Nat.le_of_ble_eq_true rfl) zzm12 (Nat.le_of_ble_eq_true rfl) rfl ?_
      refine z_xP zt12 0 1 [some (.ref 5), some (.int 124)] [.ref 5] rfl rfl ?_
      refine z_xgv zt12 1 rfl zo12 zzf1_32 X f5 (by decide) h4 ?_
      refine z_xZ zt12 2 rfl rfl (fun (h10 : 0 ≤ x5.toInt) => ?_) (fun (h10 : x5.toInt < 0) => absurd h10 (by omega))
      refine z_xP zt12 15 32 [some (.ref 5), some (.int 124)] [.int 0] rfl rfl ?_
      refine z_xrz zt12 16 rfl zzr12 (by decide) (by decide) ?_
      show z_ev (d + 5) 16 48 [some (.ref 5), some (.int p1), some (.long b2), none, some (.long b4), none, some (.int b6)] [.int 0] M _
      refine z_xZ zt16 14 rfl rfl (fun (h11 : (0 : Int) = 0) => ?_) (fun (h11 : (0 : Int) ≠ 0) => absurd h11 (by omega))
      refine z_xP zt16 22 72 [some (.ref 5), some (.int p1), some (.long b2), none, some (.long b4), none, some (.int b6)] [.long b4, .long b2] rfl rfl ?_
      refine z_xL zt16 23 rfl rfl (P := fun _ => True) (fun (y12 : Int64) _ => ?_) trivial
      exact z_xrl zt16 24 rfl zzr16 (kk y12 M X)
    refine z_xP zt12 3 8 [some (.ref 5), some (.int 38)] [.ref 5] rfl rfl ?_
    refine z_xgI zt12 4 rfl zo12 zzf1_29 X f5 (by decide) (by decide) rfl (fun (x15 : Int32) h14 (h16 : 0 ≤ x15.toInt) (h17 : x15.toInt ≤ 160) => ?_)
    refine z_xP zt12 5 12 [some (.ref 5), some (.int 38)] [.ref 5, .int x15] rfl rfl ?_
    refine z_xgI zt12 6 rfl zo12 zzf1_25 X f5 (by decide) (by decide) rfl (fun (x19 : Int32) h18 (h20 : 0 ≤ x19.toInt) (h21 : x19.toInt ≤ 160) => ?_)
    refine z_xJ zt12 7 rfl rfl (fun (h22 : x19.toInt ≤ x15.toInt) => ?_) (fun (h22 : x15.toInt < x19.toInt) => ?_)
    · skip
      refine z_xP zt12 15 32 [some (.ref 5), some (.int 38)] [.int 0] rfl rfl ?_
      refine z_xrz zt12 16 rfl zzr12 (by decide) (by decide) ?_
      show z_ev (d + 5) 16 26 [some (.ref 5), some (.int p1), some (.long b2), none, some (.long b4), none, some (.int b6)] [.int 0] M _
      refine z_xZ zt16 7 rfl rfl (fun (h23 : (0 : Int) = 0) => ?_) (fun (h23 : (0 : Int) ≠ 0) => absurd h23 (by omega))
      refine z_xP zt16 12 45 [some (.ref 5), some (.int p1), some (.long b2), none, some (.long b4), none, some (.int b6)] [.int 124, .ref 5] rfl rfl ?_
      refine z_xcV (vs := [.ref 5, .int 124]) (r := []) (L2 := [some (.ref 5), some (.int 124)]) zt16 13 rfl zo16 zzcV1_69 (Or.inl rfl) rfl X f5 rfl rfl rfl (Nat.le_of_ble_eq_true rfl) zzm12 (Nat.le_of_ble_eq_true rfl) rfl ?_
      refine z_xP zt12 0 1 [some (.ref 5), some (.int 124)] [.ref 5] rfl rfl ?_
      refine z_xgv zt12 1 rfl zo12 zzf1_32 X f5 (by decide) h4 ?_
      refine z_xZ zt12 2 rfl rfl (fun (h24 : 0 ≤ x5.toInt) => absurd h24 (by omega)) (fun (h24 : x5.toInt < 0) => ?_)
      refine z_xP zt12 3 8 [some (.ref 5), some (.int 124)] [.ref 5] rfl rfl ?_
      refine z_xgv zt12 4 rfl zo12 zzf1_29 X f5 (by decide) h14 ?_
      refine z_xP zt12 5 12 [some (.ref 5), some (.int 124)] [.ref 5, .int x15] rfl rfl ?_
      refine z_xgv zt12 6 rfl zo12 zzf1_25 X f5 (by decide) h18 ?_
      refine z_xJ zt12 7 rfl rfl (fun (h25 : x19.toInt ≤ x15.toInt) => ?_) (fun (h25 : x15.toInt < x19.toInt) => ?_)
      · skip
        refine z_xP zt12 15 32 [some (.ref 5), some (.int 124)] [.int 0] rfl rfl ?_
        refine z_xrz zt12 16 rfl zzr12 (by decide) (by decide) ?_
        show z_ev (d + 5) 16 48 [some (.ref 5), some (.int p1), some (.long b2), none, some (.long b4), none, some (.int b6)] [.int 0] M _
        refine z_xZ zt16 14 rfl rfl (fun (h26 : (0 : Int) = 0) => ?_) (fun (h26 : (0 : Int) ≠ 0) => absurd h26 (by omega))
        refine z_xP zt16 22 72 [some (.ref 5), some (.int p1), some (.long b2), none, some (.long b4), none, some (.int b6)] [.long b4, .long b2] rfl rfl ?_
        refine z_xL zt16 23 rfl rfl (P := fun _ => True) (fun (y27 : Int64) _ => ?_) trivial
        exact z_xrl zt16 24 rfl zzr16 (kk y27 M X)
      refine z_xP zt12 8 19 [some (.ref 5), some (.int 124)] [.ref 5] rfl rfl ?_
      refine z_xgX (b := 6) zt12 9 rfl zo12 zzf1_9 X f5 (by decide) (by decide) rfl ?_
      refine z_xP zt12 10 23 [some (.ref 5), some (.int 124)] [.ref 5, .ref 6] rfl rfl ?_
      refine z_xgv zt12 11 rfl zo12 zzf1_29 X f5 (by decide) h14 ?_
      have f6 : T[6]? = some (.inr (6, 0, 160, (-2147483648), 2147483647)) := X.1.k rfl (by decide)
      refine z_xil zt12 12 rfl X f6 (by decide) (by omega) (by omega) (fun (x29 : Int32) h30 (h31 : (-2147483648) ≤ x29.toInt) (h32 : x29.toInt ≤ 2147483647) => ?_)
      refine z_xP zt12 13 28 [some (.ref 5), some (.int 124)] [.int 124, .int x29] rfl rfl ?_
      refine z_xJ zt12 14 rfl rfl (fun (h33 : x29.toInt = 124) => ?_) (fun (h33 : x29.toInt ≠ 124) => ?_)
      · skip
        refine z_xP zt12 17 35 [some (.ref 5), some (.int 124)] [.ref 5, .ref 5] rfl rfl ?_
        refine z_xgv zt12 18 rfl zo12 zzf1_29 X f5 (by decide) h14 ?_
        refine z_xP zt12 19 39 [some (.ref 5), some (.int 124)] [.int 1, .int x15, .ref 5] rfl rfl ?_
        refine z_xI zt12 20 rfl rfl (fun (x34 : Int32) (h35 : x34.toInt = x15.toInt + 1) => ?_) (z_pAdd rfl rfl (by omega) (by omega))
        refine z_xpf zt12 21 rfl zo12 zzf1_29 X f5 (by decide) (by decide) ⟨by omega, by omega⟩ rfl (by decide) zw1_2 (fun M36 X37 e38 h39 => ?_)
        refine z_xP zt12 22 44 [some (.ref 5), some (.int 124)] [.int 1] rfl rfl ?_
        refine z_xrz zt12 23 rfl zzr12 (by decide) (by decide) ?_
        show z_ev (d + 5) 16 48 [some (.ref 5), some (.int p1), some (.long b2), none, some (.long b4), none, some (.int b6)] [.int 1] M36 _
        refine z_xZ zt16 14 rfl rfl (fun (h40 : (1 : Int) = 0) => absurd h40 (by omega)) (fun (h40 : (1 : Int) ≠ 0) => ?_)
        refine z_xP zt16 15 54 [some (.ref 5), some (.int p1), some (.long b2), none, some (.long b4), none, some (.int b6)] [.long b4, .long b2] rfl rfl ?_
        refine z_xL zt16 16 rfl rfl (P := fun _ => True) (fun (y41 : Int64) _ => ?_) trivial
        refine z_xP zt16 17 58 [some (.ref 5), some (.int p1), some (.long y41), none, some (.long b4), none, some (.int b6)] [.int p1, .ref 5] rfl rfl ?_
        obtain ⟨d43, hdd43⟩ : ∃ e, d = e + 1 := ⟨d - 1, by omega⟩
        subst hdd43
        refine z_xcV (vs := [.ref 5, .int p1]) (r := []) (L2 := [some (.ref 5), some (.int p1), none, none, none]) zt16 18 rfl zo16 zzcV1_89 (Or.inl rfl) rfl X37 f5 rfl rfl rfl (Nat.le_of_ble_eq_true rfl) zzm17 (Nat.le_of_ble_eq_true rfl) rfl ?_
        refine ih17 X37.1 (by omega) (by omega) (by omega) (fun y46 M44 X45  => ?_)
        have X47 := X37.go X45 (z_sb (by decide))
        show z_ev (d43 + 1 + 5) 16 61 [some (.ref 5), some (.int p1), some (.long y41), none, some (.long b4), none, some (.int b6)] [.long y46] M44 _
        refine z_xP zt16 19 63 [some (.ref 5), some (.int p1), some (.long y41), none, some (.long y46), none, some (.int b6)] [] rfl rfl ?_
        refine z_xN zt16 20 rfl rfl (fun (x49 : Int32) (h50 : x49.toInt = b6.toInt + 1) => ?_) (z_pAdd rfl rfl (by omega) (by omega))
        show z_ev (d43 + 1 + 5) 16 66 [some (.ref 5), some (.int p1), some (.long y41), none, some (.long y46), none, some (.int x49)] [] M44 _
        refine z_xP zt16 21 12 [some (.ref 5), some (.int p1), some (.long y41), none, some (.long y46), none, some (.int x49)] [] rfl rfl ?_
        exact ih M44 y41 y46 x49 X47 ⟨by omega, by omega⟩ (by omega)
      refine z_xP zt12 15 32 [some (.ref 5), some (.int 124)] [.int 0] rfl rfl ?_
      refine z_xrz zt12 16 rfl zzr12 (by decide) (by decide) ?_
      show z_ev (d + 5) 16 48 [some (.ref 5), some (.int p1), some (.long b2), none, some (.long b4), none, some (.int b6)] [.int 0] M _
      refine z_xZ zt16 14 rfl rfl (fun (h51 : (0 : Int) = 0) => ?_) (fun (h51 : (0 : Int) ≠ 0) => absurd h51 (by omega))
      refine z_xP zt16 22 72 [some (.ref 5), some (.int p1), some (.long b2), none, some (.long b4), none, some (.int b6)] [.long b4, .long b2] rfl rfl ?_
      refine z_xL zt16 23 rfl rfl (P := fun _ => True) (fun (y52 : Int64) _ => ?_) trivial
      exact z_xrl zt16 24 rfl zzr16 (kk y52 M X)
    refine z_xP zt12 8 19 [some (.ref 5), some (.int 38)] [.ref 5] rfl rfl ?_
    refine z_xgX (b := 6) zt12 9 rfl zo12 zzf1_9 X f5 (by decide) (by decide) rfl ?_
    refine z_xP zt12 10 23 [some (.ref 5), some (.int 38)] [.ref 5, .ref 6] rfl rfl ?_
    refine z_xgv zt12 11 rfl zo12 zzf1_29 X f5 (by decide) h14 ?_
    have f6 : T[6]? = some (.inr (6, 0, 160, (-2147483648), 2147483647)) := X.1.k rfl (by decide)
    refine z_xil zt12 12 rfl X f6 (by decide) (by omega) (by omega) (fun (x54 : Int32) h55 (h56 : (-2147483648) ≤ x54.toInt) (h57 : x54.toInt ≤ 2147483647) => ?_)
    refine z_xP zt12 13 28 [some (.ref 5), some (.int 38)] [.int 38, .int x54] rfl rfl ?_
    refine z_xJ zt12 14 rfl rfl (fun (h58 : x54.toInt = 38) => ?_) (fun (h58 : x54.toInt ≠ 38) => ?_)
    · skip
      refine z_xP zt12 17 35 [some (.ref 5), some (.int 38)] [.ref 5, .ref 5] rfl rfl ?_
      refine z_xgv zt12 18 rfl zo12 zzf1_29 X f5 (by decide) h14 ?_
      refine z_xP zt12 19 39 [some (.ref 5), some (.int 38)] [.int 1, .int x15, .ref 5] rfl rfl ?_
      refine z_xI zt12 20 rfl rfl (fun (x59 : Int32) (h60 : x59.toInt = x15.toInt + 1) => ?_) (z_pAdd rfl rfl (by omega) (by omega))
      refine z_xpf zt12 21 rfl zo12 zzf1_29 X f5 (by decide) (by decide) ⟨by omega, by omega⟩ rfl (by decide) zw1_2 (fun M61 X62 e63 h64 => ?_)
      refine z_xP zt12 22 44 [some (.ref 5), some (.int 38)] [.int 1] rfl rfl ?_
      refine z_xrz zt12 23 rfl zzr12 (by decide) (by decide) ?_
      show z_ev (d + 5) 16 26 [some (.ref 5), some (.int p1), some (.long b2), none, some (.long b4), none, some (.int b6)] [.int 1] M61 _
      refine z_xZ zt16 7 rfl rfl (fun (h65 : (1 : Int) = 0) => absurd h65 (by omega)) (fun (h65 : (1 : Int) ≠ 0) => ?_)
      refine z_xP zt16 8 33 [some (.ref 5), some (.int p1), some (.long b2), none, some (.long b4), none, some (.int b6)] [.int p1, .ref 5, .long b4] rfl rfl ?_
      obtain ⟨d66, hdd66⟩ : ∃ e, d = e + 1 := ⟨d - 1, by omega⟩
      subst hdd66
      refine z_xcV (vs := [.ref 5, .int p1]) (r := [.long b4]) (L2 := [some (.ref 5), some (.int p1), none, none, none]) zt16 9 rfl zo16 zzcV1_89 (Or.inl rfl) rfl X62 f5 rfl rfl rfl (Nat.le_of_ble_eq_true rfl) zzm17 (Nat.le_of_ble_eq_true rfl) rfl ?_
      refine ih17 X62.1 (by omega) (by omega) (by omega) (fun y69 M67 X68  => ?_)
      have X70 := X62.go X68 (z_sb (by decide))
      show z_ev (d66 + 1 + 5) 16 36 [some (.ref 5), some (.int p1), some (.long b2), none, some (.long b4), none, some (.int b6)] [.long y69, .long b4] M67 _
      refine z_xL zt16 10 rfl rfl (P := fun _ => True) (fun (y72 : Int64) _ => ?_) trivial
      refine z_xP zt16 11 63 [some (.ref 5), some (.int p1), some (.long b2), none, some (.long y72), none, some (.int b6)] [] rfl rfl ?_
      refine z_xN zt16 20 rfl rfl (fun (x74 : Int32) (h75 : x74.toInt = b6.toInt + 1) => ?_) (z_pAdd rfl rfl (by omega) (by omega))
      show z_ev (d66 + 1 + 5) 16 66 [some (.ref 5), some (.int p1), some (.long b2), none, some (.long y72), none, some (.int x74)] [] M67 _
      refine z_xP zt16 21 12 [some (.ref 5), some (.int p1), some (.long b2), none, some (.long y72), none, some (.int x74)] [] rfl rfl ?_
      exact ih M67 b2 y72 x74 X70 ⟨by omega, by omega⟩ (by omega)
    refine z_xP zt12 15 32 [some (.ref 5), some (.int 38)] [.int 0] rfl rfl ?_
    refine z_xrz zt12 16 rfl zzr12 (by decide) (by decide) ?_
    show z_ev (d + 5) 16 26 [some (.ref 5), some (.int p1), some (.long b2), none, some (.long b4), none, some (.int b6)] [.int 0] M _
    refine z_xZ zt16 7 rfl rfl (fun (h76 : (0 : Int) = 0) => ?_) (fun (h76 : (0 : Int) ≠ 0) => absurd h76 (by omega))
    refine z_xP zt16 12 45 [some (.ref 5), some (.int p1), some (.long b2), none, some (.long b4), none, some (.int b6)] [.int 124, .ref 5] rfl rfl ?_
    refine z_xcV (vs := [.ref 5, .int 124]) (r := []) (L2 := [some (.ref 5), some (.int 124)]) zt16 13 rfl zo16 zzcV1_69 (Or.inl rfl) rfl X f5 rfl rfl rfl (Nat.le_of_ble_eq_true rfl) zzm12 (Nat.le_of_ble_eq_true rfl) rfl ?_
    refine z_xP zt12 0 1 [some (.ref 5), some (.int 124)] [.ref 5] rfl rfl ?_
    refine z_xgv zt12 1 rfl zo12 zzf1_32 X f5 (by decide) h4 ?_
    refine z_xZ zt12 2 rfl rfl (fun (h77 : 0 ≤ x5.toInt) => absurd h77 (by omega)) (fun (h77 : x5.toInt < 0) => ?_)
    refine z_xP zt12 3 8 [some (.ref 5), some (.int 124)] [.ref 5] rfl rfl ?_
    refine z_xgv zt12 4 rfl zo12 zzf1_29 X f5 (by decide) h14 ?_
    refine z_xP zt12 5 12 [some (.ref 5), some (.int 124)] [.ref 5, .int x15] rfl rfl ?_
    refine z_xgv zt12 6 rfl zo12 zzf1_25 X f5 (by decide) h18 ?_
    refine z_xJ zt12 7 rfl rfl (fun (h78 : x19.toInt ≤ x15.toInt) => ?_) (fun (h78 : x15.toInt < x19.toInt) => ?_)
    · skip
      refine z_xP zt12 15 32 [some (.ref 5), some (.int 124)] [.int 0] rfl rfl ?_
      refine z_xrz zt12 16 rfl zzr12 (by decide) (by decide) ?_
      show z_ev (d + 5) 16 48 [some (.ref 5), some (.int p1), some (.long b2), none, some (.long b4), none, some (.int b6)] [.int 0] M _
      refine z_xZ zt16 14 rfl rfl (fun (h79 : (0 : Int) = 0) => ?_) (fun (h79 : (0 : Int) ≠ 0) => absurd h79 (by omega))
      refine z_xP zt16 22 72 [some (.ref 5), some (.int p1), some (.long b2), none, some (.long b4), none, some (.int b6)] [.long b4, .long b2] rfl rfl ?_
      refine z_xL zt16 23 rfl rfl (P := fun _ => True) (fun (y80 : Int64) _ => ?_) trivial
      exact z_xrl zt16 24 rfl zzr16 (kk y80 M X)
    refine z_xP zt12 8 19 [some (.ref 5), some (.int 124)] [.ref 5] rfl rfl ?_
    refine z_xgX (b := 6) zt12 9 rfl zo12 zzf1_9 X f5 (by decide) (by decide) rfl ?_
    refine z_xP zt12 10 23 [some (.ref 5), some (.int 124)] [.ref 5, .ref 6] rfl rfl ?_
    refine z_xgv zt12 11 rfl zo12 zzf1_29 X f5 (by decide) h14 ?_
    refine z_xil zt12 12 rfl X f6 (by decide) (by omega) (by omega) (fun (x82 : Int32) h83 (h84 : (-2147483648) ≤ x82.toInt) (h85 : x82.toInt ≤ 2147483647) => ?_)
    have h86 := congrArg Int32.toInt (h83.symm.trans h55)
    refine z_xP zt12 13 28 [some (.ref 5), some (.int 124)] [.int 124, .int x82] rfl rfl ?_
    refine z_xJ zt12 14 rfl rfl (fun (h87 : x82.toInt = 124) => ?_) (fun (h87 : x82.toInt ≠ 124) => ?_)
    · skip
      refine z_xP zt12 17 35 [some (.ref 5), some (.int 124)] [.ref 5, .ref 5] rfl rfl ?_
      refine z_xgv zt12 18 rfl zo12 zzf1_29 X f5 (by decide) h14 ?_
      refine z_xP zt12 19 39 [some (.ref 5), some (.int 124)] [.int 1, .int x15, .ref 5] rfl rfl ?_
      refine z_xI zt12 20 rfl rfl (fun (x88 : Int32) (h89 : x88.toInt = x15.toInt + 1) => ?_) (z_pAdd rfl rfl (by omega) (by omega))
      refine z_xpf zt12 21 rfl zo12 zzf1_29 X f5 (by decide) (by decide) ⟨by omega, by omega⟩ rfl (by decide) zw1_2 (fun M90 X91 e92 h93 => ?_)
      refine z_xP zt12 22 44 [some (.ref 5), some (.int 124)] [.int 1] rfl rfl ?_
      refine z_xrz zt12 23 rfl zzr12 (by decide) (by decide) ?_
      show z_ev (d + 5) 16 48 [some (.ref 5), some (.int p1), some (.long b2), none, some (.long b4), none, some (.int b6)] [.int 1] M90 _
      refine z_xZ zt16 14 rfl rfl (fun (h94 : (1 : Int) = 0) => absurd h94 (by omega)) (fun (h94 : (1 : Int) ≠ 0) => ?_)
      refine z_xP zt16 15 54 [some (.ref 5), some (.int p1), some (.long b2), none, some (.long b4), none, some (.int b6)] [.long b4, .long b2] rfl rfl ?_
      refine z_xL zt16 16 rfl rfl (P := fun _ => True) (fun (y95 : Int64) _ => ?_) trivial
      refine z_xP zt16 17 58 [some (.ref 5), some (.int p1), some (.long y95), none, some (.long b4), none, some (.int b6)] [.int p1, .ref 5] rfl rfl ?_
      obtain ⟨d97, hdd97⟩ : ∃ e, d = e + 1 := ⟨d - 1, by omega⟩
      subst hdd97
      refine z_xcV (vs := [.ref 5, .int p1]) (r := []) (L2 := [some (.ref 5), some (.int p1), none, none, none]) zt16 18 rfl zo16 zzcV1_89 (Or.inl rfl) rfl X91 f5 rfl rfl rfl (Nat.le_of_ble_eq_true rfl) zzm17 (Nat.le_of_ble_eq_true rfl) rfl ?_
      refine ih17 X91.1 (by omega) (by omega) (by omega) (fun y100 M98 X99  => ?_)
      have X101 := X91.go X99 (z_sb (by decide))
      show z_ev (d97 + 1 + 5) 16 61 [some (.ref 5), some (.int p1), some (.long y95), none, some (.long b4), none, some (.int b6)] [.long y100] M98 _
      refine z_xP zt16 19 63 [some (.ref 5), some (.int p1), some (.long y95), none, some (.long y100), none, some (.int b6)] [] rfl rfl ?_
      refine z_xN zt16 20 rfl rfl (fun (x103 : Int32) (h104 : x103.toInt = b6.toInt + 1) => ?_) (z_pAdd rfl rfl (by omega) (by omega))
      show z_ev (d97 + 1 + 5) 16 66 [some (.ref 5), some (.int p1), some (.long y95), none, some (.long y100), none, some (.int x103)] [] M98 _
      refine z_xP zt16 21 12 [some (.ref 5), some (.int p1), some (.long y95), none, some (.long y100), none, some (.int x103)] [] rfl rfl ?_
      exact ih M98 y95 y100 x103 X101 ⟨by omega, by omega⟩ (by omega)
    refine z_xP zt12 15 32 [some (.ref 5), some (.int 124)] [.int 0] rfl rfl ?_
    refine z_xrz zt12 16 rfl zzr12 (by decide) (by decide) ?_
    show z_ev (d + 5) 16 48 [some (.ref 5), some (.int p1), some (.long b2), none, some (.long b4), none, some (.int b6)] [.int 0] M _
    refine z_xZ zt16 14 rfl rfl (fun (h105 : (0 : Int) = 0) => ?_) (fun (h105 : (0 : Int) ≠ 0) => absurd h105 (by omega))
    refine z_xP zt16 22 72 [some (.ref 5), some (.int p1), some (.long b2), none, some (.long b4), none, some (.int b6)] [.long b4, .long b2] rfl rfl ?_
    refine z_xL zt16 23 rfl rfl (P := fun _ => True) (fun (y106 : Int64) _ => ?_) trivial
    exact z_xrl zt16 24 rfl zzr16 (kk y106 M X)
theorem zC16r {T : List zK} {d : Nat} {K : Option Value → zH → Prop} {p1 : Int32} {N : Nat} {M0 : zH} (hW : z_W M0 T) (u1 : 0 ≤ p1.toInt ∧ p1.toInt ≤ 6) (ih15 : zQ15 T N) (ih16 : zQ16 T N) (ih17 : zQ17 T N) (ih19 : zQ19 T N) (hm : 4 * (6 - p1.toInt) + 1 < (N : Int) + 1) (hd : 4 * (6 - p1.toInt) + 1 ≤ (d : Int)) (kk : ∀ (x : Int64) (M1 : zH), z_X T zw16 M0 M1 → K (some (.long x)) M1) : z_ev (d + 5) 16 0 [some (.ref 5), some (.int p1), none, none, none, none, none] [] M0 K := by
  have X : z_X T zw16 M0 M0 := .refl hW
  refine z_xP zt16 0 4 [some (.ref 5), some (.int p1), some (.long 0), none, none, none, none] [.int p1, .ref 5] rfl rfl ?_
  have f5 : T[5]? = some (.inl (1, 0, 0, 0, 0)) := X.1.k rfl (by decide)
  obtain ⟨d1, hdd1⟩ : ∃ e, d = e + 1 := ⟨d - 1, by omega⟩
  subst hdd1
  refine z_xcV (vs := [.ref 5, .int p1]) (r := []) (L2 := [some (.ref 5), some (.int p1), none, none, none]) zt16 1 rfl zo16 zzcV1_89 (Or.inl rfl) rfl X f5 rfl rfl rfl (Nat.le_of_ble_eq_true rfl) zzm17 (Nat.le_of_ble_eq_true rfl) rfl ?_
  refine ih17 X.1 (by omega) (by omega) (by omega) (fun y4 M2 X3  => ?_)
  have X5 := X.go X3 (z_sb (by decide))
  show z_ev (d1 + 1 + 5) 16 7 [some (.ref 5), some (.int p1), some (.long 0), none, none, none, none] [.long y4] M2 _
  refine z_xP zt16 2 12 [some (.ref 5), some (.int p1), some (.long 0), none, some (.long y4), none, some (.int 0)] [] rfl rfl ?_
  have q0 : ((0 : Int32)).toInt = 0 := rfl
  exact (zB16 u1 ih15 ih16 ih17 ih19 hm hd kk 322) M2 (0) y4 (0) X5 (by decide) (by omega)
theorem zC17r {T : List zK} {d : Nat} {K : Option Value → zH → Prop} {p1 : Int32} {N : Nat} {M0 : zH} (hW : z_W M0 T) (u1 : 0 ≤ p1.toInt ∧ p1.toInt ≤ 6) (ih15 : zQ15 T N) (ih16 : zQ16 T N) (ih17 : zQ17 T N) (ih19 : zQ19 T N) (hm : 4 * (6 - p1.toInt) < (N : Int) + 1) (hd : 4 * (6 - p1.toInt) ≤ (d : Int)) (kk : ∀ (x : Int64) (M1 : zH), z_X T zw17 M0 M1 → K (some (.long x)) M1) : z_ev (d + 5) 17 0 [some (.ref 5), some (.int p1), none, none, none] [] M0 K := by
  have X : z_X T zw17 M0 M0 := .refl hW
  refine z_xP zt17 0 1 [some (.ref 5), some (.int p1), none, none, none] [.ref 5] rfl rfl ?_
  have f5 : T[5]? = some (.inl (1, 0, 0, 0, 0)) := X.1.k rfl (by decide)
  refine z_xcV (vs := [.ref 5]) (r := []) (L2 := [some (.ref 5), none]) zt17 1 rfl zo17 zzcV1_81 (Or.inl rfl) rfl X f5 rfl rfl rfl (Nat.le_of_ble_eq_true rfl) zzm14 (Nat.le_of_ble_eq_true rfl) rfl ?_
  refine z_xP zt14 0 1 [some (.ref 5), none] [.ref 5] rfl rfl ?_
  refine z_xgI zt14 1 rfl zo14 zzf1_32 X f5 (by decide) (by decide) rfl (fun (x2 : Int32) h1 (h3 : (-2147483648) ≤ x2.toInt) (h4 : x2.toInt ≤ 2147483647) => ?_)
  refine z_xZ zt14 2 rfl rfl (fun (h5 : 0 ≤ x2.toInt) => ?_) (fun (h5 : x2.toInt < 0) => ?_)
  · skip
    refine z_xP zt14 16 34 [some (.ref 5), none] [.int (-1)] rfl rfl ?_
    refine z_xP zt14 17 36 [some (.ref 5), some (.int (-1))] [.int (-1)] rfl rfl ?_
    refine z_xZ zt14 18 rfl rfl (fun (h6 : ((-1) : Int) < 0) => ?_) (fun (h6 : 0 ≤ ((-1) : Int)) => absurd h6 (by omega))
    refine z_xP zt14 21 55 [some (.ref 5), some (.int (-1))] [.int (-1)] rfl rfl ?_
    refine z_xri zt14 26 rfl zzr14 ?_
    show z_ev (d + 5) 17 4 [some (.ref 5), some (.int p1), none, none, none] [.int (-1)] M0 _
    refine z_xP zt17 2 6 [some (.ref 5), some (.int p1), some (.int (-1)), none, none] [.int (-1)] rfl rfl ?_
    refine z_xZ zt17 3 rfl rfl (fun (h7 : ((-1) : Int) < 0) => ?_) (fun (h7 : 0 ≤ ((-1) : Int)) => absurd h7 (by omega))
    refine z_xP zt17 12 28 [some (.ref 5), some (.int p1), some (.int (-1)), none, none] [.int 6, .int p1] rfl rfl ?_
    refine z_xJ zt17 13 rfl rfl (fun (h8 : 6 ≤ p1.toInt) => ?_) (fun (h8 : p1.toInt < 6) => ?_)
    · skip
      refine z_xP zt17 63 143 [some (.ref 5), some (.int p1), some (.int (-1)), none, none] [.ref 5] rfl rfl ?_
      refine z_xcV (vs := [.ref 5]) (r := []) (L2 := [some (.ref 5)]) zt17 64 rfl zo17 zzcV1_66 (Or.inl rfl) rfl X f5 rfl rfl rfl (Nat.le_of_ble_eq_true rfl) zzm10 (Nat.le_of_ble_eq_true rfl) rfl ?_
      refine z_xP zt10 0 1 [some (.ref 5)] [.ref 5] rfl rfl ?_
      refine z_xgv zt10 1 rfl zo10 zzf1_32 X f5 (by decide) h1 ?_
      refine z_xZ zt10 2 rfl rfl (fun (h9 : 0 ≤ x2.toInt) => ?_) (fun (h9 : x2.toInt < 0) => absurd h9 (by omega))
      refine z_xrv zt10 6 rfl zzr10 ?_
      show z_ev (d + 5) 17 146 [some (.ref 5), some (.int p1), some (.int (-1)), none, none] [] M0 _
      refine z_xP zt17 65 147 [some (.ref 5), some (.int p1), some (.int (-1)), none, none] [.long 0] rfl rfl ?_
      have q0 : ((0 : Int64)).toInt = 0 := rfl
      exact z_xrl zt17 66 rfl zzr17 (kk 0 M0 X)
    refine z_xP zt17 14 34 [some (.ref 5), some (.int p1), some (.int (-1)), none, none] [.int 33, .ref 5] rfl rfl ?_
    refine z_xcV (vs := [.ref 5, .int 33]) (r := []) (L2 := [some (.ref 5), some (.int 33)]) zt17 15 rfl zo17 zzcV1_69 (Or.inl rfl) rfl X f5 rfl rfl rfl (Nat.le_of_ble_eq_true rfl) zzm12 (Nat.le_of_ble_eq_true rfl) rfl ?_
    refine z_xP zt12 0 1 [some (.ref 5), some (.int 33)] [.ref 5] rfl rfl ?_
    refine z_xgv zt12 1 rfl zo12 zzf1_32 X f5 (by decide) h1 ?_
    refine z_xZ zt12 2 rfl rfl (fun (h10 : 0 ≤ x2.toInt) => ?_) (fun (h10 : x2.toInt < 0) => absurd h10 (by omega))
    refine z_xP zt12 15 32 [some (.ref 5), some (.int 33)] [.int 0] rfl rfl ?_
    refine z_xrz zt12 16 rfl zzr12 (by decide) (by decide) ?_
    show z_ev (d + 5) 17 37 [some (.ref 5), some (.int p1), some (.int (-1)), none, none] [.int 0] M0 _
    refine z_xZ zt17 16 rfl rfl (fun (h11 : (0 : Int) = 0) => ?_) (fun (h11 : (0 : Int) ≠ 0) => absurd h11 (by omega))
    refine z_xP zt17 23 55 [some (.ref 5), some (.int p1), some (.int (-1)), none, none] [.int 40, .ref 5] rfl rfl ?_
    refine z_xcV (vs := [.ref 5, .int 40]) (r := []) (L2 := [some (.ref 5), some (.int 40)]) zt17 24 rfl zo17 zzcV1_69 (Or.inl rfl) rfl X f5 rfl rfl rfl (Nat.le_of_ble_eq_true rfl) zzm12 (Nat.le_of_ble_eq_true rfl) rfl ?_
    refine z_xP zt12 0 1 [some (.ref 5), some (.int 40)] [.ref 5] rfl rfl ?_
    refine z_xgv zt12 1 rfl zo12 zzf1_32 X f5 (by decide) h1 ?_
    refine z_xZ zt12 2 rfl rfl (fun (h12 : 0 ≤ x2.toInt) => ?_) (fun (h12 : x2.toInt < 0) => absurd h12 (by omega))
    refine z_xP zt12 15 32 [some (.ref 5), some (.int 40)] [.int 0] rfl rfl ?_
    refine z_xrz zt12 16 rfl zzr12 (by decide) (by decide) ?_
    show z_ev (d + 5) 17 58 [some (.ref 5), some (.int p1), some (.int (-1)), none, none] [.int 0] M0 _
    refine z_xZ zt17 25 rfl rfl (fun (h13 : (0 : Int) = 0) => ?_) (fun (h13 : (0 : Int) ≠ 0) => absurd h13 (by omega))
    refine z_xP zt17 33 78 [some (.ref 5), some (.int p1), some (.int (-1)), none, none] [.ref 5] rfl rfl ?_
    refine z_xgv zt17 34 rfl zo17 zzf1_32 X f5 (by decide) h1 ?_
    refine z_xZ zt17 35 rfl rfl (fun (h14 : 0 ≤ x2.toInt) => ?_) (fun (h14 : x2.toInt < 0) => absurd h14 (by omega))
    refine z_xP zt17 49 111 [some (.ref 5), some (.int p1), some (.int (-1)), none, none] [.int 0] rfl rfl ?_
    refine z_xP zt17 50 114 [some (.ref 5), some (.int p1), some (.int (-1)), some (.int 0), none] [.int 1, .int 0] rfl rfl ?_
    refine z_xJ zt17 51 rfl rfl (fun (h15 : (0 : Int) < 1) => ?_) (fun (h15 : 1 ≤ (0 : Int)) => absurd h15 (by omega))
    refine z_xP zt17 63 143 [some (.ref 5), some (.int p1), some (.int (-1)), some (.int 0), none] [.ref 5] rfl rfl ?_
    refine z_xcV (vs := [.ref 5]) (r := []) (L2 := [some (.ref 5)]) zt17 64 rfl zo17 zzcV1_66 (Or.inl rfl) rfl X f5 rfl rfl rfl (Nat.le_of_ble_eq_true rfl) zzm10 (Nat.le_of_ble_eq_true rfl) rfl ?_
    refine z_xP zt10 0 1 [some (.ref 5)] [.ref 5] rfl rfl ?_
    refine z_xgv zt10 1 rfl zo10 zzf1_32 X f5 (by decide) h1 ?_
    refine z_xZ zt10 2 rfl rfl (fun (h16 : 0 ≤ x2.toInt) => ?_) (fun (h16 : x2.toInt < 0) => absurd h16 (by omega))
    refine z_xrv zt10 6 rfl zzr10 ?_
    show z_ev (d + 5) 17 146 [some (.ref 5), some (.int p1), some (.int (-1)), some (.int 0), none] [] M0 _
    refine z_xP zt17 65 147 [some (.ref 5), some (.int p1), some (.int (-1)), some (.int 0), none] [.long 0] rfl rfl ?_
    have q0 : ((0 : Int64)).toInt = 0 := rfl
    exact z_xrl zt17 66 rfl zzr17 (kk 0 M0 X)
  refine z_xP zt14 3 8 [some (.ref 5), none] [.ref 5] rfl rfl ?_
  refine z_xgI zt14 4 rfl zo14 zzf1_29 X f5 (by decide) (by decide) rfl (fun (x18 : Int32) h17 (h19 : 0 ≤ x18.toInt) (h20 : x18.toInt ≤ 160) => ?_)
  refine z_xP zt14 5 12 [some (.ref 5), none] [.ref 5, .int x18] rfl rfl ?_
  refine z_xgI zt14 6 rfl zo14 zzf1_25 X f5 (by decide) (by decide) rfl (fun (x22 : Int32) h21 (h23 : 0 ≤ x22.toInt) (h24 : x22.toInt ≤ 160) => ?_)
  refine z_xJ zt14 7 rfl rfl (fun (h25 : x22.toInt ≤ x18.toInt) => ?_) (fun (h25 : x18.toInt < x22.toInt) => ?_)
  · skip
    refine z_xP zt14 16 34 [some (.ref 5), none] [.int (-1)] rfl rfl ?_
    refine z_xP zt14 17 36 [some (.ref 5), some (.int (-1))] [.int (-1)] rfl rfl ?_
    refine z_xZ zt14 18 rfl rfl (fun (h26 : ((-1) : Int) < 0) => ?_) (fun (h26 : 0 ≤ ((-1) : Int)) => absurd h26 (by omega))
    refine z_xP zt14 21 55 [some (.ref 5), some (.int (-1))] [.int (-1)] rfl rfl ?_
    refine z_xri zt14 26 rfl zzr14 ?_
    show z_ev (d + 5) 17 4 [some (.ref 5), some (.int p1), none, none, none] [.int (-1)] M0 _
    refine z_xP zt17 2 6 [some (.ref 5), some (.int p1), some (.int (-1)), none, none] [.int (-1)] rfl rfl ?_
    refine z_xZ zt17 3 rfl rfl (fun (h27 : ((-1) : Int) < 0) => ?_) (fun (h27 : 0 ≤ ((-1) : Int)) => absurd h27 (by omega))
    refine z_xP zt17 12 28 [some (.ref 5), some (.int p1), some (.int (-1)), none, none] [.int 6, .int p1] rfl rfl ?_
    refine z_xJ zt17 13 rfl rfl (fun (h28 : 6 ≤ p1.toInt) => ?_) (fun (h28 : p1.toInt < 6) => ?_)
    · skip
      refine z_xP zt17 63 143 [some (.ref 5), some (.int p1), some (.int (-1)), none, none] [.ref 5] rfl rfl ?_
      refine z_xcV (vs := [.ref 5]) (r := []) (L2 := [some (.ref 5)]) zt17 64 rfl zo17 zzcV1_66 (Or.inl rfl) rfl X f5 rfl rfl rfl (Nat.le_of_ble_eq_true rfl) zzm10 (Nat.le_of_ble_eq_true rfl) rfl ?_
      refine z_xP zt10 0 1 [some (.ref 5)] [.ref 5] rfl rfl ?_
      refine z_xgv zt10 1 rfl zo10 zzf1_32 X f5 (by decide) h1 ?_
      refine z_xZ zt10 2 rfl rfl (fun (h29 : 0 ≤ x2.toInt) => absurd h29 (by omega)) (fun (h29 : x2.toInt < 0) => ?_)
      refine z_xP zt10 3 9 [some (.ref 5)] [.ref 5, .ref 5] rfl rfl ?_
      refine z_xgv zt10 4 rfl zo10 zzf1_29 X f5 (by decide) h17 ?_
      refine z_xpf zt10 5 rfl zo10 zzf1_32 X f5 (by decide) (by decide) ⟨Int32.le_toInt _, Int32.toInt_le _⟩ rfl (by decide) zw1_3 (fun M30 X31 e32 h33 => ?_)
      refine z_xrv zt10 6 rfl zzr10 ?_
      show z_ev (d + 5) 17 146 [some (.ref 5), some (.int p1), some (.int (-1)), none, none] [] M30 _
      refine z_xP zt17 65 147 [some (.ref 5), some (.int p1), some (.int (-1)), none, none] [.long 0] rfl rfl ?_
      have q0 : ((0 : Int64)).toInt = 0 := rfl
      exact z_xrl zt17 66 rfl zzr17 (kk 0 M30 X31)
    refine z_xP zt17 14 34 [some (.ref 5), some (.int p1), some (.int (-1)), none, none] [.int 33, .ref 5] rfl rfl ?_
    refine z_xcV (vs := [.ref 5, .int 33]) (r := []) (L2 := [some (.ref 5), some (.int 33)]) zt17 15 rfl zo17 zzcV1_69 (Or.inl rfl) rfl X f5 rfl rfl rfl (Nat.le_of_ble_eq_true rfl) zzm12 (Nat.le_of_ble_eq_true rfl) rfl ?_
    refine z_xP zt12 0 1 [some (.ref 5), some (.int 33)] [.ref 5] rfl rfl ?_
    refine z_xgv zt12 1 rfl zo12 zzf1_32 X f5 (by decide) h1 ?_
    refine z_xZ zt12 2 rfl rfl (fun (h34 : 0 ≤ x2.toInt) => absurd h34 (by omega)) (fun (h34 : x2.toInt < 0) => ?_)
    refine z_xP zt12 3 8 [some (.ref 5), some (.int 33)] [.ref 5] rfl rfl ?_
    refine z_xgv zt12 4 rfl zo12 zzf1_29 X f5 (by decide) h17 ?_
    refine z_xP zt12 5 12 [some (.ref 5), some (.int 33)] [.ref 5, .int x18] rfl rfl ?_
    refine z_xgv zt12 6 rfl zo12 zzf1_25 X f5 (by decide) h21 ?_
    refine z_xJ zt12 7 rfl rfl (fun (h35 : x22.toInt ≤ x18.toInt) => ?_) (fun (h35 : x18.toInt < x22.toInt) => ?_)
    · skip
      refine z_xP zt12 15 32 [some (.ref 5), some (.int 33)] [.int 0] rfl rfl ?_
      refine z_xrz zt12 16 rfl zzr12 (by decide) (by decide) ?_
      show z_ev (d + 5) 17 37 [some (.ref 5), some (.int p1), some (.int (-1)), none, none] [.int 0] M0 _
      refine z_xZ zt17 16 rfl rfl (fun (h36 : (0 : Int) = 0) => ?_) (fun (h36 : (0 : Int) ≠ 0) => absurd h36 (by omega))
      refine z_xP zt17 23 55 [some (.ref 5), some (.int p1), some (.int (-1)), none, none] [.int 40, .ref 5] rfl rfl ?_
      refine z_xcV (vs := [.ref 5, .int 40]) (r := []) (L2 := [some (.ref 5), some (.int 40)]) zt17 24 rfl zo17 zzcV1_69 (Or.inl rfl) rfl X f5 rfl rfl rfl (Nat.le_of_ble_eq_true rfl) zzm12 (Nat.le_of_ble_eq_true rfl) rfl ?_
      refine z_xP zt12 0 1 [some (.ref 5), some (.int 40)] [.ref 5] rfl rfl ?_
      refine z_xgv zt12 1 rfl zo12 zzf1_32 X f5 (by decide) h1 ?_
      refine z_xZ zt12 2 rfl rfl (fun (h37 : 0 ≤ x2.toInt) => absurd h37 (by omega)) (fun (h37 : x2.toInt < 0) => ?_)
      refine z_xP zt12 3 8 [some (.ref 5), some (.int 40)] [.ref 5] rfl rfl ?_
      refine z_xgv zt12 4 rfl zo12 zzf1_29 X f5 (by decide) h17 ?_
      refine z_xP zt12 5 12 [some (.ref 5), some (.int 40)] [.ref 5, .int x18] rfl rfl ?_
      refine z_xgv zt12 6 rfl zo12 zzf1_25 X f5 (by decide) h21 ?_
      refine z_xJ zt12 7 rfl rfl (fun (h38 : x22.toInt ≤ x18.toInt) => ?_) (fun (h38 : x18.toInt < x22.toInt) => ?_)
      · skip
        refine z_xP zt12 15 32 [some (.ref 5), some (.int 40)] [.int 0] rfl rfl ?_
        refine z_xrz zt12 16 rfl zzr12 (by decide) (by decide) ?_
        show z_ev (d + 5) 17 58 [some (.ref 5), some (.int p1), some (.int (-1)), none, none] [.int 0] M0 _
        refine z_xZ zt17 25 rfl rfl (fun (h39 : (0 : Int) = 0) => ?_) (fun (h39 : (0 : Int) ≠ 0) => absurd h39 (by omega))
        refine z_xP zt17 33 78 [some (.ref 5), some (.int p1), some (.int (-1)), none, none] [.ref 5] rfl rfl ?_
        refine z_xgv zt17 34 rfl zo17 zzf1_32 X f5 (by decide) h1 ?_
        refine z_xZ zt17 35 rfl rfl (fun (h40 : 0 ≤ x2.toInt) => absurd h40 (by omega)) (fun (h40 : x2.toInt < 0) => ?_)
        refine z_xP zt17 36 85 [some (.ref 5), some (.int p1), some (.int (-1)), none, none] [.ref 5] rfl rfl ?_
        refine z_xgv zt17 37 rfl zo17 zzf1_29 X f5 (by decide) h17 ?_
        refine z_xP zt17 38 89 [some (.ref 5), some (.int p1), some (.int (-1)), none, none] [.ref 5, .int x18] rfl rfl ?_
        refine z_xgv zt17 39 rfl zo17 zzf1_25 X f5 (by decide) h21 ?_
        refine z_xJ zt17 40 rfl rfl (fun (h41 : x22.toInt ≤ x18.toInt) => ?_) (fun (h41 : x18.toInt < x22.toInt) => ?_)
        · skip
          refine z_xP zt17 49 111 [some (.ref 5), some (.int p1), some (.int (-1)), none, none] [.int 0] rfl rfl ?_
          refine z_xP zt17 50 114 [some (.ref 5), some (.int p1), some (.int (-1)), some (.int 0), none] [.int 1, .int 0] rfl rfl ?_
          refine z_xJ zt17 51 rfl rfl (fun (h42 : (0 : Int) < 1) => ?_) (fun (h42 : 1 ≤ (0 : Int)) => absurd h42 (by omega))
          refine z_xP zt17 63 143 [some (.ref 5), some (.int p1), some (.int (-1)), some (.int 0), none] [.ref 5] rfl rfl ?_
          refine z_xcV (vs := [.ref 5]) (r := []) (L2 := [some (.ref 5)]) zt17 64 rfl zo17 zzcV1_66 (Or.inl rfl) rfl X f5 rfl rfl rfl (Nat.le_of_ble_eq_true rfl) zzm10 (Nat.le_of_ble_eq_true rfl) rfl ?_
          refine z_xP zt10 0 1 [some (.ref 5)] [.ref 5] rfl rfl ?_
          refine z_xgv zt10 1 rfl zo10 zzf1_32 X f5 (by decide) h1 ?_
          refine z_xZ zt10 2 rfl rfl (fun (h43 : 0 ≤ x2.toInt) => absurd h43 (by omega)) (fun (h43 : x2.toInt < 0) => ?_)
          refine z_xP zt10 3 9 [some (.ref 5)] [.ref 5, .ref 5] rfl rfl ?_
          refine z_xgv zt10 4 rfl zo10 zzf1_29 X f5 (by decide) h17 ?_
          refine z_xpf zt10 5 rfl zo10 zzf1_32 X f5 (by decide) (by decide) ⟨Int32.le_toInt _, Int32.toInt_le _⟩ rfl (by decide) zw1_3 (fun M44 X45 e46 h47 => ?_)
          refine z_xrv zt10 6 rfl zzr10 ?_
          show z_ev (d + 5) 17 146 [some (.ref 5), some (.int p1), some (.int (-1)), some (.int 0), none] [] M44 _
          refine z_xP zt17 65 147 [some (.ref 5), some (.int p1), some (.int (-1)), some (.int 0), none] [.long 0] rfl rfl ?_
          have q0 : ((0 : Int64)).toInt = 0 := rfl
          exact z_xrl zt17 66 rfl zzr17 (kk 0 M44 X45)
        refine z_xP zt17 41 96 [some (.ref 5), some (.int p1), some (.int (-1)), none, none] [.ref 5] rfl rfl ?_
        refine z_xgX (b := 6) zt17 42 rfl zo17 zzf1_9 X f5 (by decide) (by decide) rfl ?_
        refine z_xP zt17 43 100 [some (.ref 5), some (.int p1), some (.int (-1)), none, none] [.ref 5, .ref 6] rfl rfl ?_
        refine z_xgv zt17 44 rfl zo17 zzf1_29 X f5 (by decide) h17 ?_
        have f6 : T[6]? = some (.inr (6, 0, 160, (-2147483648), 2147483647)) := X.1.k rfl (by decide)
        refine z_xil zt17 45 rfl X f6 (by decide) (by omega) (by omega) (fun (x48 : Int32) h49 (h50 : (-2147483648) ≤ x48.toInt) (h51 : x48.toInt ≤ 2147483647) => ?_)
        refine z_xP zt17 46 106 [some (.ref 5), some (.int p1), some (.int (-1)), none, none] [.int 48, .int x48] rfl rfl ?_
        have h52 := z_b32 x48
        refine z_xI zt17 47 rfl rfl (P := fun _ => True) (fun (x53 : Int32) _ => ?_) trivial
        refine z_xP zt17 48 111 [some (.ref 5), some (.int p1), some (.int (-1)), none, none] [.int x53] rfl rfl ?_
        refine z_xP zt17 50 114 [some (.ref 5), some (.int p1), some (.int (-1)), some (.int x53), none] [.int 1, .int x53] rfl rfl ?_
        refine z_xJ zt17 51 rfl rfl (fun (h55 : x53.toInt < 1) => ?_) (fun (h55 : 1 ≤ x53.toInt) => ?_)
        · skip
          refine z_xP zt17 63 143 [some (.ref 5), some (.int p1), some (.int (-1)), some (.int x53), none] [.ref 5] rfl rfl ?_
          refine z_xcV (vs := [.ref 5]) (r := []) (L2 := [some (.ref 5)]) zt17 64 rfl zo17 zzcV1_66 (Or.inl rfl) rfl X f5 rfl rfl rfl (Nat.le_of_ble_eq_true rfl) zzm10 (Nat.le_of_ble_eq_true rfl) rfl ?_
          refine z_xP zt10 0 1 [some (.ref 5)] [.ref 5] rfl rfl ?_
          refine z_xgv zt10 1 rfl zo10 zzf1_32 X f5 (by decide) h1 ?_
          refine z_xZ zt10 2 rfl rfl (fun (h56 : 0 ≤ x2.toInt) => absurd h56 (by omega)) (fun (h56 : x2.toInt < 0) => ?_)
          refine z_xP zt10 3 9 [some (.ref 5)] [.ref 5, .ref 5] rfl rfl ?_
          refine z_xgv zt10 4 rfl zo10 zzf1_29 X f5 (by decide) h17 ?_
          refine z_xpf zt10 5 rfl zo10 zzf1_32 X f5 (by decide) (by decide) ⟨Int32.le_toInt _, Int32.toInt_le _⟩ rfl (by decide) zw1_3 (fun M57 X58 e59 h60 => ?_)
          refine z_xrv zt10 6 rfl zzr10 ?_
          show z_ev (d + 5) 17 146 [some (.ref 5), some (.int p1), some (.int (-1)), some (.int x53), none] [] M57 _
          refine z_xP zt17 65 147 [some (.ref 5), some (.int p1), some (.int (-1)), some (.int x53), none] [.long 0] rfl rfl ?_
          have q0 : ((0 : Int64)).toInt = 0 := rfl
          exact z_xrl zt17 66 rfl zzr17 (kk 0 M57 X58)
        refine z_xP zt17 52 120 [some (.ref 5), some (.int p1), some (.int (-1)), some (.int x53), none] [.int 9, .int x53] rfl rfl ?_
        refine z_xJ zt17 53 rfl rfl (fun (h61 : 9 < x53.toInt) => ?_) (fun (h61 : x53.toInt ≤ 9) => ?_)
        · skip
          refine z_xP zt17 63 143 [some (.ref 5), some (.int p1), some (.int (-1)), some (.int x53), none] [.ref 5] rfl rfl ?_
          refine z_xcV (vs := [.ref 5]) (r := []) (L2 := [some (.ref 5)]) zt17 64 rfl zo17 zzcV1_66 (Or.inl rfl) rfl X f5 rfl rfl rfl (Nat.le_of_ble_eq_true rfl) zzm10 (Nat.le_of_ble_eq_true rfl) rfl ?_
          refine z_xP zt10 0 1 [some (.ref 5)] [.ref 5] rfl rfl ?_
          refine z_xgv zt10 1 rfl zo10 zzf1_32 X f5 (by decide) h1 ?_
          refine z_xZ zt10 2 rfl rfl (fun (h62 : 0 ≤ x2.toInt) => absurd h62 (by omega)) (fun (h62 : x2.toInt < 0) => ?_)
          refine z_xP zt10 3 9 [some (.ref 5)] [.ref 5, .ref 5] rfl rfl ?_
          refine z_xgv zt10 4 rfl zo10 zzf1_29 X f5 (by decide) h17 ?_
          refine z_xpf zt10 5 rfl zo10 zzf1_32 X f5 (by decide) (by decide) ⟨Int32.le_toInt _, Int32.toInt_le _⟩ rfl (by decide) zw1_3 (fun M63 X64 e65 h66 => ?_)
          refine z_xrv zt10 6 rfl zzr10 ?_
          show z_ev (d + 5) 17 146 [some (.ref 5), some (.int p1), some (.int (-1)), some (.int x53), none] [] M63 _
          refine z_xP zt17 65 147 [some (.ref 5), some (.int p1), some (.int (-1)), some (.int x53), none] [.long 0] rfl rfl ?_
          have q0 : ((0 : Int64)).toInt = 0 := rfl
          exact z_xrl zt17 66 rfl zzr17 (kk 0 M63 X64)
        refine z_xP zt17 54 125 [some (.ref 5), some (.int p1), some (.int (-1)), some (.int x53), none] [.ref 5, .ref 5] rfl rfl ?_
        refine z_xgv zt17 55 rfl zo17 zzf1_29 X f5 (by decide) h17 ?_
        refine z_xP zt17 56 129 [some (.ref 5), some (.int p1), some (.int (-1)), some (.int x53), none] [.int 1, .int x18, .ref 5] rfl rfl ?_
        refine z_xI zt17 57 rfl rfl (fun (x67 : Int32) (h68 : x67.toInt = x18.toInt + 1) => ?_) (z_pAdd rfl rfl (by omega) (by omega))
        refine z_xpf zt17 58 rfl zo17 zzf1_29 X f5 (by decide) (by decide) ⟨by omega, by omega⟩ rfl (by decide) zw1_2 (fun M69 X70 e71 h72 => ?_)
        refine z_xP zt17 59 137 [some (.ref 5), some (.int p1), some (.int (-1)), some (.int x53), none] [.int 1, .int p1, .int x53, .ref 5] rfl rfl ?_
        refine z_xI zt17 60 rfl rfl (fun (x73 : Int32) (h74 : x73.toInt = p1.toInt + 1) => ?_) (z_pAdd rfl rfl (by omega) (by omega))
        obtain ⟨d75, hdd75⟩ : ∃ e, d = e + 1 := ⟨d - 1, by omega⟩
        subst hdd75
        refine z_xcV (vs := [.ref 5, .int x53, .int x73]) (r := []) (L2 := [some (.ref 5), some (.int x53), some (.int x73), none, none, none, none, none]) zt17 61 rfl zo17 zzcV1_95 (Or.inl rfl) rfl X70 f5 rfl rfl rfl (Nat.le_of_ble_eq_true rfl) zzm19 (Nat.le_of_ble_eq_true rfl) rfl ?_
        refine ih19 X70.1 (by omega) (by omega) (by omega) (by omega) (fun y78 M76 X77  => ?_)
        have X79 := X70.go X77 (z_sb (by decide))
        show z_ev (d75 + 1 + 5) 17 141 [some (.ref 5), some (.int p1), some (.int (-1)), some (.int x53), none] [.long y78] M76 _
        exact z_xrl zt17 62 rfl zzr17 (kk y78 M76 X79)
      refine z_xP zt12 8 19 [some (.ref 5), some (.int 40)] [.ref 5] rfl rfl ?_
      refine z_xgX (b := 6) zt12 9 rfl zo12 zzf1_9 X f5 (by decide) (by decide) rfl ?_
      refine z_xP zt12 10 23 [some (.ref 5), some (.int 40)] [.ref 5, .ref 6] rfl rfl ?_
      refine z_xgv zt12 11 rfl zo12 zzf1_29 X f5 (by decide) h17 ?_
      have f6 : T[6]? = some (.inr (6, 0, 160, (-2147483648), 2147483647)) := X.1.k rfl (by decide)
      refine z_xil zt12 12 rfl X f6 (by decide) (by omega) (by omega) (fun (x81 : Int32) h82 (h83 : (-2147483648) ≤ x81.toInt) (h84 : x81.toInt ≤ 2147483647) => ?_)
      refine z_xP zt12 13 28 [some (.ref 5), some (.int 40)] [.int 40, .int x81] rfl rfl ?_
      refine z_xJ zt12 14 rfl rfl (fun (h85 : x81.toInt = 40) => ?_) (fun (h85 : x81.toInt ≠ 40) => ?_)
      · skip
        refine z_xP zt12 17 35 [some (.ref 5), some (.int 40)] [.ref 5, .ref 5] rfl rfl ?_
        refine z_xgv zt12 18 rfl zo12 zzf1_29 X f5 (by decide) h17 ?_
        refine z_xP zt12 19 39 [some (.ref 5), some (.int 40)] [.int 1, .int x18, .ref 5] rfl rfl ?_
        refine z_xI zt12 20 rfl rfl (fun (x86 : Int32) (h87 : x86.toInt = x18.toInt + 1) => ?_) (z_pAdd rfl rfl (by omega) (by omega))
        refine z_xpf zt12 21 rfl zo12 zzf1_29 X f5 (by decide) (by decide) ⟨by omega, by omega⟩ rfl (by decide) zw1_2 (fun M88 X89 e90 h91 => ?_)
        refine z_xP zt12 22 44 [some (.ref 5), some (.int 40)] [.int 1] rfl rfl ?_
        refine z_xrz zt12 23 rfl zzr12 (by decide) (by decide) ?_
        show z_ev (d + 5) 17 58 [some (.ref 5), some (.int p1), some (.int (-1)), none, none] [.int 1] M88 _
        refine z_xZ zt17 25 rfl rfl (fun (h92 : (1 : Int) = 0) => absurd h92 (by omega)) (fun (h92 : (1 : Int) ≠ 0) => ?_)
        refine z_xP zt17 26 64 [some (.ref 5), some (.int p1), some (.int (-1)), none, none] [.int 1, .int p1, .ref 5] rfl rfl ?_
        refine z_xI zt17 27 rfl rfl (fun (x93 : Int32) (h94 : x93.toInt = p1.toInt + 1) => ?_) (z_pAdd rfl rfl (by omega) (by omega))
        obtain ⟨d95, hdd95⟩ : ∃ e, d = e + 1 := ⟨d - 1, by omega⟩
        subst hdd95
        refine z_xcV (vs := [.ref 5, .int x93]) (r := []) (L2 := [some (.ref 5), some (.int x93), none, none, none, none, none]) zt17 28 rfl zo17 zzcV1_77 (Or.inl rfl) rfl X89 f5 rfl rfl rfl (Nat.le_of_ble_eq_true rfl) zzm15 (Nat.le_of_ble_eq_true rfl) rfl ?_
        refine ih15 X89.1 (by omega) (by omega) (by omega) (fun y98 M96 X97  => ?_)
        have X99 := X89.go X97 (z_sb (by decide))
        show z_ev (d95 + 1 + 5) 17 68 [some (.ref 5), some (.int p1), some (.int (-1)), none, none] [.long y98] M96 _
        refine z_xP zt17 29 72 [some (.ref 5), some (.int p1), some (.int (-1)), some (.long y98), none] [.int 41, .ref 5] rfl rfl ?_
        refine z_xcV (vs := [.ref 5, .int 41]) (r := []) (L2 := [some (.ref 5), some (.int 41)]) zt17 30 rfl zo17 zzcV1_56 (Or.inl rfl) rfl X99 f5 rfl rfl rfl (Nat.le_of_ble_eq_true rfl) zzm8 (Nat.le_of_ble_eq_true rfl) rfl ?_
        refine z_xP zt8 0 1 [some (.ref 5), some (.int 41)] [.ref 5] rfl rfl ?_
        refine z_xgI zt8 1 rfl zo8 zzf1_32 X99 f5 (by decide) (by decide) rfl (fun (x102 : Int32) h101 (h103 : (-2147483648) ≤ x102.toInt) (h104 : x102.toInt ≤ 2147483647) => ?_)
        refine z_xZ zt8 2 rfl rfl (fun (h105 : x102.toInt < 0) => ?_) (fun (h105 : 0 ≤ x102.toInt) => ?_)
        · skip
          refine z_xP zt8 4 9 [some (.ref 5), some (.int 41)] [.ref 5] rfl rfl ?_
          refine z_xgI zt8 5 rfl zo8 zzf1_29 X99 f5 (by decide) (by decide) rfl (fun (x107 : Int32) h106 (h108 : 0 ≤ x107.toInt) (h109 : x107.toInt ≤ 160) => ?_)
          refine z_xP zt8 6 13 [some (.ref 5), some (.int 41)] [.ref 5, .int x107] rfl rfl ?_
          have h110 := (X97.2.f f5 (by decide) (e90.f f5 (by decide) h21))
          refine z_xgv zt8 7 rfl zo8 zzf1_25 X99 f5 (by decide) h110 ?_
          refine z_xJ zt8 8 rfl rfl (fun (h111 : x22.toInt ≤ x107.toInt) => ?_) (fun (h111 : x107.toInt < x22.toInt) => ?_)
          · skip
            refine z_xP zt8 22 47 [some (.ref 5), some (.int 41)] [.ref 5, .ref 5] rfl rfl ?_
            refine z_xgv zt8 23 rfl zo8 zzf1_29 X99 f5 (by decide) h106 ?_
            refine z_xpf zt8 24 rfl zo8 zzf1_32 X99 f5 (by decide) (by decide) ⟨Int32.le_toInt _, Int32.toInt_le _⟩ rfl (by decide) zw1_3 (fun M112 X113 e114 h115 => ?_)
            refine z_xrv zt8 25 rfl zzr8 ?_
            show z_ev (d95 + 1 + 5) 17 75 [some (.ref 5), some (.int p1), some (.int (-1)), some (.long y98), none] [] M112 _
            refine z_xP zt17 31 76 [some (.ref 5), some (.int p1), some (.int (-1)), some (.long y98), none] [.long y98] rfl rfl ?_
            exact z_xrl zt17 32 rfl zzr17 (kk y98 M112 X113)
          refine z_xP zt8 9 20 [some (.ref 5), some (.int 41)] [.ref 5] rfl rfl ?_
          refine z_xgX (b := 6) zt8 10 rfl zo8 zzf1_9 X99 f5 (by decide) (by decide) rfl ?_
          refine z_xP zt8 11 24 [some (.ref 5), some (.int 41)] [.ref 5, .ref 6] rfl rfl ?_
          refine z_xgv zt8 12 rfl zo8 zzf1_29 X99 f5 (by decide) h106 ?_
          refine z_xil zt8 13 rfl X99 f6 (by decide) (by omega) (by omega) (fun (x116 : Int32) h117 (h118 : (-2147483648) ≤ x116.toInt) (h119 : x116.toInt ≤ 2147483647) => ?_)
          refine z_xP zt8 14 29 [some (.ref 5), some (.int 41)] [.int 41, .int x116] rfl rfl ?_
          refine z_xJ zt8 15 rfl rfl (fun (h120 : x116.toInt ≠ 41) => ?_) (fun (h120 : x116.toInt = 41) => ?_)
          · skip
            refine z_xP zt8 22 47 [some (.ref 5), some (.int 41)] [.ref 5, .ref 5] rfl rfl ?_
            refine z_xgv zt8 23 rfl zo8 zzf1_29 X99 f5 (by decide) h106 ?_
            refine z_xpf zt8 24 rfl zo8 zzf1_32 X99 f5 (by decide) (by decide) ⟨Int32.le_toInt _, Int32.toInt_le _⟩ rfl (by decide) zw1_3 (fun M121 X122 e123 h124 => ?_)
            refine z_xrv zt8 25 rfl zzr8 ?_
            show z_ev (d95 + 1 + 5) 17 75 [some (.ref 5), some (.int p1), some (.int (-1)), some (.long y98), none] [] M121 _
            refine z_xP zt17 31 76 [some (.ref 5), some (.int p1), some (.int (-1)), some (.long y98), none] [.long y98] rfl rfl ?_
            exact z_xrl zt17 32 rfl zzr17 (kk y98 M121 X122)
          refine z_xP zt8 16 34 [some (.ref 5), some (.int 41)] [.ref 5, .ref 5] rfl rfl ?_
          refine z_xgv zt8 17 rfl zo8 zzf1_29 X99 f5 (by decide) h106 ?_
          refine z_xP zt8 18 38 [some (.ref 5), some (.int 41)] [.int 1, .int x107, .ref 5] rfl rfl ?_
          refine z_xI zt8 19 rfl rfl (fun (x125 : Int32) (h126 : x125.toInt = x107.toInt + 1) => ?_) (z_pAdd rfl rfl (by omega) (by omega))
          refine z_xpf zt8 20 rfl zo8 zzf1_29 X99 f5 (by decide) (by decide) ⟨by omega, by omega⟩ rfl (by decide) zw1_2 (fun M127 X128 e129 h130 => ?_)
          refine z_xP zt8 21 53 [some (.ref 5), some (.int 41)] [] rfl rfl ?_
          refine z_xrv zt8 25 rfl zzr8 ?_
          show z_ev (d95 + 1 + 5) 17 75 [some (.ref 5), some (.int p1), some (.int (-1)), some (.long y98), none] [] M127 _
          refine z_xP zt17 31 76 [some (.ref 5), some (.int p1), some (.int (-1)), some (.long y98), none] [.long y98] rfl rfl ?_
          exact z_xrl zt17 32 rfl zzr17 (kk y98 M127 X128)
        refine z_xrv zt8 3 rfl zzr8 ?_
        show z_ev (d95 + 1 + 5) 17 75 [some (.ref 5), some (.int p1), some (.int (-1)), some (.long y98), none] [] M96 _
        refine z_xP zt17 31 76 [some (.ref 5), some (.int p1), some (.int (-1)), some (.long y98), none] [.long y98] rfl rfl ?_
        exact z_xrl zt17 32 rfl zzr17 (kk y98 M96 X99)
      refine z_xP zt12 15 32 [some (.ref 5), some (.int 40)] [.int 0] rfl rfl ?_
      refine z_xrz zt12 16 rfl zzr12 (by decide) (by decide) ?_
      show z_ev (d + 5) 17 58 [some (.ref 5), some (.int p1), some (.int (-1)), none, none] [.int 0] M0 _
      refine z_xZ zt17 25 rfl rfl (fun (h131 : (0 : Int) = 0) => ?_) (fun (h131 : (0 : Int) ≠ 0) => absurd h131 (by omega))
      refine z_xP zt17 33 78 [some (.ref 5), some (.int p1), some (.int (-1)), none, none] [.ref 5] rfl rfl ?_
      refine z_xgv zt17 34 rfl zo17 zzf1_32 X f5 (by decide) h1 ?_
      refine z_xZ zt17 35 rfl rfl (fun (h132 : 0 ≤ x2.toInt) => absurd h132 (by omega)) (fun (h132 : x2.toInt < 0) => ?_)
      refine z_xP zt17 36 85 [some (.ref 5), some (.int p1), some (.int (-1)), none, none] [.ref 5] rfl rfl ?_
      refine z_xgv zt17 37 rfl zo17 zzf1_29 X f5 (by decide) h17 ?_
      refine z_xP zt17 38 89 [some (.ref 5), some (.int p1), some (.int (-1)), none, none] [.ref 5, .int x18] rfl rfl ?_
      refine z_xgv zt17 39 rfl zo17 zzf1_25 X f5 (by decide) h21 ?_
      refine z_xJ zt17 40 rfl rfl (fun (h133 : x22.toInt ≤ x18.toInt) => ?_) (fun (h133 : x18.toInt < x22.toInt) => ?_)
      · skip
        refine z_xP zt17 49 111 [some (.ref 5), some (.int p1), some (.int (-1)), none, none] [.int 0] rfl rfl ?_
        refine z_xP zt17 50 114 [some (.ref 5), some (.int p1), some (.int (-1)), some (.int 0), none] [.int 1, .int 0] rfl rfl ?_
        refine z_xJ zt17 51 rfl rfl (fun (h134 : (0 : Int) < 1) => ?_) (fun (h134 : 1 ≤ (0 : Int)) => absurd h134 (by omega))
        refine z_xP zt17 63 143 [some (.ref 5), some (.int p1), some (.int (-1)), some (.int 0), none] [.ref 5] rfl rfl ?_
        refine z_xcV (vs := [.ref 5]) (r := []) (L2 := [some (.ref 5)]) zt17 64 rfl zo17 zzcV1_66 (Or.inl rfl) rfl X f5 rfl rfl rfl (Nat.le_of_ble_eq_true rfl) zzm10 (Nat.le_of_ble_eq_true rfl) rfl ?_
        refine z_xP zt10 0 1 [some (.ref 5)] [.ref 5] rfl rfl ?_
        refine z_xgv zt10 1 rfl zo10 zzf1_32 X f5 (by decide) h1 ?_
        refine z_xZ zt10 2 rfl rfl (fun (h135 : 0 ≤ x2.toInt) => absurd h135 (by omega)) (fun (h135 : x2.toInt < 0) => ?_)
        refine z_xP zt10 3 9 [some (.ref 5)] [.ref 5, .ref 5] rfl rfl ?_
        refine z_xgv zt10 4 rfl zo10 zzf1_29 X f5 (by decide) h17 ?_
        refine z_xpf zt10 5 rfl zo10 zzf1_32 X f5 (by decide) (by decide) ⟨Int32.le_toInt _, Int32.toInt_le _⟩ rfl (by decide) zw1_3 (fun M136 X137 e138 h139 => ?_)
        refine z_xrv zt10 6 rfl zzr10 ?_
        show z_ev (d + 5) 17 146 [some (.ref 5), some (.int p1), some (.int (-1)), some (.int 0), none] [] M136 _
        refine z_xP zt17 65 147 [some (.ref 5), some (.int p1), some (.int (-1)), some (.int 0), none] [.long 0] rfl rfl ?_
        have q0 : ((0 : Int64)).toInt = 0 := rfl
        exact z_xrl zt17 66 rfl zzr17 (kk 0 M136 X137)
      refine z_xP zt17 41 96 [some (.ref 5), some (.int p1), some (.int (-1)), none, none] [.ref 5] rfl rfl ?_
      refine z_xgX (b := 6) zt17 42 rfl zo17 zzf1_9 X f5 (by decide) (by decide) rfl ?_
      refine z_xP zt17 43 100 [some (.ref 5), some (.int p1), some (.int (-1)), none, none] [.ref 5, .ref 6] rfl rfl ?_
      refine z_xgv zt17 44 rfl zo17 zzf1_29 X f5 (by decide) h17 ?_
      refine z_xil zt17 45 rfl X f6 (by decide) (by omega) (by omega) (fun (x140 : Int32) h141 (h142 : (-2147483648) ≤ x140.toInt) (h143 : x140.toInt ≤ 2147483647) => ?_)
      have h144 := congrArg Int32.toInt (h141.symm.trans h82)
      refine z_xP zt17 46 106 [some (.ref 5), some (.int p1), some (.int (-1)), none, none] [.int 48, .int x140] rfl rfl ?_
      have h145 := z_b32 x140
      refine z_xI zt17 47 rfl rfl (P := fun _ => True) (fun (x146 : Int32) _ => ?_) trivial
      refine z_xP zt17 48 111 [some (.ref 5), some (.int p1), some (.int (-1)), none, none] [.int x146] rfl rfl ?_
      refine z_xP zt17 50 114 [some (.ref 5), some (.int p1), some (.int (-1)), some (.int x146), none] [.int 1, .int x146] rfl rfl ?_
      refine z_xJ zt17 51 rfl rfl (fun (h148 : x146.toInt < 1) => ?_) (fun (h148 : 1 ≤ x146.toInt) => ?_)
      · skip
        refine z_xP zt17 63 143 [some (.ref 5), some (.int p1), some (.int (-1)), some (.int x146), none] [.ref 5] rfl rfl ?_
        refine z_xcV (vs := [.ref 5]) (r := []) (L2 := [some (.ref 5)]) zt17 64 rfl zo17 zzcV1_66 (Or.inl rfl) rfl X f5 rfl rfl rfl (Nat.le_of_ble_eq_true rfl) zzm10 (Nat.le_of_ble_eq_true rfl) rfl ?_
        refine z_xP zt10 0 1 [some (.ref 5)] [.ref 5] rfl rfl ?_
        refine z_xgv zt10 1 rfl zo10 zzf1_32 X f5 (by decide) h1 ?_
        refine z_xZ zt10 2 rfl rfl (fun (h149 : 0 ≤ x2.toInt) => absurd h149 (by omega)) (fun (h149 : x2.toInt < 0) => ?_)
        refine z_xP zt10 3 9 [some (.ref 5)] [.ref 5, .ref 5] rfl rfl ?_
        refine z_xgv zt10 4 rfl zo10 zzf1_29 X f5 (by decide) h17 ?_
        refine z_xpf zt10 5 rfl zo10 zzf1_32 X f5 (by decide) (by decide) ⟨Int32.le_toInt _, Int32.toInt_le _⟩ rfl (by decide) zw1_3 (fun M150 X151 e152 h153 => ?_)
        refine z_xrv zt10 6 rfl zzr10 ?_
        show z_ev (d + 5) 17 146 [some (.ref 5), some (.int p1), some (.int (-1)), some (.int x146), none] [] M150 _
        refine z_xP zt17 65 147 [some (.ref 5), some (.int p1), some (.int (-1)), some (.int x146), none] [.long 0] rfl rfl ?_
        have q0 : ((0 : Int64)).toInt = 0 := rfl
        exact z_xrl zt17 66 rfl zzr17 (kk 0 M150 X151)
      refine z_xP zt17 52 120 [some (.ref 5), some (.int p1), some (.int (-1)), some (.int x146), none] [.int 9, .int x146] rfl rfl ?_
      refine z_xJ zt17 53 rfl rfl (fun (h154 : 9 < x146.toInt) => ?_) (fun (h154 : x146.toInt ≤ 9) => ?_)
      · skip
        refine z_xP zt17 63 143 [some (.ref 5), some (.int p1), some (.int (-1)), some (.int x146), none] [.ref 5] rfl rfl ?_
        refine z_xcV (vs := [.ref 5]) (r := []) (L2 := [some (.ref 5)]) zt17 64 rfl zo17 zzcV1_66 (Or.inl rfl) rfl X f5 rfl rfl rfl (Nat.le_of_ble_eq_true rfl) zzm10 (Nat.le_of_ble_eq_true rfl) rfl ?_
        refine z_xP zt10 0 1 [some (.ref 5)] [.ref 5] rfl rfl ?_
        refine z_xgv zt10 1 rfl zo10 zzf1_32 X f5 (by decide) h1 ?_
        refine z_xZ zt10 2 rfl rfl (fun (h155 : 0 ≤ x2.toInt) => absurd h155 (by omega)) (fun (h155 : x2.toInt < 0) => ?_)
        refine z_xP zt10 3 9 [some (.ref 5)] [.ref 5, .ref 5] rfl rfl ?_
        refine z_xgv zt10 4 rfl zo10 zzf1_29 X f5 (by decide) h17 ?_
        refine z_xpf zt10 5 rfl zo10 zzf1_32 X f5 (by decide) (by decide) ⟨Int32.le_toInt _, Int32.toInt_le _⟩ rfl (by decide) zw1_3 (fun M156 X157 e158 h159 => ?_)
        refine z_xrv zt10 6 rfl zzr10 ?_
        show z_ev (d + 5) 17 146 [some (.ref 5), some (.int p1), some (.int (-1)), some (.int x146), none] [] M156 _
        refine z_xP zt17 65 147 [some (.ref 5), some (.int p1), some (.int (-1)), some (.int x146), none] [.long 0] rfl rfl ?_
        have q0 : ((0 : Int64)).toInt = 0 := rfl
        exact z_xrl zt17 66 rfl zzr17 (kk 0 M156 X157)
      refine z_xP zt17 54 125 [some (.ref 5), some (.int p1), some (.int (-1)), some (.int x146), none] [.ref 5, .ref 5] rfl rfl ?_
      refine z_xgv zt17 55 rfl zo17 zzf1_29 X f5 (by decide) h17 ?_
      refine z_xP zt17 56 129 [some (.ref 5), some (.int p1), some (.int (-1)), some (.int x146), none] [.int 1, .int x18, .ref 5] rfl rfl ?_
      refine z_xI zt17 57 rfl rfl (fun (x160 : Int32) (h161 : x160.toInt = x18.toInt + 1) => ?_) (z_pAdd rfl rfl (by omega) (by omega))
      refine z_xpf zt17 58 rfl zo17 zzf1_29 X f5 (by decide) (by decide) ⟨by omega, by omega⟩ rfl (by decide) zw1_2 (fun M162 X163 e164 h165 => ?_)
      refine z_xP zt17 59 137 [some (.ref 5), some (.int p1), some (.int (-1)), some (.int x146), none] [.int 1, .int p1, .int x146, .ref 5] rfl rfl ?_
      refine z_xI zt17 60 rfl rfl (fun (x166 : Int32) (h167 : x166.toInt = p1.toInt + 1) => ?_) (z_pAdd rfl rfl (by omega) (by omega))
      obtain ⟨d168, hdd168⟩ : ∃ e, d = e + 1 := ⟨d - 1, by omega⟩
      subst hdd168
      refine z_xcV (vs := [.ref 5, .int x146, .int x166]) (r := []) (L2 := [some (.ref 5), some (.int x146), some (.int x166), none, none, none, none, none]) zt17 61 rfl zo17 zzcV1_95 (Or.inl rfl) rfl X163 f5 rfl rfl rfl (Nat.le_of_ble_eq_true rfl) zzm19 (Nat.le_of_ble_eq_true rfl) rfl ?_
      refine ih19 X163.1 (by omega) (by omega) (by omega) (by omega) (fun y171 M169 X170  => ?_)
      have X172 := X163.go X170 (z_sb (by decide))
      show z_ev (d168 + 1 + 5) 17 141 [some (.ref 5), some (.int p1), some (.int (-1)), some (.int x146), none] [.long y171] M169 _
      exact z_xrl zt17 62 rfl zzr17 (kk y171 M169 X172)
    refine z_xP zt12 8 19 [some (.ref 5), some (.int 33)] [.ref 5] rfl rfl ?_
    refine z_xgX (b := 6) zt12 9 rfl zo12 zzf1_9 X f5 (by decide) (by decide) rfl ?_
    refine z_xP zt12 10 23 [some (.ref 5), some (.int 33)] [.ref 5, .ref 6] rfl rfl ?_
    refine z_xgv zt12 11 rfl zo12 zzf1_29 X f5 (by decide) h17 ?_
    have f6 : T[6]? = some (.inr (6, 0, 160, (-2147483648), 2147483647)) := X.1.k rfl (by decide)
    refine z_xil zt12 12 rfl X f6 (by decide) (by omega) (by omega) (fun (x174 : Int32) h175 (h176 : (-2147483648) ≤ x174.toInt) (h177 : x174.toInt ≤ 2147483647) => ?_)
    refine z_xP zt12 13 28 [some (.ref 5), some (.int 33)] [.int 33, .int x174] rfl rfl ?_
    refine z_xJ zt12 14 rfl rfl (fun (h178 : x174.toInt = 33) => ?_) (fun (h178 : x174.toInt ≠ 33) => ?_)
    · skip
      refine z_xP zt12 17 35 [some (.ref 5), some (.int 33)] [.ref 5, .ref 5] rfl rfl ?_
      refine z_xgv zt12 18 rfl zo12 zzf1_29 X f5 (by decide) h17 ?_
      refine z_xP zt12 19 39 [some (.ref 5), some (.int 33)] [.int 1, .int x18, .ref 5] rfl rfl ?_
      refine z_xI zt12 20 rfl rfl (fun (x179 : Int32) (h180 : x179.toInt = x18.toInt + 1) => ?_) (z_pAdd rfl rfl (by omega) (by omega))
      refine z_xpf zt12 21 rfl zo12 zzf1_29 X f5 (by decide) (by decide) ⟨by omega, by omega⟩ rfl (by decide) zw1_2 (fun M181 X182 e183 h184 => ?_)
      refine z_xP zt12 22 44 [some (.ref 5), some (.int 33)] [.int 1] rfl rfl ?_
      refine z_xrz zt12 23 rfl zzr12 (by decide) (by decide) ?_
      show z_ev (d + 5) 17 37 [some (.ref 5), some (.int p1), some (.int (-1)), none, none] [.int 1] M181 _
      refine z_xZ zt17 16 rfl rfl (fun (h185 : (1 : Int) = 0) => absurd h185 (by omega)) (fun (h185 : (1 : Int) ≠ 0) => ?_)
      refine z_xP zt17 17 43 [some (.ref 5), some (.int p1), some (.int (-1)), none, none] [.int 1, .int p1, .ref 5] rfl rfl ?_
      refine z_xI zt17 18 rfl rfl (fun (x186 : Int32) (h187 : x186.toInt = p1.toInt + 1) => ?_) (z_pAdd rfl rfl (by omega) (by omega))
      obtain ⟨d188, hdd188⟩ : ∃ e, d = e + 1 := ⟨d - 1, by omega⟩
      subst hdd188
      refine z_xcV (vs := [.ref 5, .int x186]) (r := []) (L2 := [some (.ref 5), some (.int x186), none, none, none]) zt17 19 rfl zo17 zzcV1_89 (Or.inl rfl) rfl X182 f5 rfl rfl rfl (Nat.le_of_ble_eq_true rfl) zzm17 (Nat.le_of_ble_eq_true rfl) rfl ?_
      refine ih17 X182.1 (by omega) (by omega) (by omega) (fun y191 M189 X190  => ?_)
      have X192 := X182.go X190 (z_sb (by decide))
      show z_ev (d188 + 1 + 5) 17 47 [some (.ref 5), some (.int p1), some (.int (-1)), none, none] [.long y191] M189 _
      refine z_xl2 zt17 20 rfl zo17 zkl1_84 ?_
      refine z_xL zt17 21 rfl rfl (P := fun _ => True) (fun (y194 : Int64) _ => ?_) trivial
      exact z_xrl zt17 22 rfl zzr17 (kk y194 M189 X192)
    refine z_xP zt12 15 32 [some (.ref 5), some (.int 33)] [.int 0] rfl rfl ?_
    refine z_xrz zt12 16 rfl zzr12 (by decide) (by decide) ?_
    show z_ev (d + 5) 17 37 [some (.ref 5), some (.int p1), some (.int (-1)), none, none] [.int 0] M0 _
    refine z_xZ zt17 16 rfl rfl (fun (h196 : (0 : Int) = 0) => ?_) (fun (h196 : (0 : Int) ≠ 0) => absurd h196 (by omega))
    refine z_xP zt17 23 55 [some (.ref 5), some (.int p1), some (.int (-1)), none, none] [.int 40, .ref 5] rfl rfl ?_
    refine z_xcV (vs := [.ref 5, .int 40]) (r := []) (L2 := [some (.ref 5), some (.int 40)]) zt17 24 rfl zo17 zzcV1_69 (Or.inl rfl) rfl X f5 rfl rfl rfl (Nat.le_of_ble_eq_true rfl) zzm12 (Nat.le_of_ble_eq_true rfl) rfl ?_
    refine z_xP zt12 0 1 [some (.ref 5), some (.int 40)] [.ref 5] rfl rfl ?_
    refine z_xgv zt12 1 rfl zo12 zzf1_32 X f5 (by decide) h1 ?_
    refine z_xZ zt12 2 rfl rfl (fun (h197 : 0 ≤ x2.toInt) => absurd h197 (by omega)) (fun (h197 : x2.toInt < 0) => ?_)
    refine z_xP zt12 3 8 [some (.ref 5), some (.int 40)] [.ref 5] rfl rfl ?_
    refine z_xgv zt12 4 rfl zo12 zzf1_29 X f5 (by decide) h17 ?_
    refine z_xP zt12 5 12 [some (.ref 5), some (.int 40)] [.ref 5, .int x18] rfl rfl ?_
    refine z_xgv zt12 6 rfl zo12 zzf1_25 X f5 (by decide) h21 ?_
    refine z_xJ zt12 7 rfl rfl (fun (h198 : x22.toInt ≤ x18.toInt) => ?_) (fun (h198 : x18.toInt < x22.toInt) => ?_)
    · skip
      refine z_xP zt12 15 32 [some (.ref 5), some (.int 40)] [.int 0] rfl rfl ?_
      refine z_xrz zt12 16 rfl zzr12 (by decide) (by decide) ?_
      show z_ev (d + 5) 17 58 [some (.ref 5), some (.int p1), some (.int (-1)), none, none] [.int 0] M0 _
      refine z_xZ zt17 25 rfl rfl (fun (h199 : (0 : Int) = 0) => ?_) (fun (h199 : (0 : Int) ≠ 0) => absurd h199 (by omega))
      refine z_xP zt17 33 78 [some (.ref 5), some (.int p1), some (.int (-1)), none, none] [.ref 5] rfl rfl ?_
      refine z_xgv zt17 34 rfl zo17 zzf1_32 X f5 (by decide) h1 ?_
      refine z_xZ zt17 35 rfl rfl (fun (h200 : 0 ≤ x2.toInt) => absurd h200 (by omega)) (fun (h200 : x2.toInt < 0) => ?_)
      refine z_xP zt17 36 85 [some (.ref 5), some (.int p1), some (.int (-1)), none, none] [.ref 5] rfl rfl ?_
      refine z_xgv zt17 37 rfl zo17 zzf1_29 X f5 (by decide) h17 ?_
      refine z_xP zt17 38 89 [some (.ref 5), some (.int p1), some (.int (-1)), none, none] [.ref 5, .int x18] rfl rfl ?_
      refine z_xgv zt17 39 rfl zo17 zzf1_25 X f5 (by decide) h21 ?_
      refine z_xJ zt17 40 rfl rfl (fun (h201 : x22.toInt ≤ x18.toInt) => ?_) (fun (h201 : x18.toInt < x22.toInt) => ?_)
      · skip
        refine z_xP zt17 49 111 [some (.ref 5), some (.int p1), some (.int (-1)), none, none] [.int 0] rfl rfl ?_
        refine z_xP zt17 50 114 [some (.ref 5), some (.int p1), some (.int (-1)), some (.int 0), none] [.int 1, .int 0] rfl rfl ?_
        refine z_xJ zt17 51 rfl rfl (fun (h202 : (0 : Int) < 1) => ?_) (fun (h202 : 1 ≤ (0 : Int)) => absurd h202 (by omega))
        refine z_xP zt17 63 143 [some (.ref 5), some (.int p1), some (.int (-1)), some (.int 0), none] [.ref 5] rfl rfl ?_
        refine z_xcV (vs := [.ref 5]) (r := []) (L2 := [some (.ref 5)]) zt17 64 rfl zo17 zzcV1_66 (Or.inl rfl) rfl X f5 rfl rfl rfl (Nat.le_of_ble_eq_true rfl) zzm10 (Nat.le_of_ble_eq_true rfl) rfl ?_
        refine z_xP zt10 0 1 [some (.ref 5)] [.ref 5] rfl rfl ?_
        refine z_xgv zt10 1 rfl zo10 zzf1_32 X f5 (by decide) h1 ?_
        refine z_xZ zt10 2 rfl rfl (fun (h203 : 0 ≤ x2.toInt) => absurd h203 (by omega)) (fun (h203 : x2.toInt < 0) => ?_)
        refine z_xP zt10 3 9 [some (.ref 5)] [.ref 5, .ref 5] rfl rfl ?_
        refine z_xgv zt10 4 rfl zo10 zzf1_29 X f5 (by decide) h17 ?_
        refine z_xpf zt10 5 rfl zo10 zzf1_32 X f5 (by decide) (by decide) ⟨Int32.le_toInt _, Int32.toInt_le _⟩ rfl (by decide) zw1_3 (fun M204 X205 e206 h207 => ?_)
        refine z_xrv zt10 6 rfl zzr10 ?_
        show z_ev (d + 5) 17 146 [some (.ref 5), some (.int p1), some (.int (-1)), some (.int 0), none] [] M204 _
        refine z_xP zt17 65 147 [some (.ref 5), some (.int p1), some (.int (-1)), some (.int 0), none] [.long 0] rfl rfl ?_
        have q0 : ((0 : Int64)).toInt = 0 := rfl
        exact z_xrl zt17 66 rfl zzr17 (kk 0 M204 X205)
      refine z_xP zt17 41 96 [some (.ref 5), some (.int p1), some (.int (-1)), none, none] [.ref 5] rfl rfl ?_
      refine z_xgX (b := 6) zt17 42 rfl zo17 zzf1_9 X f5 (by decide) (by decide) rfl ?_
      refine z_xP zt17 43 100 [some (.ref 5), some (.int p1), some (.int (-1)), none, none] [.ref 5, .ref 6] rfl rfl ?_
      refine z_xgv zt17 44 rfl zo17 zzf1_29 X f5 (by decide) h17 ?_
      refine z_xil zt17 45 rfl X f6 (by decide) (by omega) (by omega) (fun (x208 : Int32) h209 (h210 : (-2147483648) ≤ x208.toInt) (h211 : x208.toInt ≤ 2147483647) => ?_)
      have h212 := congrArg Int32.toInt (h209.symm.trans h175)
      refine z_xP zt17 46 106 [some (.ref 5), some (.int p1), some (.int (-1)), none, none] [.int 48, .int x208] rfl rfl ?_
      have h213 := z_b32 x208
      refine z_xI zt17 47 rfl rfl (P := fun _ => True) (fun (x214 : Int32) _ => ?_) trivial
      refine z_xP zt17 48 111 [some (.ref 5), some (.int p1), some (.int (-1)), none, none] [.int x214] rfl rfl ?_
      refine z_xP zt17 50 114 [some (.ref 5), some (.int p1), some (.int (-1)), some (.int x214), none] [.int 1, .int x214] rfl rfl ?_
      refine z_xJ zt17 51 rfl rfl (fun (h216 : x214.toInt < 1) => ?_) (fun (h216 : 1 ≤ x214.toInt) => ?_)
      · skip
        refine z_xP zt17 63 143 [some (.ref 5), some (.int p1), some (.int (-1)), some (.int x214), none] [.ref 5] rfl rfl ?_
        refine z_xcV (vs := [.ref 5]) (r := []) (L2 := [some (.ref 5)]) zt17 64 rfl zo17 zzcV1_66 (Or.inl rfl) rfl X f5 rfl rfl rfl (Nat.le_of_ble_eq_true rfl) zzm10 (Nat.le_of_ble_eq_true rfl) rfl ?_
        refine z_xP zt10 0 1 [some (.ref 5)] [.ref 5] rfl rfl ?_
        refine z_xgv zt10 1 rfl zo10 zzf1_32 X f5 (by decide) h1 ?_
        refine z_xZ zt10 2 rfl rfl (fun (h217 : 0 ≤ x2.toInt) => absurd h217 (by omega)) (fun (h217 : x2.toInt < 0) => ?_)
        refine z_xP zt10 3 9 [some (.ref 5)] [.ref 5, .ref 5] rfl rfl ?_
        refine z_xgv zt10 4 rfl zo10 zzf1_29 X f5 (by decide) h17 ?_
        refine z_xpf zt10 5 rfl zo10 zzf1_32 X f5 (by decide) (by decide) ⟨Int32.le_toInt _, Int32.toInt_le _⟩ rfl (by decide) zw1_3 (fun M218 X219 e220 h221 => ?_)
        refine z_xrv zt10 6 rfl zzr10 ?_
        show z_ev (d + 5) 17 146 [some (.ref 5), some (.int p1), some (.int (-1)), some (.int x214), none] [] M218 _
        refine z_xP zt17 65 147 [some (.ref 5), some (.int p1), some (.int (-1)), some (.int x214), none] [.long 0] rfl rfl ?_
        have q0 : ((0 : Int64)).toInt = 0 := rfl
        exact z_xrl zt17 66 rfl zzr17 (kk 0 M218 X219)
      refine z_xP zt17 52 120 [some (.ref 5), some (.int p1), some (.int (-1)), some (.int x214), none] [.int 9, .int x214] rfl rfl ?_
      refine z_xJ zt17 53 rfl rfl (fun (h222 : 9 < x214.toInt) => ?_) (fun (h222 : x214.toInt ≤ 9) => ?_)
      · skip
        refine z_xP zt17 63 143 [some (.ref 5), some (.int p1), some (.int (-1)), some (.int x214), none] [.ref 5] rfl rfl ?_
        refine z_xcV (vs := [.ref 5]) (r := []) (L2 := [some (.ref 5)]) zt17 64 rfl zo17 zzcV1_66 (Or.inl rfl) rfl X f5 rfl rfl rfl (Nat.le_of_ble_eq_true rfl) zzm10 (Nat.le_of_ble_eq_true rfl) rfl ?_
        refine z_xP zt10 0 1 [some (.ref 5)] [.ref 5] rfl rfl ?_
        refine z_xgv zt10 1 rfl zo10 zzf1_32 X f5 (by decide) h1 ?_
        refine z_xZ zt10 2 rfl rfl (fun (h223 : 0 ≤ x2.toInt) => absurd h223 (by omega)) (fun (h223 : x2.toInt < 0) => ?_)
        refine z_xP zt10 3 9 [some (.ref 5)] [.ref 5, .ref 5] rfl rfl ?_
        refine z_xgv zt10 4 rfl zo10 zzf1_29 X f5 (by decide) h17 ?_
        refine z_xpf zt10 5 rfl zo10 zzf1_32 X f5 (by decide) (by decide) ⟨Int32.le_toInt _, Int32.toInt_le _⟩ rfl (by decide) zw1_3 (fun M224 X225 e226 h227 => ?_)
        refine z_xrv zt10 6 rfl zzr10 ?_
        show z_ev (d + 5) 17 146 [some (.ref 5), some (.int p1), some (.int (-1)), some (.int x214), none] [] M224 _
        refine z_xP zt17 65 147 [some (.ref 5), some (.int p1), some (.int (-1)), some (.int x214), none] [.long 0] rfl rfl ?_
        have q0 : ((0 : Int64)).toInt = 0 := rfl
        exact z_xrl zt17 66 rfl zzr17 (kk 0 M224 X225)
      refine z_xP zt17 54 125 [some (.ref 5), some (.int p1), some (.int (-1)), some (.int x214), none] [.ref 5, .ref 5] rfl rfl ?_
      refine z_xgv zt17 55 rfl zo17 zzf1_29 X f5 (by decide) h17 ?_
      refine z_xP zt17 56 129 [some (.ref 5), some (.int p1), some (.int (-1)), some (.int x214), none] [.int 1, .int x18, .ref 5] rfl rfl ?_
      refine z_xI zt17 57 rfl rfl (fun (x228 : Int32) (h229 : x228.toInt = x18.toInt + 1) => ?_) (z_pAdd rfl rfl (by omega) (by omega))
      refine z_xpf zt17 58 rfl zo17 zzf1_29 X f5 (by decide) (by decide) ⟨by omega, by omega⟩ rfl (by decide) zw1_2 (fun M230 X231 e232 h233 => ?_)
      refine z_xP zt17 59 137 [some (.ref 5), some (.int p1), some (.int (-1)), some (.int x214), none] [.int 1, .int p1, .int x214, .ref 5] rfl rfl ?_
      refine z_xI zt17 60 rfl rfl (fun (x234 : Int32) (h235 : x234.toInt = p1.toInt + 1) => ?_) (z_pAdd rfl rfl (by omega) (by omega))
      obtain ⟨d236, hdd236⟩ : ∃ e, d = e + 1 := ⟨d - 1, by omega⟩
      subst hdd236
      refine z_xcV (vs := [.ref 5, .int x214, .int x234]) (r := []) (L2 := [some (.ref 5), some (.int x214), some (.int x234), none, none, none, none, none]) zt17 61 rfl zo17 zzcV1_95 (Or.inl rfl) rfl X231 f5 rfl rfl rfl (Nat.le_of_ble_eq_true rfl) zzm19 (Nat.le_of_ble_eq_true rfl) rfl ?_
      refine ih19 X231.1 (by omega) (by omega) (by omega) (by omega) (fun y239 M237 X238  => ?_)
      have X240 := X231.go X238 (z_sb (by decide))
      show z_ev (d236 + 1 + 5) 17 141 [some (.ref 5), some (.int p1), some (.int (-1)), some (.int x214), none] [.long y239] M237 _
      exact z_xrl zt17 62 rfl zzr17 (kk y239 M237 X240)
    refine z_xP zt12 8 19 [some (.ref 5), some (.int 40)] [.ref 5] rfl rfl ?_
    refine z_xgX (b := 6) zt12 9 rfl zo12 zzf1_9 X f5 (by decide) (by decide) rfl ?_
    refine z_xP zt12 10 23 [some (.ref 5), some (.int 40)] [.ref 5, .ref 6] rfl rfl ?_
    refine z_xgv zt12 11 rfl zo12 zzf1_29 X f5 (by decide) h17 ?_
    refine z_xil zt12 12 rfl X f6 (by decide) (by omega) (by omega) (fun (x242 : Int32) h243 (h244 : (-2147483648) ≤ x242.toInt) (h245 : x242.toInt ≤ 2147483647) => ?_)
    have h246 := congrArg Int32.toInt (h243.symm.trans h175)
    refine z_xP zt12 13 28 [some (.ref 5), some (.int 40)] [.int 40, .int x242] rfl rfl ?_
    refine z_xJ zt12 14 rfl rfl (fun (h247 : x242.toInt = 40) => ?_) (fun (h247 : x242.toInt ≠ 40) => ?_)
    · skip
      refine z_xP zt12 17 35 [some (.ref 5), some (.int 40)] [.ref 5, .ref 5] rfl rfl ?_
      refine z_xgv zt12 18 rfl zo12 zzf1_29 X f5 (by decide) h17 ?_
      refine z_xP zt12 19 39 [some (.ref 5), some (.int 40)] [.int 1, .int x18, .ref 5] rfl rfl ?_
      refine z_xI zt12 20 rfl rfl (fun (x248 : Int32) (h249 : x248.toInt = x18.toInt + 1) => ?_) (z_pAdd rfl rfl (by omega) (by omega))
      refine z_xpf zt12 21 rfl zo12 zzf1_29 X f5 (by decide) (by decide) ⟨by omega, by omega⟩ rfl (by decide) zw1_2 (fun M250 X251 e252 h253 => ?_)
      refine z_xP zt12 22 44 [some (.ref 5), some (.int 40)] [.int 1] rfl rfl ?_
      refine z_xrz zt12 23 rfl zzr12 (by decide) (by decide) ?_
      show z_ev (d + 5) 17 58 [some (.ref 5), some (.int p1), some (.int (-1)), none, none] [.int 1] M250 _
      refine z_xZ zt17 25 rfl rfl (fun (h254 : (1 : Int) = 0) => absurd h254 (by omega)) (fun (h254 : (1 : Int) ≠ 0) => ?_)
      refine z_xP zt17 26 64 [some (.ref 5), some (.int p1), some (.int (-1)), none, none] [.int 1, .int p1, .ref 5] rfl rfl ?_
      refine z_xI zt17 27 rfl rfl (fun (x255 : Int32) (h256 : x255.toInt = p1.toInt + 1) => ?_) (z_pAdd rfl rfl (by omega) (by omega))
      obtain ⟨d257, hdd257⟩ : ∃ e, d = e + 1 := ⟨d - 1, by omega⟩
      subst hdd257
      refine z_xcV (vs := [.ref 5, .int x255]) (r := []) (L2 := [some (.ref 5), some (.int x255), none, none, none, none, none]) zt17 28 rfl zo17 zzcV1_77 (Or.inl rfl) rfl X251 f5 rfl rfl rfl (Nat.le_of_ble_eq_true rfl) zzm15 (Nat.le_of_ble_eq_true rfl) rfl ?_
      refine ih15 X251.1 (by omega) (by omega) (by omega) (fun y260 M258 X259  => ?_)
      have X261 := X251.go X259 (z_sb (by decide))
      show z_ev (d257 + 1 + 5) 17 68 [some (.ref 5), some (.int p1), some (.int (-1)), none, none] [.long y260] M258 _
      refine z_xP zt17 29 72 [some (.ref 5), some (.int p1), some (.int (-1)), some (.long y260), none] [.int 41, .ref 5] rfl rfl ?_
      refine z_xcV (vs := [.ref 5, .int 41]) (r := []) (L2 := [some (.ref 5), some (.int 41)]) zt17 30 rfl zo17 zzcV1_56 (Or.inl rfl) rfl X261 f5 rfl rfl rfl (Nat.le_of_ble_eq_true rfl) zzm8 (Nat.le_of_ble_eq_true rfl) rfl ?_
      refine z_xP zt8 0 1 [some (.ref 5), some (.int 41)] [.ref 5] rfl rfl ?_
      refine z_xgI zt8 1 rfl zo8 zzf1_32 X261 f5 (by decide) (by decide) rfl (fun (x264 : Int32) h263 (h265 : (-2147483648) ≤ x264.toInt) (h266 : x264.toInt ≤ 2147483647) => ?_)
      refine z_xZ zt8 2 rfl rfl (fun (h267 : x264.toInt < 0) => ?_) (fun (h267 : 0 ≤ x264.toInt) => ?_)
      · skip
        refine z_xP zt8 4 9 [some (.ref 5), some (.int 41)] [.ref 5] rfl rfl ?_
        refine z_xgI zt8 5 rfl zo8 zzf1_29 X261 f5 (by decide) (by decide) rfl (fun (x269 : Int32) h268 (h270 : 0 ≤ x269.toInt) (h271 : x269.toInt ≤ 160) => ?_)
        refine z_xP zt8 6 13 [some (.ref 5), some (.int 41)] [.ref 5, .int x269] rfl rfl ?_
        have h272 := (X259.2.f f5 (by decide) (e252.f f5 (by decide) h21))
        refine z_xgv zt8 7 rfl zo8 zzf1_25 X261 f5 (by decide) h272 ?_
        refine z_xJ zt8 8 rfl rfl (fun (h273 : x22.toInt ≤ x269.toInt) => ?_) (fun (h273 : x269.toInt < x22.toInt) => ?_)
        · skip
          refine z_xP zt8 22 47 [some (.ref 5), some (.int 41)] [.ref 5, .ref 5] rfl rfl ?_
          refine z_xgv zt8 23 rfl zo8 zzf1_29 X261 f5 (by decide) h268 ?_
          refine z_xpf zt8 24 rfl zo8 zzf1_32 X261 f5 (by decide) (by decide) ⟨Int32.le_toInt _, Int32.toInt_le _⟩ rfl (by decide) zw1_3 (fun M274 X275 e276 h277 => ?_)
          refine z_xrv zt8 25 rfl zzr8 ?_
          show z_ev (d257 + 1 + 5) 17 75 [some (.ref 5), some (.int p1), some (.int (-1)), some (.long y260), none] [] M274 _
          refine z_xP zt17 31 76 [some (.ref 5), some (.int p1), some (.int (-1)), some (.long y260), none] [.long y260] rfl rfl ?_
          exact z_xrl zt17 32 rfl zzr17 (kk y260 M274 X275)
        refine z_xP zt8 9 20 [some (.ref 5), some (.int 41)] [.ref 5] rfl rfl ?_
        refine z_xgX (b := 6) zt8 10 rfl zo8 zzf1_9 X261 f5 (by decide) (by decide) rfl ?_
        refine z_xP zt8 11 24 [some (.ref 5), some (.int 41)] [.ref 5, .ref 6] rfl rfl ?_
        refine z_xgv zt8 12 rfl zo8 zzf1_29 X261 f5 (by decide) h268 ?_
        refine z_xil zt8 13 rfl X261 f6 (by decide) (by omega) (by omega) (fun (x278 : Int32) h279 (h280 : (-2147483648) ≤ x278.toInt) (h281 : x278.toInt ≤ 2147483647) => ?_)
        refine z_xP zt8 14 29 [some (.ref 5), some (.int 41)] [.int 41, .int x278] rfl rfl ?_
        refine z_xJ zt8 15 rfl rfl (fun (h282 : x278.toInt ≠ 41) => ?_) (fun (h282 : x278.toInt = 41) => ?_)
        · skip
          refine z_xP zt8 22 47 [some (.ref 5), some (.int 41)] [.ref 5, .ref 5] rfl rfl ?_
          refine z_xgv zt8 23 rfl zo8 zzf1_29 X261 f5 (by decide) h268 ?_
          refine z_xpf zt8 24 rfl zo8 zzf1_32 X261 f5 (by decide) (by decide) ⟨Int32.le_toInt _, Int32.toInt_le _⟩ rfl (by decide) zw1_3 (fun M283 X284 e285 h286 => ?_)
          refine z_xrv zt8 25 rfl zzr8 ?_
          show z_ev (d257 + 1 + 5) 17 75 [some (.ref 5), some (.int p1), some (.int (-1)), some (.long y260), none] [] M283 _
          refine z_xP zt17 31 76 [some (.ref 5), some (.int p1), some (.int (-1)), some (.long y260), none] [.long y260] rfl rfl ?_
          exact z_xrl zt17 32 rfl zzr17 (kk y260 M283 X284)
        refine z_xP zt8 16 34 [some (.ref 5), some (.int 41)] [.ref 5, .ref 5] rfl rfl ?_
        refine z_xgv zt8 17 rfl zo8 zzf1_29 X261 f5 (by decide) h268 ?_
        refine z_xP zt8 18 38 [some (.ref 5), some (.int 41)] [.int 1, .int x269, .ref 5] rfl rfl ?_
        refine z_xI zt8 19 rfl rfl (fun (x287 : Int32) (h288 : x287.toInt = x269.toInt + 1) => ?_) (z_pAdd rfl rfl (by omega) (by omega))
        refine z_xpf zt8 20 rfl zo8 zzf1_29 X261 f5 (by decide) (by decide) ⟨by omega, by omega⟩ rfl (by decide) zw1_2 (fun M289 X290 e291 h292 => ?_)
        refine z_xP zt8 21 53 [some (.ref 5), some (.int 41)] [] rfl rfl ?_
        refine z_xrv zt8 25 rfl zzr8 ?_
        show z_ev (d257 + 1 + 5) 17 75 [some (.ref 5), some (.int p1), some (.int (-1)), some (.long y260), none] [] M289 _
        refine z_xP zt17 31 76 [some (.ref 5), some (.int p1), some (.int (-1)), some (.long y260), none] [.long y260] rfl rfl ?_
        exact z_xrl zt17 32 rfl zzr17 (kk y260 M289 X290)
      refine z_xrv zt8 3 rfl zzr8 ?_
      show z_ev (d257 + 1 + 5) 17 75 [some (.ref 5), some (.int p1), some (.int (-1)), some (.long y260), none] [] M258 _
      refine z_xP zt17 31 76 [some (.ref 5), some (.int p1), some (.int (-1)), some (.long y260), none] [.long y260] rfl rfl ?_
      exact z_xrl zt17 32 rfl zzr17 (kk y260 M258 X261)
    refine z_xP zt12 15 32 [some (.ref 5), some (.int 40)] [.int 0] rfl rfl ?_
    refine z_xrz zt12 16 rfl zzr12 (by decide) (by decide) ?_
    show z_ev (d + 5) 17 58 [some (.ref 5), some (.int p1), some (.int (-1)), none, none] [.int 0] M0 _
    refine z_xZ zt17 25 rfl rfl (fun (h293 : (0 : Int) = 0) => ?_) (fun (h293 : (0 : Int) ≠ 0) => absurd h293 (by omega))
    refine z_xP zt17 33 78 [some (.ref 5), some (.int p1), some (.int (-1)), none, none] [.ref 5] rfl rfl ?_
    refine z_xgv zt17 34 rfl zo17 zzf1_32 X f5 (by decide) h1 ?_
    refine z_xZ zt17 35 rfl rfl (fun (h294 : 0 ≤ x2.toInt) => absurd h294 (by omega)) (fun (h294 : x2.toInt < 0) => ?_)
    refine z_xP zt17 36 85 [some (.ref 5), some (.int p1), some (.int (-1)), none, none] [.ref 5] rfl rfl ?_
    refine z_xgv zt17 37 rfl zo17 zzf1_29 X f5 (by decide) h17 ?_
    refine z_xP zt17 38 89 [some (.ref 5), some (.int p1), some (.int (-1)), none, none] [.ref 5, .int x18] rfl rfl ?_
    refine z_xgv zt17 39 rfl zo17 zzf1_25 X f5 (by decide) h21 ?_
    refine z_xJ zt17 40 rfl rfl (fun (h295 : x22.toInt ≤ x18.toInt) => ?_) (fun (h295 : x18.toInt < x22.toInt) => ?_)
    · skip
      refine z_xP zt17 49 111 [some (.ref 5), some (.int p1), some (.int (-1)), none, none] [.int 0] rfl rfl ?_
      refine z_xP zt17 50 114 [some (.ref 5), some (.int p1), some (.int (-1)), some (.int 0), none] [.int 1, .int 0] rfl rfl ?_
      refine z_xJ zt17 51 rfl rfl (fun (h296 : (0 : Int) < 1) => ?_) (fun (h296 : 1 ≤ (0 : Int)) => absurd h296 (by omega))
      refine z_xP zt17 63 143 [some (.ref 5), some (.int p1), some (.int (-1)), some (.int 0), none] [.ref 5] rfl rfl ?_
      refine z_xcV (vs := [.ref 5]) (r := []) (L2 := [some (.ref 5)]) zt17 64 rfl zo17 zzcV1_66 (Or.inl rfl) rfl X f5 rfl rfl rfl (Nat.le_of_ble_eq_true rfl) zzm10 (Nat.le_of_ble_eq_true rfl) rfl ?_
      refine z_xP zt10 0 1 [some (.ref 5)] [.ref 5] rfl rfl ?_
      refine z_xgv zt10 1 rfl zo10 zzf1_32 X f5 (by decide) h1 ?_
      refine z_xZ zt10 2 rfl rfl (fun (h297 : 0 ≤ x2.toInt) => absurd h297 (by omega)) (fun (h297 : x2.toInt < 0) => ?_)
      refine z_xP zt10 3 9 [some (.ref 5)] [.ref 5, .ref 5] rfl rfl ?_
      refine z_xgv zt10 4 rfl zo10 zzf1_29 X f5 (by decide) h17 ?_
      refine z_xpf zt10 5 rfl zo10 zzf1_32 X f5 (by decide) (by decide) ⟨Int32.le_toInt _, Int32.toInt_le _⟩ rfl (by decide) zw1_3 (fun M298 X299 e300 h301 => ?_)
      refine z_xrv zt10 6 rfl zzr10 ?_
      show z_ev (d + 5) 17 146 [some (.ref 5), some (.int p1), some (.int (-1)), some (.int 0), none] [] M298 _
      refine z_xP zt17 65 147 [some (.ref 5), some (.int p1), some (.int (-1)), some (.int 0), none] [.long 0] rfl rfl ?_
      have q0 : ((0 : Int64)).toInt = 0 := rfl
      exact z_xrl zt17 66 rfl zzr17 (kk 0 M298 X299)
    refine z_xP zt17 41 96 [some (.ref 5), some (.int p1), some (.int (-1)), none, none] [.ref 5] rfl rfl ?_
    refine z_xgX (b := 6) zt17 42 rfl zo17 zzf1_9 X f5 (by decide) (by decide) rfl ?_
    refine z_xP zt17 43 100 [some (.ref 5), some (.int p1), some (.int (-1)), none, none] [.ref 5, .ref 6] rfl rfl ?_
    refine z_xgv zt17 44 rfl zo17 zzf1_29 X f5 (by decide) h17 ?_
    refine z_xil zt17 45 rfl X f6 (by decide) (by omega) (by omega) (fun (x302 : Int32) h303 (h304 : (-2147483648) ≤ x302.toInt) (h305 : x302.toInt ≤ 2147483647) => ?_)
    have h306 := congrArg Int32.toInt (h303.symm.trans h175)
    refine z_xP zt17 46 106 [some (.ref 5), some (.int p1), some (.int (-1)), none, none] [.int 48, .int x302] rfl rfl ?_
    have h307 := z_b32 x302
    refine z_xI zt17 47 rfl rfl (P := fun _ => True) (fun (x308 : Int32) _ => ?_) trivial
    refine z_xP zt17 48 111 [some (.ref 5), some (.int p1), some (.int (-1)), none, none] [.int x308] rfl rfl ?_
    refine z_xP zt17 50 114 [some (.ref 5), some (.int p1), some (.int (-1)), some (.int x308), none] [.int 1, .int x308] rfl rfl ?_
    refine z_xJ zt17 51 rfl rfl (fun (h310 : x308.toInt < 1) => ?_) (fun (h310 : 1 ≤ x308.toInt) => ?_)
    · skip
      refine z_xP zt17 63 143 [some (.ref 5), some (.int p1), some (.int (-1)), some (.int x308), none] [.ref 5] rfl rfl ?_
      refine z_xcV (vs := [.ref 5]) (r := []) (L2 := [some (.ref 5)]) zt17 64 rfl zo17 zzcV1_66 (Or.inl rfl) rfl X f5 rfl rfl rfl (Nat.le_of_ble_eq_true rfl) zzm10 (Nat.le_of_ble_eq_true rfl) rfl ?_
      refine z_xP zt10 0 1 [some (.ref 5)] [.ref 5] rfl rfl ?_
      refine z_xgv zt10 1 rfl zo10 zzf1_32 X f5 (by decide) h1 ?_
      refine z_xZ zt10 2 rfl rfl (fun (h311 : 0 ≤ x2.toInt) => absurd h311 (by omega)) (fun (h311 : x2.toInt < 0) => ?_)
      refine z_xP zt10 3 9 [some (.ref 5)] [.ref 5, .ref 5] rfl rfl ?_
      refine z_xgv zt10 4 rfl zo10 zzf1_29 X f5 (by decide) h17 ?_
      refine z_xpf zt10 5 rfl zo10 zzf1_32 X f5 (by decide) (by decide) ⟨Int32.le_toInt _, Int32.toInt_le _⟩ rfl (by decide) zw1_3 (fun M312 X313 e314 h315 => ?_)
      refine z_xrv zt10 6 rfl zzr10 ?_
      show z_ev (d + 5) 17 146 [some (.ref 5), some (.int p1), some (.int (-1)), some (.int x308), none] [] M312 _
      refine z_xP zt17 65 147 [some (.ref 5), some (.int p1), some (.int (-1)), some (.int x308), none] [.long 0] rfl rfl ?_
      have q0 : ((0 : Int64)).toInt = 0 := rfl
      exact z_xrl zt17 66 rfl zzr17 (kk 0 M312 X313)
    refine z_xP zt17 52 120 [some (.ref 5), some (.int p1), some (.int (-1)), some (.int x308), none] [.int 9, .int x308] rfl rfl ?_
    refine z_xJ zt17 53 rfl rfl (fun (h316 : 9 < x308.toInt) => ?_) (fun (h316 : x308.toInt ≤ 9) => ?_)
    · skip
      refine z_xP zt17 63 143 [some (.ref 5), some (.int p1), some (.int (-1)), some (.int x308), none] [.ref 5] rfl rfl ?_
      refine z_xcV (vs := [.ref 5]) (r := []) (L2 := [some (.ref 5)]) zt17 64 rfl zo17 zzcV1_66 (Or.inl rfl) rfl X f5 rfl rfl rfl (Nat.le_of_ble_eq_true rfl) zzm10 (Nat.le_of_ble_eq_true rfl) rfl ?_
      refine z_xP zt10 0 1 [some (.ref 5)] [.ref 5] rfl rfl ?_
      refine z_xgv zt10 1 rfl zo10 zzf1_32 X f5 (by decide) h1 ?_
      refine z_xZ zt10 2 rfl rfl (fun (h317 : 0 ≤ x2.toInt) => absurd h317 (by omega)) (fun (h317 : x2.toInt < 0) => ?_)
      refine z_xP zt10 3 9 [some (.ref 5)] [.ref 5, .ref 5] rfl rfl ?_
      refine z_xgv zt10 4 rfl zo10 zzf1_29 X f5 (by decide) h17 ?_
      refine z_xpf zt10 5 rfl zo10 zzf1_32 X f5 (by decide) (by decide) ⟨Int32.le_toInt _, Int32.toInt_le _⟩ rfl (by decide) zw1_3 (fun M318 X319 e320 h321 => ?_)
      refine z_xrv zt10 6 rfl zzr10 ?_
      show z_ev (d + 5) 17 146 [some (.ref 5), some (.int p1), some (.int (-1)), some (.int x308), none] [] M318 _
      refine z_xP zt17 65 147 [some (.ref 5), some (.int p1), some (.int (-1)), some (.int x308), none] [.long 0] rfl rfl ?_
      have q0 : ((0 : Int64)).toInt = 0 := rfl
      exact z_xrl zt17 66 rfl zzr17 (kk 0 M318 X319)
    refine z_xP zt17 54 125 [some (.ref 5), some (.int p1), some (.int (-1)), some (.int x308), none] [.ref 5, .ref 5] rfl rfl ?_
    refine z_xgv zt17 55 rfl zo17 zzf1_29 X f5 (by decide) h17 ?_
    refine z_xP zt17 56 129 [some (.ref 5), some (.int p1), some (.int (-1)), some (.int x308), none] [.int 1, .int x18, .ref 5] rfl rfl ?_
    refine z_xI zt17 57 rfl rfl (fun (x322 : Int32) (h323 : x322.toInt = x18.toInt + 1) => ?_) (z_pAdd rfl rfl (by omega) (by omega))
    refine z_xpf zt17 58 rfl zo17 zzf1_29 X f5 (by decide) (by decide) ⟨by omega, by omega⟩ rfl (by decide) zw1_2 (fun M324 X325 e326 h327 => ?_)
    refine z_xP zt17 59 137 [some (.ref 5), some (.int p1), some (.int (-1)), some (.int x308), none] [.int 1, .int p1, .int x308, .ref 5] rfl rfl ?_
    refine z_xI zt17 60 rfl rfl (fun (x328 : Int32) (h329 : x328.toInt = p1.toInt + 1) => ?_) (z_pAdd rfl rfl (by omega) (by omega))
    obtain ⟨d330, hdd330⟩ : ∃ e, d = e + 1 := ⟨d - 1, by omega⟩
    subst hdd330
    refine z_xcV (vs := [.ref 5, .int x308, .int x328]) (r := []) (L2 := [some (.ref 5), some (.int x308), some (.int x328), none, none, none, none, none]) zt17 61 rfl zo17 zzcV1_95 (Or.inl rfl) rfl X325 f5 rfl rfl rfl (Nat.le_of_ble_eq_true rfl) zzm19 (Nat.le_of_ble_eq_true rfl) rfl ?_
    refine ih19 X325.1 (by omega) (by omega) (by omega) (by omega) (fun y333 M331 X332  => ?_)
    have X334 := X325.go X332 (z_sb (by decide))
    show z_ev (d330 + 1 + 5) 17 141 [some (.ref 5), some (.int p1), some (.int (-1)), some (.int x308), none] [.long y333] M331 _
    exact z_xrl zt17 62 rfl zzr17 (kk y333 M331 X334)
  refine z_xP zt14 8 19 [some (.ref 5), none] [.ref 5] rfl rfl ?_
  refine z_xgX (b := 6) zt14 9 rfl zo14 zzf1_9 X f5 (by decide) (by decide) rfl ?_
  refine z_xP zt14 10 23 [some (.ref 5), none] [.ref 5, .ref 6] rfl rfl ?_
  refine z_xgv zt14 11 rfl zo14 zzf1_29 X f5 (by decide) h17 ?_
  have f6 : T[6]? = some (.inr (6, 0, 160, (-2147483648), 2147483647)) := X.1.k rfl (by decide)
  refine z_xil zt14 12 rfl X f6 (by decide) (by omega) (by omega) (fun (x336 : Int32) h337 (h338 : (-2147483648) ≤ x336.toInt) (h339 : x336.toInt ≤ 2147483647) => ?_)
  refine z_xP zt14 13 29 [some (.ref 5), none] [.int 97, .int x336] rfl rfl ?_
  have h340 := z_b32 x336
  refine z_xI zt14 14 rfl rfl (P := fun _ => True) (fun (x341 : Int32) _ => ?_) trivial
  refine z_xP zt14 15 34 [some (.ref 5), none] [.int x341] rfl rfl ?_
  refine z_xP zt14 17 36 [some (.ref 5), some (.int x341)] [.int x341] rfl rfl ?_
  refine z_xZ zt14 18 rfl rfl (fun (h343 : x341.toInt < 0) => ?_) (fun (h343 : 0 ≤ x341.toInt) => ?_)
  · skip
    refine z_xP zt14 21 55 [some (.ref 5), some (.int x341)] [.int (-1)] rfl rfl ?_
    refine z_xri zt14 26 rfl zzr14 ?_
    show z_ev (d + 5) 17 4 [some (.ref 5), some (.int p1), none, none, none] [.int (-1)] M0 _
    refine z_xP zt17 2 6 [some (.ref 5), some (.int p1), some (.int (-1)), none, none] [.int (-1)] rfl rfl ?_
    refine z_xZ zt17 3 rfl rfl (fun (h344 : ((-1) : Int) < 0) => ?_) (fun (h344 : 0 ≤ ((-1) : Int)) => absurd h344 (by omega))
    refine z_xP zt17 12 28 [some (.ref 5), some (.int p1), some (.int (-1)), none, none] [.int 6, .int p1] rfl rfl ?_
    refine z_xJ zt17 13 rfl rfl (fun (h345 : 6 ≤ p1.toInt) => ?_) (fun (h345 : p1.toInt < 6) => ?_)
    · skip
      refine z_xP zt17 63 143 [some (.ref 5), some (.int p1), some (.int (-1)), none, none] [.ref 5] rfl rfl ?_
      refine z_xcV (vs := [.ref 5]) (r := []) (L2 := [some (.ref 5)]) zt17 64 rfl zo17 zzcV1_66 (Or.inl rfl) rfl X f5 rfl rfl rfl (Nat.le_of_ble_eq_true rfl) zzm10 (Nat.le_of_ble_eq_true rfl) rfl ?_
      refine z_xP zt10 0 1 [some (.ref 5)] [.ref 5] rfl rfl ?_
      refine z_xgv zt10 1 rfl zo10 zzf1_32 X f5 (by decide) h1 ?_
      refine z_xZ zt10 2 rfl rfl (fun (h346 : 0 ≤ x2.toInt) => absurd h346 (by omega)) (fun (h346 : x2.toInt < 0) => ?_)
      refine z_xP zt10 3 9 [some (.ref 5)] [.ref 5, .ref 5] rfl rfl ?_
      refine z_xgv zt10 4 rfl zo10 zzf1_29 X f5 (by decide) h17 ?_
      refine z_xpf zt10 5 rfl zo10 zzf1_32 X f5 (by decide) (by decide) ⟨Int32.le_toInt _, Int32.toInt_le _⟩ rfl (by decide) zw1_3 (fun M347 X348 e349 h350 => ?_)
      refine z_xrv zt10 6 rfl zzr10 ?_
      show z_ev (d + 5) 17 146 [some (.ref 5), some (.int p1), some (.int (-1)), none, none] [] M347 _
      refine z_xP zt17 65 147 [some (.ref 5), some (.int p1), some (.int (-1)), none, none] [.long 0] rfl rfl ?_
      have q0 : ((0 : Int64)).toInt = 0 := rfl
      exact z_xrl zt17 66 rfl zzr17 (kk 0 M347 X348)
    refine z_xP zt17 14 34 [some (.ref 5), some (.int p1), some (.int (-1)), none, none] [.int 33, .ref 5] rfl rfl ?_
    refine z_xcV (vs := [.ref 5, .int 33]) (r := []) (L2 := [some (.ref 5), some (.int 33)]) zt17 15 rfl zo17 zzcV1_69 (Or.inl rfl) rfl X f5 rfl rfl rfl (Nat.le_of_ble_eq_true rfl) zzm12 (Nat.le_of_ble_eq_true rfl) rfl ?_
    refine z_xP zt12 0 1 [some (.ref 5), some (.int 33)] [.ref 5] rfl rfl ?_
    refine z_xgv zt12 1 rfl zo12 zzf1_32 X f5 (by decide) h1 ?_
    refine z_xZ zt12 2 rfl rfl (fun (h351 : 0 ≤ x2.toInt) => absurd h351 (by omega)) (fun (h351 : x2.toInt < 0) => ?_)
    refine z_xP zt12 3 8 [some (.ref 5), some (.int 33)] [.ref 5] rfl rfl ?_
    refine z_xgv zt12 4 rfl zo12 zzf1_29 X f5 (by decide) h17 ?_
    refine z_xP zt12 5 12 [some (.ref 5), some (.int 33)] [.ref 5, .int x18] rfl rfl ?_
    refine z_xgv zt12 6 rfl zo12 zzf1_25 X f5 (by decide) h21 ?_
    refine z_xJ zt12 7 rfl rfl (fun (h352 : x22.toInt ≤ x18.toInt) => ?_) (fun (h352 : x18.toInt < x22.toInt) => ?_)
    · skip
      refine z_xP zt12 15 32 [some (.ref 5), some (.int 33)] [.int 0] rfl rfl ?_
      refine z_xrz zt12 16 rfl zzr12 (by decide) (by decide) ?_
      show z_ev (d + 5) 17 37 [some (.ref 5), some (.int p1), some (.int (-1)), none, none] [.int 0] M0 _
      refine z_xZ zt17 16 rfl rfl (fun (h353 : (0 : Int) = 0) => ?_) (fun (h353 : (0 : Int) ≠ 0) => absurd h353 (by omega))
      refine z_xP zt17 23 55 [some (.ref 5), some (.int p1), some (.int (-1)), none, none] [.int 40, .ref 5] rfl rfl ?_
      refine z_xcV (vs := [.ref 5, .int 40]) (r := []) (L2 := [some (.ref 5), some (.int 40)]) zt17 24 rfl zo17 zzcV1_69 (Or.inl rfl) rfl X f5 rfl rfl rfl (Nat.le_of_ble_eq_true rfl) zzm12 (Nat.le_of_ble_eq_true rfl) rfl ?_
      refine z_xP zt12 0 1 [some (.ref 5), some (.int 40)] [.ref 5] rfl rfl ?_
      refine z_xgv zt12 1 rfl zo12 zzf1_32 X f5 (by decide) h1 ?_
      refine z_xZ zt12 2 rfl rfl (fun (h354 : 0 ≤ x2.toInt) => absurd h354 (by omega)) (fun (h354 : x2.toInt < 0) => ?_)
      refine z_xP zt12 3 8 [some (.ref 5), some (.int 40)] [.ref 5] rfl rfl ?_
      refine z_xgv zt12 4 rfl zo12 zzf1_29 X f5 (by decide) h17 ?_
      refine z_xP zt12 5 12 [some (.ref 5), some (.int 40)] [.ref 5, .int x18] rfl rfl ?_
      refine z_xgv zt12 6 rfl zo12 zzf1_25 X f5 (by decide) h21 ?_
      refine z_xJ zt12 7 rfl rfl (fun (h355 : x22.toInt ≤ x18.toInt) => ?_) (fun (h355 : x18.toInt < x22.toInt) => ?_)
      · skip
        refine z_xP zt12 15 32 [some (.ref 5), some (.int 40)] [.int 0] rfl rfl ?_
        refine z_xrz zt12 16 rfl zzr12 (by decide) (by decide) ?_
        show z_ev (d + 5) 17 58 [some (.ref 5), some (.int p1), some (.int (-1)), none, none] [.int 0] M0 _
        refine z_xZ zt17 25 rfl rfl (fun (h356 : (0 : Int) = 0) => ?_) (fun (h356 : (0 : Int) ≠ 0) => absurd h356 (by omega))
        refine z_xP zt17 33 78 [some (.ref 5), some (.int p1), some (.int (-1)), none, none] [.ref 5] rfl rfl ?_
        refine z_xgv zt17 34 rfl zo17 zzf1_32 X f5 (by decide) h1 ?_
        refine z_xZ zt17 35 rfl rfl (fun (h357 : 0 ≤ x2.toInt) => absurd h357 (by omega)) (fun (h357 : x2.toInt < 0) => ?_)
        refine z_xP zt17 36 85 [some (.ref 5), some (.int p1), some (.int (-1)), none, none] [.ref 5] rfl rfl ?_
        refine z_xgv zt17 37 rfl zo17 zzf1_29 X f5 (by decide) h17 ?_
        refine z_xP zt17 38 89 [some (.ref 5), some (.int p1), some (.int (-1)), none, none] [.ref 5, .int x18] rfl rfl ?_
        refine z_xgv zt17 39 rfl zo17 zzf1_25 X f5 (by decide) h21 ?_
        refine z_xJ zt17 40 rfl rfl (fun (h358 : x22.toInt ≤ x18.toInt) => ?_) (fun (h358 : x18.toInt < x22.toInt) => ?_)
        · skip
          refine z_xP zt17 49 111 [some (.ref 5), some (.int p1), some (.int (-1)), none, none] [.int 0] rfl rfl ?_
          refine z_xP zt17 50 114 [some (.ref 5), some (.int p1), some (.int (-1)), some (.int 0), none] [.int 1, .int 0] rfl rfl ?_
          refine z_xJ zt17 51 rfl rfl (fun (h359 : (0 : Int) < 1) => ?_) (fun (h359 : 1 ≤ (0 : Int)) => absurd h359 (by omega))
          refine z_xP zt17 63 143 [some (.ref 5), some (.int p1), some (.int (-1)), some (.int 0), none] [.ref 5] rfl rfl ?_
          refine z_xcV (vs := [.ref 5]) (r := []) (L2 := [some (.ref 5)]) zt17 64 rfl zo17 zzcV1_66 (Or.inl rfl) rfl X f5 rfl rfl rfl (Nat.le_of_ble_eq_true rfl) zzm10 (Nat.le_of_ble_eq_true rfl) rfl ?_
          refine z_xP zt10 0 1 [some (.ref 5)] [.ref 5] rfl rfl ?_
          refine z_xgv zt10 1 rfl zo10 zzf1_32 X f5 (by decide) h1 ?_
          refine z_xZ zt10 2 rfl rfl (fun (h360 : 0 ≤ x2.toInt) => absurd h360 (by omega)) (fun (h360 : x2.toInt < 0) => ?_)
          refine z_xP zt10 3 9 [some (.ref 5)] [.ref 5, .ref 5] rfl rfl ?_
          refine z_xgv zt10 4 rfl zo10 zzf1_29 X f5 (by decide) h17 ?_
          refine z_xpf zt10 5 rfl zo10 zzf1_32 X f5 (by decide) (by decide) ⟨Int32.le_toInt _, Int32.toInt_le _⟩ rfl (by decide) zw1_3 (fun M361 X362 e363 h364 => ?_)
          refine z_xrv zt10 6 rfl zzr10 ?_
          show z_ev (d + 5) 17 146 [some (.ref 5), some (.int p1), some (.int (-1)), some (.int 0), none] [] M361 _
          refine z_xP zt17 65 147 [some (.ref 5), some (.int p1), some (.int (-1)), some (.int 0), none] [.long 0] rfl rfl ?_
          have q0 : ((0 : Int64)).toInt = 0 := rfl
          exact z_xrl zt17 66 rfl zzr17 (kk 0 M361 X362)
        refine z_xP zt17 41 96 [some (.ref 5), some (.int p1), some (.int (-1)), none, none] [.ref 5] rfl rfl ?_
        refine z_xgX (b := 6) zt17 42 rfl zo17 zzf1_9 X f5 (by decide) (by decide) rfl ?_
        refine z_xP zt17 43 100 [some (.ref 5), some (.int p1), some (.int (-1)), none, none] [.ref 5, .ref 6] rfl rfl ?_
        refine z_xgv zt17 44 rfl zo17 zzf1_29 X f5 (by decide) h17 ?_
        refine z_xil zt17 45 rfl X f6 (by decide) (by omega) (by omega) (fun (x365 : Int32) h366 (h367 : (-2147483648) ≤ x365.toInt) (h368 : x365.toInt ≤ 2147483647) => ?_)
        have h369 := congrArg Int32.toInt (h366.symm.trans h337)
        refine z_xP zt17 46 106 [some (.ref 5), some (.int p1), some (.int (-1)), none, none] [.int 48, .int x365] rfl rfl ?_
        have h370 := z_b32 x365
        refine z_xI zt17 47 rfl rfl (P := fun _ => True) (fun (x371 : Int32) _ => ?_) trivial
        refine z_xP zt17 48 111 [some (.ref 5), some (.int p1), some (.int (-1)), none, none] [.int x371] rfl rfl ?_
        refine z_xP zt17 50 114 [some (.ref 5), some (.int p1), some (.int (-1)), some (.int x371), none] [.int 1, .int x371] rfl rfl ?_
        refine z_xJ zt17 51 rfl rfl (fun (h373 : x371.toInt < 1) => ?_) (fun (h373 : 1 ≤ x371.toInt) => ?_)
        · skip
          refine z_xP zt17 63 143 [some (.ref 5), some (.int p1), some (.int (-1)), some (.int x371), none] [.ref 5] rfl rfl ?_
          refine z_xcV (vs := [.ref 5]) (r := []) (L2 := [some (.ref 5)]) zt17 64 rfl zo17 zzcV1_66 (Or.inl rfl) rfl X f5 rfl rfl rfl (Nat.le_of_ble_eq_true rfl) zzm10 (Nat.le_of_ble_eq_true rfl) rfl ?_
          refine z_xP zt10 0 1 [some (.ref 5)] [.ref 5] rfl rfl ?_
          refine z_xgv zt10 1 rfl zo10 zzf1_32 X f5 (by decide) h1 ?_
          refine z_xZ zt10 2 rfl rfl (fun (h374 : 0 ≤ x2.toInt) => absurd h374 (by omega)) (fun (h374 : x2.toInt < 0) => ?_)
          refine z_xP zt10 3 9 [some (.ref 5)] [.ref 5, .ref 5] rfl rfl ?_
          refine z_xgv zt10 4 rfl zo10 zzf1_29 X f5 (by decide) h17 ?_
          refine z_xpf zt10 5 rfl zo10 zzf1_32 X f5 (by decide) (by decide) ⟨Int32.le_toInt _, Int32.toInt_le _⟩ rfl (by decide) zw1_3 (fun M375 X376 e377 h378 => ?_)
          refine z_xrv zt10 6 rfl zzr10 ?_
          show z_ev (d + 5) 17 146 [some (.ref 5), some (.int p1), some (.int (-1)), some (.int x371), none] [] M375 _
          refine z_xP zt17 65 147 [some (.ref 5), some (.int p1), some (.int (-1)), some (.int x371), none] [.long 0] rfl rfl ?_
          have q0 : ((0 : Int64)).toInt = 0 := rfl
          exact z_xrl zt17 66 rfl zzr17 (kk 0 M375 X376)
        refine z_xP zt17 52 120 [some (.ref 5), some (.int p1), some (.int (-1)), some (.int x371), none] [.int 9, .int x371] rfl rfl ?_
        refine z_xJ zt17 53 rfl rfl (fun (h379 : 9 < x371.toInt) => ?_) (fun (h379 : x371.toInt ≤ 9) => ?_)
        · skip
          refine z_xP zt17 63 143 [some (.ref 5), some (.int p1), some (.int (-1)), some (.int x371), none] [.ref 5] rfl rfl ?_
          refine z_xcV (vs := [.ref 5]) (r := []) (L2 := [some (.ref 5)]) zt17 64 rfl zo17 zzcV1_66 (Or.inl rfl) rfl X f5 rfl rfl rfl (Nat.le_of_ble_eq_true rfl) zzm10 (Nat.le_of_ble_eq_true rfl) rfl ?_
          refine z_xP zt10 0 1 [some (.ref 5)] [.ref 5] rfl rfl ?_
          refine z_xgv zt10 1 rfl zo10 zzf1_32 X f5 (by decide) h1 ?_
          refine z_xZ zt10 2 rfl rfl (fun (h380 : 0 ≤ x2.toInt) => absurd h380 (by omega)) (fun (h380 : x2.toInt < 0) => ?_)
          refine z_xP zt10 3 9 [some (.ref 5)] [.ref 5, .ref 5] rfl rfl ?_
          refine z_xgv zt10 4 rfl zo10 zzf1_29 X f5 (by decide) h17 ?_
          refine z_xpf zt10 5 rfl zo10 zzf1_32 X f5 (by decide) (by decide) ⟨Int32.le_toInt _, Int32.toInt_le _⟩ rfl (by decide) zw1_3 (fun M381 X382 e383 h384 => ?_)
          refine z_xrv zt10 6 rfl zzr10 ?_
          show z_ev (d + 5) 17 146 [some (.ref 5), some (.int p1), some (.int (-1)), some (.int x371), none] [] M381 _
          refine z_xP zt17 65 147 [some (.ref 5), some (.int p1), some (.int (-1)), some (.int x371), none] [.long 0] rfl rfl ?_
          have q0 : ((0 : Int64)).toInt = 0 := rfl
          exact z_xrl zt17 66 rfl zzr17 (kk 0 M381 X382)
        refine z_xP zt17 54 125 [some (.ref 5), some (.int p1), some (.int (-1)), some (.int x371), none] [.ref 5, .ref 5] rfl rfl ?_
        refine z_xgv zt17 55 rfl zo17 zzf1_29 X f5 (by decide) h17 ?_
        refine z_xP zt17 56 129 [some (.ref 5), some (.int p1), some (.int (-1)), some (.int x371), none] [.int 1, .int x18, .ref 5] rfl rfl ?_
        refine z_xI zt17 57 rfl rfl (fun (x385 : Int32) (h386 : x385.toInt = x18.toInt + 1) => ?_) (z_pAdd rfl rfl (by omega) (by omega))
        refine z_xpf zt17 58 rfl zo17 zzf1_29 X f5 (by decide) (by decide) ⟨by omega, by omega⟩ rfl (by decide) zw1_2 (fun M387 X388 e389 h390 => ?_)
        refine z_xP zt17 59 137 [some (.ref 5), some (.int p1), some (.int (-1)), some (.int x371), none] [.int 1, .int p1, .int x371, .ref 5] rfl rfl ?_
        refine z_xI zt17 60 rfl rfl (fun (x391 : Int32) (h392 : x391.toInt = p1.toInt + 1) => ?_) (z_pAdd rfl rfl (by omega) (by omega))
        obtain ⟨d393, hdd393⟩ : ∃ e, d = e + 1 := ⟨d - 1, by omega⟩
        subst hdd393
        refine z_xcV (vs := [.ref 5, .int x371, .int x391]) (r := []) (L2 := [some (.ref 5), some (.int x371), some (.int x391), none, none, none, none, none]) zt17 61 rfl zo17 zzcV1_95 (Or.inl rfl) rfl X388 f5 rfl rfl rfl (Nat.le_of_ble_eq_true rfl) zzm19 (Nat.le_of_ble_eq_true rfl) rfl ?_
        refine ih19 X388.1 (by omega) (by omega) (by omega) (by omega) (fun y396 M394 X395  => ?_)
        have X397 := X388.go X395 (z_sb (by decide))
        show z_ev (d393 + 1 + 5) 17 141 [some (.ref 5), some (.int p1), some (.int (-1)), some (.int x371), none] [.long y396] M394 _
        exact z_xrl zt17 62 rfl zzr17 (kk y396 M394 X397)
      refine z_xP zt12 8 19 [some (.ref 5), some (.int 40)] [.ref 5] rfl rfl ?_
      refine z_xgX (b := 6) zt12 9 rfl zo12 zzf1_9 X f5 (by decide) (by decide) rfl ?_
      refine z_xP zt12 10 23 [some (.ref 5), some (.int 40)] [.ref 5, .ref 6] rfl rfl ?_
      refine z_xgv zt12 11 rfl zo12 zzf1_29 X f5 (by decide) h17 ?_
      refine z_xil zt12 12 rfl X f6 (by decide) (by omega) (by omega) (fun (x399 : Int32) h400 (h401 : (-2147483648) ≤ x399.toInt) (h402 : x399.toInt ≤ 2147483647) => ?_)
      have h403 := congrArg Int32.toInt (h400.symm.trans h337)
      refine z_xP zt12 13 28 [some (.ref 5), some (.int 40)] [.int 40, .int x399] rfl rfl ?_
      refine z_xJ zt12 14 rfl rfl (fun (h404 : x399.toInt = 40) => ?_) (fun (h404 : x399.toInt ≠ 40) => ?_)
      · skip
        refine z_xP zt12 17 35 [some (.ref 5), some (.int 40)] [.ref 5, .ref 5] rfl rfl ?_
        refine z_xgv zt12 18 rfl zo12 zzf1_29 X f5 (by decide) h17 ?_
        refine z_xP zt12 19 39 [some (.ref 5), some (.int 40)] [.int 1, .int x18, .ref 5] rfl rfl ?_
        refine z_xI zt12 20 rfl rfl (fun (x405 : Int32) (h406 : x405.toInt = x18.toInt + 1) => ?_) (z_pAdd rfl rfl (by omega) (by omega))
        refine z_xpf zt12 21 rfl zo12 zzf1_29 X f5 (by decide) (by decide) ⟨by omega, by omega⟩ rfl (by decide) zw1_2 (fun M407 X408 e409 h410 => ?_)
        refine z_xP zt12 22 44 [some (.ref 5), some (.int 40)] [.int 1] rfl rfl ?_
        refine z_xrz zt12 23 rfl zzr12 (by decide) (by decide) ?_
        show z_ev (d + 5) 17 58 [some (.ref 5), some (.int p1), some (.int (-1)), none, none] [.int 1] M407 _
        refine z_xZ zt17 25 rfl rfl (fun (h411 : (1 : Int) = 0) => absurd h411 (by omega)) (fun (h411 : (1 : Int) ≠ 0) => ?_)
        refine z_xP zt17 26 64 [some (.ref 5), some (.int p1), some (.int (-1)), none, none] [.int 1, .int p1, .ref 5] rfl rfl ?_
        refine z_xI zt17 27 rfl rfl (fun (x412 : Int32) (h413 : x412.toInt = p1.toInt + 1) => ?_) (z_pAdd rfl rfl (by omega) (by omega))
        obtain ⟨d414, hdd414⟩ : ∃ e, d = e + 1 := ⟨d - 1, by omega⟩
        subst hdd414
        refine z_xcV (vs := [.ref 5, .int x412]) (r := []) (L2 := [some (.ref 5), some (.int x412), none, none, none, none, none]) zt17 28 rfl zo17 zzcV1_77 (Or.inl rfl) rfl X408 f5 rfl rfl rfl (Nat.le_of_ble_eq_true rfl) zzm15 (Nat.le_of_ble_eq_true rfl) rfl ?_
        refine ih15 X408.1 (by omega) (by omega) (by omega) (fun y417 M415 X416  => ?_)
        have X418 := X408.go X416 (z_sb (by decide))
        show z_ev (d414 + 1 + 5) 17 68 [some (.ref 5), some (.int p1), some (.int (-1)), none, none] [.long y417] M415 _
        refine z_xP zt17 29 72 [some (.ref 5), some (.int p1), some (.int (-1)), some (.long y417), none] [.int 41, .ref 5] rfl rfl ?_
        refine z_xcV (vs := [.ref 5, .int 41]) (r := []) (L2 := [some (.ref 5), some (.int 41)]) zt17 30 rfl zo17 zzcV1_56 (Or.inl rfl) rfl X418 f5 rfl rfl rfl (Nat.le_of_ble_eq_true rfl) zzm8 (Nat.le_of_ble_eq_true rfl) rfl ?_
        refine z_xP zt8 0 1 [some (.ref 5), some (.int 41)] [.ref 5] rfl rfl ?_
        refine z_xgI zt8 1 rfl zo8 zzf1_32 X418 f5 (by decide) (by decide) rfl (fun (x421 : Int32) h420 (h422 : (-2147483648) ≤ x421.toInt) (h423 : x421.toInt ≤ 2147483647) => ?_)
        refine z_xZ zt8 2 rfl rfl (fun (h424 : x421.toInt < 0) => ?_) (fun (h424 : 0 ≤ x421.toInt) => ?_)
        · skip
          refine z_xP zt8 4 9 [some (.ref 5), some (.int 41)] [.ref 5] rfl rfl ?_
          refine z_xgI zt8 5 rfl zo8 zzf1_29 X418 f5 (by decide) (by decide) rfl (fun (x426 : Int32) h425 (h427 : 0 ≤ x426.toInt) (h428 : x426.toInt ≤ 160) => ?_)
          refine z_xP zt8 6 13 [some (.ref 5), some (.int 41)] [.ref 5, .int x426] rfl rfl ?_
          have h429 := (X416.2.f f5 (by decide) (e409.f f5 (by decide) h21))
          refine z_xgv zt8 7 rfl zo8 zzf1_25 X418 f5 (by decide) h429 ?_
          refine z_xJ zt8 8 rfl rfl (fun (h430 : x22.toInt ≤ x426.toInt) => ?_) (fun (h430 : x426.toInt < x22.toInt) => ?_)
          · skip
            refine z_xP zt8 22 47 [some (.ref 5), some (.int 41)] [.ref 5, .ref 5] rfl rfl ?_
            refine z_xgv zt8 23 rfl zo8 zzf1_29 X418 f5 (by decide) h425 ?_
            refine z_xpf zt8 24 rfl zo8 zzf1_32 X418 f5 (by decide) (by decide) ⟨Int32.le_toInt _, Int32.toInt_le _⟩ rfl (by decide) zw1_3 (fun M431 X432 e433 h434 => ?_)
            refine z_xrv zt8 25 rfl zzr8 ?_
            show z_ev (d414 + 1 + 5) 17 75 [some (.ref 5), some (.int p1), some (.int (-1)), some (.long y417), none] [] M431 _
            refine z_xP zt17 31 76 [some (.ref 5), some (.int p1), some (.int (-1)), some (.long y417), none] [.long y417] rfl rfl ?_
            exact z_xrl zt17 32 rfl zzr17 (kk y417 M431 X432)
          refine z_xP zt8 9 20 [some (.ref 5), some (.int 41)] [.ref 5] rfl rfl ?_
          refine z_xgX (b := 6) zt8 10 rfl zo8 zzf1_9 X418 f5 (by decide) (by decide) rfl ?_
          refine z_xP zt8 11 24 [some (.ref 5), some (.int 41)] [.ref 5, .ref 6] rfl rfl ?_
          refine z_xgv zt8 12 rfl zo8 zzf1_29 X418 f5 (by decide) h425 ?_
          refine z_xil zt8 13 rfl X418 f6 (by decide) (by omega) (by omega) (fun (x435 : Int32) h436 (h437 : (-2147483648) ≤ x435.toInt) (h438 : x435.toInt ≤ 2147483647) => ?_)
          refine z_xP zt8 14 29 [some (.ref 5), some (.int 41)] [.int 41, .int x435] rfl rfl ?_
          refine z_xJ zt8 15 rfl rfl (fun (h439 : x435.toInt ≠ 41) => ?_) (fun (h439 : x435.toInt = 41) => ?_)
          · skip
            refine z_xP zt8 22 47 [some (.ref 5), some (.int 41)] [.ref 5, .ref 5] rfl rfl ?_
            refine z_xgv zt8 23 rfl zo8 zzf1_29 X418 f5 (by decide) h425 ?_
            refine z_xpf zt8 24 rfl zo8 zzf1_32 X418 f5 (by decide) (by decide) ⟨Int32.le_toInt _, Int32.toInt_le _⟩ rfl (by decide) zw1_3 (fun M440 X441 e442 h443 => ?_)
            refine z_xrv zt8 25 rfl zzr8 ?_
            show z_ev (d414 + 1 + 5) 17 75 [some (.ref 5), some (.int p1), some (.int (-1)), some (.long y417), none] [] M440 _
            refine z_xP zt17 31 76 [some (.ref 5), some (.int p1), some (.int (-1)), some (.long y417), none] [.long y417] rfl rfl ?_
            exact z_xrl zt17 32 rfl zzr17 (kk y417 M440 X441)
          refine z_xP zt8 16 34 [some (.ref 5), some (.int 41)] [.ref 5, .ref 5] rfl rfl ?_
          refine z_xgv zt8 17 rfl zo8 zzf1_29 X418 f5 (by decide) h425 ?_
          refine z_xP zt8 18 38 [some (.ref 5), some (.int 41)] [.int 1, .int x426, .ref 5] rfl rfl ?_
          refine z_xI zt8 19 rfl rfl (fun (x444 : Int32) (h445 : x444.toInt = x426.toInt + 1) => ?_) (z_pAdd rfl rfl (by omega) (by omega))
          refine z_xpf zt8 20 rfl zo8 zzf1_29 X418 f5 (by decide) (by decide) ⟨by omega, by omega⟩ rfl (by decide) zw1_2 (fun M446 X447 e448 h449 => ?_)
          refine z_xP zt8 21 53 [some (.ref 5), some (.int 41)] [] rfl rfl ?_
          refine z_xrv zt8 25 rfl zzr8 ?_
          show z_ev (d414 + 1 + 5) 17 75 [some (.ref 5), some (.int p1), some (.int (-1)), some (.long y417), none] [] M446 _
          refine z_xP zt17 31 76 [some (.ref 5), some (.int p1), some (.int (-1)), some (.long y417), none] [.long y417] rfl rfl ?_
          exact z_xrl zt17 32 rfl zzr17 (kk y417 M446 X447)
        refine z_xrv zt8 3 rfl zzr8 ?_
        show z_ev (d414 + 1 + 5) 17 75 [some (.ref 5), some (.int p1), some (.int (-1)), some (.long y417), none] [] M415 _
        refine z_xP zt17 31 76 [some (.ref 5), some (.int p1), some (.int (-1)), some (.long y417), none] [.long y417] rfl rfl ?_
        exact z_xrl zt17 32 rfl zzr17 (kk y417 M415 X418)
      refine z_xP zt12 15 32 [some (.ref 5), some (.int 40)] [.int 0] rfl rfl ?_
      refine z_xrz zt12 16 rfl zzr12 (by decide) (by decide) ?_
      show z_ev (d + 5) 17 58 [some (.ref 5), some (.int p1), some (.int (-1)), none, none] [.int 0] M0 _
      refine z_xZ zt17 25 rfl rfl (fun (h450 : (0 : Int) = 0) => ?_) (fun (h450 : (0 : Int) ≠ 0) => absurd h450 (by omega))
      refine z_xP zt17 33 78 [some (.ref 5), some (.int p1), some (.int (-1)), none, none] [.ref 5] rfl rfl ?_
      refine z_xgv zt17 34 rfl zo17 zzf1_32 X f5 (by decide) h1 ?_
      refine z_xZ zt17 35 rfl rfl (fun (h451 : 0 ≤ x2.toInt) => absurd h451 (by omega)) (fun (h451 : x2.toInt < 0) => ?_)
      refine z_xP zt17 36 85 [some (.ref 5), some (.int p1), some (.int (-1)), none, none] [.ref 5] rfl rfl ?_
      refine z_xgv zt17 37 rfl zo17 zzf1_29 X f5 (by decide) h17 ?_
      refine z_xP zt17 38 89 [some (.ref 5), some (.int p1), some (.int (-1)), none, none] [.ref 5, .int x18] rfl rfl ?_
      refine z_xgv zt17 39 rfl zo17 zzf1_25 X f5 (by decide) h21 ?_
      refine z_xJ zt17 40 rfl rfl (fun (h452 : x22.toInt ≤ x18.toInt) => ?_) (fun (h452 : x18.toInt < x22.toInt) => ?_)
      · skip
        refine z_xP zt17 49 111 [some (.ref 5), some (.int p1), some (.int (-1)), none, none] [.int 0] rfl rfl ?_
        refine z_xP zt17 50 114 [some (.ref 5), some (.int p1), some (.int (-1)), some (.int 0), none] [.int 1, .int 0] rfl rfl ?_
        refine z_xJ zt17 51 rfl rfl (fun (h453 : (0 : Int) < 1) => ?_) (fun (h453 : 1 ≤ (0 : Int)) => absurd h453 (by omega))
        refine z_xP zt17 63 143 [some (.ref 5), some (.int p1), some (.int (-1)), some (.int 0), none] [.ref 5] rfl rfl ?_
        refine z_xcV (vs := [.ref 5]) (r := []) (L2 := [some (.ref 5)]) zt17 64 rfl zo17 zzcV1_66 (Or.inl rfl) rfl X f5 rfl rfl rfl (Nat.le_of_ble_eq_true rfl) zzm10 (Nat.le_of_ble_eq_true rfl) rfl ?_
        refine z_xP zt10 0 1 [some (.ref 5)] [.ref 5] rfl rfl ?_
        refine z_xgv zt10 1 rfl zo10 zzf1_32 X f5 (by decide) h1 ?_
        refine z_xZ zt10 2 rfl rfl (fun (h454 : 0 ≤ x2.toInt) => absurd h454 (by omega)) (fun (h454 : x2.toInt < 0) => ?_)
        refine z_xP zt10 3 9 [some (.ref 5)] [.ref 5, .ref 5] rfl rfl ?_
        refine z_xgv zt10 4 rfl zo10 zzf1_29 X f5 (by decide) h17 ?_
        refine z_xpf zt10 5 rfl zo10 zzf1_32 X f5 (by decide) (by decide) ⟨Int32.le_toInt _, Int32.toInt_le _⟩ rfl (by decide) zw1_3 (fun M455 X456 e457 h458 => ?_)
        refine z_xrv zt10 6 rfl zzr10 ?_
        show z_ev (d + 5) 17 146 [some (.ref 5), some (.int p1), some (.int (-1)), some (.int 0), none] [] M455 _
        refine z_xP zt17 65 147 [some (.ref 5), some (.int p1), some (.int (-1)), some (.int 0), none] [.long 0] rfl rfl ?_
        have q0 : ((0 : Int64)).toInt = 0 := rfl
        exact z_xrl zt17 66 rfl zzr17 (kk 0 M455 X456)
      refine z_xP zt17 41 96 [some (.ref 5), some (.int p1), some (.int (-1)), none, none] [.ref 5] rfl rfl ?_
      refine z_xgX (b := 6) zt17 42 rfl zo17 zzf1_9 X f5 (by decide) (by decide) rfl ?_
      refine z_xP zt17 43 100 [some (.ref 5), some (.int p1), some (.int (-1)), none, none] [.ref 5, .ref 6] rfl rfl ?_
      refine z_xgv zt17 44 rfl zo17 zzf1_29 X f5 (by decide) h17 ?_
      refine z_xil zt17 45 rfl X f6 (by decide) (by omega) (by omega) (fun (x459 : Int32) h460 (h461 : (-2147483648) ≤ x459.toInt) (h462 : x459.toInt ≤ 2147483647) => ?_)
      have h463 := congrArg Int32.toInt (h460.symm.trans h337)
      refine z_xP zt17 46 106 [some (.ref 5), some (.int p1), some (.int (-1)), none, none] [.int 48, .int x459] rfl rfl ?_
      have h464 := z_b32 x459
      refine z_xI zt17 47 rfl rfl (P := fun _ => True) (fun (x465 : Int32) _ => ?_) trivial
      refine z_xP zt17 48 111 [some (.ref 5), some (.int p1), some (.int (-1)), none, none] [.int x465] rfl rfl ?_
      refine z_xP zt17 50 114 [some (.ref 5), some (.int p1), some (.int (-1)), some (.int x465), none] [.int 1, .int x465] rfl rfl ?_
      refine z_xJ zt17 51 rfl rfl (fun (h467 : x465.toInt < 1) => ?_) (fun (h467 : 1 ≤ x465.toInt) => ?_)
      · skip
        refine z_xP zt17 63 143 [some (.ref 5), some (.int p1), some (.int (-1)), some (.int x465), none] [.ref 5] rfl rfl ?_
        refine z_xcV (vs := [.ref 5]) (r := []) (L2 := [some (.ref 5)]) zt17 64 rfl zo17 zzcV1_66 (Or.inl rfl) rfl X f5 rfl rfl rfl (Nat.le_of_ble_eq_true rfl) zzm10 (Nat.le_of_ble_eq_true rfl) rfl ?_
        refine z_xP zt10 0 1 [some (.ref 5)] [.ref 5] rfl rfl ?_
        refine z_xgv zt10 1 rfl zo10 zzf1_32 X f5 (by decide) h1 ?_
        refine z_xZ zt10 2 rfl rfl (fun (h468 : 0 ≤ x2.toInt) => absurd h468 (by omega)) (fun (h468 : x2.toInt < 0) => ?_)
        refine z_xP zt10 3 9 [some (.ref 5)] [.ref 5, .ref 5] rfl rfl ?_
        refine z_xgv zt10 4 rfl zo10 zzf1_29 X f5 (by decide) h17 ?_
        refine z_xpf zt10 5 rfl zo10 zzf1_32 X f5 (by decide) (by decide) ⟨Int32.le_toInt _, Int32.toInt_le _⟩ rfl (by decide) zw1_3 (fun M469 X470 e471 h472 => ?_)
        refine z_xrv zt10 6 rfl zzr10 ?_
        show z_ev (d + 5) 17 146 [some (.ref 5), some (.int p1), some (.int (-1)), some (.int x465), none] [] M469 _
        refine z_xP zt17 65 147 [some (.ref 5), some (.int p1), some (.int (-1)), some (.int x465), none] [.long 0] rfl rfl ?_
        have q0 : ((0 : Int64)).toInt = 0 := rfl
        exact z_xrl zt17 66 rfl zzr17 (kk 0 M469 X470)
      refine z_xP zt17 52 120 [some (.ref 5), some (.int p1), some (.int (-1)), some (.int x465), none] [.int 9, .int x465] rfl rfl ?_
      refine z_xJ zt17 53 rfl rfl (fun (h473 : 9 < x465.toInt) => ?_) (fun (h473 : x465.toInt ≤ 9) => ?_)
      · skip
        refine z_xP zt17 63 143 [some (.ref 5), some (.int p1), some (.int (-1)), some (.int x465), none] [.ref 5] rfl rfl ?_
        refine z_xcV (vs := [.ref 5]) (r := []) (L2 := [some (.ref 5)]) zt17 64 rfl zo17 zzcV1_66 (Or.inl rfl) rfl X f5 rfl rfl rfl (Nat.le_of_ble_eq_true rfl) zzm10 (Nat.le_of_ble_eq_true rfl) rfl ?_
        refine z_xP zt10 0 1 [some (.ref 5)] [.ref 5] rfl rfl ?_
        refine z_xgv zt10 1 rfl zo10 zzf1_32 X f5 (by decide) h1 ?_
        refine z_xZ zt10 2 rfl rfl (fun (h474 : 0 ≤ x2.toInt) => absurd h474 (by omega)) (fun (h474 : x2.toInt < 0) => ?_)
        refine z_xP zt10 3 9 [some (.ref 5)] [.ref 5, .ref 5] rfl rfl ?_
        refine z_xgv zt10 4 rfl zo10 zzf1_29 X f5 (by decide) h17 ?_
        refine z_xpf zt10 5 rfl zo10 zzf1_32 X f5 (by decide) (by decide) ⟨Int32.le_toInt _, Int32.toInt_le _⟩ rfl (by decide) zw1_3 (fun M475 X476 e477 h478 => ?_)
        refine z_xrv zt10 6 rfl zzr10 ?_
        show z_ev (d + 5) 17 146 [some (.ref 5), some (.int p1), some (.int (-1)), some (.int x465), none] [] M475 _
        refine z_xP zt17 65 147 [some (.ref 5), some (.int p1), some (.int (-1)), some (.int x465), none] [.long 0] rfl rfl ?_
        have q0 : ((0 : Int64)).toInt = 0 := rfl
        exact z_xrl zt17 66 rfl zzr17 (kk 0 M475 X476)
      refine z_xP zt17 54 125 [some (.ref 5), some (.int p1), some (.int (-1)), some (.int x465), none] [.ref 5, .ref 5] rfl rfl ?_
      refine z_xgv zt17 55 rfl zo17 zzf1_29 X f5 (by decide) h17 ?_
      refine z_xP zt17 56 129 [some (.ref 5), some (.int p1), some (.int (-1)), some (.int x465), none] [.int 1, .int x18, .ref 5] rfl rfl ?_
      refine z_xI zt17 57 rfl rfl (fun (x479 : Int32) (h480 : x479.toInt = x18.toInt + 1) => ?_) (z_pAdd rfl rfl (by omega) (by omega))
      refine z_xpf zt17 58 rfl zo17 zzf1_29 X f5 (by decide) (by decide) ⟨by omega, by omega⟩ rfl (by decide) zw1_2 (fun M481 X482 e483 h484 => ?_)
      refine z_xP zt17 59 137 [some (.ref 5), some (.int p1), some (.int (-1)), some (.int x465), none] [.int 1, .int p1, .int x465, .ref 5] rfl rfl ?_
      refine z_xI zt17 60 rfl rfl (fun (x485 : Int32) (h486 : x485.toInt = p1.toInt + 1) => ?_) (z_pAdd rfl rfl (by omega) (by omega))
      obtain ⟨d487, hdd487⟩ : ∃ e, d = e + 1 := ⟨d - 1, by omega⟩
      subst hdd487
      refine z_xcV (vs := [.ref 5, .int x465, .int x485]) (r := []) (L2 := [some (.ref 5), some (.int x465), some (.int x485), none, none, none, none, none]) zt17 61 rfl zo17 zzcV1_95 (Or.inl rfl) rfl X482 f5 rfl rfl rfl (Nat.le_of_ble_eq_true rfl) zzm19 (Nat.le_of_ble_eq_true rfl) rfl ?_
      refine ih19 X482.1 (by omega) (by omega) (by omega) (by omega) (fun y490 M488 X489  => ?_)
      have X491 := X482.go X489 (z_sb (by decide))
      show z_ev (d487 + 1 + 5) 17 141 [some (.ref 5), some (.int p1), some (.int (-1)), some (.int x465), none] [.long y490] M488 _
      exact z_xrl zt17 62 rfl zzr17 (kk y490 M488 X491)
    refine z_xP zt12 8 19 [some (.ref 5), some (.int 33)] [.ref 5] rfl rfl ?_
    refine z_xgX (b := 6) zt12 9 rfl zo12 zzf1_9 X f5 (by decide) (by decide) rfl ?_
    refine z_xP zt12 10 23 [some (.ref 5), some (.int 33)] [.ref 5, .ref 6] rfl rfl ?_
    refine z_xgv zt12 11 rfl zo12 zzf1_29 X f5 (by decide) h17 ?_
    refine z_xil zt12 12 rfl X f6 (by decide) (by omega) (by omega) (fun (x493 : Int32) h494 (h495 : (-2147483648) ≤ x493.toInt) (h496 : x493.toInt ≤ 2147483647) => ?_)
    have h497 := congrArg Int32.toInt (h494.symm.trans h337)
    refine z_xP zt12 13 28 [some (.ref 5), some (.int 33)] [.int 33, .int x493] rfl rfl ?_
    refine z_xJ zt12 14 rfl rfl (fun (h498 : x493.toInt = 33) => ?_) (fun (h498 : x493.toInt ≠ 33) => ?_)
    · skip
      refine z_xP zt12 17 35 [some (.ref 5), some (.int 33)] [.ref 5, .ref 5] rfl rfl ?_
      refine z_xgv zt12 18 rfl zo12 zzf1_29 X f5 (by decide) h17 ?_
      refine z_xP zt12 19 39 [some (.ref 5), some (.int 33)] [.int 1, .int x18, .ref 5] rfl rfl ?_
      refine z_xI zt12 20 rfl rfl (fun (x499 : Int32) (h500 : x499.toInt = x18.toInt + 1) => ?_) (z_pAdd rfl rfl (by omega) (by omega))
      refine z_xpf zt12 21 rfl zo12 zzf1_29 X f5 (by decide) (by decide) ⟨by omega, by omega⟩ rfl (by decide) zw1_2 (fun M501 X502 e503 h504 => ?_)
      refine z_xP zt12 22 44 [some (.ref 5), some (.int 33)] [.int 1] rfl rfl ?_
      refine z_xrz zt12 23 rfl zzr12 (by decide) (by decide) ?_
      show z_ev (d + 5) 17 37 [some (.ref 5), some (.int p1), some (.int (-1)), none, none] [.int 1] M501 _
      refine z_xZ zt17 16 rfl rfl (fun (h505 : (1 : Int) = 0) => absurd h505 (by omega)) (fun (h505 : (1 : Int) ≠ 0) => ?_)
      refine z_xP zt17 17 43 [some (.ref 5), some (.int p1), some (.int (-1)), none, none] [.int 1, .int p1, .ref 5] rfl rfl ?_
      refine z_xI zt17 18 rfl rfl (fun (x506 : Int32) (h507 : x506.toInt = p1.toInt + 1) => ?_) (z_pAdd rfl rfl (by omega) (by omega))
      obtain ⟨d508, hdd508⟩ : ∃ e, d = e + 1 := ⟨d - 1, by omega⟩
      subst hdd508
      refine z_xcV (vs := [.ref 5, .int x506]) (r := []) (L2 := [some (.ref 5), some (.int x506), none, none, none]) zt17 19 rfl zo17 zzcV1_89 (Or.inl rfl) rfl X502 f5 rfl rfl rfl (Nat.le_of_ble_eq_true rfl) zzm17 (Nat.le_of_ble_eq_true rfl) rfl ?_
      refine ih17 X502.1 (by omega) (by omega) (by omega) (fun y511 M509 X510  => ?_)
      have X512 := X502.go X510 (z_sb (by decide))
      show z_ev (d508 + 1 + 5) 17 47 [some (.ref 5), some (.int p1), some (.int (-1)), none, none] [.long y511] M509 _
      refine z_xl2 zt17 20 rfl zo17 zkl1_84 ?_
      refine z_xL zt17 21 rfl rfl (P := fun _ => True) (fun (y514 : Int64) _ => ?_) trivial
      exact z_xrl zt17 22 rfl zzr17 (kk y514 M509 X512)
    refine z_xP zt12 15 32 [some (.ref 5), some (.int 33)] [.int 0] rfl rfl ?_
    refine z_xrz zt12 16 rfl zzr12 (by decide) (by decide) ?_
    show z_ev (d + 5) 17 37 [some (.ref 5), some (.int p1), some (.int (-1)), none, none] [.int 0] M0 _
    refine z_xZ zt17 16 rfl rfl (fun (h516 : (0 : Int) = 0) => ?_) (fun (h516 : (0 : Int) ≠ 0) => absurd h516 (by omega))
    refine z_xP zt17 23 55 [some (.ref 5), some (.int p1), some (.int (-1)), none, none] [.int 40, .ref 5] rfl rfl ?_
    refine z_xcV (vs := [.ref 5, .int 40]) (r := []) (L2 := [some (.ref 5), some (.int 40)]) zt17 24 rfl zo17 zzcV1_69 (Or.inl rfl) rfl X f5 rfl rfl rfl (Nat.le_of_ble_eq_true rfl) zzm12 (Nat.le_of_ble_eq_true rfl) rfl ?_
    refine z_xP zt12 0 1 [some (.ref 5), some (.int 40)] [.ref 5] rfl rfl ?_
    refine z_xgv zt12 1 rfl zo12 zzf1_32 X f5 (by decide) h1 ?_
    refine z_xZ zt12 2 rfl rfl (fun (h517 : 0 ≤ x2.toInt) => absurd h517 (by omega)) (fun (h517 : x2.toInt < 0) => ?_)
    refine z_xP zt12 3 8 [some (.ref 5), some (.int 40)] [.ref 5] rfl rfl ?_
    refine z_xgv zt12 4 rfl zo12 zzf1_29 X f5 (by decide) h17 ?_
    refine z_xP zt12 5 12 [some (.ref 5), some (.int 40)] [.ref 5, .int x18] rfl rfl ?_
    refine z_xgv zt12 6 rfl zo12 zzf1_25 X f5 (by decide) h21 ?_
    refine z_xJ zt12 7 rfl rfl (fun (h518 : x22.toInt ≤ x18.toInt) => ?_) (fun (h518 : x18.toInt < x22.toInt) => ?_)
    · skip
      refine z_xP zt12 15 32 [some (.ref 5), some (.int 40)] [.int 0] rfl rfl ?_
      refine z_xrz zt12 16 rfl zzr12 (by decide) (by decide) ?_
      show z_ev (d + 5) 17 58 [some (.ref 5), some (.int p1), some (.int (-1)), none, none] [.int 0] M0 _
      refine z_xZ zt17 25 rfl rfl (fun (h519 : (0 : Int) = 0) => ?_) (fun (h519 : (0 : Int) ≠ 0) => absurd h519 (by omega))
      refine z_xP zt17 33 78 [some (.ref 5), some (.int p1), some (.int (-1)), none, none] [.ref 5] rfl rfl ?_
      refine z_xgv zt17 34 rfl zo17 zzf1_32 X f5 (by decide) h1 ?_
      refine z_xZ zt17 35 rfl rfl (fun (h520 : 0 ≤ x2.toInt) => absurd h520 (by omega)) (fun (h520 : x2.toInt < 0) => ?_)
      refine z_xP zt17 36 85 [some (.ref 5), some (.int p1), some (.int (-1)), none, none] [.ref 5] rfl rfl ?_
      refine z_xgv zt17 37 rfl zo17 zzf1_29 X f5 (by decide) h17 ?_
      refine z_xP zt17 38 89 [some (.ref 5), some (.int p1), some (.int (-1)), none, none] [.ref 5, .int x18] rfl rfl ?_
      refine z_xgv zt17 39 rfl zo17 zzf1_25 X f5 (by decide) h21 ?_
      refine z_xJ zt17 40 rfl rfl (fun (h521 : x22.toInt ≤ x18.toInt) => ?_) (fun (h521 : x18.toInt < x22.toInt) => ?_)
      · skip
        refine z_xP zt17 49 111 [some (.ref 5), some (.int p1), some (.int (-1)), none, none] [.int 0] rfl rfl ?_
        refine z_xP zt17 50 114 [some (.ref 5), some (.int p1), some (.int (-1)), some (.int 0), none] [.int 1, .int 0] rfl rfl ?_
        refine z_xJ zt17 51 rfl rfl (fun (h522 : (0 : Int) < 1) => ?_) (fun (h522 : 1 ≤ (0 : Int)) => absurd h522 (by omega))
        refine z_xP zt17 63 143 [some (.ref 5), some (.int p1), some (.int (-1)), some (.int 0), none] [.ref 5] rfl rfl ?_
        refine z_xcV (vs := [.ref 5]) (r := []) (L2 := [some (.ref 5)]) zt17 64 rfl zo17 zzcV1_66 (Or.inl rfl) rfl X f5 rfl rfl rfl (Nat.le_of_ble_eq_true rfl) zzm10 (Nat.le_of_ble_eq_true rfl) rfl ?_
        refine z_xP zt10 0 1 [some (.ref 5)] [.ref 5] rfl rfl ?_
        refine z_xgv zt10 1 rfl zo10 zzf1_32 X f5 (by decide) h1 ?_
        refine z_xZ zt10 2 rfl rfl (fun (h523 : 0 ≤ x2.toInt) => absurd h523 (by omega)) (fun (h523 : x2.toInt < 0) => ?_)
        refine z_xP zt10 3 9 [some (.ref 5)] [.ref 5, .ref 5] rfl rfl ?_
        refine z_xgv zt10 4 rfl zo10 zzf1_29 X f5 (by decide) h17 ?_
        refine z_xpf zt10 5 rfl zo10 zzf1_32 X f5 (by decide) (by decide) ⟨Int32.le_toInt _, Int32.toInt_le _⟩ rfl (by decide) zw1_3 (fun M524 X525 e526 h527 => ?_)
        refine z_xrv zt10 6 rfl zzr10 ?_
        show z_ev (d + 5) 17 146 [some (.ref 5), some (.int p1), some (.int (-1)), some (.int 0), none] [] M524 _
        refine z_xP zt17 65 147 [some (.ref 5), some (.int p1), some (.int (-1)), some (.int 0), none] [.long 0] rfl rfl ?_
        have q0 : ((0 : Int64)).toInt = 0 := rfl
        exact z_xrl zt17 66 rfl zzr17 (kk 0 M524 X525)
      refine z_xP zt17 41 96 [some (.ref 5), some (.int p1), some (.int (-1)), none, none] [.ref 5] rfl rfl ?_
      refine z_xgX (b := 6) zt17 42 rfl zo17 zzf1_9 X f5 (by decide) (by decide) rfl ?_
      refine z_xP zt17 43 100 [some (.ref 5), some (.int p1), some (.int (-1)), none, none] [.ref 5, .ref 6] rfl rfl ?_
      refine z_xgv zt17 44 rfl zo17 zzf1_29 X f5 (by decide) h17 ?_
      refine z_xil zt17 45 rfl X f6 (by decide) (by omega) (by omega) (fun (x528 : Int32) h529 (h530 : (-2147483648) ≤ x528.toInt) (h531 : x528.toInt ≤ 2147483647) => ?_)
      have h532 := congrArg Int32.toInt (h529.symm.trans h337)
      refine z_xP zt17 46 106 [some (.ref 5), some (.int p1), some (.int (-1)), none, none] [.int 48, .int x528] rfl rfl ?_
      have h533 := z_b32 x528
      refine z_xI zt17 47 rfl rfl (P := fun _ => True) (fun (x534 : Int32) _ => ?_) trivial
      refine z_xP zt17 48 111 [some (.ref 5), some (.int p1), some (.int (-1)), none, none] [.int x534] rfl rfl ?_
      refine z_xP zt17 50 114 [some (.ref 5), some (.int p1), some (.int (-1)), some (.int x534), none] [.int 1, .int x534] rfl rfl ?_
      refine z_xJ zt17 51 rfl rfl (fun (h536 : x534.toInt < 1) => ?_) (fun (h536 : 1 ≤ x534.toInt) => ?_)
      · skip
        refine z_xP zt17 63 143 [some (.ref 5), some (.int p1), some (.int (-1)), some (.int x534), none] [.ref 5] rfl rfl ?_
        refine z_xcV (vs := [.ref 5]) (r := []) (L2 := [some (.ref 5)]) zt17 64 rfl zo17 zzcV1_66 (Or.inl rfl) rfl X f5 rfl rfl rfl (Nat.le_of_ble_eq_true rfl) zzm10 (Nat.le_of_ble_eq_true rfl) rfl ?_
        refine z_xP zt10 0 1 [some (.ref 5)] [.ref 5] rfl rfl ?_
        refine z_xgv zt10 1 rfl zo10 zzf1_32 X f5 (by decide) h1 ?_
        refine z_xZ zt10 2 rfl rfl (fun (h537 : 0 ≤ x2.toInt) => absurd h537 (by omega)) (fun (h537 : x2.toInt < 0) => ?_)
        refine z_xP zt10 3 9 [some (.ref 5)] [.ref 5, .ref 5] rfl rfl ?_
        refine z_xgv zt10 4 rfl zo10 zzf1_29 X f5 (by decide) h17 ?_
        refine z_xpf zt10 5 rfl zo10 zzf1_32 X f5 (by decide) (by decide) ⟨Int32.le_toInt _, Int32.toInt_le _⟩ rfl (by decide) zw1_3 (fun M538 X539 e540 h541 => ?_)
        refine z_xrv zt10 6 rfl zzr10 ?_
        show z_ev (d + 5) 17 146 [some (.ref 5), some (.int p1), some (.int (-1)), some (.int x534), none] [] M538 _
        refine z_xP zt17 65 147 [some (.ref 5), some (.int p1), some (.int (-1)), some (.int x534), none] [.long 0] rfl rfl ?_
        have q0 : ((0 : Int64)).toInt = 0 := rfl
        exact z_xrl zt17 66 rfl zzr17 (kk 0 M538 X539)
      refine z_xP zt17 52 120 [some (.ref 5), some (.int p1), some (.int (-1)), some (.int x534), none] [.int 9, .int x534] rfl rfl ?_
      refine z_xJ zt17 53 rfl rfl (fun (h542 : 9 < x534.toInt) => ?_) (fun (h542 : x534.toInt ≤ 9) => ?_)
      · skip
        refine z_xP zt17 63 143 [some (.ref 5), some (.int p1), some (.int (-1)), some (.int x534), none] [.ref 5] rfl rfl ?_
        refine z_xcV (vs := [.ref 5]) (r := []) (L2 := [some (.ref 5)]) zt17 64 rfl zo17 zzcV1_66 (Or.inl rfl) rfl X f5 rfl rfl rfl (Nat.le_of_ble_eq_true rfl) zzm10 (Nat.le_of_ble_eq_true rfl) rfl ?_
        refine z_xP zt10 0 1 [some (.ref 5)] [.ref 5] rfl rfl ?_
        refine z_xgv zt10 1 rfl zo10 zzf1_32 X f5 (by decide) h1 ?_
        refine z_xZ zt10 2 rfl rfl (fun (h543 : 0 ≤ x2.toInt) => absurd h543 (by omega)) (fun (h543 : x2.toInt < 0) => ?_)
        refine z_xP zt10 3 9 [some (.ref 5)] [.ref 5, .ref 5] rfl rfl ?_
        refine z_xgv zt10 4 rfl zo10 zzf1_29 X f5 (by decide) h17 ?_
        refine z_xpf zt10 5 rfl zo10 zzf1_32 X f5 (by decide) (by decide) ⟨Int32.le_toInt _, Int32.toInt_le _⟩ rfl (by decide) zw1_3 (fun M544 X545 e546 h547 => ?_)
        refine z_xrv zt10 6 rfl zzr10 ?_
        show z_ev (d + 5) 17 146 [some (.ref 5), some (.int p1), some (.int (-1)), some (.int x534), none] [] M544 _
        refine z_xP zt17 65 147 [some (.ref 5), some (.int p1), some (.int (-1)), some (.int x534), none] [.long 0] rfl rfl ?_
        have q0 : ((0 : Int64)).toInt = 0 := rfl
        exact z_xrl zt17 66 rfl zzr17 (kk 0 M544 X545)
      refine z_xP zt17 54 125 [some (.ref 5), some (.int p1), some (.int (-1)), some (.int x534), none] [.ref 5, .ref 5] rfl rfl ?_
      refine z_xgv zt17 55 rfl zo17 zzf1_29 X f5 (by decide) h17 ?_
      refine z_xP zt17 56 129 [some (.ref 5), some (.int p1), some (.int (-1)), some (.int x534), none] [.int 1, .int x18, .ref 5] rfl rfl ?_
      refine z_xI zt17 57 rfl rfl (fun (x548 : Int32) (h549 : x548.toInt = x18.toInt + 1) => ?_) (z_pAdd rfl rfl (by omega) (by omega))
      refine z_xpf zt17 58 rfl zo17 zzf1_29 X f5 (by decide) (by decide) ⟨by omega, by omega⟩ rfl (by decide) zw1_2 (fun M550 X551 e552 h553 => ?_)
      refine z_xP zt17 59 137 [some (.ref 5), some (.int p1), some (.int (-1)), some (.int x534), none] [.int 1, .int p1, .int x534, .ref 5] rfl rfl ?_
      refine z_xI zt17 60 rfl rfl (fun (x554 : Int32) (h555 : x554.toInt = p1.toInt + 1) => ?_) (z_pAdd rfl rfl (by omega) (by omega))
      obtain ⟨d556, hdd556⟩ : ∃ e, d = e + 1 := ⟨d - 1, by omega⟩
      subst hdd556
      refine z_xcV (vs := [.ref 5, .int x534, .int x554]) (r := []) (L2 := [some (.ref 5), some (.int x534), some (.int x554), none, none, none, none, none]) zt17 61 rfl zo17 zzcV1_95 (Or.inl rfl) rfl X551 f5 rfl rfl rfl (Nat.le_of_ble_eq_true rfl) zzm19 (Nat.le_of_ble_eq_true rfl) rfl ?_
      refine ih19 X551.1 (by omega) (by omega) (by omega) (by omega) (fun y559 M557 X558  => ?_)
      have X560 := X551.go X558 (z_sb (by decide))
      show z_ev (d556 + 1 + 5) 17 141 [some (.ref 5), some (.int p1), some (.int (-1)), some (.int x534), none] [.long y559] M557 _
      exact z_xrl zt17 62 rfl zzr17 (kk y559 M557 X560)
    refine z_xP zt12 8 19 [some (.ref 5), some (.int 40)] [.ref 5] rfl rfl ?_
    refine z_xgX (b := 6) zt12 9 rfl zo12 zzf1_9 X f5 (by decide) (by decide) rfl ?_
    refine z_xP zt12 10 23 [some (.ref 5), some (.int 40)] [.ref 5, .ref 6] rfl rfl ?_
    refine z_xgv zt12 11 rfl zo12 zzf1_29 X f5 (by decide) h17 ?_
    refine z_xil zt12 12 rfl X f6 (by decide) (by omega) (by omega) (fun (x562 : Int32) h563 (h564 : (-2147483648) ≤ x562.toInt) (h565 : x562.toInt ≤ 2147483647) => ?_)
    have h566 := congrArg Int32.toInt (h563.symm.trans h337)
    refine z_xP zt12 13 28 [some (.ref 5), some (.int 40)] [.int 40, .int x562] rfl rfl ?_
    refine z_xJ zt12 14 rfl rfl (fun (h567 : x562.toInt = 40) => ?_) (fun (h567 : x562.toInt ≠ 40) => ?_)
    · skip
      refine z_xP zt12 17 35 [some (.ref 5), some (.int 40)] [.ref 5, .ref 5] rfl rfl ?_
      refine z_xgv zt12 18 rfl zo12 zzf1_29 X f5 (by decide) h17 ?_
      refine z_xP zt12 19 39 [some (.ref 5), some (.int 40)] [.int 1, .int x18, .ref 5] rfl rfl ?_
      refine z_xI zt12 20 rfl rfl (fun (x568 : Int32) (h569 : x568.toInt = x18.toInt + 1) => ?_) (z_pAdd rfl rfl (by omega) (by omega))
      refine z_xpf zt12 21 rfl zo12 zzf1_29 X f5 (by decide) (by decide) ⟨by omega, by omega⟩ rfl (by decide) zw1_2 (fun M570 X571 e572 h573 => ?_)
      refine z_xP zt12 22 44 [some (.ref 5), some (.int 40)] [.int 1] rfl rfl ?_
      refine z_xrz zt12 23 rfl zzr12 (by decide) (by decide) ?_
      show z_ev (d + 5) 17 58 [some (.ref 5), some (.int p1), some (.int (-1)), none, none] [.int 1] M570 _
      refine z_xZ zt17 25 rfl rfl (fun (h574 : (1 : Int) = 0) => absurd h574 (by omega)) (fun (h574 : (1 : Int) ≠ 0) => ?_)
      refine z_xP zt17 26 64 [some (.ref 5), some (.int p1), some (.int (-1)), none, none] [.int 1, .int p1, .ref 5] rfl rfl ?_
      refine z_xI zt17 27 rfl rfl (fun (x575 : Int32) (h576 : x575.toInt = p1.toInt + 1) => ?_) (z_pAdd rfl rfl (by omega) (by omega))
      obtain ⟨d577, hdd577⟩ : ∃ e, d = e + 1 := ⟨d - 1, by omega⟩
      subst hdd577
      refine z_xcV (vs := [.ref 5, .int x575]) (r := []) (L2 := [some (.ref 5), some (.int x575), none, none, none, none, none]) zt17 28 rfl zo17 zzcV1_77 (Or.inl rfl) rfl X571 f5 rfl rfl rfl (Nat.le_of_ble_eq_true rfl) zzm15 (Nat.le_of_ble_eq_true rfl) rfl ?_
      refine ih15 X571.1 (by omega) (by omega) (by omega) (fun y580 M578 X579  => ?_)
      have X581 := X571.go X579 (z_sb (by decide))
      show z_ev (d577 + 1 + 5) 17 68 [some (.ref 5), some (.int p1), some (.int (-1)), none, none] [.long y580] M578 _
      refine z_xP zt17 29 72 [some (.ref 5), some (.int p1), some (.int (-1)), some (.long y580), none] [.int 41, .ref 5] rfl rfl ?_
      refine z_xcV (vs := [.ref 5, .int 41]) (r := []) (L2 := [some (.ref 5), some (.int 41)]) zt17 30 rfl zo17 zzcV1_56 (Or.inl rfl) rfl X581 f5 rfl rfl rfl (Nat.le_of_ble_eq_true rfl) zzm8 (Nat.le_of_ble_eq_true rfl) rfl ?_
      refine z_xP zt8 0 1 [some (.ref 5), some (.int 41)] [.ref 5] rfl rfl ?_
      refine z_xgI zt8 1 rfl zo8 zzf1_32 X581 f5 (by decide) (by decide) rfl (fun (x584 : Int32) h583 (h585 : (-2147483648) ≤ x584.toInt) (h586 : x584.toInt ≤ 2147483647) => ?_)
      refine z_xZ zt8 2 rfl rfl (fun (h587 : x584.toInt < 0) => ?_) (fun (h587 : 0 ≤ x584.toInt) => ?_)
      · skip
        refine z_xP zt8 4 9 [some (.ref 5), some (.int 41)] [.ref 5] rfl rfl ?_
        refine z_xgI zt8 5 rfl zo8 zzf1_29 X581 f5 (by decide) (by decide) rfl (fun (x589 : Int32) h588 (h590 : 0 ≤ x589.toInt) (h591 : x589.toInt ≤ 160) => ?_)
        refine z_xP zt8 6 13 [some (.ref 5), some (.int 41)] [.ref 5, .int x589] rfl rfl ?_
        have h592 := (X579.2.f f5 (by decide) (e572.f f5 (by decide) h21))
        refine z_xgv zt8 7 rfl zo8 zzf1_25 X581 f5 (by decide) h592 ?_
        refine z_xJ zt8 8 rfl rfl (fun (h593 : x22.toInt ≤ x589.toInt) => ?_) (fun (h593 : x589.toInt < x22.toInt) => ?_)
        · skip
          refine z_xP zt8 22 47 [some (.ref 5), some (.int 41)] [.ref 5, .ref 5] rfl rfl ?_
          refine z_xgv zt8 23 rfl zo8 zzf1_29 X581 f5 (by decide) h588 ?_
          refine z_xpf zt8 24 rfl zo8 zzf1_32 X581 f5 (by decide) (by decide) ⟨Int32.le_toInt _, Int32.toInt_le _⟩ rfl (by decide) zw1_3 (fun M594 X595 e596 h597 => ?_)
          refine z_xrv zt8 25 rfl zzr8 ?_
          show z_ev (d577 + 1 + 5) 17 75 [some (.ref 5), some (.int p1), some (.int (-1)), some (.long y580), none] [] M594 _
          refine z_xP zt17 31 76 [some (.ref 5), some (.int p1), some (.int (-1)), some (.long y580), none] [.long y580] rfl rfl ?_
          exact z_xrl zt17 32 rfl zzr17 (kk y580 M594 X595)
        refine z_xP zt8 9 20 [some (.ref 5), some (.int 41)] [.ref 5] rfl rfl ?_
        refine z_xgX (b := 6) zt8 10 rfl zo8 zzf1_9 X581 f5 (by decide) (by decide) rfl ?_
        refine z_xP zt8 11 24 [some (.ref 5), some (.int 41)] [.ref 5, .ref 6] rfl rfl ?_
        refine z_xgv zt8 12 rfl zo8 zzf1_29 X581 f5 (by decide) h588 ?_
        refine z_xil zt8 13 rfl X581 f6 (by decide) (by omega) (by omega) (fun (x598 : Int32) h599 (h600 : (-2147483648) ≤ x598.toInt) (h601 : x598.toInt ≤ 2147483647) => ?_)
        refine z_xP zt8 14 29 [some (.ref 5), some (.int 41)] [.int 41, .int x598] rfl rfl ?_
        refine z_xJ zt8 15 rfl rfl (fun (h602 : x598.toInt ≠ 41) => ?_) (fun (h602 : x598.toInt = 41) => ?_)
        · skip
          refine z_xP zt8 22 47 [some (.ref 5), some (.int 41)] [.ref 5, .ref 5] rfl rfl ?_
          refine z_xgv zt8 23 rfl zo8 zzf1_29 X581 f5 (by decide) h588 ?_
          refine z_xpf zt8 24 rfl zo8 zzf1_32 X581 f5 (by decide) (by decide) ⟨Int32.le_toInt _, Int32.toInt_le _⟩ rfl (by decide) zw1_3 (fun M603 X604 e605 h606 => ?_)
          refine z_xrv zt8 25 rfl zzr8 ?_
          show z_ev (d577 + 1 + 5) 17 75 [some (.ref 5), some (.int p1), some (.int (-1)), some (.long y580), none] [] M603 _
          refine z_xP zt17 31 76 [some (.ref 5), some (.int p1), some (.int (-1)), some (.long y580), none] [.long y580] rfl rfl ?_
          exact z_xrl zt17 32 rfl zzr17 (kk y580 M603 X604)
        refine z_xP zt8 16 34 [some (.ref 5), some (.int 41)] [.ref 5, .ref 5] rfl rfl ?_
        refine z_xgv zt8 17 rfl zo8 zzf1_29 X581 f5 (by decide) h588 ?_
        refine z_xP zt8 18 38 [some (.ref 5), some (.int 41)] [.int 1, .int x589, .ref 5] rfl rfl ?_
        refine z_xI zt8 19 rfl rfl (fun (x607 : Int32) (h608 : x607.toInt = x589.toInt + 1) => ?_) (z_pAdd rfl rfl (by omega) (by omega))
        refine z_xpf zt8 20 rfl zo8 zzf1_29 X581 f5 (by decide) (by decide) ⟨by omega, by omega⟩ rfl (by decide) zw1_2 (fun M609 X610 e611 h612 => ?_)
        refine z_xP zt8 21 53 [some (.ref 5), some (.int 41)] [] rfl rfl ?_
        refine z_xrv zt8 25 rfl zzr8 ?_
        show z_ev (d577 + 1 + 5) 17 75 [some (.ref 5), some (.int p1), some (.int (-1)), some (.long y580), none] [] M609 _
        refine z_xP zt17 31 76 [some (.ref 5), some (.int p1), some (.int (-1)), some (.long y580), none] [.long y580] rfl rfl ?_
        exact z_xrl zt17 32 rfl zzr17 (kk y580 M609 X610)
      refine z_xrv zt8 3 rfl zzr8 ?_
      show z_ev (d577 + 1 + 5) 17 75 [some (.ref 5), some (.int p1), some (.int (-1)), some (.long y580), none] [] M578 _
      refine z_xP zt17 31 76 [some (.ref 5), some (.int p1), some (.int (-1)), some (.long y580), none] [.long y580] rfl rfl ?_
      exact z_xrl zt17 32 rfl zzr17 (kk y580 M578 X581)
    refine z_xP zt12 15 32 [some (.ref 5), some (.int 40)] [.int 0] rfl rfl ?_
    refine z_xrz zt12 16 rfl zzr12 (by decide) (by decide) ?_
    show z_ev (d + 5) 17 58 [some (.ref 5), some (.int p1), some (.int (-1)), none, none] [.int 0] M0 _
    refine z_xZ zt17 25 rfl rfl (fun (h613 : (0 : Int) = 0) => ?_) (fun (h613 : (0 : Int) ≠ 0) => absurd h613 (by omega))
    refine z_xP zt17 33 78 [some (.ref 5), some (.int p1), some (.int (-1)), none, none] [.ref 5] rfl rfl ?_
    refine z_xgv zt17 34 rfl zo17 zzf1_32 X f5 (by decide) h1 ?_
    refine z_xZ zt17 35 rfl rfl (fun (h614 : 0 ≤ x2.toInt) => absurd h614 (by omega)) (fun (h614 : x2.toInt < 0) => ?_)
    refine z_xP zt17 36 85 [some (.ref 5), some (.int p1), some (.int (-1)), none, none] [.ref 5] rfl rfl ?_
    refine z_xgv zt17 37 rfl zo17 zzf1_29 X f5 (by decide) h17 ?_
    refine z_xP zt17 38 89 [some (.ref 5), some (.int p1), some (.int (-1)), none, none] [.ref 5, .int x18] rfl rfl ?_
    refine z_xgv zt17 39 rfl zo17 zzf1_25 X f5 (by decide) h21 ?_
    refine z_xJ zt17 40 rfl rfl (fun (h615 : x22.toInt ≤ x18.toInt) => ?_) (fun (h615 : x18.toInt < x22.toInt) => ?_)
    · skip
      refine z_xP zt17 49 111 [some (.ref 5), some (.int p1), some (.int (-1)), none, none] [.int 0] rfl rfl ?_
      refine z_xP zt17 50 114 [some (.ref 5), some (.int p1), some (.int (-1)), some (.int 0), none] [.int 1, .int 0] rfl rfl ?_
      refine z_xJ zt17 51 rfl rfl (fun (h616 : (0 : Int) < 1) => ?_) (fun (h616 : 1 ≤ (0 : Int)) => absurd h616 (by omega))
      refine z_xP zt17 63 143 [some (.ref 5), some (.int p1), some (.int (-1)), some (.int 0), none] [.ref 5] rfl rfl ?_
      refine z_xcV (vs := [.ref 5]) (r := []) (L2 := [some (.ref 5)]) zt17 64 rfl zo17 zzcV1_66 (Or.inl rfl) rfl X f5 rfl rfl rfl (Nat.le_of_ble_eq_true rfl) zzm10 (Nat.le_of_ble_eq_true rfl) rfl ?_
      refine z_xP zt10 0 1 [some (.ref 5)] [.ref 5] rfl rfl ?_
      refine z_xgv zt10 1 rfl zo10 zzf1_32 X f5 (by decide) h1 ?_
      refine z_xZ zt10 2 rfl rfl (fun (h617 : 0 ≤ x2.toInt) => absurd h617 (by omega)) (fun (h617 : x2.toInt < 0) => ?_)
      refine z_xP zt10 3 9 [some (.ref 5)] [.ref 5, .ref 5] rfl rfl ?_
      refine z_xgv zt10 4 rfl zo10 zzf1_29 X f5 (by decide) h17 ?_
      refine z_xpf zt10 5 rfl zo10 zzf1_32 X f5 (by decide) (by decide) ⟨Int32.le_toInt _, Int32.toInt_le _⟩ rfl (by decide) zw1_3 (fun M618 X619 e620 h621 => ?_)
      refine z_xrv zt10 6 rfl zzr10 ?_
      show z_ev (d + 5) 17 146 [some (.ref 5), some (.int p1), some (.int (-1)), some (.int 0), none] [] M618 _
      refine z_xP zt17 65 147 [some (.ref 5), some (.int p1), some (.int (-1)), some (.int 0), none] [.long 0] rfl rfl ?_
      have q0 : ((0 : Int64)).toInt = 0 := rfl
      exact z_xrl zt17 66 rfl zzr17 (kk 0 M618 X619)
    refine z_xP zt17 41 96 [some (.ref 5), some (.int p1), some (.int (-1)), none, none] [.ref 5] rfl rfl ?_
    refine z_xgX (b := 6) zt17 42 rfl zo17 zzf1_9 X f5 (by decide) (by decide) rfl ?_
    refine z_xP zt17 43 100 [some (.ref 5), some (.int p1), some (.int (-1)), none, none] [.ref 5, .ref 6] rfl rfl ?_
    refine z_xgv zt17 44 rfl zo17 zzf1_29 X f5 (by decide) h17 ?_
    refine z_xil zt17 45 rfl X f6 (by decide) (by omega) (by omega) (fun (x622 : Int32) h623 (h624 : (-2147483648) ≤ x622.toInt) (h625 : x622.toInt ≤ 2147483647) => ?_)
    have h626 := congrArg Int32.toInt (h623.symm.trans h337)
    refine z_xP zt17 46 106 [some (.ref 5), some (.int p1), some (.int (-1)), none, none] [.int 48, .int x622] rfl rfl ?_
    have h627 := z_b32 x622
    refine z_xI zt17 47 rfl rfl (P := fun _ => True) (fun (x628 : Int32) _ => ?_) trivial
    refine z_xP zt17 48 111 [some (.ref 5), some (.int p1), some (.int (-1)), none, none] [.int x628] rfl rfl ?_
    refine z_xP zt17 50 114 [some (.ref 5), some (.int p1), some (.int (-1)), some (.int x628), none] [.int 1, .int x628] rfl rfl ?_
    refine z_xJ zt17 51 rfl rfl (fun (h630 : x628.toInt < 1) => ?_) (fun (h630 : 1 ≤ x628.toInt) => ?_)
    · skip
      refine z_xP zt17 63 143 [some (.ref 5), some (.int p1), some (.int (-1)), some (.int x628), none] [.ref 5] rfl rfl ?_
      refine z_xcV (vs := [.ref 5]) (r := []) (L2 := [some (.ref 5)]) zt17 64 rfl zo17 zzcV1_66 (Or.inl rfl) rfl X f5 rfl rfl rfl (Nat.le_of_ble_eq_true rfl) zzm10 (Nat.le_of_ble_eq_true rfl) rfl ?_
      refine z_xP zt10 0 1 [some (.ref 5)] [.ref 5] rfl rfl ?_
      refine z_xgv zt10 1 rfl zo10 zzf1_32 X f5 (by decide) h1 ?_
      refine z_xZ zt10 2 rfl rfl (fun (h631 : 0 ≤ x2.toInt) => absurd h631 (by omega)) (fun (h631 : x2.toInt < 0) => ?_)
      refine z_xP zt10 3 9 [some (.ref 5)] [.ref 5, .ref 5] rfl rfl ?_
      refine z_xgv zt10 4 rfl zo10 zzf1_29 X f5 (by decide) h17 ?_
      refine z_xpf zt10 5 rfl zo10 zzf1_32 X f5 (by decide) (by decide) ⟨Int32.le_toInt _, Int32.toInt_le _⟩ rfl (by decide) zw1_3 (fun M632 X633 e634 h635 => ?_)
      refine z_xrv zt10 6 rfl zzr10 ?_
      show z_ev (d + 5) 17 146 [some (.ref 5), some (.int p1), some (.int (-1)), some (.int x628), none] [] M632 _
      refine z_xP zt17 65 147 [some (.ref 5), some (.int p1), some (.int (-1)), some (.int x628), none] [.long 0] rfl rfl ?_
      have q0 : ((0 : Int64)).toInt = 0 := rfl
      exact z_xrl zt17 66 rfl zzr17 (kk 0 M632 X633)
    refine z_xP zt17 52 120 [some (.ref 5), some (.int p1), some (.int (-1)), some (.int x628), none] [.int 9, .int x628] rfl rfl ?_
    refine z_xJ zt17 53 rfl rfl (fun (h636 : 9 < x628.toInt) => ?_) (fun (h636 : x628.toInt ≤ 9) => ?_)
    · skip
      refine z_xP zt17 63 143 [some (.ref 5), some (.int p1), some (.int (-1)), some (.int x628), none] [.ref 5] rfl rfl ?_
      refine z_xcV (vs := [.ref 5]) (r := []) (L2 := [some (.ref 5)]) zt17 64 rfl zo17 zzcV1_66 (Or.inl rfl) rfl X f5 rfl rfl rfl (Nat.le_of_ble_eq_true rfl) zzm10 (Nat.le_of_ble_eq_true rfl) rfl ?_
      refine z_xP zt10 0 1 [some (.ref 5)] [.ref 5] rfl rfl ?_
      refine z_xgv zt10 1 rfl zo10 zzf1_32 X f5 (by decide) h1 ?_
      refine z_xZ zt10 2 rfl rfl (fun (h637 : 0 ≤ x2.toInt) => absurd h637 (by omega)) (fun (h637 : x2.toInt < 0) => ?_)
      refine z_xP zt10 3 9 [some (.ref 5)] [.ref 5, .ref 5] rfl rfl ?_
      refine z_xgv zt10 4 rfl zo10 zzf1_29 X f5 (by decide) h17 ?_
      refine z_xpf zt10 5 rfl zo10 zzf1_32 X f5 (by decide) (by decide) ⟨Int32.le_toInt _, Int32.toInt_le _⟩ rfl (by decide) zw1_3 (fun M638 X639 e640 h641 => ?_)
      refine z_xrv zt10 6 rfl zzr10 ?_
      show z_ev (d + 5) 17 146 [some (.ref 5), some (.int p1), some (.int (-1)), some (.int x628), none] [] M638 _
      refine z_xP zt17 65 147 [some (.ref 5), some (.int p1), some (.int (-1)), some (.int x628), none] [.long 0] rfl rfl ?_
      have q0 : ((0 : Int64)).toInt = 0 := rfl
      exact z_xrl zt17 66 rfl zzr17 (kk 0 M638 X639)
    refine z_xP zt17 54 125 [some (.ref 5), some (.int p1), some (.int (-1)), some (.int x628), none] [.ref 5, .ref 5] rfl rfl ?_
    refine z_xgv zt17 55 rfl zo17 zzf1_29 X f5 (by decide) h17 ?_
    refine z_xP zt17 56 129 [some (.ref 5), some (.int p1), some (.int (-1)), some (.int x628), none] [.int 1, .int x18, .ref 5] rfl rfl ?_
    refine z_xI zt17 57 rfl rfl (fun (x642 : Int32) (h643 : x642.toInt = x18.toInt + 1) => ?_) (z_pAdd rfl rfl (by omega) (by omega))
    refine z_xpf zt17 58 rfl zo17 zzf1_29 X f5 (by decide) (by decide) ⟨by omega, by omega⟩ rfl (by decide) zw1_2 (fun M644 X645 e646 h647 => ?_)
    refine z_xP zt17 59 137 [some (.ref 5), some (.int p1), some (.int (-1)), some (.int x628), none] [.int 1, .int p1, .int x628, .ref 5] rfl rfl ?_
    refine z_xI zt17 60 rfl rfl (fun (x648 : Int32) (h649 : x648.toInt = p1.toInt + 1) => ?_) (z_pAdd rfl rfl (by omega) (by omega))
    obtain ⟨d650, hdd650⟩ : ∃ e, d = e + 1 := ⟨d - 1, by omega⟩
    subst hdd650
    refine z_xcV (vs := [.ref 5, .int x628, .int x648]) (r := []) (L2 := [some (.ref 5), some (.int x628), some (.int x648), none, none, none, none, none]) zt17 61 rfl zo17 zzcV1_95 (Or.inl rfl) rfl X645 f5 rfl rfl rfl (Nat.le_of_ble_eq_true rfl) zzm19 (Nat.le_of_ble_eq_true rfl) rfl ?_
    refine ih19 X645.1 (by omega) (by omega) (by omega) (by omega) (fun y653 M651 X652  => ?_)
    have X654 := X645.go X652 (z_sb (by decide))
    show z_ev (d650 + 1 + 5) 17 141 [some (.ref 5), some (.int p1), some (.int (-1)), some (.int x628), none] [.long y653] M651 _
    exact z_xrl zt17 62 rfl zzr17 (kk y653 M651 X654)
  refine z_xP zt14 19 42 [some (.ref 5), some (.int x341)] [.int 10, .int x341] rfl rfl ?_
  refine z_xJ zt14 20 rfl rfl (fun (h656 : x341.toInt < 10) => ?_) (fun (h656 : 10 ≤ x341.toInt) => ?_)
  · skip
    refine z_xP zt14 22 50 [some (.ref 5), some (.int x341)] [.ref 5] rfl rfl ?_
    refine z_xgX (b := 7) zt14 23 rfl zo14 zzf1_15 X f5 (by decide) (by decide) rfl ?_
    refine z_xP zt14 24 54 [some (.ref 5), some (.int x341)] [.int x341, .ref 7] rfl rfl ?_
    have f7 : T[7]? = some (.inr (7, 0, 10, (-1), 9)) := X.1.k rfl (by decide)
    refine z_xil zt14 25 rfl X f7 (by decide) (by omega) (by omega) (fun (x657 : Int32) h658 (h659 : (-1) ≤ x657.toInt) (h660 : x657.toInt ≤ 9) => ?_)
    refine z_xri zt14 26 rfl zzr14 ?_
    show z_ev (d + 5) 17 4 [some (.ref 5), some (.int p1), none, none, none] [.int x657] M0 _
    refine z_xP zt17 2 6 [some (.ref 5), some (.int p1), some (.int x657), none, none] [.int x657] rfl rfl ?_
    refine z_xZ zt17 3 rfl rfl (fun (h661 : x657.toInt < 0) => ?_) (fun (h661 : 0 ≤ x657.toInt) => ?_)
    · skip
      refine z_xP zt17 12 28 [some (.ref 5), some (.int p1), some (.int x657), none, none] [.int 6, .int p1] rfl rfl ?_
      refine z_xJ zt17 13 rfl rfl (fun (h662 : 6 ≤ p1.toInt) => ?_) (fun (h662 : p1.toInt < 6) => ?_)
      · skip
        refine z_xP zt17 63 143 [some (.ref 5), some (.int p1), some (.int x657), none, none] [.ref 5] rfl rfl ?_
        refine z_xcV (vs := [.ref 5]) (r := []) (L2 := [some (.ref 5)]) zt17 64 rfl zo17 zzcV1_66 (Or.inl rfl) rfl X f5 rfl rfl rfl (Nat.le_of_ble_eq_true rfl) zzm10 (Nat.le_of_ble_eq_true rfl) rfl ?_
        refine z_xP zt10 0 1 [some (.ref 5)] [.ref 5] rfl rfl ?_
        refine z_xgv zt10 1 rfl zo10 zzf1_32 X f5 (by decide) h1 ?_
        refine z_xZ zt10 2 rfl rfl (fun (h663 : 0 ≤ x2.toInt) => absurd h663 (by omega)) (fun (h663 : x2.toInt < 0) => ?_)
        refine z_xP zt10 3 9 [some (.ref 5)] [.ref 5, .ref 5] rfl rfl ?_
        refine z_xgv zt10 4 rfl zo10 zzf1_29 X f5 (by decide) h17 ?_
        refine z_xpf zt10 5 rfl zo10 zzf1_32 X f5 (by decide) (by decide) ⟨Int32.le_toInt _, Int32.toInt_le _⟩ rfl (by decide) zw1_3 (fun M664 X665 e666 h667 => ?_)
        refine z_xrv zt10 6 rfl zzr10 ?_
        show z_ev (d + 5) 17 146 [some (.ref 5), some (.int p1), some (.int x657), none, none] [] M664 _
        refine z_xP zt17 65 147 [some (.ref 5), some (.int p1), some (.int x657), none, none] [.long 0] rfl rfl ?_
        have q0 : ((0 : Int64)).toInt = 0 := rfl
        exact z_xrl zt17 66 rfl zzr17 (kk 0 M664 X665)
      refine z_xP zt17 14 34 [some (.ref 5), some (.int p1), some (.int x657), none, none] [.int 33, .ref 5] rfl rfl ?_
      refine z_xcV (vs := [.ref 5, .int 33]) (r := []) (L2 := [some (.ref 5), some (.int 33)]) zt17 15 rfl zo17 zzcV1_69 (Or.inl rfl) rfl X f5 rfl rfl rfl (Nat.le_of_ble_eq_true rfl) zzm12 (Nat.le_of_ble_eq_true rfl) rfl ?_
      refine z_xP zt12 0 1 [some (.ref 5), some (.int 33)] [.ref 5] rfl rfl ?_
      refine z_xgv zt12 1 rfl zo12 zzf1_32 X f5 (by decide) h1 ?_
      refine z_xZ zt12 2 rfl rfl (fun (h668 : 0 ≤ x2.toInt) => absurd h668 (by omega)) (fun (h668 : x2.toInt < 0) => ?_)
      refine z_xP zt12 3 8 [some (.ref 5), some (.int 33)] [.ref 5] rfl rfl ?_
      refine z_xgv zt12 4 rfl zo12 zzf1_29 X f5 (by decide) h17 ?_
      refine z_xP zt12 5 12 [some (.ref 5), some (.int 33)] [.ref 5, .int x18] rfl rfl ?_
      refine z_xgv zt12 6 rfl zo12 zzf1_25 X f5 (by decide) h21 ?_
      refine z_xJ zt12 7 rfl rfl (fun (h669 : x22.toInt ≤ x18.toInt) => ?_) (fun (h669 : x18.toInt < x22.toInt) => ?_)
      · skip
        refine z_xP zt12 15 32 [some (.ref 5), some (.int 33)] [.int 0] rfl rfl ?_
        refine z_xrz zt12 16 rfl zzr12 (by decide) (by decide) ?_
        show z_ev (d + 5) 17 37 [some (.ref 5), some (.int p1), some (.int x657), none, none] [.int 0] M0 _
        refine z_xZ zt17 16 rfl rfl (fun (h670 : (0 : Int) = 0) => ?_) (fun (h670 : (0 : Int) ≠ 0) => absurd h670 (by omega))
        refine z_xP zt17 23 55 [some (.ref 5), some (.int p1), some (.int x657), none, none] [.int 40, .ref 5] rfl rfl ?_
        refine z_xcV (vs := [.ref 5, .int 40]) (r := []) (L2 := [some (.ref 5), some (.int 40)]) zt17 24 rfl zo17 zzcV1_69 (Or.inl rfl) rfl X f5 rfl rfl rfl (Nat.le_of_ble_eq_true rfl) zzm12 (Nat.le_of_ble_eq_true rfl) rfl ?_
        refine z_xP zt12 0 1 [some (.ref 5), some (.int 40)] [.ref 5] rfl rfl ?_
        refine z_xgv zt12 1 rfl zo12 zzf1_32 X f5 (by decide) h1 ?_
        refine z_xZ zt12 2 rfl rfl (fun (h671 : 0 ≤ x2.toInt) => absurd h671 (by omega)) (fun (h671 : x2.toInt < 0) => ?_)
        refine z_xP zt12 3 8 [some (.ref 5), some (.int 40)] [.ref 5] rfl rfl ?_
        refine z_xgv zt12 4 rfl zo12 zzf1_29 X f5 (by decide) h17 ?_
        refine z_xP zt12 5 12 [some (.ref 5), some (.int 40)] [.ref 5, .int x18] rfl rfl ?_
        refine z_xgv zt12 6 rfl zo12 zzf1_25 X f5 (by decide) h21 ?_
        refine z_xJ zt12 7 rfl rfl (fun (h672 : x22.toInt ≤ x18.toInt) => ?_) (fun (h672 : x18.toInt < x22.toInt) => ?_)
        · skip
          refine z_xP zt12 15 32 [some (.ref 5), some (.int 40)] [.int 0] rfl rfl ?_
          refine z_xrz zt12 16 rfl zzr12 (by decide) (by decide) ?_
          show z_ev (d + 5) 17 58 [some (.ref 5), some (.int p1), some (.int x657), none, none] [.int 0] M0 _
          refine z_xZ zt17 25 rfl rfl (fun (h673 : (0 : Int) = 0) => ?_) (fun (h673 : (0 : Int) ≠ 0) => absurd h673 (by omega))
          refine z_xP zt17 33 78 [some (.ref 5), some (.int p1), some (.int x657), none, none] [.ref 5] rfl rfl ?_
          refine z_xgv zt17 34 rfl zo17 zzf1_32 X f5 (by decide) h1 ?_
          refine z_xZ zt17 35 rfl rfl (fun (h674 : 0 ≤ x2.toInt) => absurd h674 (by omega)) (fun (h674 : x2.toInt < 0) => ?_)
          refine z_xP zt17 36 85 [some (.ref 5), some (.int p1), some (.int x657), none, none] [.ref 5] rfl rfl ?_
          refine z_xgv zt17 37 rfl zo17 zzf1_29 X f5 (by decide) h17 ?_
          refine z_xP zt17 38 89 [some (.ref 5), some (.int p1), some (.int x657), none, none] [.ref 5, .int x18] rfl rfl ?_
          refine z_xgv zt17 39 rfl zo17 zzf1_25 X f5 (by decide) h21 ?_
          refine z_xJ zt17 40 rfl rfl (fun (h675 : x22.toInt ≤ x18.toInt) => ?_) (fun (h675 : x18.toInt < x22.toInt) => ?_)
          · skip
            refine z_xP zt17 49 111 [some (.ref 5), some (.int p1), some (.int x657), none, none] [.int 0] rfl rfl ?_
            refine z_xP zt17 50 114 [some (.ref 5), some (.int p1), some (.int x657), some (.int 0), none] [.int 1, .int 0] rfl rfl ?_
            refine z_xJ zt17 51 rfl rfl (fun (h676 : (0 : Int) < 1) => ?_) (fun (h676 : 1 ≤ (0 : Int)) => absurd h676 (by omega))
            refine z_xP zt17 63 143 [some (.ref 5), some (.int p1), some (.int x657), some (.int 0), none] [.ref 5] rfl rfl ?_
            refine z_xcV (vs := [.ref 5]) (r := []) (L2 := [some (.ref 5)]) zt17 64 rfl zo17 zzcV1_66 (Or.inl rfl) rfl X f5 rfl rfl rfl (Nat.le_of_ble_eq_true rfl) zzm10 (Nat.le_of_ble_eq_true rfl) rfl ?_
            refine z_xP zt10 0 1 [some (.ref 5)] [.ref 5] rfl rfl ?_
            refine z_xgv zt10 1 rfl zo10 zzf1_32 X f5 (by decide) h1 ?_
            refine z_xZ zt10 2 rfl rfl (fun (h677 : 0 ≤ x2.toInt) => absurd h677 (by omega)) (fun (h677 : x2.toInt < 0) => ?_)
            refine z_xP zt10 3 9 [some (.ref 5)] [.ref 5, .ref 5] rfl rfl ?_
            refine z_xgv zt10 4 rfl zo10 zzf1_29 X f5 (by decide) h17 ?_
            refine z_xpf zt10 5 rfl zo10 zzf1_32 X f5 (by decide) (by decide) ⟨Int32.le_toInt _, Int32.toInt_le _⟩ rfl (by decide) zw1_3 (fun M678 X679 e680 h681 => ?_)
            refine z_xrv zt10 6 rfl zzr10 ?_
            show z_ev (d + 5) 17 146 [some (.ref 5), some (.int p1), some (.int x657), some (.int 0), none] [] M678 _
            refine z_xP zt17 65 147 [some (.ref 5), some (.int p1), some (.int x657), some (.int 0), none] [.long 0] rfl rfl ?_
            have q0 : ((0 : Int64)).toInt = 0 := rfl
            exact z_xrl zt17 66 rfl zzr17 (kk 0 M678 X679)
          refine z_xP zt17 41 96 [some (.ref 5), some (.int p1), some (.int x657), none, none] [.ref 5] rfl rfl ?_
          refine z_xgX (b := 6) zt17 42 rfl zo17 zzf1_9 X f5 (by decide) (by decide) rfl ?_
          refine z_xP zt17 43 100 [some (.ref 5), some (.int p1), some (.int x657), none, none] [.ref 5, .ref 6] rfl rfl ?_
          refine z_xgv zt17 44 rfl zo17 zzf1_29 X f5 (by decide) h17 ?_
          refine z_xil zt17 45 rfl X f6 (by decide) (by omega) (by omega) (fun (x682 : Int32) h683 (h684 : (-2147483648) ≤ x682.toInt) (h685 : x682.toInt ≤ 2147483647) => ?_)
          have h686 := congrArg Int32.toInt (h683.symm.trans h337)
          refine z_xP zt17 46 106 [some (.ref 5), some (.int p1), some (.int x657), none, none] [.int 48, .int x682] rfl rfl ?_
          have h687 := z_b32 x682
          refine z_xI zt17 47 rfl rfl (P := fun _ => True) (fun (x688 : Int32) _ => ?_) trivial
          refine z_xP zt17 48 111 [some (.ref 5), some (.int p1), some (.int x657), none, none] [.int x688] rfl rfl ?_
          refine z_xP zt17 50 114 [some (.ref 5), some (.int p1), some (.int x657), some (.int x688), none] [.int 1, .int x688] rfl rfl ?_
          refine z_xJ zt17 51 rfl rfl (fun (h690 : x688.toInt < 1) => ?_) (fun (h690 : 1 ≤ x688.toInt) => ?_)
          · skip
            refine z_xP zt17 63 143 [some (.ref 5), some (.int p1), some (.int x657), some (.int x688), none] [.ref 5] rfl rfl ?_
            refine z_xcV (vs := [.ref 5]) (r := []) (L2 := [some (.ref 5)]) zt17 64 rfl zo17 zzcV1_66 (Or.inl rfl) rfl X f5 rfl rfl rfl (Nat.le_of_ble_eq_true rfl) zzm10 (Nat.le_of_ble_eq_true rfl) rfl ?_
            refine z_xP zt10 0 1 [some (.ref 5)] [.ref 5] rfl rfl ?_
            refine z_xgv zt10 1 rfl zo10 zzf1_32 X f5 (by decide) h1 ?_
            refine z_xZ zt10 2 rfl rfl (fun (h691 : 0 ≤ x2.toInt) => absurd h691 (by omega)) (fun (h691 : x2.toInt < 0) => ?_)
            refine z_xP zt10 3 9 [some (.ref 5)] [.ref 5, .ref 5] rfl rfl ?_
            refine z_xgv zt10 4 rfl zo10 zzf1_29 X f5 (by decide) h17 ?_
            refine z_xpf zt10 5 rfl zo10 zzf1_32 X f5 (by decide) (by decide) ⟨Int32.le_toInt _, Int32.toInt_le _⟩ rfl (by decide) zw1_3 (fun M692 X693 e694 h695 => ?_)
            refine z_xrv zt10 6 rfl zzr10 ?_
            show z_ev (d + 5) 17 146 [some (.ref 5), some (.int p1), some (.int x657), some (.int x688), none] [] M692 _
            refine z_xP zt17 65 147 [some (.ref 5), some (.int p1), some (.int x657), some (.int x688), none] [.long 0] rfl rfl ?_
            have q0 : ((0 : Int64)).toInt = 0 := rfl
            exact z_xrl zt17 66 rfl zzr17 (kk 0 M692 X693)
          refine z_xP zt17 52 120 [some (.ref 5), some (.int p1), some (.int x657), some (.int x688), none] [.int 9, .int x688] rfl rfl ?_
          refine z_xJ zt17 53 rfl rfl (fun (h696 : 9 < x688.toInt) => ?_) (fun (h696 : x688.toInt ≤ 9) => ?_)
          · skip
            refine z_xP zt17 63 143 [some (.ref 5), some (.int p1), some (.int x657), some (.int x688), none] [.ref 5] rfl rfl ?_
            refine z_xcV (vs := [.ref 5]) (r := []) (L2 := [some (.ref 5)]) zt17 64 rfl zo17 zzcV1_66 (Or.inl rfl) rfl X f5 rfl rfl rfl (Nat.le_of_ble_eq_true rfl) zzm10 (Nat.le_of_ble_eq_true rfl) rfl ?_
            refine z_xP zt10 0 1 [some (.ref 5)] [.ref 5] rfl rfl ?_
            refine z_xgv zt10 1 rfl zo10 zzf1_32 X f5 (by decide) h1 ?_
            refine z_xZ zt10 2 rfl rfl (fun (h697 : 0 ≤ x2.toInt) => absurd h697 (by omega)) (fun (h697 : x2.toInt < 0) => ?_)
            refine z_xP zt10 3 9 [some (.ref 5)] [.ref 5, .ref 5] rfl rfl ?_
            refine z_xgv zt10 4 rfl zo10 zzf1_29 X f5 (by decide) h17 ?_
            refine z_xpf zt10 5 rfl zo10 zzf1_32 X f5 (by decide) (by decide) ⟨Int32.le_toInt _, Int32.toInt_le _⟩ rfl (by decide) zw1_3 (fun M698 X699 e700 h701 => ?_)
            refine z_xrv zt10 6 rfl zzr10 ?_
            show z_ev (d + 5) 17 146 [some (.ref 5), some (.int p1), some (.int x657), some (.int x688), none] [] M698 _
            refine z_xP zt17 65 147 [some (.ref 5), some (.int p1), some (.int x657), some (.int x688), none] [.long 0] rfl rfl ?_
            have q0 : ((0 : Int64)).toInt = 0 := rfl
            exact z_xrl zt17 66 rfl zzr17 (kk 0 M698 X699)
          refine z_xP zt17 54 125 [some (.ref 5), some (.int p1), some (.int x657), some (.int x688), none] [.ref 5, .ref 5] rfl rfl ?_
          refine z_xgv zt17 55 rfl zo17 zzf1_29 X f5 (by decide) h17 ?_
          refine z_xP zt17 56 129 [some (.ref 5), some (.int p1), some (.int x657), some (.int x688), none] [.int 1, .int x18, .ref 5] rfl rfl ?_
          refine z_xI zt17 57 rfl rfl (fun (x702 : Int32) (h703 : x702.toInt = x18.toInt + 1) => ?_) (z_pAdd rfl rfl (by omega) (by omega))
          refine z_xpf zt17 58 rfl zo17 zzf1_29 X f5 (by decide) (by decide) ⟨by omega, by omega⟩ rfl (by decide) zw1_2 (fun M704 X705 e706 h707 => ?_)
          refine z_xP zt17 59 137 [some (.ref 5), some (.int p1), some (.int x657), some (.int x688), none] [.int 1, .int p1, .int x688, .ref 5] rfl rfl ?_
          refine z_xI zt17 60 rfl rfl (fun (x708 : Int32) (h709 : x708.toInt = p1.toInt + 1) => ?_) (z_pAdd rfl rfl (by omega) (by omega))
          obtain ⟨d710, hdd710⟩ : ∃ e, d = e + 1 := ⟨d - 1, by omega⟩
          subst hdd710
          refine z_xcV (vs := [.ref 5, .int x688, .int x708]) (r := []) (L2 := [some (.ref 5), some (.int x688), some (.int x708), none, none, none, none, none]) zt17 61 rfl zo17 zzcV1_95 (Or.inl rfl) rfl X705 f5 rfl rfl rfl (Nat.le_of_ble_eq_true rfl) zzm19 (Nat.le_of_ble_eq_true rfl) rfl ?_
          refine ih19 X705.1 (by omega) (by omega) (by omega) (by omega) (fun y713 M711 X712  => ?_)
          have X714 := X705.go X712 (z_sb (by decide))
          show z_ev (d710 + 1 + 5) 17 141 [some (.ref 5), some (.int p1), some (.int x657), some (.int x688), none] [.long y713] M711 _
          exact z_xrl zt17 62 rfl zzr17 (kk y713 M711 X714)
        refine z_xP zt12 8 19 [some (.ref 5), some (.int 40)] [.ref 5] rfl rfl ?_
        refine z_xgX (b := 6) zt12 9 rfl zo12 zzf1_9 X f5 (by decide) (by decide) rfl ?_
        refine z_xP zt12 10 23 [some (.ref 5), some (.int 40)] [.ref 5, .ref 6] rfl rfl ?_
        refine z_xgv zt12 11 rfl zo12 zzf1_29 X f5 (by decide) h17 ?_
        refine z_xil zt12 12 rfl X f6 (by decide) (by omega) (by omega) (fun (x716 : Int32) h717 (h718 : (-2147483648) ≤ x716.toInt) (h719 : x716.toInt ≤ 2147483647) => ?_)
        have h720 := congrArg Int32.toInt (h717.symm.trans h337)
        refine z_xP zt12 13 28 [some (.ref 5), some (.int 40)] [.int 40, .int x716] rfl rfl ?_
        refine z_xJ zt12 14 rfl rfl (fun (h721 : x716.toInt = 40) => ?_) (fun (h721 : x716.toInt ≠ 40) => ?_)
        · skip
          refine z_xP zt12 17 35 [some (.ref 5), some (.int 40)] [.ref 5, .ref 5] rfl rfl ?_
          refine z_xgv zt12 18 rfl zo12 zzf1_29 X f5 (by decide) h17 ?_
          refine z_xP zt12 19 39 [some (.ref 5), some (.int 40)] [.int 1, .int x18, .ref 5] rfl rfl ?_
          refine z_xI zt12 20 rfl rfl (fun (x722 : Int32) (h723 : x722.toInt = x18.toInt + 1) => ?_) (z_pAdd rfl rfl (by omega) (by omega))
          refine z_xpf zt12 21 rfl zo12 zzf1_29 X f5 (by decide) (by decide) ⟨by omega, by omega⟩ rfl (by decide) zw1_2 (fun M724 X725 e726 h727 => ?_)
          refine z_xP zt12 22 44 [some (.ref 5), some (.int 40)] [.int 1] rfl rfl ?_
          refine z_xrz zt12 23 rfl zzr12 (by decide) (by decide) ?_
          show z_ev (d + 5) 17 58 [some (.ref 5), some (.int p1), some (.int x657), none, none] [.int 1] M724 _
          refine z_xZ zt17 25 rfl rfl (fun (h728 : (1 : Int) = 0) => absurd h728 (by omega)) (fun (h728 : (1 : Int) ≠ 0) => ?_)
          refine z_xP zt17 26 64 [some (.ref 5), some (.int p1), some (.int x657), none, none] [.int 1, .int p1, .ref 5] rfl rfl ?_
          refine z_xI zt17 27 rfl rfl (fun (x729 : Int32) (h730 : x729.toInt = p1.toInt + 1) => ?_) (z_pAdd rfl rfl (by omega) (by omega))
          obtain ⟨d731, hdd731⟩ : ∃ e, d = e + 1 := ⟨d - 1, by omega⟩
          subst hdd731
          refine z_xcV (vs := [.ref 5, .int x729]) (r := []) (L2 := [some (.ref 5), some (.int x729), none, none, none, none, none]) zt17 28 rfl zo17 zzcV1_77 (Or.inl rfl) rfl X725 f5 rfl rfl rfl (Nat.le_of_ble_eq_true rfl) zzm15 (Nat.le_of_ble_eq_true rfl) rfl ?_
          refine ih15 X725.1 (by omega) (by omega) (by omega) (fun y734 M732 X733  => ?_)
          have X735 := X725.go X733 (z_sb (by decide))
          show z_ev (d731 + 1 + 5) 17 68 [some (.ref 5), some (.int p1), some (.int x657), none, none] [.long y734] M732 _
          refine z_xP zt17 29 72 [some (.ref 5), some (.int p1), some (.int x657), some (.long y734), none] [.int 41, .ref 5] rfl rfl ?_
          refine z_xcV (vs := [.ref 5, .int 41]) (r := []) (L2 := [some (.ref 5), some (.int 41)]) zt17 30 rfl zo17 zzcV1_56 (Or.inl rfl) rfl X735 f5 rfl rfl rfl (Nat.le_of_ble_eq_true rfl) zzm8 (Nat.le_of_ble_eq_true rfl) rfl ?_
          refine z_xP zt8 0 1 [some (.ref 5), some (.int 41)] [.ref 5] rfl rfl ?_
          refine z_xgI zt8 1 rfl zo8 zzf1_32 X735 f5 (by decide) (by decide) rfl (fun (x738 : Int32) h737 (h739 : (-2147483648) ≤ x738.toInt) (h740 : x738.toInt ≤ 2147483647) => ?_)
          refine z_xZ zt8 2 rfl rfl (fun (h741 : x738.toInt < 0) => ?_) (fun (h741 : 0 ≤ x738.toInt) => ?_)
          · skip
            refine z_xP zt8 4 9 [some (.ref 5), some (.int 41)] [.ref 5] rfl rfl ?_
            refine z_xgI zt8 5 rfl zo8 zzf1_29 X735 f5 (by decide) (by decide) rfl (fun (x743 : Int32) h742 (h744 : 0 ≤ x743.toInt) (h745 : x743.toInt ≤ 160) => ?_)
            refine z_xP zt8 6 13 [some (.ref 5), some (.int 41)] [.ref 5, .int x743] rfl rfl ?_
            have h746 := (X733.2.f f5 (by decide) (e726.f f5 (by decide) h21))
            refine z_xgv zt8 7 rfl zo8 zzf1_25 X735 f5 (by decide) h746 ?_
            refine z_xJ zt8 8 rfl rfl (fun (h747 : x22.toInt ≤ x743.toInt) => ?_) (fun (h747 : x743.toInt < x22.toInt) => ?_)
            · skip
              refine z_xP zt8 22 47 [some (.ref 5), some (.int 41)] [.ref 5, .ref 5] rfl rfl ?_
              refine z_xgv zt8 23 rfl zo8 zzf1_29 X735 f5 (by decide) h742 ?_
              refine z_xpf zt8 24 rfl zo8 zzf1_32 X735 f5 (by decide) (by decide) ⟨Int32.le_toInt _, Int32.toInt_le _⟩ rfl (by decide) zw1_3 (fun M748 X749 e750 h751 => ?_)
              refine z_xrv zt8 25 rfl zzr8 ?_
              show z_ev (d731 + 1 + 5) 17 75 [some (.ref 5), some (.int p1), some (.int x657), some (.long y734), none] [] M748 _
              refine z_xP zt17 31 76 [some (.ref 5), some (.int p1), some (.int x657), some (.long y734), none] [.long y734] rfl rfl ?_
              exact z_xrl zt17 32 rfl zzr17 (kk y734 M748 X749)
            refine z_xP zt8 9 20 [some (.ref 5), some (.int 41)] [.ref 5] rfl rfl ?_
            refine z_xgX (b := 6) zt8 10 rfl zo8 zzf1_9 X735 f5 (by decide) (by decide) rfl ?_
            refine z_xP zt8 11 24 [some (.ref 5), some (.int 41)] [.ref 5, .ref 6] rfl rfl ?_
            refine z_xgv zt8 12 rfl zo8 zzf1_29 X735 f5 (by decide) h742 ?_
            refine z_xil zt8 13 rfl X735 f6 (by decide) (by omega) (by omega) (fun (x752 : Int32) h753 (h754 : (-2147483648) ≤ x752.toInt) (h755 : x752.toInt ≤ 2147483647) => ?_)
            refine z_xP zt8 14 29 [some (.ref 5), some (.int 41)] [.int 41, .int x752] rfl rfl ?_
            refine z_xJ zt8 15 rfl rfl (fun (h756 : x752.toInt ≠ 41) => ?_) (fun (h756 : x752.toInt = 41) => ?_)
            · skip
              refine z_xP zt8 22 47 [some (.ref 5), some (.int 41)] [.ref 5, .ref 5] rfl rfl ?_
              refine z_xgv zt8 23 rfl zo8 zzf1_29 X735 f5 (by decide) h742 ?_
              refine z_xpf zt8 24 rfl zo8 zzf1_32 X735 f5 (by decide) (by decide) ⟨Int32.le_toInt _, Int32.toInt_le _⟩ rfl (by decide) zw1_3 (fun M757 X758 e759 h760 => ?_)
              refine z_xrv zt8 25 rfl zzr8 ?_
              show z_ev (d731 + 1 + 5) 17 75 [some (.ref 5), some (.int p1), some (.int x657), some (.long y734), none] [] M757 _
              refine z_xP zt17 31 76 [some (.ref 5), some (.int p1), some (.int x657), some (.long y734), none] [.long y734] rfl rfl ?_
              exact z_xrl zt17 32 rfl zzr17 (kk y734 M757 X758)
            refine z_xP zt8 16 34 [some (.ref 5), some (.int 41)] [.ref 5, .ref 5] rfl rfl ?_
            refine z_xgv zt8 17 rfl zo8 zzf1_29 X735 f5 (by decide) h742 ?_
            refine z_xP zt8 18 38 [some (.ref 5), some (.int 41)] [.int 1, .int x743, .ref 5] rfl rfl ?_
            refine z_xI zt8 19 rfl rfl (fun (x761 : Int32) (h762 : x761.toInt = x743.toInt + 1) => ?_) (z_pAdd rfl rfl (by omega) (by omega))
            refine z_xpf zt8 20 rfl zo8 zzf1_29 X735 f5 (by decide) (by decide) ⟨by omega, by omega⟩ rfl (by decide) zw1_2 (fun M763 X764 e765 h766 => ?_)
            refine z_xP zt8 21 53 [some (.ref 5), some (.int 41)] [] rfl rfl ?_
            refine z_xrv zt8 25 rfl zzr8 ?_
            show z_ev (d731 + 1 + 5) 17 75 [some (.ref 5), some (.int p1), some (.int x657), some (.long y734), none] [] M763 _
            refine z_xP zt17 31 76 [some (.ref 5), some (.int p1), some (.int x657), some (.long y734), none] [.long y734] rfl rfl ?_
            exact z_xrl zt17 32 rfl zzr17 (kk y734 M763 X764)
          refine z_xrv zt8 3 rfl zzr8 ?_
          show z_ev (d731 + 1 + 5) 17 75 [some (.ref 5), some (.int p1), some (.int x657), some (.long y734), none] [] M732 _
          refine z_xP zt17 31 76 [some (.ref 5), some (.int p1), some (.int x657), some (.long y734), none] [.long y734] rfl rfl ?_
          exact z_xrl zt17 32 rfl zzr17 (kk y734 M732 X735)
        refine z_xP zt12 15 32 [some (.ref 5), some (.int 40)] [.int 0] rfl rfl ?_
        refine z_xrz zt12 16 rfl zzr12 (by decide) (by decide) ?_
        show z_ev (d + 5) 17 58 [some (.ref 5), some (.int p1), some (.int x657), none, none] [.int 0] M0 _
        refine z_xZ zt17 25 rfl rfl (fun (h767 : (0 : Int) = 0) => ?_) (fun (h767 : (0 : Int) ≠ 0) => absurd h767 (by omega))
        refine z_xP zt17 33 78 [some (.ref 5), some (.int p1), some (.int x657), none, none] [.ref 5] rfl rfl ?_
        refine z_xgv zt17 34 rfl zo17 zzf1_32 X f5 (by decide) h1 ?_
        refine z_xZ zt17 35 rfl rfl (fun (h768 : 0 ≤ x2.toInt) => absurd h768 (by omega)) (fun (h768 : x2.toInt < 0) => ?_)
        refine z_xP zt17 36 85 [some (.ref 5), some (.int p1), some (.int x657), none, none] [.ref 5] rfl rfl ?_
        refine z_xgv zt17 37 rfl zo17 zzf1_29 X f5 (by decide) h17 ?_
        refine z_xP zt17 38 89 [some (.ref 5), some (.int p1), some (.int x657), none, none] [.ref 5, .int x18] rfl rfl ?_
        refine z_xgv zt17 39 rfl zo17 zzf1_25 X f5 (by decide) h21 ?_
        refine z_xJ zt17 40 rfl rfl (fun (h769 : x22.toInt ≤ x18.toInt) => ?_) (fun (h769 : x18.toInt < x22.toInt) => ?_)
        · skip
          refine z_xP zt17 49 111 [some (.ref 5), some (.int p1), some (.int x657), none, none] [.int 0] rfl rfl ?_
          refine z_xP zt17 50 114 [some (.ref 5), some (.int p1), some (.int x657), some (.int 0), none] [.int 1, .int 0] rfl rfl ?_
          refine z_xJ zt17 51 rfl rfl (fun (h770 : (0 : Int) < 1) => ?_) (fun (h770 : 1 ≤ (0 : Int)) => absurd h770 (by omega))
          refine z_xP zt17 63 143 [some (.ref 5), some (.int p1), some (.int x657), some (.int 0), none] [.ref 5] rfl rfl ?_
          refine z_xcV (vs := [.ref 5]) (r := []) (L2 := [some (.ref 5)]) zt17 64 rfl zo17 zzcV1_66 (Or.inl rfl) rfl X f5 rfl rfl rfl (Nat.le_of_ble_eq_true rfl) zzm10 (Nat.le_of_ble_eq_true rfl) rfl ?_
          refine z_xP zt10 0 1 [some (.ref 5)] [.ref 5] rfl rfl ?_
          refine z_xgv zt10 1 rfl zo10 zzf1_32 X f5 (by decide) h1 ?_
          refine z_xZ zt10 2 rfl rfl (fun (h771 : 0 ≤ x2.toInt) => absurd h771 (by omega)) (fun (h771 : x2.toInt < 0) => ?_)
          refine z_xP zt10 3 9 [some (.ref 5)] [.ref 5, .ref 5] rfl rfl ?_
          refine z_xgv zt10 4 rfl zo10 zzf1_29 X f5 (by decide) h17 ?_
          refine z_xpf zt10 5 rfl zo10 zzf1_32 X f5 (by decide) (by decide) ⟨Int32.le_toInt _, Int32.toInt_le _⟩ rfl (by decide) zw1_3 (fun M772 X773 e774 h775 => ?_)
          refine z_xrv zt10 6 rfl zzr10 ?_
          show z_ev (d + 5) 17 146 [some (.ref 5), some (.int p1), some (.int x657), some (.int 0), none] [] M772 _
          refine z_xP zt17 65 147 [some (.ref 5), some (.int p1), some (.int x657), some (.int 0), none] [.long 0] rfl rfl ?_
          have q0 : ((0 : Int64)).toInt = 0 := rfl
          exact z_xrl zt17 66 rfl zzr17 (kk 0 M772 X773)
        refine z_xP zt17 41 96 [some (.ref 5), some (.int p1), some (.int x657), none, none] [.ref 5] rfl rfl ?_
        refine z_xgX (b := 6) zt17 42 rfl zo17 zzf1_9 X f5 (by decide) (by decide) rfl ?_
        refine z_xP zt17 43 100 [some (.ref 5), some (.int p1), some (.int x657), none, none] [.ref 5, .ref 6] rfl rfl ?_
        refine z_xgv zt17 44 rfl zo17 zzf1_29 X f5 (by decide) h17 ?_
        refine z_xil zt17 45 rfl X f6 (by decide) (by omega) (by omega) (fun (x776 : Int32) h777 (h778 : (-2147483648) ≤ x776.toInt) (h779 : x776.toInt ≤ 2147483647) => ?_)
        have h780 := congrArg Int32.toInt (h777.symm.trans h337)
        refine z_xP zt17 46 106 [some (.ref 5), some (.int p1), some (.int x657), none, none] [.int 48, .int x776] rfl rfl ?_
        have h781 := z_b32 x776
        refine z_xI zt17 47 rfl rfl (P := fun _ => True) (fun (x782 : Int32) _ => ?_) trivial
        refine z_xP zt17 48 111 [some (.ref 5), some (.int p1), some (.int x657), none, none] [.int x782] rfl rfl ?_
        refine z_xP zt17 50 114 [some (.ref 5), some (.int p1), some (.int x657), some (.int x782), none] [.int 1, .int x782] rfl rfl ?_
        refine z_xJ zt17 51 rfl rfl (fun (h784 : x782.toInt < 1) => ?_) (fun (h784 : 1 ≤ x782.toInt) => ?_)
        · skip
          refine z_xP zt17 63 143 [some (.ref 5), some (.int p1), some (.int x657), some (.int x782), none] [.ref 5] rfl rfl ?_
          refine z_xcV (vs := [.ref 5]) (r := []) (L2 := [some (.ref 5)]) zt17 64 rfl zo17 zzcV1_66 (Or.inl rfl) rfl X f5 rfl rfl rfl (Nat.le_of_ble_eq_true rfl) zzm10 (Nat.le_of_ble_eq_true rfl) rfl ?_
          refine z_xP zt10 0 1 [some (.ref 5)] [.ref 5] rfl rfl ?_
          refine z_xgv zt10 1 rfl zo10 zzf1_32 X f5 (by decide) h1 ?_
          refine z_xZ zt10 2 rfl rfl (fun (h785 : 0 ≤ x2.toInt) => absurd h785 (by omega)) (fun (h785 : x2.toInt < 0) => ?_)
          refine z_xP zt10 3 9 [some (.ref 5)] [.ref 5, .ref 5] rfl rfl ?_
          refine z_xgv zt10 4 rfl zo10 zzf1_29 X f5 (by decide) h17 ?_
          refine z_xpf zt10 5 rfl zo10 zzf1_32 X f5 (by decide) (by decide) ⟨Int32.le_toInt _, Int32.toInt_le _⟩ rfl (by decide) zw1_3 (fun M786 X787 e788 h789 => ?_)
          refine z_xrv zt10 6 rfl zzr10 ?_
          show z_ev (d + 5) 17 146 [some (.ref 5), some (.int p1), some (.int x657), some (.int x782), none] [] M786 _
          refine z_xP zt17 65 147 [some (.ref 5), some (.int p1), some (.int x657), some (.int x782), none] [.long 0] rfl rfl ?_
          have q0 : ((0 : Int64)).toInt = 0 := rfl
          exact z_xrl zt17 66 rfl zzr17 (kk 0 M786 X787)
        refine z_xP zt17 52 120 [some (.ref 5), some (.int p1), some (.int x657), some (.int x782), none] [.int 9, .int x782] rfl rfl ?_
        refine z_xJ zt17 53 rfl rfl (fun (h790 : 9 < x782.toInt) => ?_) (fun (h790 : x782.toInt ≤ 9) => ?_)
        · skip
          refine z_xP zt17 63 143 [some (.ref 5), some (.int p1), some (.int x657), some (.int x782), none] [.ref 5] rfl rfl ?_
          refine z_xcV (vs := [.ref 5]) (r := []) (L2 := [some (.ref 5)]) zt17 64 rfl zo17 zzcV1_66 (Or.inl rfl) rfl X f5 rfl rfl rfl (Nat.le_of_ble_eq_true rfl) zzm10 (Nat.le_of_ble_eq_true rfl) rfl ?_
          refine z_xP zt10 0 1 [some (.ref 5)] [.ref 5] rfl rfl ?_
          refine z_xgv zt10 1 rfl zo10 zzf1_32 X f5 (by decide) h1 ?_
          refine z_xZ zt10 2 rfl rfl (fun (h791 : 0 ≤ x2.toInt) => absurd h791 (by omega)) (fun (h791 : x2.toInt < 0) => ?_)
          refine z_xP zt10 3 9 [some (.ref 5)] [.ref 5, .ref 5] rfl rfl ?_
          refine z_xgv zt10 4 rfl zo10 zzf1_29 X f5 (by decide) h17 ?_
          refine z_xpf zt10 5 rfl zo10 zzf1_32 X f5 (by decide) (by decide) ⟨Int32.le_toInt _, Int32.toInt_le _⟩ rfl (by decide) zw1_3 (fun M792 X793 e794 h795 => ?_)
          refine z_xrv zt10 6 rfl zzr10 ?_
          show z_ev (d + 5) 17 146 [some (.ref 5), some (.int p1), some (.int x657), some (.int x782), none] [] M792 _
          refine z_xP zt17 65 147 [some (.ref 5), some (.int p1), some (.int x657), some (.int x782), none] [.long 0] rfl rfl ?_
          have q0 : ((0 : Int64)).toInt = 0 := rfl
          exact z_xrl zt17 66 rfl zzr17 (kk 0 M792 X793)
        refine z_xP zt17 54 125 [some (.ref 5), some (.int p1), some (.int x657), some (.int x782), none] [.ref 5, .ref 5] rfl rfl ?_
        refine z_xgv zt17 55 rfl zo17 zzf1_29 X f5 (by decide) h17 ?_
        refine z_xP zt17 56 129 [some (.ref 5), some (.int p1), some (.int x657), some (.int x782), none] [.int 1, .int x18, .ref 5] rfl rfl ?_
        refine z_xI zt17 57 rfl rfl (fun (x796 : Int32) (h797 : x796.toInt = x18.toInt + 1) => ?_) (z_pAdd rfl rfl (by omega) (by omega))
        refine z_xpf zt17 58 rfl zo17 zzf1_29 X f5 (by decide) (by decide) ⟨by omega, by omega⟩ rfl (by decide) zw1_2 (fun M798 X799 e800 h801 => ?_)
        refine z_xP zt17 59 137 [some (.ref 5), some (.int p1), some (.int x657), some (.int x782), none] [.int 1, .int p1, .int x782, .ref 5] rfl rfl ?_
        refine z_xI zt17 60 rfl rfl (fun (x802 : Int32) (h803 : x802.toInt = p1.toInt + 1) => ?_) (z_pAdd rfl rfl (by omega) (by omega))
        obtain ⟨d804, hdd804⟩ : ∃ e, d = e + 1 := ⟨d - 1, by omega⟩
        subst hdd804
        refine z_xcV (vs := [.ref 5, .int x782, .int x802]) (r := []) (L2 := [some (.ref 5), some (.int x782), some (.int x802), none, none, none, none, none]) zt17 61 rfl zo17 zzcV1_95 (Or.inl rfl) rfl X799 f5 rfl rfl rfl (Nat.le_of_ble_eq_true rfl) zzm19 (Nat.le_of_ble_eq_true rfl) rfl ?_
        refine ih19 X799.1 (by omega) (by omega) (by omega) (by omega) (fun y807 M805 X806  => ?_)
        have X808 := X799.go X806 (z_sb (by decide))
        show z_ev (d804 + 1 + 5) 17 141 [some (.ref 5), some (.int p1), some (.int x657), some (.int x782), none] [.long y807] M805 _
        exact z_xrl zt17 62 rfl zzr17 (kk y807 M805 X808)
      refine z_xP zt12 8 19 [some (.ref 5), some (.int 33)] [.ref 5] rfl rfl ?_
      refine z_xgX (b := 6) zt12 9 rfl zo12 zzf1_9 X f5 (by decide) (by decide) rfl ?_
      refine z_xP zt12 10 23 [some (.ref 5), some (.int 33)] [.ref 5, .ref 6] rfl rfl ?_
      refine z_xgv zt12 11 rfl zo12 zzf1_29 X f5 (by decide) h17 ?_
      refine z_xil zt12 12 rfl X f6 (by decide) (by omega) (by omega) (fun (x810 : Int32) h811 (h812 : (-2147483648) ≤ x810.toInt) (h813 : x810.toInt ≤ 2147483647) => ?_)
      have h814 := congrArg Int32.toInt (h811.symm.trans h337)
      refine z_xP zt12 13 28 [some (.ref 5), some (.int 33)] [.int 33, .int x810] rfl rfl ?_
      refine z_xJ zt12 14 rfl rfl (fun (h815 : x810.toInt = 33) => ?_) (fun (h815 : x810.toInt ≠ 33) => ?_)
      · skip
        refine z_xP zt12 17 35 [some (.ref 5), some (.int 33)] [.ref 5, .ref 5] rfl rfl ?_
        refine z_xgv zt12 18 rfl zo12 zzf1_29 X f5 (by decide) h17 ?_
        refine z_xP zt12 19 39 [some (.ref 5), some (.int 33)] [.int 1, .int x18, .ref 5] rfl rfl ?_
        refine z_xI zt12 20 rfl rfl (fun (x816 : Int32) (h817 : x816.toInt = x18.toInt + 1) => ?_) (z_pAdd rfl rfl (by omega) (by omega))
        refine z_xpf zt12 21 rfl zo12 zzf1_29 X f5 (by decide) (by decide) ⟨by omega, by omega⟩ rfl (by decide) zw1_2 (fun M818 X819 e820 h821 => ?_)
        refine z_xP zt12 22 44 [some (.ref 5), some (.int 33)] [.int 1] rfl rfl ?_
        refine z_xrz zt12 23 rfl zzr12 (by decide) (by decide) ?_
        show z_ev (d + 5) 17 37 [some (.ref 5), some (.int p1), some (.int x657), none, none] [.int 1] M818 _
        refine z_xZ zt17 16 rfl rfl (fun (h822 : (1 : Int) = 0) => absurd h822 (by omega)) (fun (h822 : (1 : Int) ≠ 0) => ?_)
        refine z_xP zt17 17 43 [some (.ref 5), some (.int p1), some (.int x657), none, none] [.int 1, .int p1, .ref 5] rfl rfl ?_
        refine z_xI zt17 18 rfl rfl (fun (x823 : Int32) (h824 : x823.toInt = p1.toInt + 1) => ?_) (z_pAdd rfl rfl (by omega) (by omega))
        obtain ⟨d825, hdd825⟩ : ∃ e, d = e + 1 := ⟨d - 1, by omega⟩
        subst hdd825
        refine z_xcV (vs := [.ref 5, .int x823]) (r := []) (L2 := [some (.ref 5), some (.int x823), none, none, none]) zt17 19 rfl zo17 zzcV1_89 (Or.inl rfl) rfl X819 f5 rfl rfl rfl (Nat.le_of_ble_eq_true rfl) zzm17 (Nat.le_of_ble_eq_true rfl) rfl ?_
        refine ih17 X819.1 (by omega) (by omega) (by omega) (fun y828 M826 X827  => ?_)
        have X829 := X819.go X827 (z_sb (by decide))
        show z_ev (d825 + 1 + 5) 17 47 [some (.ref 5), some (.int p1), some (.int x657), none, none] [.long y828] M826 _
        refine z_xl2 zt17 20 rfl zo17 zkl1_84 ?_
        refine z_xL zt17 21 rfl rfl (P := fun _ => True) (fun (y831 : Int64) _ => ?_) trivial
        exact z_xrl zt17 22 rfl zzr17 (kk y831 M826 X829)
      refine z_xP zt12 15 32 [some (.ref 5), some (.int 33)] [.int 0] rfl rfl ?_
      refine z_xrz zt12 16 rfl zzr12 (by decide) (by decide) ?_
      show z_ev (d + 5) 17 37 [some (.ref 5), some (.int p1), some (.int x657), none, none] [.int 0] M0 _
      refine z_xZ zt17 16 rfl rfl (fun (h833 : (0 : Int) = 0) => ?_) (fun (h833 : (0 : Int) ≠ 0) => absurd h833 (by omega))
      refine z_xP zt17 23 55 [some (.ref 5), some (.int p1), some (.int x657), none, none] [.int 40, .ref 5] rfl rfl ?_
      refine z_xcV (vs := [.ref 5, .int 40]) (r := []) (L2 := [some (.ref 5), some (.int 40)]) zt17 24 rfl zo17 zzcV1_69 (Or.inl rfl) rfl X f5 rfl rfl rfl (Nat.le_of_ble_eq_true rfl) zzm12 (Nat.le_of_ble_eq_true rfl) rfl ?_
      refine z_xP zt12 0 1 [some (.ref 5), some (.int 40)] [.ref 5] rfl rfl ?_
      refine z_xgv zt12 1 rfl zo12 zzf1_32 X f5 (by decide) h1 ?_
      refine z_xZ zt12 2 rfl rfl (fun (h834 : 0 ≤ x2.toInt) => absurd h834 (by omega)) (fun (h834 : x2.toInt < 0) => ?_)
      refine z_xP zt12 3 8 [some (.ref 5), some (.int 40)] [.ref 5] rfl rfl ?_
      refine z_xgv zt12 4 rfl zo12 zzf1_29 X f5 (by decide) h17 ?_
      refine z_xP zt12 5 12 [some (.ref 5), some (.int 40)] [.ref 5, .int x18] rfl rfl ?_
      refine z_xgv zt12 6 rfl zo12 zzf1_25 X f5 (by decide) h21 ?_
      refine z_xJ zt12 7 rfl rfl (fun (h835 : x22.toInt ≤ x18.toInt) => ?_) (fun (h835 : x18.toInt < x22.toInt) => ?_)
      · skip
        refine z_xP zt12 15 32 [some (.ref 5), some (.int 40)] [.int 0] rfl rfl ?_
        refine z_xrz zt12 16 rfl zzr12 (by decide) (by decide) ?_
        show z_ev (d + 5) 17 58 [some (.ref 5), some (.int p1), some (.int x657), none, none] [.int 0] M0 _
        refine z_xZ zt17 25 rfl rfl (fun (h836 : (0 : Int) = 0) => ?_) (fun (h836 : (0 : Int) ≠ 0) => absurd h836 (by omega))
        refine z_xP zt17 33 78 [some (.ref 5), some (.int p1), some (.int x657), none, none] [.ref 5] rfl rfl ?_
        refine z_xgv zt17 34 rfl zo17 zzf1_32 X f5 (by decide) h1 ?_
        refine z_xZ zt17 35 rfl rfl (fun (h837 : 0 ≤ x2.toInt) => absurd h837 (by omega)) (fun (h837 : x2.toInt < 0) => ?_)
        refine z_xP zt17 36 85 [some (.ref 5), some (.int p1), some (.int x657), none, none] [.ref 5] rfl rfl ?_
        refine z_xgv zt17 37 rfl zo17 zzf1_29 X f5 (by decide) h17 ?_
        refine z_xP zt17 38 89 [some (.ref 5), some (.int p1), some (.int x657), none, none] [.ref 5, .int x18] rfl rfl ?_
        refine z_xgv zt17 39 rfl zo17 zzf1_25 X f5 (by decide) h21 ?_
        refine z_xJ zt17 40 rfl rfl (fun (h838 : x22.toInt ≤ x18.toInt) => ?_) (fun (h838 : x18.toInt < x22.toInt) => ?_)
        · skip
          refine z_xP zt17 49 111 [some (.ref 5), some (.int p1), some (.int x657), none, none] [.int 0] rfl rfl ?_
          refine z_xP zt17 50 114 [some (.ref 5), some (.int p1), some (.int x657), some (.int 0), none] [.int 1, .int 0] rfl rfl ?_
          refine z_xJ zt17 51 rfl rfl (fun (h839 : (0 : Int) < 1) => ?_) (fun (h839 : 1 ≤ (0 : Int)) => absurd h839 (by omega))
          refine z_xP zt17 63 143 [some (.ref 5), some (.int p1), some (.int x657), some (.int 0), none] [.ref 5] rfl rfl ?_
          refine z_xcV (vs := [.ref 5]) (r := []) (L2 := [some (.ref 5)]) zt17 64 rfl zo17 zzcV1_66 (Or.inl rfl) rfl X f5 rfl rfl rfl (Nat.le_of_ble_eq_true rfl) zzm10 (Nat.le_of_ble_eq_true rfl) rfl ?_
          refine z_xP zt10 0 1 [some (.ref 5)] [.ref 5] rfl rfl ?_
          refine z_xgv zt10 1 rfl zo10 zzf1_32 X f5 (by decide) h1 ?_
          refine z_xZ zt10 2 rfl rfl (fun (h840 : 0 ≤ x2.toInt) => absurd h840 (by omega)) (fun (h840 : x2.toInt < 0) => ?_)
          refine z_xP zt10 3 9 [some (.ref 5)] [.ref 5, .ref 5] rfl rfl ?_
          refine z_xgv zt10 4 rfl zo10 zzf1_29 X f5 (by decide) h17 ?_
          refine z_xpf zt10 5 rfl zo10 zzf1_32 X f5 (by decide) (by decide) ⟨Int32.le_toInt _, Int32.toInt_le _⟩ rfl (by decide) zw1_3 (fun M841 X842 e843 h844 => ?_)
          refine z_xrv zt10 6 rfl zzr10 ?_
          show z_ev (d + 5) 17 146 [some (.ref 5), some (.int p1), some (.int x657), some (.int 0), none] [] M841 _
          refine z_xP zt17 65 147 [some (.ref 5), some (.int p1), some (.int x657), some (.int 0), none] [.long 0] rfl rfl ?_
          have q0 : ((0 : Int64)).toInt = 0 := rfl
          exact z_xrl zt17 66 rfl zzr17 (kk 0 M841 X842)
        refine z_xP zt17 41 96 [some (.ref 5), some (.int p1), some (.int x657), none, none] [.ref 5] rfl rfl ?_
        refine z_xgX (b := 6) zt17 42 rfl zo17 zzf1_9 X f5 (by decide) (by decide) rfl ?_
        refine z_xP zt17 43 100 [some (.ref 5), some (.int p1), some (.int x657), none, none] [.ref 5, .ref 6] rfl rfl ?_
        refine z_xgv zt17 44 rfl zo17 zzf1_29 X f5 (by decide) h17 ?_
        refine z_xil zt17 45 rfl X f6 (by decide) (by omega) (by omega) (fun (x845 : Int32) h846 (h847 : (-2147483648) ≤ x845.toInt) (h848 : x845.toInt ≤ 2147483647) => ?_)
        have h849 := congrArg Int32.toInt (h846.symm.trans h337)
        refine z_xP zt17 46 106 [some (.ref 5), some (.int p1), some (.int x657), none, none] [.int 48, .int x845] rfl rfl ?_
        have h850 := z_b32 x845
        refine z_xI zt17 47 rfl rfl (P := fun _ => True) (fun (x851 : Int32) _ => ?_) trivial
        refine z_xP zt17 48 111 [some (.ref 5), some (.int p1), some (.int x657), none, none] [.int x851] rfl rfl ?_
        refine z_xP zt17 50 114 [some (.ref 5), some (.int p1), some (.int x657), some (.int x851), none] [.int 1, .int x851] rfl rfl ?_
        refine z_xJ zt17 51 rfl rfl (fun (h853 : x851.toInt < 1) => ?_) (fun (h853 : 1 ≤ x851.toInt) => ?_)
        · skip
          refine z_xP zt17 63 143 [some (.ref 5), some (.int p1), some (.int x657), some (.int x851), none] [.ref 5] rfl rfl ?_
          refine z_xcV (vs := [.ref 5]) (r := []) (L2 := [some (.ref 5)]) zt17 64 rfl zo17 zzcV1_66 (Or.inl rfl) rfl X f5 rfl rfl rfl (Nat.le_of_ble_eq_true rfl) zzm10 (Nat.le_of_ble_eq_true rfl) rfl ?_
          refine z_xP zt10 0 1 [some (.ref 5)] [.ref 5] rfl rfl ?_
          refine z_xgv zt10 1 rfl zo10 zzf1_32 X f5 (by decide) h1 ?_
          refine z_xZ zt10 2 rfl rfl (fun (h854 : 0 ≤ x2.toInt) => absurd h854 (by omega)) (fun (h854 : x2.toInt < 0) => ?_)
          refine z_xP zt10 3 9 [some (.ref 5)] [.ref 5, .ref 5] rfl rfl ?_
          refine z_xgv zt10 4 rfl zo10 zzf1_29 X f5 (by decide) h17 ?_
          refine z_xpf zt10 5 rfl zo10 zzf1_32 X f5 (by decide) (by decide) ⟨Int32.le_toInt _, Int32.toInt_le _⟩ rfl (by decide) zw1_3 (fun M855 X856 e857 h858 => ?_)
          refine z_xrv zt10 6 rfl zzr10 ?_
          show z_ev (d + 5) 17 146 [some (.ref 5), some (.int p1), some (.int x657), some (.int x851), none] [] M855 _
          refine z_xP zt17 65 147 [some (.ref 5), some (.int p1), some (.int x657), some (.int x851), none] [.long 0] rfl rfl ?_
          have q0 : ((0 : Int64)).toInt = 0 := rfl
          exact z_xrl zt17 66 rfl zzr17 (kk 0 M855 X856)
        refine z_xP zt17 52 120 [some (.ref 5), some (.int p1), some (.int x657), some (.int x851), none] [.int 9, .int x851] rfl rfl ?_
        refine z_xJ zt17 53 rfl rfl (fun (h859 : 9 < x851.toInt) => ?_) (fun (h859 : x851.toInt ≤ 9) => ?_)
        · skip
          refine z_xP zt17 63 143 [some (.ref 5), some (.int p1), some (.int x657), some (.int x851), none] [.ref 5] rfl rfl ?_
          refine z_xcV (vs := [.ref 5]) (r := []) (L2 := [some (.ref 5)]) zt17 64 rfl zo17 zzcV1_66 (Or.inl rfl) rfl X f5 rfl rfl rfl (Nat.le_of_ble_eq_true rfl) zzm10 (Nat.le_of_ble_eq_true rfl) rfl ?_
          refine z_xP zt10 0 1 [some (.ref 5)] [.ref 5] rfl rfl ?_
          refine z_xgv zt10 1 rfl zo10 zzf1_32 X f5 (by decide) h1 ?_
          refine z_xZ zt10 2 rfl rfl (fun (h860 : 0 ≤ x2.toInt) => absurd h860 (by omega)) (fun (h860 : x2.toInt < 0) => ?_)
          refine z_xP zt10 3 9 [some (.ref 5)] [.ref 5, .ref 5] rfl rfl ?_
          refine z_xgv zt10 4 rfl zo10 zzf1_29 X f5 (by decide) h17 ?_
          refine z_xpf zt10 5 rfl zo10 zzf1_32 X f5 (by decide) (by decide) ⟨Int32.le_toInt _, Int32.toInt_le _⟩ rfl (by decide) zw1_3 (fun M861 X862 e863 h864 => ?_)
          refine z_xrv zt10 6 rfl zzr10 ?_
          show z_ev (d + 5) 17 146 [some (.ref 5), some (.int p1), some (.int x657), some (.int x851), none] [] M861 _
          refine z_xP zt17 65 147 [some (.ref 5), some (.int p1), some (.int x657), some (.int x851), none] [.long 0] rfl rfl ?_
          have q0 : ((0 : Int64)).toInt = 0 := rfl
          exact z_xrl zt17 66 rfl zzr17 (kk 0 M861 X862)
        refine z_xP zt17 54 125 [some (.ref 5), some (.int p1), some (.int x657), some (.int x851), none] [.ref 5, .ref 5] rfl rfl ?_
        refine z_xgv zt17 55 rfl zo17 zzf1_29 X f5 (by decide) h17 ?_
        refine z_xP zt17 56 129 [some (.ref 5), some (.int p1), some (.int x657), some (.int x851), none] [.int 1, .int x18, .ref 5] rfl rfl ?_
        refine z_xI zt17 57 rfl rfl (fun (x865 : Int32) (h866 : x865.toInt = x18.toInt + 1) => ?_) (z_pAdd rfl rfl (by omega) (by omega))
        refine z_xpf zt17 58 rfl zo17 zzf1_29 X f5 (by decide) (by decide) ⟨by omega, by omega⟩ rfl (by decide) zw1_2 (fun M867 X868 e869 h870 => ?_)
        refine z_xP zt17 59 137 [some (.ref 5), some (.int p1), some (.int x657), some (.int x851), none] [.int 1, .int p1, .int x851, .ref 5] rfl rfl ?_
        refine z_xI zt17 60 rfl rfl (fun (x871 : Int32) (h872 : x871.toInt = p1.toInt + 1) => ?_) (z_pAdd rfl rfl (by omega) (by omega))
        obtain ⟨d873, hdd873⟩ : ∃ e, d = e + 1 := ⟨d - 1, by omega⟩
        subst hdd873
        refine z_xcV (vs := [.ref 5, .int x851, .int x871]) (r := []) (L2 := [some (.ref 5), some (.int x851), some (.int x871), none, none, none, none, none]) zt17 61 rfl zo17 zzcV1_95 (Or.inl rfl) rfl X868 f5 rfl rfl rfl (Nat.le_of_ble_eq_true rfl) zzm19 (Nat.le_of_ble_eq_true rfl) rfl ?_
        refine ih19 X868.1 (by omega) (by omega) (by omega) (by omega) (fun y876 M874 X875  => ?_)
        have X877 := X868.go X875 (z_sb (by decide))
        show z_ev (d873 + 1 + 5) 17 141 [some (.ref 5), some (.int p1), some (.int x657), some (.int x851), none] [.long y876] M874 _
        exact z_xrl zt17 62 rfl zzr17 (kk y876 M874 X877)
      refine z_xP zt12 8 19 [some (.ref 5), some (.int 40)] [.ref 5] rfl rfl ?_
      refine z_xgX (b := 6) zt12 9 rfl zo12 zzf1_9 X f5 (by decide) (by decide) rfl ?_
      refine z_xP zt12 10 23 [some (.ref 5), some (.int 40)] [.ref 5, .ref 6] rfl rfl ?_
      refine z_xgv zt12 11 rfl zo12 zzf1_29 X f5 (by decide) h17 ?_
      refine z_xil zt12 12 rfl X f6 (by decide) (by omega) (by omega) (fun (x879 : Int32) h880 (h881 : (-2147483648) ≤ x879.toInt) (h882 : x879.toInt ≤ 2147483647) => ?_)
      have h883 := congrArg Int32.toInt (h880.symm.trans h337)
      refine z_xP zt12 13 28 [some (.ref 5), some (.int 40)] [.int 40, .int x879] rfl rfl ?_
      refine z_xJ zt12 14 rfl rfl (fun (h884 : x879.toInt = 40) => ?_) (fun (h884 : x879.toInt ≠ 40) => ?_)
      · skip
        refine z_xP zt12 17 35 [some (.ref 5), some (.int 40)] [.ref 5, .ref 5] rfl rfl ?_
        refine z_xgv zt12 18 rfl zo12 zzf1_29 X f5 (by decide) h17 ?_
        refine z_xP zt12 19 39 [some (.ref 5), some (.int 40)] [.int 1, .int x18, .ref 5] rfl rfl ?_
        refine z_xI zt12 20 rfl rfl (fun (x885 : Int32) (h886 : x885.toInt = x18.toInt + 1) => ?_) (z_pAdd rfl rfl (by omega) (by omega))
        refine z_xpf zt12 21 rfl zo12 zzf1_29 X f5 (by decide) (by decide) ⟨by omega, by omega⟩ rfl (by decide) zw1_2 (fun M887 X888 e889 h890 => ?_)
        refine z_xP zt12 22 44 [some (.ref 5), some (.int 40)] [.int 1] rfl rfl ?_
        refine z_xrz zt12 23 rfl zzr12 (by decide) (by decide) ?_
        show z_ev (d + 5) 17 58 [some (.ref 5), some (.int p1), some (.int x657), none, none] [.int 1] M887 _
        refine z_xZ zt17 25 rfl rfl (fun (h891 : (1 : Int) = 0) => absurd h891 (by omega)) (fun (h891 : (1 : Int) ≠ 0) => ?_)
        refine z_xP zt17 26 64 [some (.ref 5), some (.int p1), some (.int x657), none, none] [.int 1, .int p1, .ref 5] rfl rfl ?_
        refine z_xI zt17 27 rfl rfl (fun (x892 : Int32) (h893 : x892.toInt = p1.toInt + 1) => ?_) (z_pAdd rfl rfl (by omega) (by omega))
        obtain ⟨d894, hdd894⟩ : ∃ e, d = e + 1 := ⟨d - 1, by omega⟩
        subst hdd894
        refine z_xcV (vs := [.ref 5, .int x892]) (r := []) (L2 := [some (.ref 5), some (.int x892), none, none, none, none, none]) zt17 28 rfl zo17 zzcV1_77 (Or.inl rfl) rfl X888 f5 rfl rfl rfl (Nat.le_of_ble_eq_true rfl) zzm15 (Nat.le_of_ble_eq_true rfl) rfl ?_
        refine ih15 X888.1 (by omega) (by omega) (by omega) (fun y897 M895 X896  => ?_)
        have X898 := X888.go X896 (z_sb (by decide))
        show z_ev (d894 + 1 + 5) 17 68 [some (.ref 5), some (.int p1), some (.int x657), none, none] [.long y897] M895 _
        refine z_xP zt17 29 72 [some (.ref 5), some (.int p1), some (.int x657), some (.long y897), none] [.int 41, .ref 5] rfl rfl ?_
        refine z_xcV (vs := [.ref 5, .int 41]) (r := []) (L2 := [some (.ref 5), some (.int 41)]) zt17 30 rfl zo17 zzcV1_56 (Or.inl rfl) rfl X898 f5 rfl rfl rfl (Nat.le_of_ble_eq_true rfl) zzm8 (Nat.le_of_ble_eq_true rfl) rfl ?_
        refine z_xP zt8 0 1 [some (.ref 5), some (.int 41)] [.ref 5] rfl rfl ?_
        refine z_xgI zt8 1 rfl zo8 zzf1_32 X898 f5 (by decide) (by decide) rfl (fun (x901 : Int32) h900 (h902 : (-2147483648) ≤ x901.toInt) (h903 : x901.toInt ≤ 2147483647) => ?_)
        refine z_xZ zt8 2 rfl rfl (fun (h904 : x901.toInt < 0) => ?_) (fun (h904 : 0 ≤ x901.toInt) => ?_)
        · skip
          refine z_xP zt8 4 9 [some (.ref 5), some (.int 41)] [.ref 5] rfl rfl ?_
          refine z_xgI zt8 5 rfl zo8 zzf1_29 X898 f5 (by decide) (by decide) rfl (fun (x906 : Int32) h905 (h907 : 0 ≤ x906.toInt) (h908 : x906.toInt ≤ 160) => ?_)
          refine z_xP zt8 6 13 [some (.ref 5), some (.int 41)] [.ref 5, .int x906] rfl rfl ?_
          have h909 := (X896.2.f f5 (by decide) (e889.f f5 (by decide) h21))
          refine z_xgv zt8 7 rfl zo8 zzf1_25 X898 f5 (by decide) h909 ?_
          refine z_xJ zt8 8 rfl rfl (fun (h910 : x22.toInt ≤ x906.toInt) => ?_) (fun (h910 : x906.toInt < x22.toInt) => ?_)
          · skip
            refine z_xP zt8 22 47 [some (.ref 5), some (.int 41)] [.ref 5, .ref 5] rfl rfl ?_
            refine z_xgv zt8 23 rfl zo8 zzf1_29 X898 f5 (by decide) h905 ?_
            refine z_xpf zt8 24 rfl zo8 zzf1_32 X898 f5 (by decide) (by decide) ⟨Int32.le_toInt _, Int32.toInt_le _⟩ rfl (by decide) zw1_3 (fun M911 X912 e913 h914 => ?_)
            refine z_xrv zt8 25 rfl zzr8 ?_
            show z_ev (d894 + 1 + 5) 17 75 [some (.ref 5), some (.int p1), some (.int x657), some (.long y897), none] [] M911 _
            refine z_xP zt17 31 76 [some (.ref 5), some (.int p1), some (.int x657), some (.long y897), none] [.long y897] rfl rfl ?_
            exact z_xrl zt17 32 rfl zzr17 (kk y897 M911 X912)
          refine z_xP zt8 9 20 [some (.ref 5), some (.int 41)] [.ref 5] rfl rfl ?_
          refine z_xgX (b := 6) zt8 10 rfl zo8 zzf1_9 X898 f5 (by decide) (by decide) rfl ?_
          refine z_xP zt8 11 24 [some (.ref 5), some (.int 41)] [.ref 5, .ref 6] rfl rfl ?_
          refine z_xgv zt8 12 rfl zo8 zzf1_29 X898 f5 (by decide) h905 ?_
          refine z_xil zt8 13 rfl X898 f6 (by decide) (by omega) (by omega) (fun (x915 : Int32) h916 (h917 : (-2147483648) ≤ x915.toInt) (h918 : x915.toInt ≤ 2147483647) => ?_)
          refine z_xP zt8 14 29 [some (.ref 5), some (.int 41)] [.int 41, .int x915] rfl rfl ?_
          refine z_xJ zt8 15 rfl rfl (fun (h919 : x915.toInt ≠ 41) => ?_) (fun (h919 : x915.toInt = 41) => ?_)
          · skip
            refine z_xP zt8 22 47 [some (.ref 5), some (.int 41)] [.ref 5, .ref 5] rfl rfl ?_
            refine z_xgv zt8 23 rfl zo8 zzf1_29 X898 f5 (by decide) h905 ?_
            refine z_xpf zt8 24 rfl zo8 zzf1_32 X898 f5 (by decide) (by decide) ⟨Int32.le_toInt _, Int32.toInt_le _⟩ rfl (by decide) zw1_3 (fun M920 X921 e922 h923 => ?_)
            refine z_xrv zt8 25 rfl zzr8 ?_
            show z_ev (d894 + 1 + 5) 17 75 [some (.ref 5), some (.int p1), some (.int x657), some (.long y897), none] [] M920 _
            refine z_xP zt17 31 76 [some (.ref 5), some (.int p1), some (.int x657), some (.long y897), none] [.long y897] rfl rfl ?_
            exact z_xrl zt17 32 rfl zzr17 (kk y897 M920 X921)
          refine z_xP zt8 16 34 [some (.ref 5), some (.int 41)] [.ref 5, .ref 5] rfl rfl ?_
          refine z_xgv zt8 17 rfl zo8 zzf1_29 X898 f5 (by decide) h905 ?_
          refine z_xP zt8 18 38 [some (.ref 5), some (.int 41)] [.int 1, .int x906, .ref 5] rfl rfl ?_
          refine z_xI zt8 19 rfl rfl (fun (x924 : Int32) (h925 : x924.toInt = x906.toInt + 1) => ?_) (z_pAdd rfl rfl (by omega) (by omega))
          refine z_xpf zt8 20 rfl zo8 zzf1_29 X898 f5 (by decide) (by decide) ⟨by omega, by omega⟩ rfl (by decide) zw1_2 (fun M926 X927 e928 h929 => ?_)
          refine z_xP zt8 21 53 [some (.ref 5), some (.int 41)] [] rfl rfl ?_
          refine z_xrv zt8 25 rfl zzr8 ?_
          show z_ev (d894 + 1 + 5) 17 75 [some (.ref 5), some (.int p1), some (.int x657), some (.long y897), none] [] M926 _
          refine z_xP zt17 31 76 [some (.ref 5), some (.int p1), some (.int x657), some (.long y897), none] [.long y897] rfl rfl ?_
          exact z_xrl zt17 32 rfl zzr17 (kk y897 M926 X927)
        refine z_xrv zt8 3 rfl zzr8 ?_
        show z_ev (d894 + 1 + 5) 17 75 [some (.ref 5), some (.int p1), some (.int x657), some (.long y897), none] [] M895 _
        refine z_xP zt17 31 76 [some (.ref 5), some (.int p1), some (.int x657), some (.long y897), none] [.long y897] rfl rfl ?_
        exact z_xrl zt17 32 rfl zzr17 (kk y897 M895 X898)
      refine z_xP zt12 15 32 [some (.ref 5), some (.int 40)] [.int 0] rfl rfl ?_
      refine z_xrz zt12 16 rfl zzr12 (by decide) (by decide) ?_
      show z_ev (d + 5) 17 58 [some (.ref 5), some (.int p1), some (.int x657), none, none] [.int 0] M0 _
      refine z_xZ zt17 25 rfl rfl (fun (h930 : (0 : Int) = 0) => ?_) (fun (h930 : (0 : Int) ≠ 0) => absurd h930 (by omega))
      refine z_xP zt17 33 78 [some (.ref 5), some (.int p1), some (.int x657), none, none] [.ref 5] rfl rfl ?_
      refine z_xgv zt17 34 rfl zo17 zzf1_32 X f5 (by decide) h1 ?_
      refine z_xZ zt17 35 rfl rfl (fun (h931 : 0 ≤ x2.toInt) => absurd h931 (by omega)) (fun (h931 : x2.toInt < 0) => ?_)
      refine z_xP zt17 36 85 [some (.ref 5), some (.int p1), some (.int x657), none, none] [.ref 5] rfl rfl ?_
      refine z_xgv zt17 37 rfl zo17 zzf1_29 X f5 (by decide) h17 ?_
      refine z_xP zt17 38 89 [some (.ref 5), some (.int p1), some (.int x657), none, none] [.ref 5, .int x18] rfl rfl ?_
      refine z_xgv zt17 39 rfl zo17 zzf1_25 X f5 (by decide) h21 ?_
      refine z_xJ zt17 40 rfl rfl (fun (h932 : x22.toInt ≤ x18.toInt) => ?_) (fun (h932 : x18.toInt < x22.toInt) => ?_)
      · skip
        refine z_xP zt17 49 111 [some (.ref 5), some (.int p1), some (.int x657), none, none] [.int 0] rfl rfl ?_
        refine z_xP zt17 50 114 [some (.ref 5), some (.int p1), some (.int x657), some (.int 0), none] [.int 1, .int 0] rfl rfl ?_
        refine z_xJ zt17 51 rfl rfl (fun (h933 : (0 : Int) < 1) => ?_) (fun (h933 : 1 ≤ (0 : Int)) => absurd h933 (by omega))
        refine z_xP zt17 63 143 [some (.ref 5), some (.int p1), some (.int x657), some (.int 0), none] [.ref 5] rfl rfl ?_
        refine z_xcV (vs := [.ref 5]) (r := []) (L2 := [some (.ref 5)]) zt17 64 rfl zo17 zzcV1_66 (Or.inl rfl) rfl X f5 rfl rfl rfl (Nat.le_of_ble_eq_true rfl) zzm10 (Nat.le_of_ble_eq_true rfl) rfl ?_
        refine z_xP zt10 0 1 [some (.ref 5)] [.ref 5] rfl rfl ?_
        refine z_xgv zt10 1 rfl zo10 zzf1_32 X f5 (by decide) h1 ?_
        refine z_xZ zt10 2 rfl rfl (fun (h934 : 0 ≤ x2.toInt) => absurd h934 (by omega)) (fun (h934 : x2.toInt < 0) => ?_)
        refine z_xP zt10 3 9 [some (.ref 5)] [.ref 5, .ref 5] rfl rfl ?_
        refine z_xgv zt10 4 rfl zo10 zzf1_29 X f5 (by decide) h17 ?_
        refine z_xpf zt10 5 rfl zo10 zzf1_32 X f5 (by decide) (by decide) ⟨Int32.le_toInt _, Int32.toInt_le _⟩ rfl (by decide) zw1_3 (fun M935 X936 e937 h938 => ?_)
        refine z_xrv zt10 6 rfl zzr10 ?_
        show z_ev (d + 5) 17 146 [some (.ref 5), some (.int p1), some (.int x657), some (.int 0), none] [] M935 _
        refine z_xP zt17 65 147 [some (.ref 5), some (.int p1), some (.int x657), some (.int 0), none] [.long 0] rfl rfl ?_
        have q0 : ((0 : Int64)).toInt = 0 := rfl
        exact z_xrl zt17 66 rfl zzr17 (kk 0 M935 X936)
      refine z_xP zt17 41 96 [some (.ref 5), some (.int p1), some (.int x657), none, none] [.ref 5] rfl rfl ?_
      refine z_xgX (b := 6) zt17 42 rfl zo17 zzf1_9 X f5 (by decide) (by decide) rfl ?_
      refine z_xP zt17 43 100 [some (.ref 5), some (.int p1), some (.int x657), none, none] [.ref 5, .ref 6] rfl rfl ?_
      refine z_xgv zt17 44 rfl zo17 zzf1_29 X f5 (by decide) h17 ?_
      refine z_xil zt17 45 rfl X f6 (by decide) (by omega) (by omega) (fun (x939 : Int32) h940 (h941 : (-2147483648) ≤ x939.toInt) (h942 : x939.toInt ≤ 2147483647) => ?_)
      have h943 := congrArg Int32.toInt (h940.symm.trans h337)
      refine z_xP zt17 46 106 [some (.ref 5), some (.int p1), some (.int x657), none, none] [.int 48, .int x939] rfl rfl ?_
      have h944 := z_b32 x939
      refine z_xI zt17 47 rfl rfl (P := fun _ => True) (fun (x945 : Int32) _ => ?_) trivial
      refine z_xP zt17 48 111 [some (.ref 5), some (.int p1), some (.int x657), none, none] [.int x945] rfl rfl ?_
      refine z_xP zt17 50 114 [some (.ref 5), some (.int p1), some (.int x657), some (.int x945), none] [.int 1, .int x945] rfl rfl ?_
      refine z_xJ zt17 51 rfl rfl (fun (h947 : x945.toInt < 1) => ?_) (fun (h947 : 1 ≤ x945.toInt) => ?_)
      · skip
        refine z_xP zt17 63 143 [some (.ref 5), some (.int p1), some (.int x657), some (.int x945), none] [.ref 5] rfl rfl ?_
        refine z_xcV (vs := [.ref 5]) (r := []) (L2 := [some (.ref 5)]) zt17 64 rfl zo17 zzcV1_66 (Or.inl rfl) rfl X f5 rfl rfl rfl (Nat.le_of_ble_eq_true rfl) zzm10 (Nat.le_of_ble_eq_true rfl) rfl ?_
        refine z_xP zt10 0 1 [some (.ref 5)] [.ref 5] rfl rfl ?_
        refine z_xgv zt10 1 rfl zo10 zzf1_32 X f5 (by decide) h1 ?_
        refine z_xZ zt10 2 rfl rfl (fun (h948 : 0 ≤ x2.toInt) => absurd h948 (by omega)) (fun (h948 : x2.toInt < 0) => ?_)
        refine z_xP zt10 3 9 [some (.ref 5)] [.ref 5, .ref 5] rfl rfl ?_
        refine z_xgv zt10 4 rfl zo10 zzf1_29 X f5 (by decide) h17 ?_
        refine z_xpf zt10 5 rfl zo10 zzf1_32 X f5 (by decide) (by decide) ⟨Int32.le_toInt _, Int32.toInt_le _⟩ rfl (by decide) zw1_3 (fun M949 X950 e951 h952 => ?_)
        refine z_xrv zt10 6 rfl zzr10 ?_
        show z_ev (d + 5) 17 146 [some (.ref 5), some (.int p1), some (.int x657), some (.int x945), none] [] M949 _
        refine z_xP zt17 65 147 [some (.ref 5), some (.int p1), some (.int x657), some (.int x945), none] [.long 0] rfl rfl ?_
        have q0 : ((0 : Int64)).toInt = 0 := rfl
        exact z_xrl zt17 66 rfl zzr17 (kk 0 M949 X950)
      refine z_xP zt17 52 120 [some (.ref 5), some (.int p1), some (.int x657), some (.int x945), none] [.int 9, .int x945] rfl rfl ?_
      refine z_xJ zt17 53 rfl rfl (fun (h953 : 9 < x945.toInt) => ?_) (fun (h953 : x945.toInt ≤ 9) => ?_)
      · skip
        refine z_xP zt17 63 143 [some (.ref 5), some (.int p1), some (.int x657), some (.int x945), none] [.ref 5] rfl rfl ?_
        refine z_xcV (vs := [.ref 5]) (r := []) (L2 := [some (.ref 5)]) zt17 64 rfl zo17 zzcV1_66 (Or.inl rfl) rfl X f5 rfl rfl rfl (Nat.le_of_ble_eq_true rfl) zzm10 (Nat.le_of_ble_eq_true rfl) rfl ?_
        refine z_xP zt10 0 1 [some (.ref 5)] [.ref 5] rfl rfl ?_
        refine z_xgv zt10 1 rfl zo10 zzf1_32 X f5 (by decide) h1 ?_
        refine z_xZ zt10 2 rfl rfl (fun (h954 : 0 ≤ x2.toInt) => absurd h954 (by omega)) (fun (h954 : x2.toInt < 0) => ?_)
        refine z_xP zt10 3 9 [some (.ref 5)] [.ref 5, .ref 5] rfl rfl ?_
        refine z_xgv zt10 4 rfl zo10 zzf1_29 X f5 (by decide) h17 ?_
        refine z_xpf zt10 5 rfl zo10 zzf1_32 X f5 (by decide) (by decide) ⟨Int32.le_toInt _, Int32.toInt_le _⟩ rfl (by decide) zw1_3 (fun M955 X956 e957 h958 => ?_)
        refine z_xrv zt10 6 rfl zzr10 ?_
        show z_ev (d + 5) 17 146 [some (.ref 5), some (.int p1), some (.int x657), some (.int x945), none] [] M955 _
        refine z_xP zt17 65 147 [some (.ref 5), some (.int p1), some (.int x657), some (.int x945), none] [.long 0] rfl rfl ?_
        have q0 : ((0 : Int64)).toInt = 0 := rfl
        exact z_xrl zt17 66 rfl zzr17 (kk 0 M955 X956)
      refine z_xP zt17 54 125 [some (.ref 5), some (.int p1), some (.int x657), some (.int x945), none] [.ref 5, .ref 5] rfl rfl ?_
      refine z_xgv zt17 55 rfl zo17 zzf1_29 X f5 (by decide) h17 ?_
      refine z_xP zt17 56 129 [some (.ref 5), some (.int p1), some (.int x657), some (.int x945), none] [.int 1, .int x18, .ref 5] rfl rfl ?_
      refine z_xI zt17 57 rfl rfl (fun (x959 : Int32) (h960 : x959.toInt = x18.toInt + 1) => ?_) (z_pAdd rfl rfl (by omega) (by omega))
      refine z_xpf zt17 58 rfl zo17 zzf1_29 X f5 (by decide) (by decide) ⟨by omega, by omega⟩ rfl (by decide) zw1_2 (fun M961 X962 e963 h964 => ?_)
      refine z_xP zt17 59 137 [some (.ref 5), some (.int p1), some (.int x657), some (.int x945), none] [.int 1, .int p1, .int x945, .ref 5] rfl rfl ?_
      refine z_xI zt17 60 rfl rfl (fun (x965 : Int32) (h966 : x965.toInt = p1.toInt + 1) => ?_) (z_pAdd rfl rfl (by omega) (by omega))
      obtain ⟨d967, hdd967⟩ : ∃ e, d = e + 1 := ⟨d - 1, by omega⟩
      subst hdd967
      refine z_xcV (vs := [.ref 5, .int x945, .int x965]) (r := []) (L2 := [some (.ref 5), some (.int x945), some (.int x965), none, none, none, none, none]) zt17 61 rfl zo17 zzcV1_95 (Or.inl rfl) rfl X962 f5 rfl rfl rfl (Nat.le_of_ble_eq_true rfl) zzm19 (Nat.le_of_ble_eq_true rfl) rfl ?_
      refine ih19 X962.1 (by omega) (by omega) (by omega) (by omega) (fun y970 M968 X969  => ?_)
      have X971 := X962.go X969 (z_sb (by decide))
      show z_ev (d967 + 1 + 5) 17 141 [some (.ref 5), some (.int p1), some (.int x657), some (.int x945), none] [.long y970] M968 _
      exact z_xrl zt17 62 rfl zzr17 (kk y970 M968 X971)
    refine z_xP zt17 4 11 [some (.ref 5), some (.int p1), some (.int x657), none, none] [.ref 5, .ref 5] rfl rfl ?_
    refine z_xgv zt17 5 rfl zo17 zzf1_29 X f5 (by decide) h17 ?_
    refine z_xP zt17 6 15 [some (.ref 5), some (.int p1), some (.int x657), none, none] [.int 1, .int x18, .ref 5] rfl rfl ?_
    refine z_xI zt17 7 rfl rfl (fun (x973 : Int32) (h974 : x973.toInt = x18.toInt + 1) => ?_) (z_pAdd rfl rfl (by omega) (by omega))
    refine z_xpf zt17 8 rfl zo17 zzf1_29 X f5 (by decide) (by decide) ⟨by omega, by omega⟩ rfl (by decide) zw1_2 (fun M975 X976 e977 h978 => ?_)
    refine z_xP zt17 9 21 [some (.ref 5), some (.int p1), some (.int x657), none, none] [.int x657, .ref 5] rfl rfl ?_
    refine z_xcV (vs := [.ref 5, .int x657]) (r := []) (L2 := [some (.ref 5), some (.int x657)]) zt17 10 rfl zo17 zzcV1_92 (Or.inl rfl) rfl X976 f5 rfl rfl rfl (Nat.le_of_ble_eq_true rfl) zzm18 (Nat.le_of_ble_eq_true rfl) rfl ?_
    refine z_xP zt18 0 1 [some (.ref 5), some (.int x657)] [.int x657] rfl rfl ?_
    refine z_xgs zt18 1 rfl zo18 zg1_99 ?_
    have f2 : T[2]? = some (.inr (2, 1, 6, 0, 0)) := X976.1.k rfl (by decide)
    refine z_xln zt18 2 rfl X976 f2 (by decide) (by decide) (fun (x979 : Int32) (h980 : x979.toInt = ((6 : Nat) : Int)) => ?_)
    refine z_xJ zt18 3 rfl rfl (fun (h981 : x979.toInt ≤ x657.toInt) => ?_) (fun (h981 : x657.toInt < x979.toInt) => ?_)
    · skip
      refine z_xP zt18 8 15 [some (.ref 5), some (.int x657)] [.ref 5] rfl rfl ?_
      refine z_xgI zt18 9 rfl zo18 zzf1_35 X976 f5 (by decide) (by decide) rfl (fun (x983 : Int32) h982 (h984 : (-2147483648) ≤ x983.toInt) (h985 : x983.toInt ≤ 2147483647) => ?_)
      refine z_xP zt18 10 19 [some (.ref 5), some (.int x657)] [.int x657, .int x983] rfl rfl ?_
      refine z_xgs zt18 11 rfl zo18 zg1_99 ?_
      refine z_xln zt18 12 rfl X976 f2 (by decide) (by decide) (fun (x986 : Int32) (h987 : x986.toInt = ((6 : Nat) : Int)) => ?_)
      refine z_xI zt18 13 rfl rfl (fun (x988 : Int32) (h989 : x988.toInt = x657.toInt - x986.toInt) => ?_) (z_pSub rfl rfl (by omega) (by omega))
      have h990 := z_b32 x983
      refine z_xI zt18 14 rfl rfl (P := fun _ => True) (fun (x991 : Int32) _ => ?_) trivial
      refine z_xP zt18 15 26 [some (.ref 5), some (.int x657)] [.int 1, .int x991] rfl rfl ?_
      refine z_xI zt18 16 rfl rfl (fun (x993 : Int32) (h994 : 0 ≤ x993.toInt ∧ x993.toInt ≤ 1) => ?_) (z_pAnd rfl (by omega))
      refine z_xZ zt18 17 rfl rfl (fun (h995 : x993.toInt = 0) => ?_) (fun (h995 : x993.toInt ≠ 0) => ?_)
      · skip
        refine z_xP zt18 20 37 [some (.ref 5), some (.int x657)] [.long 0] rfl rfl ?_
        refine z_xrl zt18 21 rfl zzr18 ?_
        show z_ev (d + 5) 17 24 [some (.ref 5), some (.int p1), some (.int x657), none, none] [.long 0] M975 _
        have q0 : ((0 : Int64)).toInt = 0 := rfl
        exact z_xrl zt17 11 rfl zzr17 (kk 0 M975 X976)
      refine z_xl2 zt18 18 rfl zo18 zkl1_84 ?_
      refine z_xP zt18 19 37 [some (.ref 5), some (.int x657)] [.long (-1)] rfl rfl ?_
      refine z_xrl zt18 21 rfl zzr18 ?_
      show z_ev (d + 5) 17 24 [some (.ref 5), some (.int p1), some (.int x657), none, none] [.long (-1)] M975 _
      have qm1 : (((-1) : Int64)).toInt = (-1) := rfl
      exact z_xrl zt17 11 rfl zzr17 (kk (-1) M975 X976)
    refine z_xgs zt18 4 rfl zo18 zg1_99 ?_
    refine z_xP zt18 5 12 [some (.ref 5), some (.int x657)] [.int x657, .ref 2] rfl rfl ?_
    refine z_xll zt18 6 rfl X976 f2 (by decide) (by omega) (by omega) (fun (y996 : Int64) => ?_)
    refine z_xrl zt18 7 rfl zzr18 ?_
    show z_ev (d + 5) 17 24 [some (.ref 5), some (.int p1), some (.int x657), none, none] [.long y996] M975 _
    exact z_xrl zt17 11 rfl zzr17 (kk y996 M975 X976)
  refine z_xP zt14 21 55 [some (.ref 5), some (.int x341)] [.int (-1)] rfl rfl ?_
  refine z_xri zt14 26 rfl zzr14 ?_
  show z_ev (d + 5) 17 4 [some (.ref 5), some (.int p1), none, none, none] [.int (-1)] M0 _
  refine z_xP zt17 2 6 [some (.ref 5), some (.int p1), some (.int (-1)), none, none] [.int (-1)] rfl rfl ?_
  refine z_xZ zt17 3 rfl rfl (fun (h997 : ((-1) : Int) < 0) => ?_) (fun (h997 : 0 ≤ ((-1) : Int)) => absurd h997 (by omega))
  refine z_xP zt17 12 28 [some (.ref 5), some (.int p1), some (.int (-1)), none, none] [.int 6, .int p1] rfl rfl ?_
  refine z_xJ zt17 13 rfl rfl (fun (h998 : 6 ≤ p1.toInt) => ?_) (fun (h998 : p1.toInt < 6) => ?_)
  · skip
    refine z_xP zt17 63 143 [some (.ref 5), some (.int p1), some (.int (-1)), none, none] [.ref 5] rfl rfl ?_
    refine z_xcV (vs := [.ref 5]) (r := []) (L2 := [some (.ref 5)]) zt17 64 rfl zo17 zzcV1_66 (Or.inl rfl) rfl X f5 rfl rfl rfl (Nat.le_of_ble_eq_true rfl) zzm10 (Nat.le_of_ble_eq_true rfl) rfl ?_
    refine z_xP zt10 0 1 [some (.ref 5)] [.ref 5] rfl rfl ?_
    refine z_xgv zt10 1 rfl zo10 zzf1_32 X f5 (by decide) h1 ?_
    refine z_xZ zt10 2 rfl rfl (fun (h999 : 0 ≤ x2.toInt) => absurd h999 (by omega)) (fun (h999 : x2.toInt < 0) => ?_)
    refine z_xP zt10 3 9 [some (.ref 5)] [.ref 5, .ref 5] rfl rfl ?_
    refine z_xgv zt10 4 rfl zo10 zzf1_29 X f5 (by decide) h17 ?_
    refine z_xpf zt10 5 rfl zo10 zzf1_32 X f5 (by decide) (by decide) ⟨Int32.le_toInt _, Int32.toInt_le _⟩ rfl (by decide) zw1_3 (fun M1000 X1001 e1002 h1003 => ?_)
    refine z_xrv zt10 6 rfl zzr10 ?_
    show z_ev (d + 5) 17 146 [some (.ref 5), some (.int p1), some (.int (-1)), none, none] [] M1000 _
    refine z_xP zt17 65 147 [some (.ref 5), some (.int p1), some (.int (-1)), none, none] [.long 0] rfl rfl ?_
    have q0 : ((0 : Int64)).toInt = 0 := rfl
    exact z_xrl zt17 66 rfl zzr17 (kk 0 M1000 X1001)
  refine z_xP zt17 14 34 [some (.ref 5), some (.int p1), some (.int (-1)), none, none] [.int 33, .ref 5] rfl rfl ?_
  refine z_xcV (vs := [.ref 5, .int 33]) (r := []) (L2 := [some (.ref 5), some (.int 33)]) zt17 15 rfl zo17 zzcV1_69 (Or.inl rfl) rfl X f5 rfl rfl rfl (Nat.le_of_ble_eq_true rfl) zzm12 (Nat.le_of_ble_eq_true rfl) rfl ?_
  refine z_xP zt12 0 1 [some (.ref 5), some (.int 33)] [.ref 5] rfl rfl ?_
  refine z_xgv zt12 1 rfl zo12 zzf1_32 X f5 (by decide) h1 ?_
  refine z_xZ zt12 2 rfl rfl (fun (h1004 : 0 ≤ x2.toInt) => absurd h1004 (by omega)) (fun (h1004 : x2.toInt < 0) => ?_)
  refine z_xP zt12 3 8 [some (.ref 5), some (.int 33)] [.ref 5] rfl rfl ?_
  refine z_xgv zt12 4 rfl zo12 zzf1_29 X f5 (by decide) h17 ?_
  refine z_xP zt12 5 12 [some (.ref 5), some (.int 33)] [.ref 5, .int x18] rfl rfl ?_
  refine z_xgv zt12 6 rfl zo12 zzf1_25 X f5 (by decide) h21 ?_
  refine z_xJ zt12 7 rfl rfl (fun (h1005 : x22.toInt ≤ x18.toInt) => ?_) (fun (h1005 : x18.toInt < x22.toInt) => ?_)
  · skip
    refine z_xP zt12 15 32 [some (.ref 5), some (.int 33)] [.int 0] rfl rfl ?_
    refine z_xrz zt12 16 rfl zzr12 (by decide) (by decide) ?_
    show z_ev (d + 5) 17 37 [some (.ref 5), some (.int p1), some (.int (-1)), none, none] [.int 0] M0 _
    refine z_xZ zt17 16 rfl rfl (fun (h1006 : (0 : Int) = 0) => ?_) (fun (h1006 : (0 : Int) ≠ 0) => absurd h1006 (by omega))
    refine z_xP zt17 23 55 [some (.ref 5), some (.int p1), some (.int (-1)), none, none] [.int 40, .ref 5] rfl rfl ?_
    refine z_xcV (vs := [.ref 5, .int 40]) (r := []) (L2 := [some (.ref 5), some (.int 40)]) zt17 24 rfl zo17 zzcV1_69 (Or.inl rfl) rfl X f5 rfl rfl rfl (Nat.le_of_ble_eq_true rfl) zzm12 (Nat.le_of_ble_eq_true rfl) rfl ?_
    refine z_xP zt12 0 1 [some (.ref 5), some (.int 40)] [.ref 5] rfl rfl ?_
    refine z_xgv zt12 1 rfl zo12 zzf1_32 X f5 (by decide) h1 ?_
    refine z_xZ zt12 2 rfl rfl (fun (h1007 : 0 ≤ x2.toInt) => absurd h1007 (by omega)) (fun (h1007 : x2.toInt < 0) => ?_)
    refine z_xP zt12 3 8 [some (.ref 5), some (.int 40)] [.ref 5] rfl rfl ?_
    refine z_xgv zt12 4 rfl zo12 zzf1_29 X f5 (by decide) h17 ?_
    refine z_xP zt12 5 12 [some (.ref 5), some (.int 40)] [.ref 5, .int x18] rfl rfl ?_
    refine z_xgv zt12 6 rfl zo12 zzf1_25 X f5 (by decide) h21 ?_
    refine z_xJ zt12 7 rfl rfl (fun (h1008 : x22.toInt ≤ x18.toInt) => ?_) (fun (h1008 : x18.toInt < x22.toInt) => ?_)
    · skip
      refine z_xP zt12 15 32 [some (.ref 5), some (.int 40)] [.int 0] rfl rfl ?_
      refine z_xrz zt12 16 rfl zzr12 (by decide) (by decide) ?_
      show z_ev (d + 5) 17 58 [some (.ref 5), some (.int p1), some (.int (-1)), none, none] [.int 0] M0 _
      refine z_xZ zt17 25 rfl rfl (fun (h1009 : (0 : Int) = 0) => ?_) (fun (h1009 : (0 : Int) ≠ 0) => absurd h1009 (by omega))
      refine z_xP zt17 33 78 [some (.ref 5), some (.int p1), some (.int (-1)), none, none] [.ref 5] rfl rfl ?_
      refine z_xgv zt17 34 rfl zo17 zzf1_32 X f5 (by decide) h1 ?_
      refine z_xZ zt17 35 rfl rfl (fun (h1010 : 0 ≤ x2.toInt) => absurd h1010 (by omega)) (fun (h1010 : x2.toInt < 0) => ?_)
      refine z_xP zt17 36 85 [some (.ref 5), some (.int p1), some (.int (-1)), none, none] [.ref 5] rfl rfl ?_
      refine z_xgv zt17 37 rfl zo17 zzf1_29 X f5 (by decide) h17 ?_
      refine z_xP zt17 38 89 [some (.ref 5), some (.int p1), some (.int (-1)), none, none] [.ref 5, .int x18] rfl rfl ?_
      refine z_xgv zt17 39 rfl zo17 zzf1_25 X f5 (by decide) h21 ?_
      refine z_xJ zt17 40 rfl rfl (fun (h1011 : x22.toInt ≤ x18.toInt) => ?_) (fun (h1011 : x18.toInt < x22.toInt) => ?_)
      · skip
        refine z_xP zt17 49 111 [some (.ref 5), some (.int p1), some (.int (-1)), none, none] [.int 0] rfl rfl ?_
        refine z_xP zt17 50 114 [some (.ref 5), some (.int p1), some (.int (-1)), some (.int 0), none] [.int 1, .int 0] rfl rfl ?_
        refine z_xJ zt17 51 rfl rfl (fun (h1012 : (0 : Int) < 1) => ?_) (fun (h1012 : 1 ≤ (0 : Int)) => absurd h1012 (by omega))
        refine z_xP zt17 63 143 [some (.ref 5), some (.int p1), some (.int (-1)), some (.int 0), none] [.ref 5] rfl rfl ?_
        refine z_xcV (vs := [.ref 5]) (r := []) (L2 := [some (.ref 5)]) zt17 64 rfl zo17 zzcV1_66 (Or.inl rfl) rfl X f5 rfl rfl rfl (Nat.le_of_ble_eq_true rfl) zzm10 (Nat.le_of_ble_eq_true rfl) rfl ?_
        refine z_xP zt10 0 1 [some (.ref 5)] [.ref 5] rfl rfl ?_
        refine z_xgv zt10 1 rfl zo10 zzf1_32 X f5 (by decide) h1 ?_
        refine z_xZ zt10 2 rfl rfl (fun (h1013 : 0 ≤ x2.toInt) => absurd h1013 (by omega)) (fun (h1013 : x2.toInt < 0) => ?_)
        refine z_xP zt10 3 9 [some (.ref 5)] [.ref 5, .ref 5] rfl rfl ?_
        refine z_xgv zt10 4 rfl zo10 zzf1_29 X f5 (by decide) h17 ?_
        refine z_xpf zt10 5 rfl zo10 zzf1_32 X f5 (by decide) (by decide) ⟨Int32.le_toInt _, Int32.toInt_le _⟩ rfl (by decide) zw1_3 (fun M1014 X1015 e1016 h1017 => ?_)
        refine z_xrv zt10 6 rfl zzr10 ?_
        show z_ev (d + 5) 17 146 [some (.ref 5), some (.int p1), some (.int (-1)), some (.int 0), none] [] M1014 _
        refine z_xP zt17 65 147 [some (.ref 5), some (.int p1), some (.int (-1)), some (.int 0), none] [.long 0] rfl rfl ?_
        have q0 : ((0 : Int64)).toInt = 0 := rfl
        exact z_xrl zt17 66 rfl zzr17 (kk 0 M1014 X1015)
      refine z_xP zt17 41 96 [some (.ref 5), some (.int p1), some (.int (-1)), none, none] [.ref 5] rfl rfl ?_
      refine z_xgX (b := 6) zt17 42 rfl zo17 zzf1_9 X f5 (by decide) (by decide) rfl ?_
      refine z_xP zt17 43 100 [some (.ref 5), some (.int p1), some (.int (-1)), none, none] [.ref 5, .ref 6] rfl rfl ?_
      refine z_xgv zt17 44 rfl zo17 zzf1_29 X f5 (by decide) h17 ?_
      refine z_xil zt17 45 rfl X f6 (by decide) (by omega) (by omega) (fun (x1018 : Int32) h1019 (h1020 : (-2147483648) ≤ x1018.toInt) (h1021 : x1018.toInt ≤ 2147483647) => ?_)
      have h1022 := congrArg Int32.toInt (h1019.symm.trans h337)
      refine z_xP zt17 46 106 [some (.ref 5), some (.int p1), some (.int (-1)), none, none] [.int 48, .int x1018] rfl rfl ?_
      have h1023 := z_b32 x1018
      refine z_xI zt17 47 rfl rfl (P := fun _ => True) (fun (x1024 : Int32) _ => ?_) trivial
      refine z_xP zt17 48 111 [some (.ref 5), some (.int p1), some (.int (-1)), none, none] [.int x1024] rfl rfl ?_
      refine z_xP zt17 50 114 [some (.ref 5), some (.int p1), some (.int (-1)), some (.int x1024), none] [.int 1, .int x1024] rfl rfl ?_
      refine z_xJ zt17 51 rfl rfl (fun (h1026 : x1024.toInt < 1) => ?_) (fun (h1026 : 1 ≤ x1024.toInt) => ?_)
      · skip
        refine z_xP zt17 63 143 [some (.ref 5), some (.int p1), some (.int (-1)), some (.int x1024), none] [.ref 5] rfl rfl ?_
        refine z_xcV (vs := [.ref 5]) (r := []) (L2 := [some (.ref 5)]) zt17 64 rfl zo17 zzcV1_66 (Or.inl rfl) rfl X f5 rfl rfl rfl (Nat.le_of_ble_eq_true rfl) zzm10 (Nat.le_of_ble_eq_true rfl) rfl ?_
        refine z_xP zt10 0 1 [some (.ref 5)] [.ref 5] rfl rfl ?_
        refine z_xgv zt10 1 rfl zo10 zzf1_32 X f5 (by decide) h1 ?_
        refine z_xZ zt10 2 rfl rfl (fun (h1027 : 0 ≤ x2.toInt) => absurd h1027 (by omega)) (fun (h1027 : x2.toInt < 0) => ?_)
        refine z_xP zt10 3 9 [some (.ref 5)] [.ref 5, .ref 5] rfl rfl ?_
        refine z_xgv zt10 4 rfl zo10 zzf1_29 X f5 (by decide) h17 ?_
        refine z_xpf zt10 5 rfl zo10 zzf1_32 X f5 (by decide) (by decide) ⟨Int32.le_toInt _, Int32.toInt_le _⟩ rfl (by decide) zw1_3 (fun M1028 X1029 e1030 h1031 => ?_)
        refine z_xrv zt10 6 rfl zzr10 ?_
        show z_ev (d + 5) 17 146 [some (.ref 5), some (.int p1), some (.int (-1)), some (.int x1024), none] [] M1028 _
        refine z_xP zt17 65 147 [some (.ref 5), some (.int p1), some (.int (-1)), some (.int x1024), none] [.long 0] rfl rfl ?_
        have q0 : ((0 : Int64)).toInt = 0 := rfl
        exact z_xrl zt17 66 rfl zzr17 (kk 0 M1028 X1029)
      refine z_xP zt17 52 120 [some (.ref 5), some (.int p1), some (.int (-1)), some (.int x1024), none] [.int 9, .int x1024] rfl rfl ?_
      refine z_xJ zt17 53 rfl rfl (fun (h1032 : 9 < x1024.toInt) => ?_) (fun (h1032 : x1024.toInt ≤ 9) => ?_)
      · skip
        refine z_xP zt17 63 143 [some (.ref 5), some (.int p1), some (.int (-1)), some (.int x1024), none] [.ref 5] rfl rfl ?_
        refine z_xcV (vs := [.ref 5]) (r := []) (L2 := [some (.ref 5)]) zt17 64 rfl zo17 zzcV1_66 (Or.inl rfl) rfl X f5 rfl rfl rfl (Nat.le_of_ble_eq_true rfl) zzm10 (Nat.le_of_ble_eq_true rfl) rfl ?_
        refine z_xP zt10 0 1 [some (.ref 5)] [.ref 5] rfl rfl ?_
        refine z_xgv zt10 1 rfl zo10 zzf1_32 X f5 (by decide) h1 ?_
        refine z_xZ zt10 2 rfl rfl (fun (h1033 : 0 ≤ x2.toInt) => absurd h1033 (by omega)) (fun (h1033 : x2.toInt < 0) => ?_)
        refine z_xP zt10 3 9 [some (.ref 5)] [.ref 5, .ref 5] rfl rfl ?_
        refine z_xgv zt10 4 rfl zo10 zzf1_29 X f5 (by decide) h17 ?_
        refine z_xpf zt10 5 rfl zo10 zzf1_32 X f5 (by decide) (by decide) ⟨Int32.le_toInt _, Int32.toInt_le _⟩ rfl (by decide) zw1_3 (fun M1034 X1035 e1036 h1037 => ?_)
        refine z_xrv zt10 6 rfl zzr10 ?_
        show z_ev (d + 5) 17 146 [some (.ref 5), some (.int p1), some (.int (-1)), some (.int x1024), none] [] M1034 _
        refine z_xP zt17 65 147 [some (.ref 5), some (.int p1), some (.int (-1)), some (.int x1024), none] [.long 0] rfl rfl ?_
        have q0 : ((0 : Int64)).toInt = 0 := rfl
        exact z_xrl zt17 66 rfl zzr17 (kk 0 M1034 X1035)
      refine z_xP zt17 54 125 [some (.ref 5), some (.int p1), some (.int (-1)), some (.int x1024), none] [.ref 5, .ref 5] rfl rfl ?_
      refine z_xgv zt17 55 rfl zo17 zzf1_29 X f5 (by decide) h17 ?_
      refine z_xP zt17 56 129 [some (.ref 5), some (.int p1), some (.int (-1)), some (.int x1024), none] [.int 1, .int x18, .ref 5] rfl rfl ?_
      refine z_xI zt17 57 rfl rfl (fun (x1038 : Int32) (h1039 : x1038.toInt = x18.toInt + 1) => ?_) (z_pAdd rfl rfl (by omega) (by omega))
      refine z_xpf zt17 58 rfl zo17 zzf1_29 X f5 (by decide) (by decide) ⟨by omega, by omega⟩ rfl (by decide) zw1_2 (fun M1040 X1041 e1042 h1043 => ?_)
      refine z_xP zt17 59 137 [some (.ref 5), some (.int p1), some (.int (-1)), some (.int x1024), none] [.int 1, .int p1, .int x1024, .ref 5] rfl rfl ?_
      refine z_xI zt17 60 rfl rfl (fun (x1044 : Int32) (h1045 : x1044.toInt = p1.toInt + 1) => ?_) (z_pAdd rfl rfl (by omega) (by omega))
      obtain ⟨d1046, hdd1046⟩ : ∃ e, d = e + 1 := ⟨d - 1, by omega⟩
      subst hdd1046
      refine z_xcV (vs := [.ref 5, .int x1024, .int x1044]) (r := []) (L2 := [some (.ref 5), some (.int x1024), some (.int x1044), none, none, none, none, none]) zt17 61 rfl zo17 zzcV1_95 (Or.inl rfl) rfl X1041 f5 rfl rfl rfl (Nat.le_of_ble_eq_true rfl) zzm19 (Nat.le_of_ble_eq_true rfl) rfl ?_
      refine ih19 X1041.1 (by omega) (by omega) (by omega) (by omega) (fun y1049 M1047 X1048  => ?_)
      have X1050 := X1041.go X1048 (z_sb (by decide))
      show z_ev (d1046 + 1 + 5) 17 141 [some (.ref 5), some (.int p1), some (.int (-1)), some (.int x1024), none] [.long y1049] M1047 _
      exact z_xrl zt17 62 rfl zzr17 (kk y1049 M1047 X1050)
    refine z_xP zt12 8 19 [some (.ref 5), some (.int 40)] [.ref 5] rfl rfl ?_
    refine z_xgX (b := 6) zt12 9 rfl zo12 zzf1_9 X f5 (by decide) (by decide) rfl ?_
    refine z_xP zt12 10 23 [some (.ref 5), some (.int 40)] [.ref 5, .ref 6] rfl rfl ?_
    refine z_xgv zt12 11 rfl zo12 zzf1_29 X f5 (by decide) h17 ?_
    refine z_xil zt12 12 rfl X f6 (by decide) (by omega) (by omega) (fun (x1052 : Int32) h1053 (h1054 : (-2147483648) ≤ x1052.toInt) (h1055 : x1052.toInt ≤ 2147483647) => ?_)
    have h1056 := congrArg Int32.toInt (h1053.symm.trans h337)
    refine z_xP zt12 13 28 [some (.ref 5), some (.int 40)] [.int 40, .int x1052] rfl rfl ?_
    refine z_xJ zt12 14 rfl rfl (fun (h1057 : x1052.toInt = 40) => ?_) (fun (h1057 : x1052.toInt ≠ 40) => ?_)
    · skip
      refine z_xP zt12 17 35 [some (.ref 5), some (.int 40)] [.ref 5, .ref 5] rfl rfl ?_
      refine z_xgv zt12 18 rfl zo12 zzf1_29 X f5 (by decide) h17 ?_
      refine z_xP zt12 19 39 [some (.ref 5), some (.int 40)] [.int 1, .int x18, .ref 5] rfl rfl ?_
      refine z_xI zt12 20 rfl rfl (fun (x1058 : Int32) (h1059 : x1058.toInt = x18.toInt + 1) => ?_) (z_pAdd rfl rfl (by omega) (by omega))
      refine z_xpf zt12 21 rfl zo12 zzf1_29 X f5 (by decide) (by decide) ⟨by omega, by omega⟩ rfl (by decide) zw1_2 (fun M1060 X1061 e1062 h1063 => ?_)
      refine z_xP zt12 22 44 [some (.ref 5), some (.int 40)] [.int 1] rfl rfl ?_
      refine z_xrz zt12 23 rfl zzr12 (by decide) (by decide) ?_
      show z_ev (d + 5) 17 58 [some (.ref 5), some (.int p1), some (.int (-1)), none, none] [.int 1] M1060 _
      refine z_xZ zt17 25 rfl rfl (fun (h1064 : (1 : Int) = 0) => absurd h1064 (by omega)) (fun (h1064 : (1 : Int) ≠ 0) => ?_)
      refine z_xP zt17 26 64 [some (.ref 5), some (.int p1), some (.int (-1)), none, none] [.int 1, .int p1, .ref 5] rfl rfl ?_
      refine z_xI zt17 27 rfl rfl (fun (x1065 : Int32) (h1066 : x1065.toInt = p1.toInt + 1) => ?_) (z_pAdd rfl rfl (by omega) (by omega))
      obtain ⟨d1067, hdd1067⟩ : ∃ e, d = e + 1 := ⟨d - 1, by omega⟩
      subst hdd1067
      refine z_xcV (vs := [.ref 5, .int x1065]) (r := []) (L2 := [some (.ref 5), some (.int x1065), none, none, none, none, none]) zt17 28 rfl zo17 zzcV1_77 (Or.inl rfl) rfl X1061 f5 rfl rfl rfl (Nat.le_of_ble_eq_true rfl) zzm15 (Nat.le_of_ble_eq_true rfl) rfl ?_
      refine ih15 X1061.1 (by omega) (by omega) (by omega) (fun y1070 M1068 X1069  => ?_)
      have X1071 := X1061.go X1069 (z_sb (by decide))
      show z_ev (d1067 + 1 + 5) 17 68 [some (.ref 5), some (.int p1), some (.int (-1)), none, none] [.long y1070] M1068 _
      refine z_xP zt17 29 72 [some (.ref 5), some (.int p1), some (.int (-1)), some (.long y1070), none] [.int 41, .ref 5] rfl rfl ?_
      refine z_xcV (vs := [.ref 5, .int 41]) (r := []) (L2 := [some (.ref 5), some (.int 41)]) zt17 30 rfl zo17 zzcV1_56 (Or.inl rfl) rfl X1071 f5 rfl rfl rfl (Nat.le_of_ble_eq_true rfl) zzm8 (Nat.le_of_ble_eq_true rfl) rfl ?_
      refine z_xP zt8 0 1 [some (.ref 5), some (.int 41)] [.ref 5] rfl rfl ?_
      refine z_xgI zt8 1 rfl zo8 zzf1_32 X1071 f5 (by decide) (by decide) rfl (fun (x1074 : Int32) h1073 (h1075 : (-2147483648) ≤ x1074.toInt) (h1076 : x1074.toInt ≤ 2147483647) => ?_)
      refine z_xZ zt8 2 rfl rfl (fun (h1077 : x1074.toInt < 0) => ?_) (fun (h1077 : 0 ≤ x1074.toInt) => ?_)
      · skip
        refine z_xP zt8 4 9 [some (.ref 5), some (.int 41)] [.ref 5] rfl rfl ?_
        refine z_xgI zt8 5 rfl zo8 zzf1_29 X1071 f5 (by decide) (by decide) rfl (fun (x1079 : Int32) h1078 (h1080 : 0 ≤ x1079.toInt) (h1081 : x1079.toInt ≤ 160) => ?_)
        refine z_xP zt8 6 13 [some (.ref 5), some (.int 41)] [.ref 5, .int x1079] rfl rfl ?_
        have h1082 := (X1069.2.f f5 (by decide) (e1062.f f5 (by decide) h21))
        refine z_xgv zt8 7 rfl zo8 zzf1_25 X1071 f5 (by decide) h1082 ?_
        refine z_xJ zt8 8 rfl rfl (fun (h1083 : x22.toInt ≤ x1079.toInt) => ?_) (fun (h1083 : x1079.toInt < x22.toInt) => ?_)
        · skip
          refine z_xP zt8 22 47 [some (.ref 5), some (.int 41)] [.ref 5, .ref 5] rfl rfl ?_
          refine z_xgv zt8 23 rfl zo8 zzf1_29 X1071 f5 (by decide) h1078 ?_
          refine z_xpf zt8 24 rfl zo8 zzf1_32 X1071 f5 (by decide) (by decide) ⟨Int32.le_toInt _, Int32.toInt_le _⟩ rfl (by decide) zw1_3 (fun M1084 X1085 e1086 h1087 => ?_)
          refine z_xrv zt8 25 rfl zzr8 ?_
          show z_ev (d1067 + 1 + 5) 17 75 [some (.ref 5), some (.int p1), some (.int (-1)), some (.long y1070), none] [] M1084 _
          refine z_xP zt17 31 76 [some (.ref 5), some (.int p1), some (.int (-1)), some (.long y1070), none] [.long y1070] rfl rfl ?_
          exact z_xrl zt17 32 rfl zzr17 (kk y1070 M1084 X1085)
        refine z_xP zt8 9 20 [some (.ref 5), some (.int 41)] [.ref 5] rfl rfl ?_
        refine z_xgX (b := 6) zt8 10 rfl zo8 zzf1_9 X1071 f5 (by decide) (by decide) rfl ?_
        refine z_xP zt8 11 24 [some (.ref 5), some (.int 41)] [.ref 5, .ref 6] rfl rfl ?_
        refine z_xgv zt8 12 rfl zo8 zzf1_29 X1071 f5 (by decide) h1078 ?_
        refine z_xil zt8 13 rfl X1071 f6 (by decide) (by omega) (by omega) (fun (x1088 : Int32) h1089 (h1090 : (-2147483648) ≤ x1088.toInt) (h1091 : x1088.toInt ≤ 2147483647) => ?_)
        refine z_xP zt8 14 29 [some (.ref 5), some (.int 41)] [.int 41, .int x1088] rfl rfl ?_
        refine z_xJ zt8 15 rfl rfl (fun (h1092 : x1088.toInt ≠ 41) => ?_) (fun (h1092 : x1088.toInt = 41) => ?_)
        · skip
          refine z_xP zt8 22 47 [some (.ref 5), some (.int 41)] [.ref 5, .ref 5] rfl rfl ?_
          refine z_xgv zt8 23 rfl zo8 zzf1_29 X1071 f5 (by decide) h1078 ?_
          refine z_xpf zt8 24 rfl zo8 zzf1_32 X1071 f5 (by decide) (by decide) ⟨Int32.le_toInt _, Int32.toInt_le _⟩ rfl (by decide) zw1_3 (fun M1093 X1094 e1095 h1096 => ?_)
          refine z_xrv zt8 25 rfl zzr8 ?_
          show z_ev (d1067 + 1 + 5) 17 75 [some (.ref 5), some (.int p1), some (.int (-1)), some (.long y1070), none] [] M1093 _
          refine z_xP zt17 31 76 [some (.ref 5), some (.int p1), some (.int (-1)), some (.long y1070), none] [.long y1070] rfl rfl ?_
          exact z_xrl zt17 32 rfl zzr17 (kk y1070 M1093 X1094)
        refine z_xP zt8 16 34 [some (.ref 5), some (.int 41)] [.ref 5, .ref 5] rfl rfl ?_
        refine z_xgv zt8 17 rfl zo8 zzf1_29 X1071 f5 (by decide) h1078 ?_
        refine z_xP zt8 18 38 [some (.ref 5), some (.int 41)] [.int 1, .int x1079, .ref 5] rfl rfl ?_
        refine z_xI zt8 19 rfl rfl (fun (x1097 : Int32) (h1098 : x1097.toInt = x1079.toInt + 1) => ?_) (z_pAdd rfl rfl (by omega) (by omega))
        refine z_xpf zt8 20 rfl zo8 zzf1_29 X1071 f5 (by decide) (by decide) ⟨by omega, by omega⟩ rfl (by decide) zw1_2 (fun M1099 X1100 e1101 h1102 => ?_)
        refine z_xP zt8 21 53 [some (.ref 5), some (.int 41)] [] rfl rfl ?_
        refine z_xrv zt8 25 rfl zzr8 ?_
        show z_ev (d1067 + 1 + 5) 17 75 [some (.ref 5), some (.int p1), some (.int (-1)), some (.long y1070), none] [] M1099 _
        refine z_xP zt17 31 76 [some (.ref 5), some (.int p1), some (.int (-1)), some (.long y1070), none] [.long y1070] rfl rfl ?_
        exact z_xrl zt17 32 rfl zzr17 (kk y1070 M1099 X1100)
      refine z_xrv zt8 3 rfl zzr8 ?_
      show z_ev (d1067 + 1 + 5) 17 75 [some (.ref 5), some (.int p1), some (.int (-1)), some (.long y1070), none] [] M1068 _
      refine z_xP zt17 31 76 [some (.ref 5), some (.int p1), some (.int (-1)), some (.long y1070), none] [.long y1070] rfl rfl ?_
      exact z_xrl zt17 32 rfl zzr17 (kk y1070 M1068 X1071)
    refine z_xP zt12 15 32 [some (.ref 5), some (.int 40)] [.int 0] rfl rfl ?_
    refine z_xrz zt12 16 rfl zzr12 (by decide) (by decide) ?_
    show z_ev (d + 5) 17 58 [some (.ref 5), some (.int p1), some (.int (-1)), none, none] [.int 0] M0 _
    refine z_xZ zt17 25 rfl rfl (fun (h1103 : (0 : Int) = 0) => ?_) (fun (h1103 : (0 : Int) ≠ 0) => absurd h1103 (by omega))
    refine z_xP zt17 33 78 [some (.ref 5), some (.int p1), some (.int (-1)), none, none] [.ref 5] rfl rfl ?_
    refine z_xgv zt17 34 rfl zo17 zzf1_32 X f5 (by decide) h1 ?_
    refine z_xZ zt17 35 rfl rfl (fun (h1104 : 0 ≤ x2.toInt) => absurd h1104 (by omega)) (fun (h1104 : x2.toInt < 0) => ?_)
    refine z_xP zt17 36 85 [some (.ref 5), some (.int p1), some (.int (-1)), none, none] [.ref 5] rfl rfl ?_
    refine z_xgv zt17 37 rfl zo17 zzf1_29 X f5 (by decide) h17 ?_
    refine z_xP zt17 38 89 [some (.ref 5), some (.int p1), some (.int (-1)), none, none] [.ref 5, .int x18] rfl rfl ?_
    refine z_xgv zt17 39 rfl zo17 zzf1_25 X f5 (by decide) h21 ?_
    refine z_xJ zt17 40 rfl rfl (fun (h1105 : x22.toInt ≤ x18.toInt) => ?_) (fun (h1105 : x18.toInt < x22.toInt) => ?_)
    · skip
      refine z_xP zt17 49 111 [some (.ref 5), some (.int p1), some (.int (-1)), none, none] [.int 0] rfl rfl ?_
      refine z_xP zt17 50 114 [some (.ref 5), some (.int p1), some (.int (-1)), some (.int 0), none] [.int 1, .int 0] rfl rfl ?_
      refine z_xJ zt17 51 rfl rfl (fun (h1106 : (0 : Int) < 1) => ?_) (fun (h1106 : 1 ≤ (0 : Int)) => absurd h1106 (by omega))
      refine z_xP zt17 63 143 [some (.ref 5), some (.int p1), some (.int (-1)), some (.int 0), none] [.ref 5] rfl rfl ?_
      refine z_xcV (vs := [.ref 5]) (r := []) (L2 := [some (.ref 5)]) zt17 64 rfl zo17 zzcV1_66 (Or.inl rfl) rfl X f5 rfl rfl rfl (Nat.le_of_ble_eq_true rfl) zzm10 (Nat.le_of_ble_eq_true rfl) rfl ?_
      refine z_xP zt10 0 1 [some (.ref 5)] [.ref 5] rfl rfl ?_
      refine z_xgv zt10 1 rfl zo10 zzf1_32 X f5 (by decide) h1 ?_
      refine z_xZ zt10 2 rfl rfl (fun (h1107 : 0 ≤ x2.toInt) => absurd h1107 (by omega)) (fun (h1107 : x2.toInt < 0) => ?_)
      refine z_xP zt10 3 9 [some (.ref 5)] [.ref 5, .ref 5] rfl rfl ?_
      refine z_xgv zt10 4 rfl zo10 zzf1_29 X f5 (by decide) h17 ?_
      refine z_xpf zt10 5 rfl zo10 zzf1_32 X f5 (by decide) (by decide) ⟨Int32.le_toInt _, Int32.toInt_le _⟩ rfl (by decide) zw1_3 (fun M1108 X1109 e1110 h1111 => ?_)
      refine z_xrv zt10 6 rfl zzr10 ?_
      show z_ev (d + 5) 17 146 [some (.ref 5), some (.int p1), some (.int (-1)), some (.int 0), none] [] M1108 _
      refine z_xP zt17 65 147 [some (.ref 5), some (.int p1), some (.int (-1)), some (.int 0), none] [.long 0] rfl rfl ?_
      have q0 : ((0 : Int64)).toInt = 0 := rfl
      exact z_xrl zt17 66 rfl zzr17 (kk 0 M1108 X1109)
    refine z_xP zt17 41 96 [some (.ref 5), some (.int p1), some (.int (-1)), none, none] [.ref 5] rfl rfl ?_
    refine z_xgX (b := 6) zt17 42 rfl zo17 zzf1_9 X f5 (by decide) (by decide) rfl ?_
    refine z_xP zt17 43 100 [some (.ref 5), some (.int p1), some (.int (-1)), none, none] [.ref 5, .ref 6] rfl rfl ?_
    refine z_xgv zt17 44 rfl zo17 zzf1_29 X f5 (by decide) h17 ?_
    refine z_xil zt17 45 rfl X f6 (by decide) (by omega) (by omega) (fun (x1112 : Int32) h1113 (h1114 : (-2147483648) ≤ x1112.toInt) (h1115 : x1112.toInt ≤ 2147483647) => ?_)
    have h1116 := congrArg Int32.toInt (h1113.symm.trans h337)
    refine z_xP zt17 46 106 [some (.ref 5), some (.int p1), some (.int (-1)), none, none] [.int 48, .int x1112] rfl rfl ?_
    have h1117 := z_b32 x1112
    refine z_xI zt17 47 rfl rfl (P := fun _ => True) (fun (x1118 : Int32) _ => ?_) trivial
    refine z_xP zt17 48 111 [some (.ref 5), some (.int p1), some (.int (-1)), none, none] [.int x1118] rfl rfl ?_
    refine z_xP zt17 50 114 [some (.ref 5), some (.int p1), some (.int (-1)), some (.int x1118), none] [.int 1, .int x1118] rfl rfl ?_
    refine z_xJ zt17 51 rfl rfl (fun (h1120 : x1118.toInt < 1) => ?_) (fun (h1120 : 1 ≤ x1118.toInt) => ?_)
    · skip
      refine z_xP zt17 63 143 [some (.ref 5), some (.int p1), some (.int (-1)), some (.int x1118), none] [.ref 5] rfl rfl ?_
      refine z_xcV (vs := [.ref 5]) (r := []) (L2 := [some (.ref 5)]) zt17 64 rfl zo17 zzcV1_66 (Or.inl rfl) rfl X f5 rfl rfl rfl (Nat.le_of_ble_eq_true rfl) zzm10 (Nat.le_of_ble_eq_true rfl) rfl ?_
      refine z_xP zt10 0 1 [some (.ref 5)] [.ref 5] rfl rfl ?_
      refine z_xgv zt10 1 rfl zo10 zzf1_32 X f5 (by decide) h1 ?_
      refine z_xZ zt10 2 rfl rfl (fun (h1121 : 0 ≤ x2.toInt) => absurd h1121 (by omega)) (fun (h1121 : x2.toInt < 0) => ?_)
      refine z_xP zt10 3 9 [some (.ref 5)] [.ref 5, .ref 5] rfl rfl ?_
      refine z_xgv zt10 4 rfl zo10 zzf1_29 X f5 (by decide) h17 ?_
      refine z_xpf zt10 5 rfl zo10 zzf1_32 X f5 (by decide) (by decide) ⟨Int32.le_toInt _, Int32.toInt_le _⟩ rfl (by decide) zw1_3 (fun M1122 X1123 e1124 h1125 => ?_)
      refine z_xrv zt10 6 rfl zzr10 ?_
      show z_ev (d + 5) 17 146 [some (.ref 5), some (.int p1), some (.int (-1)), some (.int x1118), none] [] M1122 _
      refine z_xP zt17 65 147 [some (.ref 5), some (.int p1), some (.int (-1)), some (.int x1118), none] [.long 0] rfl rfl ?_
      have q0 : ((0 : Int64)).toInt = 0 := rfl
      exact z_xrl zt17 66 rfl zzr17 (kk 0 M1122 X1123)
    refine z_xP zt17 52 120 [some (.ref 5), some (.int p1), some (.int (-1)), some (.int x1118), none] [.int 9, .int x1118] rfl rfl ?_
    refine z_xJ zt17 53 rfl rfl (fun (h1126 : 9 < x1118.toInt) => ?_) (fun (h1126 : x1118.toInt ≤ 9) => ?_)
    · skip
      refine z_xP zt17 63 143 [some (.ref 5), some (.int p1), some (.int (-1)), some (.int x1118), none] [.ref 5] rfl rfl ?_
      refine z_xcV (vs := [.ref 5]) (r := []) (L2 := [some (.ref 5)]) zt17 64 rfl zo17 zzcV1_66 (Or.inl rfl) rfl X f5 rfl rfl rfl (Nat.le_of_ble_eq_true rfl) zzm10 (Nat.le_of_ble_eq_true rfl) rfl ?_
      refine z_xP zt10 0 1 [some (.ref 5)] [.ref 5] rfl rfl ?_
      refine z_xgv zt10 1 rfl zo10 zzf1_32 X f5 (by decide) h1 ?_
      refine z_xZ zt10 2 rfl rfl (fun (h1127 : 0 ≤ x2.toInt) => absurd h1127 (by omega)) (fun (h1127 : x2.toInt < 0) => ?_)
      refine z_xP zt10 3 9 [some (.ref 5)] [.ref 5, .ref 5] rfl rfl ?_
      refine z_xgv zt10 4 rfl zo10 zzf1_29 X f5 (by decide) h17 ?_
      refine z_xpf zt10 5 rfl zo10 zzf1_32 X f5 (by decide) (by decide) ⟨Int32.le_toInt _, Int32.toInt_le _⟩ rfl (by decide) zw1_3 (fun M1128 X1129 e1130 h1131 => ?_)
      refine z_xrv zt10 6 rfl zzr10 ?_
      show z_ev (d + 5) 17 146 [some (.ref 5), some (.int p1), some (.int (-1)), some (.int x1118), none] [] M1128 _
      refine z_xP zt17 65 147 [some (.ref 5), some (.int p1), some (.int (-1)), some (.int x1118), none] [.long 0] rfl rfl ?_
      have q0 : ((0 : Int64)).toInt = 0 := rfl
      exact z_xrl zt17 66 rfl zzr17 (kk 0 M1128 X1129)
    refine z_xP zt17 54 125 [some (.ref 5), some (.int p1), some (.int (-1)), some (.int x1118), none] [.ref 5, .ref 5] rfl rfl ?_
    refine z_xgv zt17 55 rfl zo17 zzf1_29 X f5 (by decide) h17 ?_
    refine z_xP zt17 56 129 [some (.ref 5), some (.int p1), some (.int (-1)), some (.int x1118), none] [.int 1, .int x18, .ref 5] rfl rfl ?_
    refine z_xI zt17 57 rfl rfl (fun (x1132 : Int32) (h1133 : x1132.toInt = x18.toInt + 1) => ?_) (z_pAdd rfl rfl (by omega) (by omega))
    refine z_xpf zt17 58 rfl zo17 zzf1_29 X f5 (by decide) (by decide) ⟨by omega, by omega⟩ rfl (by decide) zw1_2 (fun M1134 X1135 e1136 h1137 => ?_)
    refine z_xP zt17 59 137 [some (.ref 5), some (.int p1), some (.int (-1)), some (.int x1118), none] [.int 1, .int p1, .int x1118, .ref 5] rfl rfl ?_
    refine z_xI zt17 60 rfl rfl (fun (x1138 : Int32) (h1139 : x1138.toInt = p1.toInt + 1) => ?_) (z_pAdd rfl rfl (by omega) (by omega))
    obtain ⟨d1140, hdd1140⟩ : ∃ e, d = e + 1 := ⟨d - 1, by omega⟩
    subst hdd1140
    refine z_xcV (vs := [.ref 5, .int x1118, .int x1138]) (r := []) (L2 := [some (.ref 5), some (.int x1118), some (.int x1138), none, none, none, none, none]) zt17 61 rfl zo17 zzcV1_95 (Or.inl rfl) rfl X1135 f5 rfl rfl rfl (Nat.le_of_ble_eq_true rfl) zzm19 (Nat.le_of_ble_eq_true rfl) rfl ?_
    refine ih19 X1135.1 (by omega) (by omega) (by omega) (by omega) (fun y1143 M1141 X1142  => ?_)
    have X1144 := X1135.go X1142 (z_sb (by decide))
    show z_ev (d1140 + 1 + 5) 17 141 [some (.ref 5), some (.int p1), some (.int (-1)), some (.int x1118), none] [.long y1143] M1141 _
    exact z_xrl zt17 62 rfl zzr17 (kk y1143 M1141 X1144)
  refine z_xP zt12 8 19 [some (.ref 5), some (.int 33)] [.ref 5] rfl rfl ?_
  refine z_xgX (b := 6) zt12 9 rfl zo12 zzf1_9 X f5 (by decide) (by decide) rfl ?_
  refine z_xP zt12 10 23 [some (.ref 5), some (.int 33)] [.ref 5, .ref 6] rfl rfl ?_
  refine z_xgv zt12 11 rfl zo12 zzf1_29 X f5 (by decide) h17 ?_
  refine z_xil zt12 12 rfl X f6 (by decide) (by omega) (by omega) (fun (x1146 : Int32) h1147 (h1148 : (-2147483648) ≤ x1146.toInt) (h1149 : x1146.toInt ≤ 2147483647) => ?_)
  have h1150 := congrArg Int32.toInt (h1147.symm.trans h337)
  refine z_xP zt12 13 28 [some (.ref 5), some (.int 33)] [.int 33, .int x1146] rfl rfl ?_
  refine z_xJ zt12 14 rfl rfl (fun (h1151 : x1146.toInt = 33) => ?_) (fun (h1151 : x1146.toInt ≠ 33) => ?_)
  · skip
    refine z_xP zt12 17 35 [some (.ref 5), some (.int 33)] [.ref 5, .ref 5] rfl rfl ?_
    refine z_xgv zt12 18 rfl zo12 zzf1_29 X f5 (by decide) h17 ?_
    refine z_xP zt12 19 39 [some (.ref 5), some (.int 33)] [.int 1, .int x18, .ref 5] rfl rfl ?_
    refine z_xI zt12 20 rfl rfl (fun (x1152 : Int32) (h1153 : x1152.toInt = x18.toInt + 1) => ?_) (z_pAdd rfl rfl (by omega) (by omega))
    refine z_xpf zt12 21 rfl zo12 zzf1_29 X f5 (by decide) (by decide) ⟨by omega, by omega⟩ rfl (by decide) zw1_2 (fun M1154 X1155 e1156 h1157 => ?_)
    refine z_xP zt12 22 44 [some (.ref 5), some (.int 33)] [.int 1] rfl rfl ?_
    refine z_xrz zt12 23 rfl zzr12 (by decide) (by decide) ?_
    show z_ev (d + 5) 17 37 [some (.ref 5), some (.int p1), some (.int (-1)), none, none] [.int 1] M1154 _
    refine z_xZ zt17 16 rfl rfl (fun (h1158 : (1 : Int) = 0) => absurd h1158 (by omega)) (fun (h1158 : (1 : Int) ≠ 0) => ?_)
    refine z_xP zt17 17 43 [some (.ref 5), some (.int p1), some (.int (-1)), none, none] [.int 1, .int p1, .ref 5] rfl rfl ?_
    refine z_xI zt17 18 rfl rfl (fun (x1159 : Int32) (h1160 : x1159.toInt = p1.toInt + 1) => ?_) (z_pAdd rfl rfl (by omega) (by omega))
    obtain ⟨d1161, hdd1161⟩ : ∃ e, d = e + 1 := ⟨d - 1, by omega⟩
    subst hdd1161
    refine z_xcV (vs := [.ref 5, .int x1159]) (r := []) (L2 := [some (.ref 5), some (.int x1159), none, none, none]) zt17 19 rfl zo17 zzcV1_89 (Or.inl rfl) rfl X1155 f5 rfl rfl rfl (Nat.le_of_ble_eq_true rfl) zzm17 (Nat.le_of_ble_eq_true rfl) rfl ?_
    refine ih17 X1155.1 (by omega) (by omega) (by omega) (fun y1164 M1162 X1163  => ?_)
    have X1165 := X1155.go X1163 (z_sb (by decide))
    show z_ev (d1161 + 1 + 5) 17 47 [some (.ref 5), some (.int p1), some (.int (-1)), none, none] [.long y1164] M1162 _
    refine z_xl2 zt17 20 rfl zo17 zkl1_84 ?_
    refine z_xL zt17 21 rfl rfl (P := fun _ => True) (fun (y1167 : Int64) _ => ?_) trivial
    exact z_xrl zt17 22 rfl zzr17 (kk y1167 M1162 X1165)
  refine z_xP zt12 15 32 [some (.ref 5), some (.int 33)] [.int 0] rfl rfl ?_
  refine z_xrz zt12 16 rfl zzr12 (by decide) (by decide) ?_
  show z_ev (d + 5) 17 37 [some (.ref 5), some (.int p1), some (.int (-1)), none, none] [.int 0] M0 _
  refine z_xZ zt17 16 rfl rfl (fun (h1169 : (0 : Int) = 0) => ?_) (fun (h1169 : (0 : Int) ≠ 0) => absurd h1169 (by omega))
  refine z_xP zt17 23 55 [some (.ref 5), some (.int p1), some (.int (-1)), none, none] [.int 40, .ref 5] rfl rfl ?_
  refine z_xcV (vs := [.ref 5, .int 40]) (r := []) (L2 := [some (.ref 5), some (.int 40)]) zt17 24 rfl zo17 zzcV1_69 (Or.inl rfl) rfl X f5 rfl rfl rfl (Nat.le_of_ble_eq_true rfl) zzm12 (Nat.le_of_ble_eq_true rfl) rfl ?_
  refine z_xP zt12 0 1 [some (.ref 5), some (.int 40)] [.ref 5] rfl rfl ?_
  refine z_xgv zt12 1 rfl zo12 zzf1_32 X f5 (by decide) h1 ?_
  refine z_xZ zt12 2 rfl rfl (fun (h1170 : 0 ≤ x2.toInt) => absurd h1170 (by omega)) (fun (h1170 : x2.toInt < 0) => ?_)
  refine z_xP zt12 3 8 [some (.ref 5), some (.int 40)] [.ref 5] rfl rfl ?_
  refine z_xgv zt12 4 rfl zo12 zzf1_29 X f5 (by decide) h17 ?_
  refine z_xP zt12 5 12 [some (.ref 5), some (.int 40)] [.ref 5, .int x18] rfl rfl ?_
  refine z_xgv zt12 6 rfl zo12 zzf1_25 X f5 (by decide) h21 ?_
  refine z_xJ zt12 7 rfl rfl (fun (h1171 : x22.toInt ≤ x18.toInt) => ?_) (fun (h1171 : x18.toInt < x22.toInt) => ?_)
  · skip
    refine z_xP zt12 15 32 [some (.ref 5), some (.int 40)] [.int 0] rfl rfl ?_
    refine z_xrz zt12 16 rfl zzr12 (by decide) (by decide) ?_
    show z_ev (d + 5) 17 58 [some (.ref 5), some (.int p1), some (.int (-1)), none, none] [.int 0] M0 _
    refine z_xZ zt17 25 rfl rfl (fun (h1172 : (0 : Int) = 0) => ?_) (fun (h1172 : (0 : Int) ≠ 0) => absurd h1172 (by omega))
    refine z_xP zt17 33 78 [some (.ref 5), some (.int p1), some (.int (-1)), none, none] [.ref 5] rfl rfl ?_
    refine z_xgv zt17 34 rfl zo17 zzf1_32 X f5 (by decide) h1 ?_
    refine z_xZ zt17 35 rfl rfl (fun (h1173 : 0 ≤ x2.toInt) => absurd h1173 (by omega)) (fun (h1173 : x2.toInt < 0) => ?_)
    refine z_xP zt17 36 85 [some (.ref 5), some (.int p1), some (.int (-1)), none, none] [.ref 5] rfl rfl ?_
    refine z_xgv zt17 37 rfl zo17 zzf1_29 X f5 (by decide) h17 ?_
    refine z_xP zt17 38 89 [some (.ref 5), some (.int p1), some (.int (-1)), none, none] [.ref 5, .int x18] rfl rfl ?_
    refine z_xgv zt17 39 rfl zo17 zzf1_25 X f5 (by decide) h21 ?_
    refine z_xJ zt17 40 rfl rfl (fun (h1174 : x22.toInt ≤ x18.toInt) => ?_) (fun (h1174 : x18.toInt < x22.toInt) => ?_)
    · skip
      refine z_xP zt17 49 111 [some (.ref 5), some (.int p1), some (.int (-1)), none, none] [.int 0] rfl rfl ?_
      refine z_xP zt17 50 114 [some (.ref 5), some (.int p1), some (.int (-1)), some (.int 0), none] [.int 1, .int 0] rfl rfl ?_
      refine z_xJ zt17 51 rfl rfl (fun (h1175 : (0 : Int) < 1) => ?_) (fun (h1175 : 1 ≤ (0 : Int)) => absurd h1175 (by omega))
      refine z_xP zt17 63 143 [some (.ref 5), some (.int p1), some (.int (-1)), some (.int 0), none] [.ref 5] rfl rfl ?_
      refine z_xcV (vs := [.ref 5]) (r := []) (L2 := [some (.ref 5)]) zt17 64 rfl zo17 zzcV1_66 (Or.inl rfl) rfl X f5 rfl rfl rfl (Nat.le_of_ble_eq_true rfl) zzm10 (Nat.le_of_ble_eq_true rfl) rfl ?_
      refine z_xP zt10 0 1 [some (.ref 5)] [.ref 5] rfl rfl ?_
      refine z_xgv zt10 1 rfl zo10 zzf1_32 X f5 (by decide) h1 ?_
      refine z_xZ zt10 2 rfl rfl (fun (h1176 : 0 ≤ x2.toInt) => absurd h1176 (by omega)) (fun (h1176 : x2.toInt < 0) => ?_)
      refine z_xP zt10 3 9 [some (.ref 5)] [.ref 5, .ref 5] rfl rfl ?_
      refine z_xgv zt10 4 rfl zo10 zzf1_29 X f5 (by decide) h17 ?_
      refine z_xpf zt10 5 rfl zo10 zzf1_32 X f5 (by decide) (by decide) ⟨Int32.le_toInt _, Int32.toInt_le _⟩ rfl (by decide) zw1_3 (fun M1177 X1178 e1179 h1180 => ?_)
      refine z_xrv zt10 6 rfl zzr10 ?_
      show z_ev (d + 5) 17 146 [some (.ref 5), some (.int p1), some (.int (-1)), some (.int 0), none] [] M1177 _
      refine z_xP zt17 65 147 [some (.ref 5), some (.int p1), some (.int (-1)), some (.int 0), none] [.long 0] rfl rfl ?_
      have q0 : ((0 : Int64)).toInt = 0 := rfl
      exact z_xrl zt17 66 rfl zzr17 (kk 0 M1177 X1178)
    refine z_xP zt17 41 96 [some (.ref 5), some (.int p1), some (.int (-1)), none, none] [.ref 5] rfl rfl ?_
    refine z_xgX (b := 6) zt17 42 rfl zo17 zzf1_9 X f5 (by decide) (by decide) rfl ?_
    refine z_xP zt17 43 100 [some (.ref 5), some (.int p1), some (.int (-1)), none, none] [.ref 5, .ref 6] rfl rfl ?_
    refine z_xgv zt17 44 rfl zo17 zzf1_29 X f5 (by decide) h17 ?_
    refine z_xil zt17 45 rfl X f6 (by decide) (by omega) (by omega) (fun (x1181 : Int32) h1182 (h1183 : (-2147483648) ≤ x1181.toInt) (h1184 : x1181.toInt ≤ 2147483647) => ?_)
    have h1185 := congrArg Int32.toInt (h1182.symm.trans h337)
    refine z_xP zt17 46 106 [some (.ref 5), some (.int p1), some (.int (-1)), none, none] [.int 48, .int x1181] rfl rfl ?_
    have h1186 := z_b32 x1181
    refine z_xI zt17 47 rfl rfl (P := fun _ => True) (fun (x1187 : Int32) _ => ?_) trivial
    refine z_xP zt17 48 111 [some (.ref 5), some (.int p1), some (.int (-1)), none, none] [.int x1187] rfl rfl ?_
    refine z_xP zt17 50 114 [some (.ref 5), some (.int p1), some (.int (-1)), some (.int x1187), none] [.int 1, .int x1187] rfl rfl ?_
    refine z_xJ zt17 51 rfl rfl (fun (h1189 : x1187.toInt < 1) => ?_) (fun (h1189 : 1 ≤ x1187.toInt) => ?_)
    · skip
      refine z_xP zt17 63 143 [some (.ref 5), some (.int p1), some (.int (-1)), some (.int x1187), none] [.ref 5] rfl rfl ?_
      refine z_xcV (vs := [.ref 5]) (r := []) (L2 := [some (.ref 5)]) zt17 64 rfl zo17 zzcV1_66 (Or.inl rfl) rfl X f5 rfl rfl rfl (Nat.le_of_ble_eq_true rfl) zzm10 (Nat.le_of_ble_eq_true rfl) rfl ?_
      refine z_xP zt10 0 1 [some (.ref 5)] [.ref 5] rfl rfl ?_
      refine z_xgv zt10 1 rfl zo10 zzf1_32 X f5 (by decide) h1 ?_
      refine z_xZ zt10 2 rfl rfl (fun (h1190 : 0 ≤ x2.toInt) => absurd h1190 (by omega)) (fun (h1190 : x2.toInt < 0) => ?_)
      refine z_xP zt10 3 9 [some (.ref 5)] [.ref 5, .ref 5] rfl rfl ?_
      refine z_xgv zt10 4 rfl zo10 zzf1_29 X f5 (by decide) h17 ?_
      refine z_xpf zt10 5 rfl zo10 zzf1_32 X f5 (by decide) (by decide) ⟨Int32.le_toInt _, Int32.toInt_le _⟩ rfl (by decide) zw1_3 (fun M1191 X1192 e1193 h1194 => ?_)
      refine z_xrv zt10 6 rfl zzr10 ?_
      show z_ev (d + 5) 17 146 [some (.ref 5), some (.int p1), some (.int (-1)), some (.int x1187), none] [] M1191 _
      refine z_xP zt17 65 147 [some (.ref 5), some (.int p1), some (.int (-1)), some (.int x1187), none] [.long 0] rfl rfl ?_
      have q0 : ((0 : Int64)).toInt = 0 := rfl
      exact z_xrl zt17 66 rfl zzr17 (kk 0 M1191 X1192)
    refine z_xP zt17 52 120 [some (.ref 5), some (.int p1), some (.int (-1)), some (.int x1187), none] [.int 9, .int x1187] rfl rfl ?_
    refine z_xJ zt17 53 rfl rfl (fun (h1195 : 9 < x1187.toInt) => ?_) (fun (h1195 : x1187.toInt ≤ 9) => ?_)
    · skip
      refine z_xP zt17 63 143 [some (.ref 5), some (.int p1), some (.int (-1)), some (.int x1187), none] [.ref 5] rfl rfl ?_
      refine z_xcV (vs := [.ref 5]) (r := []) (L2 := [some (.ref 5)]) zt17 64 rfl zo17 zzcV1_66 (Or.inl rfl) rfl X f5 rfl rfl rfl (Nat.le_of_ble_eq_true rfl) zzm10 (Nat.le_of_ble_eq_true rfl) rfl ?_
      refine z_xP zt10 0 1 [some (.ref 5)] [.ref 5] rfl rfl ?_
      refine z_xgv zt10 1 rfl zo10 zzf1_32 X f5 (by decide) h1 ?_
      refine z_xZ zt10 2 rfl rfl (fun (h1196 : 0 ≤ x2.toInt) => absurd h1196 (by omega)) (fun (h1196 : x2.toInt < 0) => ?_)
      refine z_xP zt10 3 9 [some (.ref 5)] [.ref 5, .ref 5] rfl rfl ?_
      refine z_xgv zt10 4 rfl zo10 zzf1_29 X f5 (by decide) h17 ?_
      refine z_xpf zt10 5 rfl zo10 zzf1_32 X f5 (by decide) (by decide) ⟨Int32.le_toInt _, Int32.toInt_le _⟩ rfl (by decide) zw1_3 (fun M1197 X1198 e1199 h1200 => ?_)
      refine z_xrv zt10 6 rfl zzr10 ?_
      show z_ev (d + 5) 17 146 [some (.ref 5), some (.int p1), some (.int (-1)), some (.int x1187), none] [] M1197 _
      refine z_xP zt17 65 147 [some (.ref 5), some (.int p1), some (.int (-1)), some (.int x1187), none] [.long 0] rfl rfl ?_
      have q0 : ((0 : Int64)).toInt = 0 := rfl
      exact z_xrl zt17 66 rfl zzr17 (kk 0 M1197 X1198)
    refine z_xP zt17 54 125 [some (.ref 5), some (.int p1), some (.int (-1)), some (.int x1187), none] [.ref 5, .ref 5] rfl rfl ?_
    refine z_xgv zt17 55 rfl zo17 zzf1_29 X f5 (by decide) h17 ?_
    refine z_xP zt17 56 129 [some (.ref 5), some (.int p1), some (.int (-1)), some (.int x1187), none] [.int 1, .int x18, .ref 5] rfl rfl ?_
    refine z_xI zt17 57 rfl rfl (fun (x1201 : Int32) (h1202 : x1201.toInt = x18.toInt + 1) => ?_) (z_pAdd rfl rfl (by omega) (by omega))
    refine z_xpf zt17 58 rfl zo17 zzf1_29 X f5 (by decide) (by decide) ⟨by omega, by omega⟩ rfl (by decide) zw1_2 (fun M1203 X1204 e1205 h1206 => ?_)
    refine z_xP zt17 59 137 [some (.ref 5), some (.int p1), some (.int (-1)), some (.int x1187), none] [.int 1, .int p1, .int x1187, .ref 5] rfl rfl ?_
    refine z_xI zt17 60 rfl rfl (fun (x1207 : Int32) (h1208 : x1207.toInt = p1.toInt + 1) => ?_) (z_pAdd rfl rfl (by omega) (by omega))
    obtain ⟨d1209, hdd1209⟩ : ∃ e, d = e + 1 := ⟨d - 1, by omega⟩
    subst hdd1209
    refine z_xcV (vs := [.ref 5, .int x1187, .int x1207]) (r := []) (L2 := [some (.ref 5), some (.int x1187), some (.int x1207), none, none, none, none, none]) zt17 61 rfl zo17 zzcV1_95 (Or.inl rfl) rfl X1204 f5 rfl rfl rfl (Nat.le_of_ble_eq_true rfl) zzm19 (Nat.le_of_ble_eq_true rfl) rfl ?_
    refine ih19 X1204.1 (by omega) (by omega) (by omega) (by omega) (fun y1212 M1210 X1211  => ?_)
    have X1213 := X1204.go X1211 (z_sb (by decide))
    show z_ev (d1209 + 1 + 5) 17 141 [some (.ref 5), some (.int p1), some (.int (-1)), some (.int x1187), none] [.long y1212] M1210 _
    exact z_xrl zt17 62 rfl zzr17 (kk y1212 M1210 X1213)
  refine z_xP zt12 8 19 [some (.ref 5), some (.int 40)] [.ref 5] rfl rfl ?_
  refine z_xgX (b := 6) zt12 9 rfl zo12 zzf1_9 X f5 (by decide) (by decide) rfl ?_
  refine z_xP zt12 10 23 [some (.ref 5), some (.int 40)] [.ref 5, .ref 6] rfl rfl ?_
  refine z_xgv zt12 11 rfl zo12 zzf1_29 X f5 (by decide) h17 ?_
  refine z_xil zt12 12 rfl X f6 (by decide) (by omega) (by omega) (fun (x1215 : Int32) h1216 (h1217 : (-2147483648) ≤ x1215.toInt) (h1218 : x1215.toInt ≤ 2147483647) => ?_)
  have h1219 := congrArg Int32.toInt (h1216.symm.trans h337)
  refine z_xP zt12 13 28 [some (.ref 5), some (.int 40)] [.int 40, .int x1215] rfl rfl ?_
  refine z_xJ zt12 14 rfl rfl (fun (h1220 : x1215.toInt = 40) => ?_) (fun (h1220 : x1215.toInt ≠ 40) => ?_)
  · skip
    refine z_xP zt12 17 35 [some (.ref 5), some (.int 40)] [.ref 5, .ref 5] rfl rfl ?_
    refine z_xgv zt12 18 rfl zo12 zzf1_29 X f5 (by decide) h17 ?_
    refine z_xP zt12 19 39 [some (.ref 5), some (.int 40)] [.int 1, .int x18, .ref 5] rfl rfl ?_
    refine z_xI zt12 20 rfl rfl (fun (x1221 : Int32) (h1222 : x1221.toInt = x18.toInt + 1) => ?_) (z_pAdd rfl rfl (by omega) (by omega))
    refine z_xpf zt12 21 rfl zo12 zzf1_29 X f5 (by decide) (by decide) ⟨by omega, by omega⟩ rfl (by decide) zw1_2 (fun M1223 X1224 e1225 h1226 => ?_)
    refine z_xP zt12 22 44 [some (.ref 5), some (.int 40)] [.int 1] rfl rfl ?_
    refine z_xrz zt12 23 rfl zzr12 (by decide) (by decide) ?_
    show z_ev (d + 5) 17 58 [some (.ref 5), some (.int p1), some (.int (-1)), none, none] [.int 1] M1223 _
    refine z_xZ zt17 25 rfl rfl (fun (h1227 : (1 : Int) = 0) => absurd h1227 (by omega)) (fun (h1227 : (1 : Int) ≠ 0) => ?_)
    refine z_xP zt17 26 64 [some (.ref 5), some (.int p1), some (.int (-1)), none, none] [.int 1, .int p1, .ref 5] rfl rfl ?_
    refine z_xI zt17 27 rfl rfl (fun (x1228 : Int32) (h1229 : x1228.toInt = p1.toInt + 1) => ?_) (z_pAdd rfl rfl (by omega) (by omega))
    obtain ⟨d1230, hdd1230⟩ : ∃ e, d = e + 1 := ⟨d - 1, by omega⟩
    subst hdd1230
    refine z_xcV (vs := [.ref 5, .int x1228]) (r := []) (L2 := [some (.ref 5), some (.int x1228), none, none, none, none, none]) zt17 28 rfl zo17 zzcV1_77 (Or.inl rfl) rfl X1224 f5 rfl rfl rfl (Nat.le_of_ble_eq_true rfl) zzm15 (Nat.le_of_ble_eq_true rfl) rfl ?_
    refine ih15 X1224.1 (by omega) (by omega) (by omega) (fun y1233 M1231 X1232  => ?_)
    have X1234 := X1224.go X1232 (z_sb (by decide))
    show z_ev (d1230 + 1 + 5) 17 68 [some (.ref 5), some (.int p1), some (.int (-1)), none, none] [.long y1233] M1231 _
    refine z_xP zt17 29 72 [some (.ref 5), some (.int p1), some (.int (-1)), some (.long y1233), none] [.int 41, .ref 5] rfl rfl ?_
    refine z_xcV (vs := [.ref 5, .int 41]) (r := []) (L2 := [some (.ref 5), some (.int 41)]) zt17 30 rfl zo17 zzcV1_56 (Or.inl rfl) rfl X1234 f5 rfl rfl rfl (Nat.le_of_ble_eq_true rfl) zzm8 (Nat.le_of_ble_eq_true rfl) rfl ?_
    refine z_xP zt8 0 1 [some (.ref 5), some (.int 41)] [.ref 5] rfl rfl ?_
    refine z_xgI zt8 1 rfl zo8 zzf1_32 X1234 f5 (by decide) (by decide) rfl (fun (x1237 : Int32) h1236 (h1238 : (-2147483648) ≤ x1237.toInt) (h1239 : x1237.toInt ≤ 2147483647) => ?_)
    refine z_xZ zt8 2 rfl rfl (fun (h1240 : x1237.toInt < 0) => ?_) (fun (h1240 : 0 ≤ x1237.toInt) => ?_)
    · skip
      refine z_xP zt8 4 9 [some (.ref 5), some (.int 41)] [.ref 5] rfl rfl ?_
      refine z_xgI zt8 5 rfl zo8 zzf1_29 X1234 f5 (by decide) (by decide) rfl (fun (x1242 : Int32) h1241 (h1243 : 0 ≤ x1242.toInt) (h1244 : x1242.toInt ≤ 160) => ?_)
      refine z_xP zt8 6 13 [some (.ref 5), some (.int 41)] [.ref 5, .int x1242] rfl rfl ?_
      have h1245 := (X1232.2.f f5 (by decide) (e1225.f f5 (by decide) h21))
      refine z_xgv zt8 7 rfl zo8 zzf1_25 X1234 f5 (by decide) h1245 ?_
      refine z_xJ zt8 8 rfl rfl (fun (h1246 : x22.toInt ≤ x1242.toInt) => ?_) (fun (h1246 : x1242.toInt < x22.toInt) => ?_)
      · skip
        refine z_xP zt8 22 47 [some (.ref 5), some (.int 41)] [.ref 5, .ref 5] rfl rfl ?_
        refine z_xgv zt8 23 rfl zo8 zzf1_29 X1234 f5 (by decide) h1241 ?_
        refine z_xpf zt8 24 rfl zo8 zzf1_32 X1234 f5 (by decide) (by decide) ⟨Int32.le_toInt _, Int32.toInt_le _⟩ rfl (by decide) zw1_3 (fun M1247 X1248 e1249 h1250 => ?_)
        refine z_xrv zt8 25 rfl zzr8 ?_
        show z_ev (d1230 + 1 + 5) 17 75 [some (.ref 5), some (.int p1), some (.int (-1)), some (.long y1233), none] [] M1247 _
        refine z_xP zt17 31 76 [some (.ref 5), some (.int p1), some (.int (-1)), some (.long y1233), none] [.long y1233] rfl rfl ?_
        exact z_xrl zt17 32 rfl zzr17 (kk y1233 M1247 X1248)
      refine z_xP zt8 9 20 [some (.ref 5), some (.int 41)] [.ref 5] rfl rfl ?_
      refine z_xgX (b := 6) zt8 10 rfl zo8 zzf1_9 X1234 f5 (by decide) (by decide) rfl ?_
      refine z_xP zt8 11 24 [some (.ref 5), some (.int 41)] [.ref 5, .ref 6] rfl rfl ?_
      refine z_xgv zt8 12 rfl zo8 zzf1_29 X1234 f5 (by decide) h1241 ?_
      refine z_xil zt8 13 rfl X1234 f6 (by decide) (by omega) (by omega) (fun (x1251 : Int32) h1252 (h1253 : (-2147483648) ≤ x1251.toInt) (h1254 : x1251.toInt ≤ 2147483647) => ?_)
      refine z_xP zt8 14 29 [some (.ref 5), some (.int 41)] [.int 41, .int x1251] rfl rfl ?_
      refine z_xJ zt8 15 rfl rfl (fun (h1255 : x1251.toInt ≠ 41) => ?_) (fun (h1255 : x1251.toInt = 41) => ?_)
      · skip
        refine z_xP zt8 22 47 [some (.ref 5), some (.int 41)] [.ref 5, .ref 5] rfl rfl ?_
        refine z_xgv zt8 23 rfl zo8 zzf1_29 X1234 f5 (by decide) h1241 ?_
        refine z_xpf zt8 24 rfl zo8 zzf1_32 X1234 f5 (by decide) (by decide) ⟨Int32.le_toInt _, Int32.toInt_le _⟩ rfl (by decide) zw1_3 (fun M1256 X1257 e1258 h1259 => ?_)
        refine z_xrv zt8 25 rfl zzr8 ?_
        show z_ev (d1230 + 1 + 5) 17 75 [some (.ref 5), some (.int p1), some (.int (-1)), some (.long y1233), none] [] M1256 _
        refine z_xP zt17 31 76 [some (.ref 5), some (.int p1), some (.int (-1)), some (.long y1233), none] [.long y1233] rfl rfl ?_
        exact z_xrl zt17 32 rfl zzr17 (kk y1233 M1256 X1257)
      refine z_xP zt8 16 34 [some (.ref 5), some (.int 41)] [.ref 5, .ref 5] rfl rfl ?_
      refine z_xgv zt8 17 rfl zo8 zzf1_29 X1234 f5 (by decide) h1241 ?_
      refine z_xP zt8 18 38 [some (.ref 5), some (.int 41)] [.int 1, .int x1242, .ref 5] rfl rfl ?_
      refine z_xI zt8 19 rfl rfl (fun (x1260 : Int32) (h1261 : x1260.toInt = x1242.toInt + 1) => ?_) (z_pAdd rfl rfl (by omega) (by omega))
      refine z_xpf zt8 20 rfl zo8 zzf1_29 X1234 f5 (by decide) (by decide) ⟨by omega, by omega⟩ rfl (by decide) zw1_2 (fun M1262 X1263 e1264 h1265 => ?_)
      refine z_xP zt8 21 53 [some (.ref 5), some (.int 41)] [] rfl rfl ?_
      refine z_xrv zt8 25 rfl zzr8 ?_
      show z_ev (d1230 + 1 + 5) 17 75 [some (.ref 5), some (.int p1), some (.int (-1)), some (.long y1233), none] [] M1262 _
      refine z_xP zt17 31 76 [some (.ref 5), some (.int p1), some (.int (-1)), some (.long y1233), none] [.long y1233] rfl rfl ?_
      exact z_xrl zt17 32 rfl zzr17 (kk y1233 M1262 X1263)
    refine z_xrv zt8 3 rfl zzr8 ?_
    show z_ev (d1230 + 1 + 5) 17 75 [some (.ref 5), some (.int p1), some (.int (-1)), some (.long y1233), none] [] M1231 _
    refine z_xP zt17 31 76 [some (.ref 5), some (.int p1), some (.int (-1)), some (.long y1233), none] [.long y1233] rfl rfl ?_
    exact z_xrl zt17 32 rfl zzr17 (kk y1233 M1231 X1234)
  refine z_xP zt12 15 32 [some (.ref 5), some (.int 40)] [.int 0] rfl rfl ?_
  refine z_xrz zt12 16 rfl zzr12 (by decide) (by decide) ?_
  show z_ev (d + 5) 17 58 [some (.ref 5), some (.int p1), some (.int (-1)), none, none] [.int 0] M0 _
  refine z_xZ zt17 25 rfl rfl (fun (h1266 : (0 : Int) = 0) => ?_) (fun (h1266 : (0 : Int) ≠ 0) => absurd h1266 (by omega))
  refine z_xP zt17 33 78 [some (.ref 5), some (.int p1), some (.int (-1)), none, none] [.ref 5] rfl rfl ?_
  refine z_xgv zt17 34 rfl zo17 zzf1_32 X f5 (by decide) h1 ?_
  refine z_xZ zt17 35 rfl rfl (fun (h1267 : 0 ≤ x2.toInt) => absurd h1267 (by omega)) (fun (h1267 : x2.toInt < 0) => ?_)
  refine z_xP zt17 36 85 [some (.ref 5), some (.int p1), some (.int (-1)), none, none] [.ref 5] rfl rfl ?_
  refine z_xgv zt17 37 rfl zo17 zzf1_29 X f5 (by decide) h17 ?_
  refine z_xP zt17 38 89 [some (.ref 5), some (.int p1), some (.int (-1)), none, none] [.ref 5, .int x18] rfl rfl ?_
  refine z_xgv zt17 39 rfl zo17 zzf1_25 X f5 (by decide) h21 ?_
  refine z_xJ zt17 40 rfl rfl (fun (h1268 : x22.toInt ≤ x18.toInt) => ?_) (fun (h1268 : x18.toInt < x22.toInt) => ?_)
  · skip
    refine z_xP zt17 49 111 [some (.ref 5), some (.int p1), some (.int (-1)), none, none] [.int 0] rfl rfl ?_
    refine z_xP zt17 50 114 [some (.ref 5), some (.int p1), some (.int (-1)), some (.int 0), none] [.int 1, .int 0] rfl rfl ?_
    refine z_xJ zt17 51 rfl rfl (fun (h1269 : (0 : Int) < 1) => ?_) (fun (h1269 : 1 ≤ (0 : Int)) => absurd h1269 (by omega))
    refine z_xP zt17 63 143 [some (.ref 5), some (.int p1), some (.int (-1)), some (.int 0), none] [.ref 5] rfl rfl ?_
    refine z_xcV (vs := [.ref 5]) (r := []) (L2 := [some (.ref 5)]) zt17 64 rfl zo17 zzcV1_66 (Or.inl rfl) rfl X f5 rfl rfl rfl (Nat.le_of_ble_eq_true rfl) zzm10 (Nat.le_of_ble_eq_true rfl) rfl ?_
    refine z_xP zt10 0 1 [some (.ref 5)] [.ref 5] rfl rfl ?_
    refine z_xgv zt10 1 rfl zo10 zzf1_32 X f5 (by decide) h1 ?_
    refine z_xZ zt10 2 rfl rfl (fun (h1270 : 0 ≤ x2.toInt) => absurd h1270 (by omega)) (fun (h1270 : x2.toInt < 0) => ?_)
    refine z_xP zt10 3 9 [some (.ref 5)] [.ref 5, .ref 5] rfl rfl ?_
    refine z_xgv zt10 4 rfl zo10 zzf1_29 X f5 (by decide) h17 ?_
    refine z_xpf zt10 5 rfl zo10 zzf1_32 X f5 (by decide) (by decide) ⟨Int32.le_toInt _, Int32.toInt_le _⟩ rfl (by decide) zw1_3 (fun M1271 X1272 e1273 h1274 => ?_)
    refine z_xrv zt10 6 rfl zzr10 ?_
    show z_ev (d + 5) 17 146 [some (.ref 5), some (.int p1), some (.int (-1)), some (.int 0), none] [] M1271 _
    refine z_xP zt17 65 147 [some (.ref 5), some (.int p1), some (.int (-1)), some (.int 0), none] [.long 0] rfl rfl ?_
    have q0 : ((0 : Int64)).toInt = 0 := rfl
    exact z_xrl zt17 66 rfl zzr17 (kk 0 M1271 X1272)
  refine z_xP zt17 41 96 [some (.ref 5), some (.int p1), some (.int (-1)), none, none] [.ref 5] rfl rfl ?_
  refine z_xgX (b := 6) zt17 42 rfl zo17 zzf1_9 X f5 (by decide) (by decide) rfl ?_
  refine z_xP zt17 43 100 [some (.ref 5), some (.int p1), some (.int (-1)), none, none] [.ref 5, .ref 6] rfl rfl ?_
  refine z_xgv zt17 44 rfl zo17 zzf1_29 X f5 (by decide) h17 ?_
  refine z_xil zt17 45 rfl X f6 (by decide) (by omega) (by omega) (fun (x1275 : Int32) h1276 (h1277 : (-2147483648) ≤ x1275.toInt) (h1278 : x1275.toInt ≤ 2147483647) => ?_)
  have h1279 := congrArg Int32.toInt (h1276.symm.trans h337)
  refine z_xP zt17 46 106 [some (.ref 5), some (.int p1), some (.int (-1)), none, none] [.int 48, .int x1275] rfl rfl ?_
  have h1280 := z_b32 x1275
  refine z_xI zt17 47 rfl rfl (P := fun _ => True) (fun (x1281 : Int32) _ => ?_) trivial
  refine z_xP zt17 48 111 [some (.ref 5), some (.int p1), some (.int (-1)), none, none] [.int x1281] rfl rfl ?_
  refine z_xP zt17 50 114 [some (.ref 5), some (.int p1), some (.int (-1)), some (.int x1281), none] [.int 1, .int x1281] rfl rfl ?_
  refine z_xJ zt17 51 rfl rfl (fun (h1283 : x1281.toInt < 1) => ?_) (fun (h1283 : 1 ≤ x1281.toInt) => ?_)
  · skip
    refine z_xP zt17 63 143 [some (.ref 5), some (.int p1), some (.int (-1)), some (.int x1281), none] [.ref 5] rfl rfl ?_
    refine z_xcV (vs := [.ref 5]) (r := []) (L2 := [some (.ref 5)]) zt17 64 rfl zo17 zzcV1_66 (Or.inl rfl) rfl X f5 rfl rfl rfl (Nat.le_of_ble_eq_true rfl) zzm10 (Nat.le_of_ble_eq_true rfl) rfl ?_
    refine z_xP zt10 0 1 [some (.ref 5)] [.ref 5] rfl rfl ?_
    refine z_xgv zt10 1 rfl zo10 zzf1_32 X f5 (by decide) h1 ?_
    refine z_xZ zt10 2 rfl rfl (fun (h1284 : 0 ≤ x2.toInt) => absurd h1284 (by omega)) (fun (h1284 : x2.toInt < 0) => ?_)
    refine z_xP zt10 3 9 [some (.ref 5)] [.ref 5, .ref 5] rfl rfl ?_
    refine z_xgv zt10 4 rfl zo10 zzf1_29 X f5 (by decide) h17 ?_
    refine z_xpf zt10 5 rfl zo10 zzf1_32 X f5 (by decide) (by decide) ⟨Int32.le_toInt _, Int32.toInt_le _⟩ rfl (by decide) zw1_3 (fun M1285 X1286 e1287 h1288 => ?_)
    refine z_xrv zt10 6 rfl zzr10 ?_
    show z_ev (d + 5) 17 146 [some (.ref 5), some (.int p1), some (.int (-1)), some (.int x1281), none] [] M1285 _
    refine z_xP zt17 65 147 [some (.ref 5), some (.int p1), some (.int (-1)), some (.int x1281), none] [.long 0] rfl rfl ?_
    have q0 : ((0 : Int64)).toInt = 0 := rfl
    exact z_xrl zt17 66 rfl zzr17 (kk 0 M1285 X1286)
  refine z_xP zt17 52 120 [some (.ref 5), some (.int p1), some (.int (-1)), some (.int x1281), none] [.int 9, .int x1281] rfl rfl ?_
  refine z_xJ zt17 53 rfl rfl (fun (h1289 : 9 < x1281.toInt) => ?_) (fun (h1289 : x1281.toInt ≤ 9) => ?_)
  · skip
    refine z_xP zt17 63 143 [some (.ref 5), some (.int p1), some (.int (-1)), some (.int x1281), none] [.ref 5] rfl rfl ?_
    refine z_xcV (vs := [.ref 5]) (r := []) (L2 := [some (.ref 5)]) zt17 64 rfl zo17 zzcV1_66 (Or.inl rfl) rfl X f5 rfl rfl rfl (Nat.le_of_ble_eq_true rfl) zzm10 (Nat.le_of_ble_eq_true rfl) rfl ?_
    refine z_xP zt10 0 1 [some (.ref 5)] [.ref 5] rfl rfl ?_
    refine z_xgv zt10 1 rfl zo10 zzf1_32 X f5 (by decide) h1 ?_
    refine z_xZ zt10 2 rfl rfl (fun (h1290 : 0 ≤ x2.toInt) => absurd h1290 (by omega)) (fun (h1290 : x2.toInt < 0) => ?_)
    refine z_xP zt10 3 9 [some (.ref 5)] [.ref 5, .ref 5] rfl rfl ?_
    refine z_xgv zt10 4 rfl zo10 zzf1_29 X f5 (by decide) h17 ?_
    refine z_xpf zt10 5 rfl zo10 zzf1_32 X f5 (by decide) (by decide) ⟨Int32.le_toInt _, Int32.toInt_le _⟩ rfl (by decide) zw1_3 (fun M1291 X1292 e1293 h1294 => ?_)
    refine z_xrv zt10 6 rfl zzr10 ?_
    show z_ev (d + 5) 17 146 [some (.ref 5), some (.int p1), some (.int (-1)), some (.int x1281), none] [] M1291 _
    refine z_xP zt17 65 147 [some (.ref 5), some (.int p1), some (.int (-1)), some (.int x1281), none] [.long 0] rfl rfl ?_
    have q0 : ((0 : Int64)).toInt = 0 := rfl
    exact z_xrl zt17 66 rfl zzr17 (kk 0 M1291 X1292)
  refine z_xP zt17 54 125 [some (.ref 5), some (.int p1), some (.int (-1)), some (.int x1281), none] [.ref 5, .ref 5] rfl rfl ?_
  refine z_xgv zt17 55 rfl zo17 zzf1_29 X f5 (by decide) h17 ?_
  refine z_xP zt17 56 129 [some (.ref 5), some (.int p1), some (.int (-1)), some (.int x1281), none] [.int 1, .int x18, .ref 5] rfl rfl ?_
  refine z_xI zt17 57 rfl rfl (fun (x1295 : Int32) (h1296 : x1295.toInt = x18.toInt + 1) => ?_) (z_pAdd rfl rfl (by omega) (by omega))
  refine z_xpf zt17 58 rfl zo17 zzf1_29 X f5 (by decide) (by decide) ⟨by omega, by omega⟩ rfl (by decide) zw1_2 (fun M1297 X1298 e1299 h1300 => ?_)
  refine z_xP zt17 59 137 [some (.ref 5), some (.int p1), some (.int (-1)), some (.int x1281), none] [.int 1, .int p1, .int x1281, .ref 5] rfl rfl ?_
  refine z_xI zt17 60 rfl rfl (fun (x1301 : Int32) (h1302 : x1301.toInt = p1.toInt + 1) => ?_) (z_pAdd rfl rfl (by omega) (by omega))
  obtain ⟨d1303, hdd1303⟩ : ∃ e, d = e + 1 := ⟨d - 1, by omega⟩
  subst hdd1303
  refine z_xcV (vs := [.ref 5, .int x1281, .int x1301]) (r := []) (L2 := [some (.ref 5), some (.int x1281), some (.int x1301), none, none, none, none, none]) zt17 61 rfl zo17 zzcV1_95 (Or.inl rfl) rfl X1298 f5 rfl rfl rfl (Nat.le_of_ble_eq_true rfl) zzm19 (Nat.le_of_ble_eq_true rfl) rfl ?_
  refine ih19 X1298.1 (by omega) (by omega) (by omega) (by omega) (fun y1306 M1304 X1305  => ?_)
  have X1307 := X1298.go X1305 (z_sb (by decide))
  show z_ev (d1303 + 1 + 5) 17 141 [some (.ref 5), some (.int p1), some (.int (-1)), some (.int x1281), none] [.long y1306] M1304 _
  exact z_xrl zt17 62 rfl zzr17 (kk y1306 M1304 X1307)
theorem zB19 {T : List zK} {d : Nat} {K : Option Value → zH → Prop} {p1 : Int32} {p2 : Int32} {N : Nat} {M0 : zH} (u1 : 1 ≤ p1.toInt ∧ p1.toInt ≤ 9) (u2 : 1 ≤ p2.toInt ∧ p2.toInt ≤ 6) (ih15 : zQ15 T N) (ih16 : zQ16 T N) (ih17 : zQ17 T N) (ih19 : zQ19 T N) (hm : 4 * (6 - p2.toInt) + 3 < (N : Int) + 1) (hd : 4 * (6 - p2.toInt) + 3 ≤ (d : Int)) (kk : ∀ (x : Int64) (M1 : zH), z_X T zw19 M0 M1 → K (some (.long x)) M1) : ∀ n : Nat, (∀ (M : zH) (b3 : Int32) (b4 : Int32) (o5 : Option Value) (o7 : Option Value), z_X T zw19 M0 M → 10 ≤ b3.toInt ∧ b3.toInt ≤ 60 → 0 ≤ b4.toInt ∧ b4.toInt ≤ 160 → ((((0) * 3 + 1) * 161 + (160 - b4.toInt)) * 3 + 2) * 10 + (0) < (n : Int) → z_ev (d + 5) 19 36 [some (.ref 5), some (.int p1), some (.int p2), some (.int b3), some (.int b4), o5, none, o7] [] M K) ∧ (∀ (M : zH) (b3 : Int32) (b4 : Int32) (b5 : Int64) (b7 : Int32), z_X T zw19 M0 M → 10 ≤ b3.toInt ∧ b3.toInt ≤ 60 → 0 ≤ b4.toInt ∧ b4.toInt ≤ 159 → 0 ≤ b7.toInt ∧ b7.toInt ≤ 9 → ((((0) * 3 + 1) * 161 + (160 - b4.toInt)) * 3 + 0) * 10 + (b7.toInt - 0) < (n : Int) → z_ev (d + 5) 19 54 [some (.ref 5), some (.int p1), some (.int p2), some (.int b3), some (.int b4), some (.long b5), none, some (.int b7)] [] M K) := by
  intro n
  induction n with
  | zero => exact ⟨(by intros; exfalso; omega), (by intros; exfalso; omega)⟩
  | succ n ih =>
    refine ⟨?_, ?_⟩
    · skip
      intro M b3 b4 o5 o7 X hh0 hh1 hE
      refine z_xP zt19 16 41 [some (.ref 5), some (.int p1), some (.int p2), some (.int b3), some (.int b4), o5, none, o7] [.int 160, .int b4] rfl rfl ?_
      refine z_xJ zt19 17 rfl rfl (fun (h1 : 160 ≤ b4.toInt) => ?_) (fun (h1 : b4.toInt < 160) => ?_)
      · skip
        refine z_xP zt19 48 112 [some (.ref 5), some (.int p1), some (.int p2), some (.int b3), some (.int b4), o5, none, o7] [.int 125, .ref 5] rfl rfl ?_
        have f5 : T[5]? = some (.inl (1, 0, 0, 0, 0)) := X.1.k rfl (by decide)
        refine z_xcV (vs := [.ref 5, .int 125]) (r := []) (L2 := [some (.ref 5), some (.int 125)]) zt19 49 rfl zo19 zzcV1_56 (Or.inl rfl) rfl X f5 rfl rfl rfl (Nat.le_of_ble_eq_true rfl) zzm8 (Nat.le_of_ble_eq_true rfl) rfl ?_
        refine z_xP zt8 0 1 [some (.ref 5), some (.int 125)] [.ref 5] rfl rfl ?_
        refine z_xgI zt8 1 rfl zo8 zzf1_32 X f5 (by decide) (by decide) rfl (fun (x3 : Int32) h2 (h4 : (-2147483648) ≤ x3.toInt) (h5 : x3.toInt ≤ 2147483647) => ?_)
        refine z_xZ zt8 2 rfl rfl (fun (h6 : x3.toInt < 0) => ?_) (fun (h6 : 0 ≤ x3.toInt) => ?_)
        · skip
          refine z_xP zt8 4 9 [some (.ref 5), some (.int 125)] [.ref 5] rfl rfl ?_
          refine z_xgI zt8 5 rfl zo8 zzf1_29 X f5 (by decide) (by decide) rfl (fun (x8 : Int32) h7 (h9 : 0 ≤ x8.toInt) (h10 : x8.toInt ≤ 160) => ?_)
          refine z_xP zt8 6 13 [some (.ref 5), some (.int 125)] [.ref 5, .int x8] rfl rfl ?_
          refine z_xgI zt8 7 rfl zo8 zzf1_25 X f5 (by decide) (by decide) rfl (fun (x12 : Int32) h11 (h13 : 0 ≤ x12.toInt) (h14 : x12.toInt ≤ 160) => ?_)
          refine z_xJ zt8 8 rfl rfl (fun (h15 : x12.toInt ≤ x8.toInt) => ?_) (fun (h15 : x8.toInt < x12.toInt) => ?_)
          · skip
            refine z_xP zt8 22 47 [some (.ref 5), some (.int 125)] [.ref 5, .ref 5] rfl rfl ?_
            refine z_xgv zt8 23 rfl zo8 zzf1_29 X f5 (by decide) h7 ?_
            refine z_xpf zt8 24 rfl zo8 zzf1_32 X f5 (by decide) (by decide) ⟨Int32.le_toInt _, Int32.toInt_le _⟩ rfl (by decide) zw1_3 (fun M16 X17 e18 h19 => ?_)
            refine z_xrv zt8 25 rfl zzr8 ?_
            show z_ev (d + 5) 19 115 [some (.ref 5), some (.int p1), some (.int p2), some (.int b3), some (.int b4), o5, none, o7] [] M16 _
            refine z_xP zt19 50 116 [some (.ref 5), some (.int p1), some (.int p2), some (.int b3), some (.int b4), o5, none, o7] [.ref 5] rfl rfl ?_
            refine z_xgX (b := 9) zt19 51 rfl zo19 zzf1_21 X17 f5 (by decide) (by decide) rfl ?_
            refine z_xP zt19 52 121 [some (.ref 5), some (.int p1), some (.int p2), some (.int b3), some (.int b4), o5, none, o7] [.int p1, .int b3, .ref 9] rfl rfl ?_
            refine z_xI zt19 53 rfl rfl (fun (x20 : Int32) (h21 : x20.toInt = b3.toInt + p1.toInt) => ?_) (z_pAdd rfl rfl (by omega) (by omega))
            have f9 : T[9]? = some (.inr (9, 1, 70, 0, 0)) := X17.1.k rfl (by decide)
            refine z_xll zt19 54 rfl X17 f9 (by decide) (by omega) (by omega) (fun (y22 : Int64) => ?_)
            exact z_xrl zt19 55 rfl zzr19 (kk y22 M16 X17)
          refine z_xP zt8 9 20 [some (.ref 5), some (.int 125)] [.ref 5] rfl rfl ?_
          refine z_xgX (b := 6) zt8 10 rfl zo8 zzf1_9 X f5 (by decide) (by decide) rfl ?_
          refine z_xP zt8 11 24 [some (.ref 5), some (.int 125)] [.ref 5, .ref 6] rfl rfl ?_
          refine z_xgv zt8 12 rfl zo8 zzf1_29 X f5 (by decide) h7 ?_
          have f6 : T[6]? = some (.inr (6, 0, 160, (-2147483648), 2147483647)) := X.1.k rfl (by decide)
          refine z_xil zt8 13 rfl X f6 (by decide) (by omega) (by omega) (fun (x23 : Int32) h24 (h25 : (-2147483648) ≤ x23.toInt) (h26 : x23.toInt ≤ 2147483647) => ?_)
          refine z_xP zt8 14 29 [some (.ref 5), some (.int 125)] [.int 125, .int x23] rfl rfl ?_
          refine z_xJ zt8 15 rfl rfl (fun (h27 : x23.toInt ≠ 125) => ?_) (fun (h27 : x23.toInt = 125) => ?_)
          · skip
            refine z_xP zt8 22 47 [some (.ref 5), some (.int 125)] [.ref 5, .ref 5] rfl rfl ?_
            refine z_xgv zt8 23 rfl zo8 zzf1_29 X f5 (by decide) h7 ?_
            refine z_xpf zt8 24 rfl zo8 zzf1_32 X f5 (by decide) (by decide) ⟨Int32.le_toInt _, Int32.toInt_le _⟩ rfl (by decide) zw1_3 (fun M28 X29 e30 h31 => ?_)
            refine z_xrv zt8 25 rfl zzr8 ?_
            show z_ev (d + 5) 19 115 [some (.ref 5), some (.int p1), some (.int p2), some (.int b3), some (.int b4), o5, none, o7] [] M28 _
            refine z_xP zt19 50 116 [some (.ref 5), some (.int p1), some (.int p2), some (.int b3), some (.int b4), o5, none, o7] [.ref 5] rfl rfl ?_
            refine z_xgX (b := 9) zt19 51 rfl zo19 zzf1_21 X29 f5 (by decide) (by decide) rfl ?_
            refine z_xP zt19 52 121 [some (.ref 5), some (.int p1), some (.int p2), some (.int b3), some (.int b4), o5, none, o7] [.int p1, .int b3, .ref 9] rfl rfl ?_
            refine z_xI zt19 53 rfl rfl (fun (x32 : Int32) (h33 : x32.toInt = b3.toInt + p1.toInt) => ?_) (z_pAdd rfl rfl (by omega) (by omega))
            have f9 : T[9]? = some (.inr (9, 1, 70, 0, 0)) := X29.1.k rfl (by decide)
            refine z_xll zt19 54 rfl X29 f9 (by decide) (by omega) (by omega) (fun (y34 : Int64) => ?_)
            exact z_xrl zt19 55 rfl zzr19 (kk y34 M28 X29)
          refine z_xP zt8 16 34 [some (.ref 5), some (.int 125)] [.ref 5, .ref 5] rfl rfl ?_
          refine z_xgv zt8 17 rfl zo8 zzf1_29 X f5 (by decide) h7 ?_
          refine z_xP zt8 18 38 [some (.ref 5), some (.int 125)] [.int 1, .int x8, .ref 5] rfl rfl ?_
          refine z_xI zt8 19 rfl rfl (fun (x35 : Int32) (h36 : x35.toInt = x8.toInt + 1) => ?_) (z_pAdd rfl rfl (by omega) (by omega))
          refine z_xpf zt8 20 rfl zo8 zzf1_29 X f5 (by decide) (by decide) ⟨by omega, by omega⟩ rfl (by decide) zw1_2 (fun M37 X38 e39 h40 => ?_)
          refine z_xP zt8 21 53 [some (.ref 5), some (.int 125)] [] rfl rfl ?_
          refine z_xrv zt8 25 rfl zzr8 ?_
          show z_ev (d + 5) 19 115 [some (.ref 5), some (.int p1), some (.int p2), some (.int b3), some (.int b4), o5, none, o7] [] M37 _
          refine z_xP zt19 50 116 [some (.ref 5), some (.int p1), some (.int p2), some (.int b3), some (.int b4), o5, none, o7] [.ref 5] rfl rfl ?_
          refine z_xgX (b := 9) zt19 51 rfl zo19 zzf1_21 X38 f5 (by decide) (by decide) rfl ?_
          refine z_xP zt19 52 121 [some (.ref 5), some (.int p1), some (.int p2), some (.int b3), some (.int b4), o5, none, o7] [.int p1, .int b3, .ref 9] rfl rfl ?_
          refine z_xI zt19 53 rfl rfl (fun (x41 : Int32) (h42 : x41.toInt = b3.toInt + p1.toInt) => ?_) (z_pAdd rfl rfl (by omega) (by omega))
          have f9 : T[9]? = some (.inr (9, 1, 70, 0, 0)) := X38.1.k rfl (by decide)
          refine z_xll zt19 54 rfl X38 f9 (by decide) (by omega) (by omega) (fun (y43 : Int64) => ?_)
          exact z_xrl zt19 55 rfl zzr19 (kk y43 M37 X38)
        refine z_xrv zt8 3 rfl zzr8 ?_
        show z_ev (d + 5) 19 115 [some (.ref 5), some (.int p1), some (.int p2), some (.int b3), some (.int b4), o5, none, o7] [] M _
        refine z_xP zt19 50 116 [some (.ref 5), some (.int p1), some (.int p2), some (.int b3), some (.int b4), o5, none, o7] [.ref 5] rfl rfl ?_
        refine z_xgX (b := 9) zt19 51 rfl zo19 zzf1_21 X f5 (by decide) (by decide) rfl ?_
        refine z_xP zt19 52 121 [some (.ref 5), some (.int p1), some (.int p2), some (.int b3), some (.int b4), o5, none, o7] [.int p1, .int b3, .ref 9] rfl rfl ?_
        refine z_xI zt19 53 rfl rfl (fun (x44 : Int32) (h45 : x44.toInt = b3.toInt + p1.toInt) => ?_) (z_pAdd rfl rfl (by omega) (by omega))
        have f9 : T[9]? = some (.inr (9, 1, 70, 0, 0)) := X.1.k rfl (by decide)
        refine z_xll zt19 54 rfl X f9 (by decide) (by omega) (by omega) (fun (y46 : Int64) => ?_)
        exact z_xrl zt19 55 rfl zzr19 (kk y46 M X)
      refine z_xP zt19 18 46 [some (.ref 5), some (.int p1), some (.int p2), some (.int b3), some (.int b4), o5, none, o7] [.int p2, .ref 5] rfl rfl ?_
      have f5 : T[5]? = some (.inl (1, 0, 0, 0, 0)) := X.1.k rfl (by decide)
      obtain ⟨d47, hdd47⟩ : ∃ e, d = e + 1 := ⟨d - 1, by omega⟩
      subst hdd47
      refine z_xcV (vs := [.ref 5, .int p2]) (r := []) (L2 := [some (.ref 5), some (.int p2), none, none, none, none, none]) zt19 19 rfl zo19 zzcV1_77 (Or.inl rfl) rfl X f5 rfl rfl rfl (Nat.le_of_ble_eq_true rfl) zzm15 (Nat.le_of_ble_eq_true rfl) rfl ?_
      refine ih15 X.1 (by omega) (by omega) (by omega) (fun y50 M48 X49  => ?_)
      have X51 := X.go X49 (z_sb (by decide))
      show z_ev (d47 + 1 + 5) 19 49 [some (.ref 5), some (.int p1), some (.int p2), some (.int b3), some (.int b4), o5, none, o7] [.long y50] M48 _
      refine z_xP zt19 20 54 [some (.ref 5), some (.int p1), some (.int p2), some (.int b3), some (.int b4), some (.long y50), none, some (.int p1)] [] rfl rfl ?_
      exact ih.2 M48 b3 b4 y50 p1 X51 ⟨by omega, by omega⟩ ⟨by omega, by omega⟩ ⟨by omega, by omega⟩ (by omega)
    · skip
      intro M b3 b4 b5 b7 X hh0 hh1 hh2 hE
      refine z_xP zt19 21 56 [some (.ref 5), some (.int p1), some (.int p2), some (.int b3), some (.int b4), some (.long b5), none, some (.int b7)] [.int b7] rfl rfl ?_
      refine z_xZ zt19 22 rfl rfl (fun (h1 : b7.toInt ≤ 0) => ?_) (fun (h1 : 0 < b7.toInt) => ?_)
      · skip
        refine z_xP zt19 42 94 [some (.ref 5), some (.int p1), some (.int p2), some (.int b3), some (.int b4), some (.long b5), none, some (.int b7)] [.int 44, .ref 5] rfl rfl ?_
        have f5 : T[5]? = some (.inl (1, 0, 0, 0, 0)) := X.1.k rfl (by decide)
        refine z_xcV (vs := [.ref 5, .int 44]) (r := []) (L2 := [some (.ref 5), some (.int 44)]) zt19 43 rfl zo19 zzcV1_69 (Or.inl rfl) rfl X f5 rfl rfl rfl (Nat.le_of_ble_eq_true rfl) zzm12 (Nat.le_of_ble_eq_true rfl) rfl ?_
        refine z_xP zt12 0 1 [some (.ref 5), some (.int 44)] [.ref 5] rfl rfl ?_
        refine z_xgI zt12 1 rfl zo12 zzf1_32 X f5 (by decide) (by decide) rfl (fun (x3 : Int32) h2 (h4 : (-2147483648) ≤ x3.toInt) (h5 : x3.toInt ≤ 2147483647) => ?_)
        refine z_xZ zt12 2 rfl rfl (fun (h6 : 0 ≤ x3.toInt) => ?_) (fun (h6 : x3.toInt < 0) => ?_)
        · skip
          refine z_xP zt12 15 32 [some (.ref 5), some (.int 44)] [.int 0] rfl rfl ?_
          refine z_xrz zt12 16 rfl zzr12 (by decide) (by decide) ?_
          show z_ev (d + 5) 19 97 [some (.ref 5), some (.int p1), some (.int p2), some (.int b3), some (.int b4), some (.long b5), none, some (.int b7)] [.int 0] M _
          refine z_xZ zt19 44 rfl rfl (fun (h7 : (0 : Int) ≠ 0) => absurd h7 (by omega)) (fun (h7 : (0 : Int) = 0) => ?_)
          refine z_xP zt19 45 109 [some (.ref 5), some (.int p1), some (.int p2), some (.int b3), some (.int b4), some (.long b5), none, some (.int b7)] [] rfl rfl ?_
          refine z_xP zt19 48 112 [some (.ref 5), some (.int p1), some (.int p2), some (.int b3), some (.int b4), some (.long b5), none, some (.int b7)] [.int 125, .ref 5] rfl rfl ?_
          refine z_xcV (vs := [.ref 5, .int 125]) (r := []) (L2 := [some (.ref 5), some (.int 125)]) zt19 49 rfl zo19 zzcV1_56 (Or.inl rfl) rfl X f5 rfl rfl rfl (Nat.le_of_ble_eq_true rfl) zzm8 (Nat.le_of_ble_eq_true rfl) rfl ?_
          refine z_xP zt8 0 1 [some (.ref 5), some (.int 125)] [.ref 5] rfl rfl ?_
          refine z_xgv zt8 1 rfl zo8 zzf1_32 X f5 (by decide) h2 ?_
          refine z_xZ zt8 2 rfl rfl (fun (h8 : x3.toInt < 0) => absurd h8 (by omega)) (fun (h8 : 0 ≤ x3.toInt) => ?_)
          refine z_xrv zt8 3 rfl zzr8 ?_
          show z_ev (d + 5) 19 115 [some (.ref 5), some (.int p1), some (.int p2), some (.int b3), some (.int b4), some (.long b5), none, some (.int b7)] [] M _
          refine z_xP zt19 50 116 [some (.ref 5), some (.int p1), some (.int p2), some (.int b3), some (.int b4), some (.long b5), none, some (.int b7)] [.ref 5] rfl rfl ?_
          refine z_xgX (b := 9) zt19 51 rfl zo19 zzf1_21 X f5 (by decide) (by decide) rfl ?_
          refine z_xP zt19 52 121 [some (.ref 5), some (.int p1), some (.int p2), some (.int b3), some (.int b4), some (.long b5), none, some (.int b7)] [.int p1, .int b3, .ref 9] rfl rfl ?_
          refine z_xI zt19 53 rfl rfl (fun (x9 : Int32) (h10 : x9.toInt = b3.toInt + p1.toInt) => ?_) (z_pAdd rfl rfl (by omega) (by omega))
          have f9 : T[9]? = some (.inr (9, 1, 70, 0, 0)) := X.1.k rfl (by decide)
          refine z_xll zt19 54 rfl X f9 (by decide) (by omega) (by omega) (fun (y11 : Int64) => ?_)
          exact z_xrl zt19 55 rfl zzr19 (kk y11 M X)
        refine z_xP zt12 3 8 [some (.ref 5), some (.int 44)] [.ref 5] rfl rfl ?_
        refine z_xgI zt12 4 rfl zo12 zzf1_29 X f5 (by decide) (by decide) rfl (fun (x13 : Int32) h12 (h14 : 0 ≤ x13.toInt) (h15 : x13.toInt ≤ 160) => ?_)
        refine z_xP zt12 5 12 [some (.ref 5), some (.int 44)] [.ref 5, .int x13] rfl rfl ?_
        refine z_xgI zt12 6 rfl zo12 zzf1_25 X f5 (by decide) (by decide) rfl (fun (x17 : Int32) h16 (h18 : 0 ≤ x17.toInt) (h19 : x17.toInt ≤ 160) => ?_)
        refine z_xJ zt12 7 rfl rfl (fun (h20 : x17.toInt ≤ x13.toInt) => ?_) (fun (h20 : x13.toInt < x17.toInt) => ?_)
        · skip
          refine z_xP zt12 15 32 [some (.ref 5), some (.int 44)] [.int 0] rfl rfl ?_
          refine z_xrz zt12 16 rfl zzr12 (by decide) (by decide) ?_
          show z_ev (d + 5) 19 97 [some (.ref 5), some (.int p1), some (.int p2), some (.int b3), some (.int b4), some (.long b5), none, some (.int b7)] [.int 0] M _
          refine z_xZ zt19 44 rfl rfl (fun (h21 : (0 : Int) ≠ 0) => absurd h21 (by omega)) (fun (h21 : (0 : Int) = 0) => ?_)
          refine z_xP zt19 45 109 [some (.ref 5), some (.int p1), some (.int p2), some (.int b3), some (.int b4), some (.long b5), none, some (.int b7)] [] rfl rfl ?_
          refine z_xP zt19 48 112 [some (.ref 5), some (.int p1), some (.int p2), some (.int b3), some (.int b4), some (.long b5), none, some (.int b7)] [.int 125, .ref 5] rfl rfl ?_
          refine z_xcV (vs := [.ref 5, .int 125]) (r := []) (L2 := [some (.ref 5), some (.int 125)]) zt19 49 rfl zo19 zzcV1_56 (Or.inl rfl) rfl X f5 rfl rfl rfl (Nat.le_of_ble_eq_true rfl) zzm8 (Nat.le_of_ble_eq_true rfl) rfl ?_
          refine z_xP zt8 0 1 [some (.ref 5), some (.int 125)] [.ref 5] rfl rfl ?_
          refine z_xgv zt8 1 rfl zo8 zzf1_32 X f5 (by decide) h2 ?_
          refine z_xZ zt8 2 rfl rfl (fun (h22 : x3.toInt < 0) => ?_) (fun (h22 : 0 ≤ x3.toInt) => absurd h22 (by omega))
          refine z_xP zt8 4 9 [some (.ref 5), some (.int 125)] [.ref 5] rfl rfl ?_
          refine z_xgv zt8 5 rfl zo8 zzf1_29 X f5 (by decide) h12 ?_
          refine z_xP zt8 6 13 [some (.ref 5), some (.int 125)] [.ref 5, .int x13] rfl rfl ?_
          refine z_xgv zt8 7 rfl zo8 zzf1_25 X f5 (by decide) h16 ?_
          refine z_xJ zt8 8 rfl rfl (fun (h23 : x17.toInt ≤ x13.toInt) => ?_) (fun (h23 : x13.toInt < x17.toInt) => ?_)
          · skip
            refine z_xP zt8 22 47 [some (.ref 5), some (.int 125)] [.ref 5, .ref 5] rfl rfl ?_
            refine z_xgv zt8 23 rfl zo8 zzf1_29 X f5 (by decide) h12 ?_
            refine z_xpf zt8 24 rfl zo8 zzf1_32 X f5 (by decide) (by decide) ⟨Int32.le_toInt _, Int32.toInt_le _⟩ rfl (by decide) zw1_3 (fun M24 X25 e26 h27 => ?_)
            refine z_xrv zt8 25 rfl zzr8 ?_
            show z_ev (d + 5) 19 115 [some (.ref 5), some (.int p1), some (.int p2), some (.int b3), some (.int b4), some (.long b5), none, some (.int b7)] [] M24 _
            refine z_xP zt19 50 116 [some (.ref 5), some (.int p1), some (.int p2), some (.int b3), some (.int b4), some (.long b5), none, some (.int b7)] [.ref 5] rfl rfl ?_
            refine z_xgX (b := 9) zt19 51 rfl zo19 zzf1_21 X25 f5 (by decide) (by decide) rfl ?_
            refine z_xP zt19 52 121 [some (.ref 5), some (.int p1), some (.int p2), some (.int b3), some (.int b4), some (.long b5), none, some (.int b7)] [.int p1, .int b3, .ref 9] rfl rfl ?_
            refine z_xI zt19 53 rfl rfl (fun (x28 : Int32) (h29 : x28.toInt = b3.toInt + p1.toInt) => ?_) (z_pAdd rfl rfl (by omega) (by omega))
            have f9 : T[9]? = some (.inr (9, 1, 70, 0, 0)) := X25.1.k rfl (by decide)
            refine z_xll zt19 54 rfl X25 f9 (by decide) (by omega) (by omega) (fun (y30 : Int64) => ?_)
            exact z_xrl zt19 55 rfl zzr19 (kk y30 M24 X25)
          refine z_xP zt8 9 20 [some (.ref 5), some (.int 125)] [.ref 5] rfl rfl ?_
          refine z_xgX (b := 6) zt8 10 rfl zo8 zzf1_9 X f5 (by decide) (by decide) rfl ?_
          refine z_xP zt8 11 24 [some (.ref 5), some (.int 125)] [.ref 5, .ref 6] rfl rfl ?_
          refine z_xgv zt8 12 rfl zo8 zzf1_29 X f5 (by decide) h12 ?_
          have f6 : T[6]? = some (.inr (6, 0, 160, (-2147483648), 2147483647)) := X.1.k rfl (by decide)
          refine z_xil zt8 13 rfl X f6 (by decide) (by omega) (by omega) (fun (x31 : Int32) h32 (h33 : (-2147483648) ≤ x31.toInt) (h34 : x31.toInt ≤ 2147483647) => ?_)
          refine z_xP zt8 14 29 [some (.ref 5), some (.int 125)] [.int 125, .int x31] rfl rfl ?_
          refine z_xJ zt8 15 rfl rfl (fun (h35 : x31.toInt ≠ 125) => ?_) (fun (h35 : x31.toInt = 125) => ?_)
          · skip
            refine z_xP zt8 22 47 [some (.ref 5), some (.int 125)] [.ref 5, .ref 5] rfl rfl ?_
            refine z_xgv zt8 23 rfl zo8 zzf1_29 X f5 (by decide) h12 ?_
            refine z_xpf zt8 24 rfl zo8 zzf1_32 X f5 (by decide) (by decide) ⟨Int32.le_toInt _, Int32.toInt_le _⟩ rfl (by decide) zw1_3 (fun M36 X37 e38 h39 => ?_)
            refine z_xrv zt8 25 rfl zzr8 ?_
            show z_ev (d + 5) 19 115 [some (.ref 5), some (.int p1), some (.int p2), some (.int b3), some (.int b4), some (.long b5), none, some (.int b7)] [] M36 _
            refine z_xP zt19 50 116 [some (.ref 5), some (.int p1), some (.int p2), some (.int b3), some (.int b4), some (.long b5), none, some (.int b7)] [.ref 5] rfl rfl ?_
            refine z_xgX (b := 9) zt19 51 rfl zo19 zzf1_21 X37 f5 (by decide) (by decide) rfl ?_
            refine z_xP zt19 52 121 [some (.ref 5), some (.int p1), some (.int p2), some (.int b3), some (.int b4), some (.long b5), none, some (.int b7)] [.int p1, .int b3, .ref 9] rfl rfl ?_
            refine z_xI zt19 53 rfl rfl (fun (x40 : Int32) (h41 : x40.toInt = b3.toInt + p1.toInt) => ?_) (z_pAdd rfl rfl (by omega) (by omega))
            have f9 : T[9]? = some (.inr (9, 1, 70, 0, 0)) := X37.1.k rfl (by decide)
            refine z_xll zt19 54 rfl X37 f9 (by decide) (by omega) (by omega) (fun (y42 : Int64) => ?_)
            exact z_xrl zt19 55 rfl zzr19 (kk y42 M36 X37)
          refine z_xP zt8 16 34 [some (.ref 5), some (.int 125)] [.ref 5, .ref 5] rfl rfl ?_
          refine z_xgv zt8 17 rfl zo8 zzf1_29 X f5 (by decide) h12 ?_
          refine z_xP zt8 18 38 [some (.ref 5), some (.int 125)] [.int 1, .int x13, .ref 5] rfl rfl ?_
          refine z_xI zt8 19 rfl rfl (fun (x43 : Int32) (h44 : x43.toInt = x13.toInt + 1) => ?_) (z_pAdd rfl rfl (by omega) (by omega))
          refine z_xpf zt8 20 rfl zo8 zzf1_29 X f5 (by decide) (by decide) ⟨by omega, by omega⟩ rfl (by decide) zw1_2 (fun M45 X46 e47 h48 => ?_)
          refine z_xP zt8 21 53 [some (.ref 5), some (.int 125)] [] rfl rfl ?_
          refine z_xrv zt8 25 rfl zzr8 ?_
          show z_ev (d + 5) 19 115 [some (.ref 5), some (.int p1), some (.int p2), some (.int b3), some (.int b4), some (.long b5), none, some (.int b7)] [] M45 _
          refine z_xP zt19 50 116 [some (.ref 5), some (.int p1), some (.int p2), some (.int b3), some (.int b4), some (.long b5), none, some (.int b7)] [.ref 5] rfl rfl ?_
          refine z_xgX (b := 9) zt19 51 rfl zo19 zzf1_21 X46 f5 (by decide) (by decide) rfl ?_
          refine z_xP zt19 52 121 [some (.ref 5), some (.int p1), some (.int p2), some (.int b3), some (.int b4), some (.long b5), none, some (.int b7)] [.int p1, .int b3, .ref 9] rfl rfl ?_
          refine z_xI zt19 53 rfl rfl (fun (x49 : Int32) (h50 : x49.toInt = b3.toInt + p1.toInt) => ?_) (z_pAdd rfl rfl (by omega) (by omega))
          have f9 : T[9]? = some (.inr (9, 1, 70, 0, 0)) := X46.1.k rfl (by decide)
          refine z_xll zt19 54 rfl X46 f9 (by decide) (by omega) (by omega) (fun (y51 : Int64) => ?_)
          exact z_xrl zt19 55 rfl zzr19 (kk y51 M45 X46)
        refine z_xP zt12 8 19 [some (.ref 5), some (.int 44)] [.ref 5] rfl rfl ?_
        refine z_xgX (b := 6) zt12 9 rfl zo12 zzf1_9 X f5 (by decide) (by decide) rfl ?_
        refine z_xP zt12 10 23 [some (.ref 5), some (.int 44)] [.ref 5, .ref 6] rfl rfl ?_
        refine z_xgv zt12 11 rfl zo12 zzf1_29 X f5 (by decide) h12 ?_
        have f6 : T[6]? = some (.inr (6, 0, 160, (-2147483648), 2147483647)) := X.1.k rfl (by decide)
        refine z_xil zt12 12 rfl X f6 (by decide) (by omega) (by omega) (fun (x52 : Int32) h53 (h54 : (-2147483648) ≤ x52.toInt) (h55 : x52.toInt ≤ 2147483647) => ?_)
        refine z_xP zt12 13 28 [some (.ref 5), some (.int 44)] [.int 44, .int x52] rfl rfl ?_
        refine z_xJ zt12 14 rfl rfl (fun (h56 : x52.toInt = 44) => ?_) (fun (h56 : x52.toInt ≠ 44) => ?_)
        · skip
          refine z_xP zt12 17 35 [some (.ref 5), some (.int 44)] [.ref 5, .ref 5] rfl rfl ?_
          refine z_xgv zt12 18 rfl zo12 zzf1_29 X f5 (by decide) h12 ?_
          refine z_xP zt12 19 39 [some (.ref 5), some (.int 44)] [.int 1, .int x13, .ref 5] rfl rfl ?_
          refine z_xI zt12 20 rfl rfl (fun (x57 : Int32) (h58 : x57.toInt = x13.toInt + 1) => ?_) (z_pAdd rfl rfl (by omega) (by omega))
          refine z_xpf zt12 21 rfl zo12 zzf1_29 X f5 (by decide) (by decide) ⟨by omega, by omega⟩ rfl (by decide) zw1_2 (fun M59 X60 e61 h62 => ?_)
          refine z_xP zt12 22 44 [some (.ref 5), some (.int 44)] [.int 1] rfl rfl ?_
          refine z_xrz zt12 23 rfl zzr12 (by decide) (by decide) ?_
          show z_ev (d + 5) 19 97 [some (.ref 5), some (.int p1), some (.int p2), some (.int b3), some (.int b4), some (.long b5), none, some (.int b7)] [.int 1] M59 _
          refine z_xZ zt19 44 rfl rfl (fun (h63 : (1 : Int) ≠ 0) => ?_) (fun (h63 : (1 : Int) = 0) => absurd h63 (by omega))
          refine z_xN zt19 46 rfl rfl (fun (x64 : Int32) (h65 : x64.toInt = b4.toInt + 1) => ?_) (z_pAdd rfl rfl (by omega) (by omega))
          show z_ev (d + 5) 19 106 [some (.ref 5), some (.int p1), some (.int p2), some (.int b3), some (.int x64), some (.long b5), none, some (.int b7)] [] M59 _
          refine z_xP zt19 47 36 [some (.ref 5), some (.int p1), some (.int p2), some (.int b3), some (.int x64), some (.long b5), none, some (.int b7)] [] rfl rfl ?_
          exact ih.1 M59 b3 x64 (some (.long b5)) (some (.int b7)) X60 ⟨by omega, by omega⟩ ⟨by omega, by omega⟩ (by omega)
        refine z_xP zt12 15 32 [some (.ref 5), some (.int 44)] [.int 0] rfl rfl ?_
        refine z_xrz zt12 16 rfl zzr12 (by decide) (by decide) ?_
        show z_ev (d + 5) 19 97 [some (.ref 5), some (.int p1), some (.int p2), some (.int b3), some (.int b4), some (.long b5), none, some (.int b7)] [.int 0] M _
        refine z_xZ zt19 44 rfl rfl (fun (h66 : (0 : Int) ≠ 0) => absurd h66 (by omega)) (fun (h66 : (0 : Int) = 0) => ?_)
        refine z_xP zt19 45 109 [some (.ref 5), some (.int p1), some (.int p2), some (.int b3), some (.int b4), some (.long b5), none, some (.int b7)] [] rfl rfl ?_
        refine z_xP zt19 48 112 [some (.ref 5), some (.int p1), some (.int p2), some (.int b3), some (.int b4), some (.long b5), none, some (.int b7)] [.int 125, .ref 5] rfl rfl ?_
        refine z_xcV (vs := [.ref 5, .int 125]) (r := []) (L2 := [some (.ref 5), some (.int 125)]) zt19 49 rfl zo19 zzcV1_56 (Or.inl rfl) rfl X f5 rfl rfl rfl (Nat.le_of_ble_eq_true rfl) zzm8 (Nat.le_of_ble_eq_true rfl) rfl ?_
        refine z_xP zt8 0 1 [some (.ref 5), some (.int 125)] [.ref 5] rfl rfl ?_
        refine z_xgv zt8 1 rfl zo8 zzf1_32 X f5 (by decide) h2 ?_
        refine z_xZ zt8 2 rfl rfl (fun (h67 : x3.toInt < 0) => ?_) (fun (h67 : 0 ≤ x3.toInt) => absurd h67 (by omega))
        refine z_xP zt8 4 9 [some (.ref 5), some (.int 125)] [.ref 5] rfl rfl ?_
        refine z_xgv zt8 5 rfl zo8 zzf1_29 X f5 (by decide) h12 ?_
        refine z_xP zt8 6 13 [some (.ref 5), some (.int 125)] [.ref 5, .int x13] rfl rfl ?_
        refine z_xgv zt8 7 rfl zo8 zzf1_25 X f5 (by decide) h16 ?_
        refine z_xJ zt8 8 rfl rfl (fun (h68 : x17.toInt ≤ x13.toInt) => ?_) (fun (h68 : x13.toInt < x17.toInt) => ?_)
        · skip
          refine z_xP zt8 22 47 [some (.ref 5), some (.int 125)] [.ref 5, .ref 5] rfl rfl ?_
          refine z_xgv zt8 23 rfl zo8 zzf1_29 X f5 (by decide) h12 ?_
          refine z_xpf zt8 24 rfl zo8 zzf1_32 X f5 (by decide) (by decide) ⟨Int32.le_toInt _, Int32.toInt_le _⟩ rfl (by decide) zw1_3 (fun M69 X70 e71 h72 => ?_)
          refine z_xrv zt8 25 rfl zzr8 ?_
          show z_ev (d + 5) 19 115 [some (.ref 5), some (.int p1), some (.int p2), some (.int b3), some (.int b4), some (.long b5), none, some (.int b7)] [] M69 _
          refine z_xP zt19 50 116 [some (.ref 5), some (.int p1), some (.int p2), some (.int b3), some (.int b4), some (.long b5), none, some (.int b7)] [.ref 5] rfl rfl ?_
          refine z_xgX (b := 9) zt19 51 rfl zo19 zzf1_21 X70 f5 (by decide) (by decide) rfl ?_
          refine z_xP zt19 52 121 [some (.ref 5), some (.int p1), some (.int p2), some (.int b3), some (.int b4), some (.long b5), none, some (.int b7)] [.int p1, .int b3, .ref 9] rfl rfl ?_
          refine z_xI zt19 53 rfl rfl (fun (x73 : Int32) (h74 : x73.toInt = b3.toInt + p1.toInt) => ?_) (z_pAdd rfl rfl (by omega) (by omega))
          have f9 : T[9]? = some (.inr (9, 1, 70, 0, 0)) := X70.1.k rfl (by decide)
          refine z_xll zt19 54 rfl X70 f9 (by decide) (by omega) (by omega) (fun (y75 : Int64) => ?_)
          exact z_xrl zt19 55 rfl zzr19 (kk y75 M69 X70)
        refine z_xP zt8 9 20 [some (.ref 5), some (.int 125)] [.ref 5] rfl rfl ?_
        refine z_xgX (b := 6) zt8 10 rfl zo8 zzf1_9 X f5 (by decide) (by decide) rfl ?_
        refine z_xP zt8 11 24 [some (.ref 5), some (.int 125)] [.ref 5, .ref 6] rfl rfl ?_
        refine z_xgv zt8 12 rfl zo8 zzf1_29 X f5 (by decide) h12 ?_
        refine z_xil zt8 13 rfl X f6 (by decide) (by omega) (by omega) (fun (x76 : Int32) h77 (h78 : (-2147483648) ≤ x76.toInt) (h79 : x76.toInt ≤ 2147483647) => ?_)
        have h80 := congrArg Int32.toInt (h77.symm.trans h53)
        refine z_xP zt8 14 29 [some (.ref 5), some (.int 125)] [.int 125, .int x76] rfl rfl ?_
        refine z_xJ zt8 15 rfl rfl (fun (h81 : x76.toInt ≠ 125) => ?_) (fun (h81 : x76.toInt = 125) => ?_)
        · skip
          refine z_xP zt8 22 47 [some (.ref 5), some (.int 125)] [.ref 5, .ref 5] rfl rfl ?_
          refine z_xgv zt8 23 rfl zo8 zzf1_29 X f5 (by decide) h12 ?_
          refine z_xpf zt8 24 rfl zo8 zzf1_32 X f5 (by decide) (by decide) ⟨Int32.le_toInt _, Int32.toInt_le _⟩ rfl (by decide) zw1_3 (fun M82 X83 e84 h85 => ?_)
          refine z_xrv zt8 25 rfl zzr8 ?_
          show z_ev (d + 5) 19 115 [some (.ref 5), some (.int p1), some (.int p2), some (.int b3), some (.int b4), some (.long b5), none, some (.int b7)] [] M82 _
          refine z_xP zt19 50 116 [some (.ref 5), some (.int p1), some (.int p2), some (.int b3), some (.int b4), some (.long b5), none, some (.int b7)] [.ref 5] rfl rfl ?_
          refine z_xgX (b := 9) zt19 51 rfl zo19 zzf1_21 X83 f5 (by decide) (by decide) rfl ?_
          refine z_xP zt19 52 121 [some (.ref 5), some (.int p1), some (.int p2), some (.int b3), some (.int b4), some (.long b5), none, some (.int b7)] [.int p1, .int b3, .ref 9] rfl rfl ?_
          refine z_xI zt19 53 rfl rfl (fun (x86 : Int32) (h87 : x86.toInt = b3.toInt + p1.toInt) => ?_) (z_pAdd rfl rfl (by omega) (by omega))
          have f9 : T[9]? = some (.inr (9, 1, 70, 0, 0)) := X83.1.k rfl (by decide)
          refine z_xll zt19 54 rfl X83 f9 (by decide) (by omega) (by omega) (fun (y88 : Int64) => ?_)
          exact z_xrl zt19 55 rfl zzr19 (kk y88 M82 X83)
        refine z_xP zt8 16 34 [some (.ref 5), some (.int 125)] [.ref 5, .ref 5] rfl rfl ?_
        refine z_xgv zt8 17 rfl zo8 zzf1_29 X f5 (by decide) h12 ?_
        refine z_xP zt8 18 38 [some (.ref 5), some (.int 125)] [.int 1, .int x13, .ref 5] rfl rfl ?_
        refine z_xI zt8 19 rfl rfl (fun (x89 : Int32) (h90 : x89.toInt = x13.toInt + 1) => ?_) (z_pAdd rfl rfl (by omega) (by omega))
        refine z_xpf zt8 20 rfl zo8 zzf1_29 X f5 (by decide) (by decide) ⟨by omega, by omega⟩ rfl (by decide) zw1_2 (fun M91 X92 e93 h94 => ?_)
        refine z_xP zt8 21 53 [some (.ref 5), some (.int 125)] [] rfl rfl ?_
        refine z_xrv zt8 25 rfl zzr8 ?_
        show z_ev (d + 5) 19 115 [some (.ref 5), some (.int p1), some (.int p2), some (.int b3), some (.int b4), some (.long b5), none, some (.int b7)] [] M91 _
        refine z_xP zt19 50 116 [some (.ref 5), some (.int p1), some (.int p2), some (.int b3), some (.int b4), some (.long b5), none, some (.int b7)] [.ref 5] rfl rfl ?_
        refine z_xgX (b := 9) zt19 51 rfl zo19 zzf1_21 X92 f5 (by decide) (by decide) rfl ?_
        refine z_xP zt19 52 121 [some (.ref 5), some (.int p1), some (.int p2), some (.int b3), some (.int b4), some (.long b5), none, some (.int b7)] [.int p1, .int b3, .ref 9] rfl rfl ?_
        refine z_xI zt19 53 rfl rfl (fun (x95 : Int32) (h96 : x95.toInt = b3.toInt + p1.toInt) => ?_) (z_pAdd rfl rfl (by omega) (by omega))
        have f9 : T[9]? = some (.inr (9, 1, 70, 0, 0)) := X92.1.k rfl (by decide)
        refine z_xll zt19 54 rfl X92 f9 (by decide) (by omega) (by omega) (fun (y97 : Int64) => ?_)
        exact z_xrl zt19 55 rfl zzr19 (kk y97 M91 X92)
      refine z_xP zt19 23 60 [some (.ref 5), some (.int p1), some (.int p2), some (.int b3), some (.int b4), some (.long b5), none, some (.int b7)] [.ref 5] rfl rfl ?_
      have f5 : T[5]? = some (.inl (1, 0, 0, 0, 0)) := X.1.k rfl (by decide)
      refine z_xgX (b := 9) zt19 24 rfl zo19 zzf1_21 X f5 (by decide) (by decide) rfl ?_
      refine z_xP zt19 25 66 [some (.ref 5), some (.int p1), some (.int p2), some (.int b3), some (.int b4), some (.long b5), none, some (.int b7)] [.int b7, .int b3, .ref 9] rfl rfl ?_
      refine z_xI zt19 26 rfl rfl (fun (x98 : Int32) (h99 : x98.toInt = b3.toInt + b7.toInt) => ?_) (z_pAdd rfl rfl (by omega) (by omega))
      refine z_xP zt19 27 68 [some (.ref 5), some (.int p1), some (.int p2), some (.int b3), some (.int b4), some (.long b5), none, some (.int b7)] [.int x98, .ref 9, .int x98, .ref 9] rfl rfl ?_
      have f9 : T[9]? = some (.inr (9, 1, 70, 0, 0)) := X.1.k rfl (by decide)
      refine z_xll zt19 28 rfl X f9 (by decide) (by omega) (by omega) (fun (y100 : Int64) => ?_)
      refine z_xP zt19 29 70 [some (.ref 5), some (.int p1), some (.int p2), some (.int b3), some (.int b4), some (.long b5), none, some (.int b7)] [.ref 5, .long y100, .int x98, .ref 9] rfl rfl ?_
      refine z_xgX (b := 9) zt19 30 rfl zo19 zzf1_21 X f5 (by decide) (by decide) rfl ?_
      refine z_xP zt19 31 76 [some (.ref 5), some (.int p1), some (.int p2), some (.int b3), some (.int b4), some (.long b5), none, some (.int b7)] [.int b7, .int b3, .ref 9, .long y100, .int x98, .ref 9] rfl rfl ?_
      refine z_xI zt19 32 rfl rfl (fun (x101 : Int32) (h102 : x101.toInt = b3.toInt + b7.toInt) => ?_) (z_pAdd rfl rfl (by omega) (by omega))
      refine z_xP zt19 33 78 [some (.ref 5), some (.int p1), some (.int p2), some (.int b3), some (.int b4), some (.long b5), none, some (.int b7)] [.int 1, .int x101, .ref 9, .long y100, .int x98, .ref 9] rfl rfl ?_
      refine z_xI zt19 34 rfl rfl (fun (x103 : Int32) (h104 : x103.toInt = x101.toInt - 1) => ?_) (z_pSub rfl rfl (by omega) (by omega))
      refine z_xll zt19 35 rfl X f9 (by decide) (by omega) (by omega) (fun (y105 : Int64) => ?_)
      refine z_xP zt19 36 82 [some (.ref 5), some (.int p1), some (.int p2), some (.int b3), some (.int b4), some (.long b5), none, some (.int b7)] [.long b5, .long y105, .long y100, .int x98, .ref 9] rfl rfl ?_
      refine z_xL zt19 37 rfl rfl (P := fun _ => True) (fun (y106 : Int64) _ => ?_) trivial
      refine z_xL zt19 38 rfl rfl (P := fun _ => True) (fun (y108 : Int64) _ => ?_) trivial
      refine z_xls zt19 39 rfl X f9 (by decide) (by decide) (by omega) (by omega) (by decide) (fun M110 X111 e112 => ?_)
      refine z_xN zt19 40 rfl rfl (fun (x113 : Int32) (h114 : x113.toInt = b7.toInt + (-1)) => ?_) (z_pAdd rfl rfl (by omega) (by omega))
      show z_ev (d + 5) 19 88 [some (.ref 5), some (.int p1), some (.int p2), some (.int b3), some (.int b4), some (.long b5), none, some (.int x113)] [] M110 _
      refine z_xP zt19 41 54 [some (.ref 5), some (.int p1), some (.int p2), some (.int b3), some (.int b4), some (.long b5), none, some (.int x113)] [] rfl rfl ?_
      exact ih.2 M110 b3 b4 b5 x113 X111 ⟨by omega, by omega⟩ ⟨by omega, by omega⟩ ⟨by omega, by omega⟩ (by omega)
theorem zC19r {T : List zK} {d : Nat} {K : Option Value → zH → Prop} {p1 : Int32} {p2 : Int32} {N : Nat} {M0 : zH} (hW : z_W M0 T) (u1 : 1 ≤ p1.toInt ∧ p1.toInt ≤ 9) (u2 : 1 ≤ p2.toInt ∧ p2.toInt ≤ 6) (ih15 : zQ15 T N) (ih16 : zQ16 T N) (ih17 : zQ17 T N) (ih19 : zQ19 T N) (hm : 4 * (6 - p2.toInt) + 3 < (N : Int) + 1) (hd : 4 * (6 - p2.toInt) + 3 ≤ (d : Int)) (kk : ∀ (x : Int64) (M1 : zH), z_X T zw19 M0 M1 → K (some (.long x)) M1) : z_ev (d + 5) 19 0 [some (.ref 5), some (.int p1), some (.int p2), none, none, none, none, none] [] M0 K := by
  have X : z_X T zw19 M0 M0 := .refl hW
  refine z_xP zt19 0 3 [some (.ref 5), some (.int p1), some (.int p2), none, none, none, none, none] [.int 10, .int p2] rfl rfl ?_
  refine z_xI zt19 1 rfl rfl (fun (x1 : Int32) (h2 : x1.toInt = p2.toInt * 10) => ?_) (z_pMul rfl rfl (by omega) (by omega))
  refine z_xP zt19 2 6 [some (.ref 5), some (.int p1), some (.int p2), some (.int x1), none, none, none, none] [.ref 5] rfl rfl ?_
  have f5 : T[5]? = some (.inl (1, 0, 0, 0, 0)) := X.1.k rfl (by decide)
  refine z_xgX (b := 9) zt19 3 rfl zo19 zzf1_21 X f5 (by decide) (by decide) rfl ?_
  refine z_xP zt19 4 13 [some (.ref 5), some (.int p1), some (.int p2), some (.int x1), none, none, none, none] [.int 10, .int x1, .int x1, .ref 9] rfl rfl ?_
  refine z_xI zt19 5 rfl rfl (fun (x3 : Int32) (h4 : x3.toInt = x1.toInt + 10) => ?_) (z_pAdd rfl rfl (by omega) (by omega))
  refine z_xP zt19 6 15 [some (.ref 5), some (.int p1), some (.int p2), some (.int x1), none, none, none, none] [.long 0, .int x3, .int x1, .ref 9] rfl rfl ?_
  refine z_xcS (vs := [.ref 9, .int x1, .int x3, .long 0]) (r := []) (L2 := [some (.ref 9), some (.int x1), some (.int x3), some (.long 0), none, none]) zt19 7 rfl zo19 zzcS1_102 (Or.inl rfl) (Nat.le_of_ble_eq_true rfl) rfl rfl (Nat.le_of_ble_eq_true rfl) zzm20 (Nat.le_of_ble_eq_true rfl) rfl ?_
  have q0 : ((0 : Int64)).toInt = 0 := rfl
  have f9 : T[9]? = some (.inr (9, 1, 70, 0, 0)) := X.1.k rfl (by decide)
  have q0 : ((0 : Int64)).toInt = 0 := rfl
  refine zC20 X.1 ⟨(by decide), (by decide)⟩ f9 (by omega) (by omega) (by decide) ⟨by omega, by omega⟩ (fun M5 X6  => ?_)
  have X7 := X.go X6 (z_sb (by decide))
  show z_ev (d + 5) 19 18 [some (.ref 5), some (.int p1), some (.int p2), some (.int x1), none, none, none, none] [] M5 _
  refine z_xP zt19 8 19 [some (.ref 5), some (.int p1), some (.int p2), some (.int x1), none, none, none, none] [.ref 5] rfl rfl ?_
  refine z_xgX (b := 9) zt19 9 rfl zo19 zzf1_21 X7 f5 (by decide) (by decide) rfl ?_
  refine z_xP zt19 10 23 [some (.ref 5), some (.int p1), some (.int p2), some (.int x1), none, none, none, none] [.int x1, .ref 9] rfl rfl ?_
  refine z_xl2 zt19 11 rfl zo19 zkl1_84 ?_
  refine z_xls zt19 12 rfl X7 f9 (by decide) (by decide) (by omega) (by omega) (by decide) (fun M9 X10 e11 => ?_)
  refine z_xP zt19 13 30 [some (.ref 5), some (.int p1), some (.int p2), some (.int x1), none, none, none, none] [.int 123, .ref 5] rfl rfl ?_
  refine z_xcV (vs := [.ref 5, .int 123]) (r := []) (L2 := [some (.ref 5), some (.int 123)]) zt19 14 rfl zo19 zzcV1_56 (Or.inl rfl) rfl X10 f5 rfl rfl rfl (Nat.le_of_ble_eq_true rfl) zzm8 (Nat.le_of_ble_eq_true rfl) rfl ?_
  refine z_xP zt8 0 1 [some (.ref 5), some (.int 123)] [.ref 5] rfl rfl ?_
  refine z_xgI zt8 1 rfl zo8 zzf1_32 X10 f5 (by decide) (by decide) rfl (fun (x13 : Int32) h12 (h14 : (-2147483648) ≤ x13.toInt) (h15 : x13.toInt ≤ 2147483647) => ?_)
  refine z_xZ zt8 2 rfl rfl (fun (h16 : x13.toInt < 0) => ?_) (fun (h16 : 0 ≤ x13.toInt) => ?_)
  · skip
    refine z_xP zt8 4 9 [some (.ref 5), some (.int 123)] [.ref 5] rfl rfl ?_
    refine z_xgI zt8 5 rfl zo8 zzf1_29 X10 f5 (by decide) (by decide) rfl (fun (x18 : Int32) h17 (h19 : 0 ≤ x18.toInt) (h20 : x18.toInt ≤ 160) => ?_)
    refine z_xP zt8 6 13 [some (.ref 5), some (.int 123)] [.ref 5, .int x18] rfl rfl ?_
    refine z_xgI zt8 7 rfl zo8 zzf1_25 X10 f5 (by decide) (by decide) rfl (fun (x22 : Int32) h21 (h23 : 0 ≤ x22.toInt) (h24 : x22.toInt ≤ 160) => ?_)
    refine z_xJ zt8 8 rfl rfl (fun (h25 : x22.toInt ≤ x18.toInt) => ?_) (fun (h25 : x18.toInt < x22.toInt) => ?_)
    · skip
      refine z_xP zt8 22 47 [some (.ref 5), some (.int 123)] [.ref 5, .ref 5] rfl rfl ?_
      refine z_xgv zt8 23 rfl zo8 zzf1_29 X10 f5 (by decide) h17 ?_
      refine z_xpf zt8 24 rfl zo8 zzf1_32 X10 f5 (by decide) (by decide) ⟨Int32.le_toInt _, Int32.toInt_le _⟩ rfl (by decide) zw1_3 (fun M26 X27 e28 h29 => ?_)
      refine z_xrv zt8 25 rfl zzr8 ?_
      show z_ev (d + 5) 19 33 [some (.ref 5), some (.int p1), some (.int p2), some (.int x1), none, none, none, none] [] M26 _
      refine z_xP zt19 15 36 [some (.ref 5), some (.int p1), some (.int p2), some (.int x1), some (.int 0), none, none, none] [] rfl rfl ?_
      have q0 : ((0 : Int32)).toInt = 0 := rfl
      exact (zB19 u1 u2 ih15 ih16 ih17 ih19 hm hd kk 14490).1 M26 x1 (0) none none X27 ⟨by omega, by omega⟩ (by decide) (by omega)
    refine z_xP zt8 9 20 [some (.ref 5), some (.int 123)] [.ref 5] rfl rfl ?_
    refine z_xgX (b := 6) zt8 10 rfl zo8 zzf1_9 X10 f5 (by decide) (by decide) rfl ?_
    refine z_xP zt8 11 24 [some (.ref 5), some (.int 123)] [.ref 5, .ref 6] rfl rfl ?_
    refine z_xgv zt8 12 rfl zo8 zzf1_29 X10 f5 (by decide) h17 ?_
    have f6 : T[6]? = some (.inr (6, 0, 160, (-2147483648), 2147483647)) := X10.1.k rfl (by decide)
    refine z_xil zt8 13 rfl X10 f6 (by decide) (by omega) (by omega) (fun (x30 : Int32) h31 (h32 : (-2147483648) ≤ x30.toInt) (h33 : x30.toInt ≤ 2147483647) => ?_)
    refine z_xP zt8 14 29 [some (.ref 5), some (.int 123)] [.int 123, .int x30] rfl rfl ?_
    refine z_xJ zt8 15 rfl rfl (fun (h34 : x30.toInt ≠ 123) => ?_) (fun (h34 : x30.toInt = 123) => ?_)
    · skip
      refine z_xP zt8 22 47 [some (.ref 5), some (.int 123)] [.ref 5, .ref 5] rfl rfl ?_
      refine z_xgv zt8 23 rfl zo8 zzf1_29 X10 f5 (by decide) h17 ?_
      refine z_xpf zt8 24 rfl zo8 zzf1_32 X10 f5 (by decide) (by decide) ⟨Int32.le_toInt _, Int32.toInt_le _⟩ rfl (by decide) zw1_3 (fun M35 X36 e37 h38 => ?_)
      refine z_xrv zt8 25 rfl zzr8 ?_
      show z_ev (d + 5) 19 33 [some (.ref 5), some (.int p1), some (.int p2), some (.int x1), none, none, none, none] [] M35 _
      refine z_xP zt19 15 36 [some (.ref 5), some (.int p1), some (.int p2), some (.int x1), some (.int 0), none, none, none] [] rfl rfl ?_
      have q0 : ((0 : Int32)).toInt = 0 := rfl
      exact (zB19 u1 u2 ih15 ih16 ih17 ih19 hm hd kk 14490).1 M35 x1 (0) none none X36 ⟨by omega, by omega⟩ (by decide) (by omega)
    refine z_xP zt8 16 34 [some (.ref 5), some (.int 123)] [.ref 5, .ref 5] rfl rfl ?_
    refine z_xgv zt8 17 rfl zo8 zzf1_29 X10 f5 (by decide) h17 ?_
    refine z_xP zt8 18 38 [some (.ref 5), some (.int 123)] [.int 1, .int x18, .ref 5] rfl rfl ?_
    refine z_xI zt8 19 rfl rfl (fun (x39 : Int32) (h40 : x39.toInt = x18.toInt + 1) => ?_) (z_pAdd rfl rfl (by omega) (by omega))
    refine z_xpf zt8 20 rfl zo8 zzf1_29 X10 f5 (by decide) (by decide) ⟨by omega, by omega⟩ rfl (by decide) zw1_2 (fun M41 X42 e43 h44 => ?_)
    refine z_xP zt8 21 53 [some (.ref 5), some (.int 123)] [] rfl rfl ?_
    refine z_xrv zt8 25 rfl zzr8 ?_
    show z_ev (d + 5) 19 33 [some (.ref 5), some (.int p1), some (.int p2), some (.int x1), none, none, none, none] [] M41 _
    refine z_xP zt19 15 36 [some (.ref 5), some (.int p1), some (.int p2), some (.int x1), some (.int 0), none, none, none] [] rfl rfl ?_
    have q0 : ((0 : Int32)).toInt = 0 := rfl
    exact (zB19 u1 u2 ih15 ih16 ih17 ih19 hm hd kk 14490).1 M41 x1 (0) none none X42 ⟨by omega, by omega⟩ (by decide) (by omega)
  refine z_xrv zt8 3 rfl zzr8 ?_
  show z_ev (d + 5) 19 33 [some (.ref 5), some (.int p1), some (.int p2), some (.int x1), none, none, none, none] [] M9 _
  refine z_xP zt19 15 36 [some (.ref 5), some (.int p1), some (.int p2), some (.int x1), some (.int 0), none, none, none] [] rfl rfl ?_
  have q0 : ((0 : Int32)).toInt = 0 := rfl
  exact (zB19 u1 u2 ih15 ih16 ih17 ih19 hm hd kk 14490).1 M9 x1 (0) none none X10 ⟨by omega, by omega⟩ (by decide) (by omega)
theorem zR15 {T : List zK} : ∀ N : Nat, zQ15 T N ∧ zQ16 T N ∧ zQ17 T N ∧ zQ19 T N := by
  intro N
  induction N with
  | zero => exact ⟨(by unfold zQ15; intros; exfalso; omega), (by unfold zQ16; intros; exfalso; omega), (by unfold zQ17; intros; exfalso; omega), (by unfold zQ19; intros; exfalso; omega)⟩
  | succ N ih =>
    refine ⟨?_, ?_, ?_, ?_⟩
    · skip
      intro d K p1 M0 hW u1 hm hd kk
      exact zC15r hW u1 ih.1 ih.2.1 ih.2.2.1 ih.2.2.2 (by omega) hd kk
    · skip
      intro d K p1 M0 hW u1 hm hd kk
      exact zC16r hW u1 ih.1 ih.2.1 ih.2.2.1 ih.2.2.2 (by omega) hd kk
    · skip
      intro d K p1 M0 hW u1 hm hd kk
      exact zC17r hW u1 ih.1 ih.2.1 ih.2.2.1 ih.2.2.2 (by omega) hd kk
    · skip
      intro d K p1 p2 M0 hW u1 u2 hm hd kk
      exact zC19r hW u1 u2 ih.1 ih.2.1 ih.2.2.1 ih.2.2.2 (by omega) hd kk
theorem zC15 {T : List zK} {d : Nat} {K : Option Value → zH → Prop} {p1 : Int32} {M0 : zH} (hW : z_W M0 T) (u1 : 0 ≤ p1.toInt ∧ p1.toInt ≤ 6) (kk : ∀ (x : Int64) (M1 : zH), z_X T zw15 M0 M1 → K (some (.long x)) M1) : z_ev (d + 31) 15 0 [some (.ref 5), some (.int p1), none, none, none, none, none] [] M0 K := by
  exact (zR15 27).1 (d := d + 26) (K := K) hW u1 (by omega) (by omega) kk
def zw11 : List Nat := [8, 9, 1102, 1103, 1105, 1106, 1107]
theorem zC11 {T : List zK} {d : Nat} {K : Option Value → zH → Prop}  {M0 : zH} (hW : z_W M0 T)  (kk : ∀ (M1 : zH), z_X T zw11 M0 M1 → K none M1) : z_ev (d + 32) 11 0 [some (.ref 5)] [] M0 K := by
  have X : z_X T zw11 M0 M0 := .refl hW
  refine z_xP zt11 0 3 [some (.ref 5)] [.int 59, .ref 5] rfl rfl ?_
  have f5 : T[5]? = some (.inl (1, 0, 0, 0, 0)) := X.1.k rfl (by decide)
  refine z_xcV (vs := [.ref 5, .int 59]) (r := []) (L2 := [some (.ref 5), some (.int 59)]) zt11 1 rfl zo11 zzcV1_69 (Or.inl rfl) rfl X f5 rfl rfl rfl (Nat.le_of_ble_eq_true rfl) zzm12 (Nat.le_of_ble_eq_true rfl) rfl ?_
  refine z_xP zt12 0 1 [some (.ref 5), some (.int 59)] [.ref 5] rfl rfl ?_
  refine z_xgI zt12 1 rfl zo12 zzf1_32 X f5 (by decide) (by decide) rfl (fun (x2 : Int32) h1 (h3 : (-2147483648) ≤ x2.toInt) (h4 : x2.toInt ≤ 2147483647) => ?_)
  refine z_xZ zt12 2 rfl rfl (fun (h5 : 0 ≤ x2.toInt) => ?_) (fun (h5 : x2.toInt < 0) => ?_)
  · skip
    refine z_xP zt12 15 32 [some (.ref 5), some (.int 59)] [.int 0] rfl rfl ?_
    refine z_xrz zt12 16 rfl zzr12 (by decide) (by decide) ?_
    show z_ev (d + 32) 11 6 [some (.ref 5)] [.int 0] M0 _
    refine z_xZ zt11 2 rfl rfl (fun (h6 : (0 : Int) ≠ 0) => absurd h6 (by omega)) (fun (h6 : (0 : Int) = 0) => ?_)
    refine z_xP zt11 3 10 [some (.ref 5)] [.ref 5] rfl rfl ?_
    refine z_xcV (vs := [.ref 5]) (r := []) (L2 := [some (.ref 5)]) zt11 4 rfl zo11 zzcV1_66 (Or.inl rfl) rfl X f5 rfl rfl rfl (Nat.le_of_ble_eq_true rfl) zzm10 (Nat.le_of_ble_eq_true rfl) rfl ?_
    refine z_xP zt10 0 1 [some (.ref 5)] [.ref 5] rfl rfl ?_
    refine z_xgv zt10 1 rfl zo10 zzf1_32 X f5 (by decide) h1 ?_
    refine z_xZ zt10 2 rfl rfl (fun (h7 : 0 ≤ x2.toInt) => ?_) (fun (h7 : x2.toInt < 0) => absurd h7 (by omega))
    refine z_xrv zt10 6 rfl zzr10 ?_
    show z_ev (d + 32) 11 13 [some (.ref 5)] [] M0 _
    refine z_xP zt11 5 130 [some (.ref 5)] [] rfl rfl ?_
    exact z_xrv zt11 52 rfl zzr11 (kk M0 X)
  refine z_xP zt12 3 8 [some (.ref 5), some (.int 59)] [.ref 5] rfl rfl ?_
  refine z_xgI zt12 4 rfl zo12 zzf1_29 X f5 (by decide) (by decide) rfl (fun (x9 : Int32) h8 (h10 : 0 ≤ x9.toInt) (h11 : x9.toInt ≤ 160) => ?_)
  refine z_xP zt12 5 12 [some (.ref 5), some (.int 59)] [.ref 5, .int x9] rfl rfl ?_
  refine z_xgI zt12 6 rfl zo12 zzf1_25 X f5 (by decide) (by decide) rfl (fun (x13 : Int32) h12 (h14 : 0 ≤ x13.toInt) (h15 : x13.toInt ≤ 160) => ?_)
  refine z_xJ zt12 7 rfl rfl (fun (h16 : x13.toInt ≤ x9.toInt) => ?_) (fun (h16 : x9.toInt < x13.toInt) => ?_)
  · skip
    refine z_xP zt12 15 32 [some (.ref 5), some (.int 59)] [.int 0] rfl rfl ?_
    refine z_xrz zt12 16 rfl zzr12 (by decide) (by decide) ?_
    show z_ev (d + 32) 11 6 [some (.ref 5)] [.int 0] M0 _
    refine z_xZ zt11 2 rfl rfl (fun (h17 : (0 : Int) ≠ 0) => absurd h17 (by omega)) (fun (h17 : (0 : Int) = 0) => ?_)
    refine z_xP zt11 3 10 [some (.ref 5)] [.ref 5] rfl rfl ?_
    refine z_xcV (vs := [.ref 5]) (r := []) (L2 := [some (.ref 5)]) zt11 4 rfl zo11 zzcV1_66 (Or.inl rfl) rfl X f5 rfl rfl rfl (Nat.le_of_ble_eq_true rfl) zzm10 (Nat.le_of_ble_eq_true rfl) rfl ?_
    refine z_xP zt10 0 1 [some (.ref 5)] [.ref 5] rfl rfl ?_
    refine z_xgv zt10 1 rfl zo10 zzf1_32 X f5 (by decide) h1 ?_
    refine z_xZ zt10 2 rfl rfl (fun (h18 : 0 ≤ x2.toInt) => absurd h18 (by omega)) (fun (h18 : x2.toInt < 0) => ?_)
    refine z_xP zt10 3 9 [some (.ref 5)] [.ref 5, .ref 5] rfl rfl ?_
    refine z_xgv zt10 4 rfl zo10 zzf1_29 X f5 (by decide) h8 ?_
    refine z_xpf zt10 5 rfl zo10 zzf1_32 X f5 (by decide) (by decide) ⟨Int32.le_toInt _, Int32.toInt_le _⟩ rfl (by decide) zw1_3 (fun M19 X20 e21 h22 => ?_)
    refine z_xrv zt10 6 rfl zzr10 ?_
    show z_ev (d + 32) 11 13 [some (.ref 5)] [] M19 _
    refine z_xP zt11 5 130 [some (.ref 5)] [] rfl rfl ?_
    exact z_xrv zt11 52 rfl zzr11 (kk M19 X20)
  refine z_xP zt12 8 19 [some (.ref 5), some (.int 59)] [.ref 5] rfl rfl ?_
  refine z_xgX (b := 6) zt12 9 rfl zo12 zzf1_9 X f5 (by decide) (by decide) rfl ?_
  refine z_xP zt12 10 23 [some (.ref 5), some (.int 59)] [.ref 5, .ref 6] rfl rfl ?_
  refine z_xgv zt12 11 rfl zo12 zzf1_29 X f5 (by decide) h8 ?_
  have f6 : T[6]? = some (.inr (6, 0, 160, (-2147483648), 2147483647)) := X.1.k rfl (by decide)
  refine z_xil zt12 12 rfl X f6 (by decide) (by omega) (by omega) (fun (x23 : Int32) h24 (h25 : (-2147483648) ≤ x23.toInt) (h26 : x23.toInt ≤ 2147483647) => ?_)
  refine z_xP zt12 13 28 [some (.ref 5), some (.int 59)] [.int 59, .int x23] rfl rfl ?_
  refine z_xJ zt12 14 rfl rfl (fun (h27 : x23.toInt = 59) => ?_) (fun (h27 : x23.toInt ≠ 59) => ?_)
  · skip
    refine z_xP zt12 17 35 [some (.ref 5), some (.int 59)] [.ref 5, .ref 5] rfl rfl ?_
    refine z_xgv zt12 18 rfl zo12 zzf1_29 X f5 (by decide) h8 ?_
    refine z_xP zt12 19 39 [some (.ref 5), some (.int 59)] [.int 1, .int x9, .ref 5] rfl rfl ?_
    refine z_xI zt12 20 rfl rfl (fun (x28 : Int32) (h29 : x28.toInt = x9.toInt + 1) => ?_) (z_pAdd rfl rfl (by omega) (by omega))
    refine z_xpf zt12 21 rfl zo12 zzf1_29 X f5 (by decide) (by decide) ⟨by omega, by omega⟩ rfl (by decide) zw1_2 (fun M30 X31 e32 h33 => ?_)
    refine z_xP zt12 22 44 [some (.ref 5), some (.int 59)] [.int 1] rfl rfl ?_
    refine z_xrz zt12 23 rfl zzr12 (by decide) (by decide) ?_
    show z_ev (d + 32) 11 6 [some (.ref 5)] [.int 1] M30 _
    refine z_xZ zt11 2 rfl rfl (fun (h34 : (1 : Int) ≠ 0) => ?_) (fun (h34 : (1 : Int) = 0) => absurd h34 (by omega))
    refine z_xP zt11 6 17 [some (.ref 5)] [.ref 5] rfl rfl ?_
    refine z_xgI zt11 7 rfl zo11 zzf1_44 X31 f5 (by decide) (by decide) rfl (fun (x36 : Int32) h35 (h37 : (-2147483648) ≤ x36.toInt) (h38 : x36.toInt ≤ 2147483647) => ?_)
    refine z_xZ zt11 8 rfl rfl (fun (h39 : x36.toInt ≠ 0) => ?_) (fun (h39 : x36.toInt = 0) => ?_)
    · skip
      refine z_xP zt11 16 44 [some (.ref 5)] [.ref 5] rfl rfl ?_
      refine z_xgI zt11 17 rfl zo11 zzf1_41 X31 f5 (by decide) (by decide) rfl (fun (x41 : Int32) h40 (h42 : (-2147483648) ≤ x41.toInt) (h43 : x41.toInt ≤ 2147483647) => ?_)
      refine z_xZ zt11 18 rfl rfl (fun (h44 : x41.toInt ≠ 0) => ?_) (fun (h44 : x41.toInt = 0) => ?_)
      · skip
        refine z_xP zt11 26 71 [some (.ref 5)] [.ref 5] rfl rfl ?_
        refine z_xgI zt11 27 rfl zo11 zzf1_38 X31 f5 (by decide) (by decide) rfl (fun (x46 : Int32) h45 (h47 : 0 ≤ x46.toInt) (h48 : x46.toInt ≤ 8) => ?_)
        refine z_xP zt11 28 76 [some (.ref 5)] [.int 8, .int x46] rfl rfl ?_
        refine z_xJ zt11 29 rfl rfl (fun (h49 : 8 ≤ x46.toInt) => ?_) (fun (h49 : x46.toInt < 8) => ?_)
        · skip
          refine z_xP zt11 50 127 [some (.ref 5)] [.ref 5] rfl rfl ?_
          refine z_xcV (vs := [.ref 5]) (r := []) (L2 := [some (.ref 5)]) zt11 51 rfl zo11 zzcV1_66 (Or.inl rfl) rfl X31 f5 rfl rfl rfl (Nat.le_of_ble_eq_true rfl) zzm10 (Nat.le_of_ble_eq_true rfl) rfl ?_
          refine z_xP zt10 0 1 [some (.ref 5)] [.ref 5] rfl rfl ?_
          have h50 := (e32.f f5 (by decide) h1)
          refine z_xgv zt10 1 rfl zo10 zzf1_32 X31 f5 (by decide) h50 ?_
          refine z_xZ zt10 2 rfl rfl (fun (h51 : 0 ≤ x2.toInt) => absurd h51 (by omega)) (fun (h51 : x2.toInt < 0) => ?_)
          refine z_xP zt10 3 9 [some (.ref 5)] [.ref 5, .ref 5] rfl rfl ?_
          refine z_xgv zt10 4 rfl zo10 zzf1_29 X31 f5 (by decide) h33 ?_
          refine z_xpf zt10 5 rfl zo10 zzf1_32 X31 f5 (by decide) (by decide) ⟨Int32.le_toInt _, Int32.toInt_le _⟩ rfl (by decide) zw1_3 (fun M52 X53 e54 h55 => ?_)
          refine z_xrv zt10 6 rfl zzr10 ?_
          show z_ev (d + 32) 11 130 [some (.ref 5)] [] M52 _
          exact z_xrv zt11 52 rfl zzr11 (kk M52 X53)
        refine z_xP zt11 30 82 [some (.ref 5)] [.int 116, .ref 5] rfl rfl ?_
        refine z_xcV (vs := [.ref 5, .int 116]) (r := []) (L2 := [some (.ref 5), some (.int 116)]) zt11 31 rfl zo11 zzcV1_69 (Or.inl rfl) rfl X31 f5 rfl rfl rfl (Nat.le_of_ble_eq_true rfl) zzm12 (Nat.le_of_ble_eq_true rfl) rfl ?_
        refine z_xP zt12 0 1 [some (.ref 5), some (.int 116)] [.ref 5] rfl rfl ?_
        have h56 := (e32.f f5 (by decide) h1)
        refine z_xgv zt12 1 rfl zo12 zzf1_32 X31 f5 (by decide) h56 ?_
        refine z_xZ zt12 2 rfl rfl (fun (h57 : 0 ≤ x2.toInt) => absurd h57 (by omega)) (fun (h57 : x2.toInt < 0) => ?_)
        refine z_xP zt12 3 8 [some (.ref 5), some (.int 116)] [.ref 5] rfl rfl ?_
        refine z_xgv zt12 4 rfl zo12 zzf1_29 X31 f5 (by decide) h33 ?_
        refine z_xP zt12 5 12 [some (.ref 5), some (.int 116)] [.ref 5, .int x28] rfl rfl ?_
        have h58 := (e32.f f5 (by decide) h12)
        refine z_xgv zt12 6 rfl zo12 zzf1_25 X31 f5 (by decide) h58 ?_
        refine z_xJ zt12 7 rfl rfl (fun (h59 : x13.toInt ≤ x28.toInt) => ?_) (fun (h59 : x28.toInt < x13.toInt) => ?_)
        · skip
          refine z_xP zt12 15 32 [some (.ref 5), some (.int 116)] [.int 0] rfl rfl ?_
          refine z_xrz zt12 16 rfl zzr12 (by decide) (by decide) ?_
          show z_ev (d + 32) 11 85 [some (.ref 5)] [.int 0] M30 _
          refine z_xZ zt11 32 rfl rfl (fun (h60 : (0 : Int) = 0) => ?_) (fun (h60 : (0 : Int) ≠ 0) => absurd h60 (by omega))
          refine z_xP zt11 50 127 [some (.ref 5)] [.ref 5] rfl rfl ?_
          refine z_xcV (vs := [.ref 5]) (r := []) (L2 := [some (.ref 5)]) zt11 51 rfl zo11 zzcV1_66 (Or.inl rfl) rfl X31 f5 rfl rfl rfl (Nat.le_of_ble_eq_true rfl) zzm10 (Nat.le_of_ble_eq_true rfl) rfl ?_
          refine z_xP zt10 0 1 [some (.ref 5)] [.ref 5] rfl rfl ?_
          refine z_xgv zt10 1 rfl zo10 zzf1_32 X31 f5 (by decide) h56 ?_
          refine z_xZ zt10 2 rfl rfl (fun (h61 : 0 ≤ x2.toInt) => absurd h61 (by omega)) (fun (h61 : x2.toInt < 0) => ?_)
          refine z_xP zt10 3 9 [some (.ref 5)] [.ref 5, .ref 5] rfl rfl ?_
          refine z_xgv zt10 4 rfl zo10 zzf1_29 X31 f5 (by decide) h33 ?_
          refine z_xpf zt10 5 rfl zo10 zzf1_32 X31 f5 (by decide) (by decide) ⟨Int32.le_toInt _, Int32.toInt_le _⟩ rfl (by decide) zw1_3 (fun M62 X63 e64 h65 => ?_)
          refine z_xrv zt10 6 rfl zzr10 ?_
          show z_ev (d + 32) 11 130 [some (.ref 5)] [] M62 _
          exact z_xrv zt11 52 rfl zzr11 (kk M62 X63)
        refine z_xP zt12 8 19 [some (.ref 5), some (.int 116)] [.ref 5] rfl rfl ?_
        refine z_xgX (b := 6) zt12 9 rfl zo12 zzf1_9 X31 f5 (by decide) (by decide) rfl ?_
        refine z_xP zt12 10 23 [some (.ref 5), some (.int 116)] [.ref 5, .ref 6] rfl rfl ?_
        refine z_xgv zt12 11 rfl zo12 zzf1_29 X31 f5 (by decide) h33 ?_
        refine z_xil zt12 12 rfl X31 f6 (by decide) (by omega) (by omega) (fun (x66 : Int32) h67 (h68 : (-2147483648) ≤ x66.toInt) (h69 : x66.toInt ≤ 2147483647) => ?_)
        refine z_xP zt12 13 28 [some (.ref 5), some (.int 116)] [.int 116, .int x66] rfl rfl ?_
        refine z_xJ zt12 14 rfl rfl (fun (h70 : x66.toInt = 116) => ?_) (fun (h70 : x66.toInt ≠ 116) => ?_)
        · skip
          refine z_xP zt12 17 35 [some (.ref 5), some (.int 116)] [.ref 5, .ref 5] rfl rfl ?_
          refine z_xgv zt12 18 rfl zo12 zzf1_29 X31 f5 (by decide) h33 ?_
          refine z_xP zt12 19 39 [some (.ref 5), some (.int 116)] [.int 1, .int x28, .ref 5] rfl rfl ?_
          refine z_xI zt12 20 rfl rfl (fun (x71 : Int32) (h72 : x71.toInt = x28.toInt + 1) => ?_) (z_pAdd rfl rfl (by omega) (by omega))
          refine z_xpf zt12 21 rfl zo12 zzf1_29 X31 f5 (by decide) (by decide) ⟨by omega, by omega⟩ rfl (by decide) zw1_2 (fun M73 X74 e75 h76 => ?_)
          refine z_xP zt12 22 44 [some (.ref 5), some (.int 116)] [.int 1] rfl rfl ?_
          refine z_xrz zt12 23 rfl zzr12 (by decide) (by decide) ?_
          show z_ev (d + 32) 11 85 [some (.ref 5)] [.int 1] M73 _
          refine z_xZ zt11 32 rfl rfl (fun (h77 : (1 : Int) = 0) => absurd h77 (by omega)) (fun (h77 : (1 : Int) ≠ 0) => ?_)
          refine z_xP zt11 33 91 [some (.ref 5)] [.int 32, .ref 5] rfl rfl ?_
          refine z_xcV (vs := [.ref 5, .int 32]) (r := []) (L2 := [some (.ref 5), some (.int 32)]) zt11 34 rfl zo11 zzcV1_56 (Or.inl rfl) rfl X74 f5 rfl rfl rfl (Nat.le_of_ble_eq_true rfl) zzm8 (Nat.le_of_ble_eq_true rfl) rfl ?_
          refine z_xP zt8 0 1 [some (.ref 5), some (.int 32)] [.ref 5] rfl rfl ?_
          have h78 := (e75.f f5 (by decide) h56)
          refine z_xgv zt8 1 rfl zo8 zzf1_32 X74 f5 (by decide) h78 ?_
          refine z_xZ zt8 2 rfl rfl (fun (h79 : x2.toInt < 0) => ?_) (fun (h79 : 0 ≤ x2.toInt) => absurd h79 (by omega))
          refine z_xP zt8 4 9 [some (.ref 5), some (.int 32)] [.ref 5] rfl rfl ?_
          refine z_xgv zt8 5 rfl zo8 zzf1_29 X74 f5 (by decide) h76 ?_
          refine z_xP zt8 6 13 [some (.ref 5), some (.int 32)] [.ref 5, .int x71] rfl rfl ?_
          have h80 := (e75.f f5 (by decide) h58)
          refine z_xgv zt8 7 rfl zo8 zzf1_25 X74 f5 (by decide) h80 ?_
          refine z_xJ zt8 8 rfl rfl (fun (h81 : x13.toInt ≤ x71.toInt) => ?_) (fun (h81 : x71.toInt < x13.toInt) => ?_)
          · skip
            refine z_xP zt8 22 47 [some (.ref 5), some (.int 32)] [.ref 5, .ref 5] rfl rfl ?_
            refine z_xgv zt8 23 rfl zo8 zzf1_29 X74 f5 (by decide) h76 ?_
            refine z_xpf zt8 24 rfl zo8 zzf1_32 X74 f5 (by decide) (by decide) ⟨Int32.le_toInt _, Int32.toInt_le _⟩ rfl (by decide) zw1_3 (fun M82 X83 e84 h85 => ?_)
            refine z_xrv zt8 25 rfl zzr8 ?_
            show z_ev (d + 32) 11 94 [some (.ref 5)] [] M82 _
            refine z_xP zt11 35 95 [some (.ref 5)] [.ref 5] rfl rfl ?_
            refine z_xgX (b := 8) zt11 36 rfl zo11 zzf1_18 X83 f5 (by decide) (by decide) rfl ?_
            refine z_xP zt11 37 99 [some (.ref 5)] [.ref 5, .ref 8] rfl rfl ?_
            have h86 := (e84.f f5 (by decide) (e75.f f5 (by decide) h45))
            refine z_xgv zt11 38 rfl zo11 zzf1_38 X83 f5 (by decide) h86 ?_
            refine z_xP zt11 39 103 [some (.ref 5)] [.ref 5, .int x46, .ref 8] rfl rfl ?_
            have h87 := (e84.f f5 (by decide) h76)
            refine z_xgv zt11 40 rfl zo11 zzf1_29 X83 f5 (by decide) h87 ?_
            have f8 : T[8]? = some (.inr (8, 0, 8, 0, 160)) := X83.1.k rfl (by decide)
            refine z_xis zt11 41 rfl X83 f8 (by decide) (by decide) (by omega) (by omega) (by omega) (by omega) (by decide) (fun M88 X89 e90 h91 => ?_)
            refine z_xP zt11 42 109 [some (.ref 5)] [.ref 5, .ref 5] rfl rfl ?_
            have h92 := (e90.f f5 (by decide) h86)
            refine z_xgv zt11 43 rfl zo11 zzf1_38 X89 f5 (by decide) h92 ?_
            refine z_xP zt11 44 113 [some (.ref 5)] [.int 1, .int x46, .ref 5] rfl rfl ?_
            refine z_xI zt11 45 rfl rfl (fun (x93 : Int32) (h94 : x93.toInt = x46.toInt + 1) => ?_) (z_pAdd rfl rfl (by omega) (by omega))
            refine z_xpf zt11 46 rfl zo11 zzf1_38 X89 f5 (by decide) (by decide) ⟨by omega, by omega⟩ rfl (by decide) zw1_7 (fun M95 X96 e97 h98 => ?_)
            refine z_xP zt11 47 119 [some (.ref 5)] [.int 0, .ref 5] rfl rfl ?_
            refine z_xcV (vs := [.ref 5, .int 0]) (r := []) (L2 := [some (.ref 5), some (.int 0), none, none, none, none, none]) zt11 48 rfl zo11 zzcV1_77 (Or.inl rfl) rfl X96 f5 rfl rfl rfl (Nat.le_of_ble_eq_true rfl) zzm15 (Nat.le_of_ble_eq_true rfl) rfl ?_
            have q0 : ((0 : Int32)).toInt = 0 := rfl
            have q0 : ((0 : Int32)).toInt = 0 := rfl
            refine zC15 X96.1 (by decide) (fun y101 M99 X100  => ?_)
            have X102 := X96.go X100 (z_sb (by decide))
            show z_ev (d + 32) 11 122 [some (.ref 5)] [.long y101] M99 _
            refine z_xP zt11 49 130 [some (.ref 5)] [] rfl rfl ?_
            exact z_xrv zt11 52 rfl zzr11 (kk M99 X102)
          refine z_xP zt8 9 20 [some (.ref 5), some (.int 32)] [.ref 5] rfl rfl ?_
          refine z_xgX (b := 6) zt8 10 rfl zo8 zzf1_9 X74 f5 (by decide) (by decide) rfl ?_
          refine z_xP zt8 11 24 [some (.ref 5), some (.int 32)] [.ref 5, .ref 6] rfl rfl ?_
          refine z_xgv zt8 12 rfl zo8 zzf1_29 X74 f5 (by decide) h76 ?_
          refine z_xil zt8 13 rfl X74 f6 (by decide) (by omega) (by omega) (fun (x104 : Int32) h105 (h106 : (-2147483648) ≤ x104.toInt) (h107 : x104.toInt ≤ 2147483647) => ?_)
          refine z_xP zt8 14 29 [some (.ref 5), some (.int 32)] [.int 32, .int x104] rfl rfl ?_
          refine z_xJ zt8 15 rfl rfl (fun (h108 : x104.toInt ≠ 32) => ?_) (fun (h108 : x104.toInt = 32) => ?_)
          · skip
            refine z_xP zt8 22 47 [some (.ref 5), some (.int 32)] [.ref 5, .ref 5] rfl rfl ?_
            refine z_xgv zt8 23 rfl zo8 zzf1_29 X74 f5 (by decide) h76 ?_
            refine z_xpf zt8 24 rfl zo8 zzf1_32 X74 f5 (by decide) (by decide) ⟨Int32.le_toInt _, Int32.toInt_le _⟩ rfl (by decide) zw1_3 (fun M109 X110 e111 h112 => ?_)
            refine z_xrv zt8 25 rfl zzr8 ?_
            show z_ev (d + 32) 11 94 [some (.ref 5)] [] M109 _
            refine z_xP zt11 35 95 [some (.ref 5)] [.ref 5] rfl rfl ?_
            refine z_xgX (b := 8) zt11 36 rfl zo11 zzf1_18 X110 f5 (by decide) (by decide) rfl ?_
            refine z_xP zt11 37 99 [some (.ref 5)] [.ref 5, .ref 8] rfl rfl ?_
            have h113 := (e111.f f5 (by decide) (e75.f f5 (by decide) h45))
            refine z_xgv zt11 38 rfl zo11 zzf1_38 X110 f5 (by decide) h113 ?_
            refine z_xP zt11 39 103 [some (.ref 5)] [.ref 5, .int x46, .ref 8] rfl rfl ?_
            have h114 := (e111.f f5 (by decide) h76)
            refine z_xgv zt11 40 rfl zo11 zzf1_29 X110 f5 (by decide) h114 ?_
            have f8 : T[8]? = some (.inr (8, 0, 8, 0, 160)) := X110.1.k rfl (by decide)
            refine z_xis zt11 41 rfl X110 f8 (by decide) (by decide) (by omega) (by omega) (by omega) (by omega) (by decide) (fun M115 X116 e117 h118 => ?_)
            refine z_xP zt11 42 109 [some (.ref 5)] [.ref 5, .ref 5] rfl rfl ?_
            have h119 := (e117.f f5 (by decide) h113)
            refine z_xgv zt11 43 rfl zo11 zzf1_38 X116 f5 (by decide) h119 ?_
            refine z_xP zt11 44 113 [some (.ref 5)] [.int 1, .int x46, .ref 5] rfl rfl ?_
            refine z_xI zt11 45 rfl rfl (fun (x120 : Int32) (h121 : x120.toInt = x46.toInt + 1) => ?_) (z_pAdd rfl rfl (by omega) (by omega))
            refine z_xpf zt11 46 rfl zo11 zzf1_38 X116 f5 (by decide) (by decide) ⟨by omega, by omega⟩ rfl (by decide) zw1_7 (fun M122 X123 e124 h125 => ?_)
            refine z_xP zt11 47 119 [some (.ref 5)] [.int 0, .ref 5] rfl rfl ?_
            refine z_xcV (vs := [.ref 5, .int 0]) (r := []) (L2 := [some (.ref 5), some (.int 0), none, none, none, none, none]) zt11 48 rfl zo11 zzcV1_77 (Or.inl rfl) rfl X123 f5 rfl rfl rfl (Nat.le_of_ble_eq_true rfl) zzm15 (Nat.le_of_ble_eq_true rfl) rfl ?_
            have q0 : ((0 : Int32)).toInt = 0 := rfl
            have q0 : ((0 : Int32)).toInt = 0 := rfl
            refine zC15 X123.1 (by decide) (fun y128 M126 X127  => ?_)
            have X129 := X123.go X127 (z_sb (by decide))
            show z_ev (d + 32) 11 122 [some (.ref 5)] [.long y128] M126 _
            refine z_xP zt11 49 130 [some (.ref 5)] [] rfl rfl ?_
            exact z_xrv zt11 52 rfl zzr11 (kk M126 X129)
          refine z_xP zt8 16 34 [some (.ref 5), some (.int 32)] [.ref 5, .ref 5] rfl rfl ?_
          refine z_xgv zt8 17 rfl zo8 zzf1_29 X74 f5 (by decide) h76 ?_
          refine z_xP zt8 18 38 [some (.ref 5), some (.int 32)] [.int 1, .int x71, .ref 5] rfl rfl ?_
          refine z_xI zt8 19 rfl rfl (fun (x131 : Int32) (h132 : x131.toInt = x71.toInt + 1) => ?_) (z_pAdd rfl rfl (by omega) (by omega))
          refine z_xpf zt8 20 rfl zo8 zzf1_29 X74 f5 (by decide) (by decide) ⟨by omega, by omega⟩ rfl (by decide) zw1_2 (fun M133 X134 e135 h136 => ?_)
          refine z_xP zt8 21 53 [some (.ref 5), some (.int 32)] [] rfl rfl ?_
          refine z_xrv zt8 25 rfl zzr8 ?_
          show z_ev (d + 32) 11 94 [some (.ref 5)] [] M133 _
          refine z_xP zt11 35 95 [some (.ref 5)] [.ref 5] rfl rfl ?_
          refine z_xgX (b := 8) zt11 36 rfl zo11 zzf1_18 X134 f5 (by decide) (by decide) rfl ?_
          refine z_xP zt11 37 99 [some (.ref 5)] [.ref 5, .ref 8] rfl rfl ?_
          have h137 := (e135.f f5 (by decide) (e75.f f5 (by decide) h45))
          refine z_xgv zt11 38 rfl zo11 zzf1_38 X134 f5 (by decide) h137 ?_
          refine z_xP zt11 39 103 [some (.ref 5)] [.ref 5, .int x46, .ref 8] rfl rfl ?_
          refine z_xgv zt11 40 rfl zo11 zzf1_29 X134 f5 (by decide) h136 ?_
          have f8 : T[8]? = some (.inr (8, 0, 8, 0, 160)) := X134.1.k rfl (by decide)
          refine z_xis zt11 41 rfl X134 f8 (by decide) (by decide) (by omega) (by omega) (by omega) (by omega) (by decide) (fun M138 X139 e140 h141 => ?_)
          refine z_xP zt11 42 109 [some (.ref 5)] [.ref 5, .ref 5] rfl rfl ?_
          have h142 := (e140.f f5 (by decide) h137)
          refine z_xgv zt11 43 rfl zo11 zzf1_38 X139 f5 (by decide) h142 ?_
          refine z_xP zt11 44 113 [some (.ref 5)] [.int 1, .int x46, .ref 5] rfl rfl ?_
          refine z_xI zt11 45 rfl rfl (fun (x143 : Int32) (h144 : x143.toInt = x46.toInt + 1) => ?_) (z_pAdd rfl rfl (by omega) (by omega))
          refine z_xpf zt11 46 rfl zo11 zzf1_38 X139 f5 (by decide) (by decide) ⟨by omega, by omega⟩ rfl (by decide) zw1_7 (fun M145 X146 e147 h148 => ?_)
          refine z_xP zt11 47 119 [some (.ref 5)] [.int 0, .ref 5] rfl rfl ?_
          refine z_xcV (vs := [.ref 5, .int 0]) (r := []) (L2 := [some (.ref 5), some (.int 0), none, none, none, none, none]) zt11 48 rfl zo11 zzcV1_77 (Or.inl rfl) rfl X146 f5 rfl rfl rfl (Nat.le_of_ble_eq_true rfl) zzm15 (Nat.le_of_ble_eq_true rfl) rfl ?_
          have q0 : ((0 : Int32)).toInt = 0 := rfl
          have q0 : ((0 : Int32)).toInt = 0 := rfl
          refine zC15 X146.1 (by decide) (fun y151 M149 X150  => ?_)
          have X152 := X146.go X150 (z_sb (by decide))
          show z_ev (d + 32) 11 122 [some (.ref 5)] [.long y151] M149 _
          refine z_xP zt11 49 130 [some (.ref 5)] [] rfl rfl ?_
          exact z_xrv zt11 52 rfl zzr11 (kk M149 X152)
        refine z_xP zt12 15 32 [some (.ref 5), some (.int 116)] [.int 0] rfl rfl ?_
        refine z_xrz zt12 16 rfl zzr12 (by decide) (by decide) ?_
        show z_ev (d + 32) 11 85 [some (.ref 5)] [.int 0] M30 _
        refine z_xZ zt11 32 rfl rfl (fun (h154 : (0 : Int) = 0) => ?_) (fun (h154 : (0 : Int) ≠ 0) => absurd h154 (by omega))
        refine z_xP zt11 50 127 [some (.ref 5)] [.ref 5] rfl rfl ?_
        refine z_xcV (vs := [.ref 5]) (r := []) (L2 := [some (.ref 5)]) zt11 51 rfl zo11 zzcV1_66 (Or.inl rfl) rfl X31 f5 rfl rfl rfl (Nat.le_of_ble_eq_true rfl) zzm10 (Nat.le_of_ble_eq_true rfl) rfl ?_
        refine z_xP zt10 0 1 [some (.ref 5)] [.ref 5] rfl rfl ?_
        refine z_xgv zt10 1 rfl zo10 zzf1_32 X31 f5 (by decide) h56 ?_
        refine z_xZ zt10 2 rfl rfl (fun (h155 : 0 ≤ x2.toInt) => absurd h155 (by omega)) (fun (h155 : x2.toInt < 0) => ?_)
        refine z_xP zt10 3 9 [some (.ref 5)] [.ref 5, .ref 5] rfl rfl ?_
        refine z_xgv zt10 4 rfl zo10 zzf1_29 X31 f5 (by decide) h33 ?_
        refine z_xpf zt10 5 rfl zo10 zzf1_32 X31 f5 (by decide) (by decide) ⟨Int32.le_toInt _, Int32.toInt_le _⟩ rfl (by decide) zw1_3 (fun M156 X157 e158 h159 => ?_)
        refine z_xrv zt10 6 rfl zzr10 ?_
        show z_ev (d + 32) 11 130 [some (.ref 5)] [] M156 _
        exact z_xrv zt11 52 rfl zzr11 (kk M156 X157)
      refine z_xP zt11 19 53 [some (.ref 5)] [.int 101, .ref 5] rfl rfl ?_
      refine z_xcV (vs := [.ref 5, .int 101]) (r := []) (L2 := [some (.ref 5), some (.int 101)]) zt11 20 rfl zo11 zzcV1_69 (Or.inl rfl) rfl X31 f5 rfl rfl rfl (Nat.le_of_ble_eq_true rfl) zzm12 (Nat.le_of_ble_eq_true rfl) rfl ?_
      refine z_xP zt12 0 1 [some (.ref 5), some (.int 101)] [.ref 5] rfl rfl ?_
      have h160 := (e32.f f5 (by decide) h1)
      refine z_xgv zt12 1 rfl zo12 zzf1_32 X31 f5 (by decide) h160 ?_
      refine z_xZ zt12 2 rfl rfl (fun (h161 : 0 ≤ x2.toInt) => absurd h161 (by omega)) (fun (h161 : x2.toInt < 0) => ?_)
      refine z_xP zt12 3 8 [some (.ref 5), some (.int 101)] [.ref 5] rfl rfl ?_
      refine z_xgv zt12 4 rfl zo12 zzf1_29 X31 f5 (by decide) h33 ?_
      refine z_xP zt12 5 12 [some (.ref 5), some (.int 101)] [.ref 5, .int x28] rfl rfl ?_
      have h162 := (e32.f f5 (by decide) h12)
      refine z_xgv zt12 6 rfl zo12 zzf1_25 X31 f5 (by decide) h162 ?_
      refine z_xJ zt12 7 rfl rfl (fun (h163 : x13.toInt ≤ x28.toInt) => ?_) (fun (h163 : x28.toInt < x13.toInt) => ?_)
      · skip
        refine z_xP zt12 15 32 [some (.ref 5), some (.int 101)] [.int 0] rfl rfl ?_
        refine z_xrz zt12 16 rfl zzr12 (by decide) (by decide) ?_
        show z_ev (d + 32) 11 56 [some (.ref 5)] [.int 0] M30 _
        refine z_xZ zt11 21 rfl rfl (fun (h164 : (0 : Int) = 0) => ?_) (fun (h164 : (0 : Int) ≠ 0) => absurd h164 (by omega))
        refine z_xP zt11 26 71 [some (.ref 5)] [.ref 5] rfl rfl ?_
        refine z_xgI zt11 27 rfl zo11 zzf1_38 X31 f5 (by decide) (by decide) rfl (fun (x166 : Int32) h165 (h167 : 0 ≤ x166.toInt) (h168 : x166.toInt ≤ 8) => ?_)
        refine z_xP zt11 28 76 [some (.ref 5)] [.int 8, .int x166] rfl rfl ?_
        refine z_xJ zt11 29 rfl rfl (fun (h169 : 8 ≤ x166.toInt) => ?_) (fun (h169 : x166.toInt < 8) => ?_)
        · skip
          refine z_xP zt11 50 127 [some (.ref 5)] [.ref 5] rfl rfl ?_
          refine z_xcV (vs := [.ref 5]) (r := []) (L2 := [some (.ref 5)]) zt11 51 rfl zo11 zzcV1_66 (Or.inl rfl) rfl X31 f5 rfl rfl rfl (Nat.le_of_ble_eq_true rfl) zzm10 (Nat.le_of_ble_eq_true rfl) rfl ?_
          refine z_xP zt10 0 1 [some (.ref 5)] [.ref 5] rfl rfl ?_
          refine z_xgv zt10 1 rfl zo10 zzf1_32 X31 f5 (by decide) h160 ?_
          refine z_xZ zt10 2 rfl rfl (fun (h170 : 0 ≤ x2.toInt) => absurd h170 (by omega)) (fun (h170 : x2.toInt < 0) => ?_)
          refine z_xP zt10 3 9 [some (.ref 5)] [.ref 5, .ref 5] rfl rfl ?_
          refine z_xgv zt10 4 rfl zo10 zzf1_29 X31 f5 (by decide) h33 ?_
          refine z_xpf zt10 5 rfl zo10 zzf1_32 X31 f5 (by decide) (by decide) ⟨Int32.le_toInt _, Int32.toInt_le _⟩ rfl (by decide) zw1_3 (fun M171 X172 e173 h174 => ?_)
          refine z_xrv zt10 6 rfl zzr10 ?_
          show z_ev (d + 32) 11 130 [some (.ref 5)] [] M171 _
          exact z_xrv zt11 52 rfl zzr11 (kk M171 X172)
        refine z_xP zt11 30 82 [some (.ref 5)] [.int 116, .ref 5] rfl rfl ?_
        refine z_xcV (vs := [.ref 5, .int 116]) (r := []) (L2 := [some (.ref 5), some (.int 116)]) zt11 31 rfl zo11 zzcV1_69 (Or.inl rfl) rfl X31 f5 rfl rfl rfl (Nat.le_of_ble_eq_true rfl) zzm12 (Nat.le_of_ble_eq_true rfl) rfl ?_
        refine z_xP zt12 0 1 [some (.ref 5), some (.int 116)] [.ref 5] rfl rfl ?_
        refine z_xgv zt12 1 rfl zo12 zzf1_32 X31 f5 (by decide) h160 ?_
        refine z_xZ zt12 2 rfl rfl (fun (h175 : 0 ≤ x2.toInt) => absurd h175 (by omega)) (fun (h175 : x2.toInt < 0) => ?_)
        refine z_xP zt12 3 8 [some (.ref 5), some (.int 116)] [.ref 5] rfl rfl ?_
        refine z_xgv zt12 4 rfl zo12 zzf1_29 X31 f5 (by decide) h33 ?_
        refine z_xP zt12 5 12 [some (.ref 5), some (.int 116)] [.ref 5, .int x28] rfl rfl ?_
        refine z_xgv zt12 6 rfl zo12 zzf1_25 X31 f5 (by decide) h162 ?_
        refine z_xJ zt12 7 rfl rfl (fun (h176 : x13.toInt ≤ x28.toInt) => ?_) (fun (h176 : x28.toInt < x13.toInt) => ?_)
        · skip
          refine z_xP zt12 15 32 [some (.ref 5), some (.int 116)] [.int 0] rfl rfl ?_
          refine z_xrz zt12 16 rfl zzr12 (by decide) (by decide) ?_
          show z_ev (d + 32) 11 85 [some (.ref 5)] [.int 0] M30 _
          refine z_xZ zt11 32 rfl rfl (fun (h177 : (0 : Int) = 0) => ?_) (fun (h177 : (0 : Int) ≠ 0) => absurd h177 (by omega))
          refine z_xP zt11 50 127 [some (.ref 5)] [.ref 5] rfl rfl ?_
          refine z_xcV (vs := [.ref 5]) (r := []) (L2 := [some (.ref 5)]) zt11 51 rfl zo11 zzcV1_66 (Or.inl rfl) rfl X31 f5 rfl rfl rfl (Nat.le_of_ble_eq_true rfl) zzm10 (Nat.le_of_ble_eq_true rfl) rfl ?_
          refine z_xP zt10 0 1 [some (.ref 5)] [.ref 5] rfl rfl ?_
          refine z_xgv zt10 1 rfl zo10 zzf1_32 X31 f5 (by decide) h160 ?_
          refine z_xZ zt10 2 rfl rfl (fun (h178 : 0 ≤ x2.toInt) => absurd h178 (by omega)) (fun (h178 : x2.toInt < 0) => ?_)
          refine z_xP zt10 3 9 [some (.ref 5)] [.ref 5, .ref 5] rfl rfl ?_
          refine z_xgv zt10 4 rfl zo10 zzf1_29 X31 f5 (by decide) h33 ?_
          refine z_xpf zt10 5 rfl zo10 zzf1_32 X31 f5 (by decide) (by decide) ⟨Int32.le_toInt _, Int32.toInt_le _⟩ rfl (by decide) zw1_3 (fun M179 X180 e181 h182 => ?_)
          refine z_xrv zt10 6 rfl zzr10 ?_
          show z_ev (d + 32) 11 130 [some (.ref 5)] [] M179 _
          exact z_xrv zt11 52 rfl zzr11 (kk M179 X180)
        refine z_xP zt12 8 19 [some (.ref 5), some (.int 116)] [.ref 5] rfl rfl ?_
        refine z_xgX (b := 6) zt12 9 rfl zo12 zzf1_9 X31 f5 (by decide) (by decide) rfl ?_
        refine z_xP zt12 10 23 [some (.ref 5), some (.int 116)] [.ref 5, .ref 6] rfl rfl ?_
        refine z_xgv zt12 11 rfl zo12 zzf1_29 X31 f5 (by decide) h33 ?_
        refine z_xil zt12 12 rfl X31 f6 (by decide) (by omega) (by omega) (fun (x183 : Int32) h184 (h185 : (-2147483648) ≤ x183.toInt) (h186 : x183.toInt ≤ 2147483647) => ?_)
        refine z_xP zt12 13 28 [some (.ref 5), some (.int 116)] [.int 116, .int x183] rfl rfl ?_
        refine z_xJ zt12 14 rfl rfl (fun (h187 : x183.toInt = 116) => ?_) (fun (h187 : x183.toInt ≠ 116) => ?_)
        · skip
          refine z_xP zt12 17 35 [some (.ref 5), some (.int 116)] [.ref 5, .ref 5] rfl rfl ?_
          refine z_xgv zt12 18 rfl zo12 zzf1_29 X31 f5 (by decide) h33 ?_
          refine z_xP zt12 19 39 [some (.ref 5), some (.int 116)] [.int 1, .int x28, .ref 5] rfl rfl ?_
          refine z_xI zt12 20 rfl rfl (fun (x188 : Int32) (h189 : x188.toInt = x28.toInt + 1) => ?_) (z_pAdd rfl rfl (by omega) (by omega))
          refine z_xpf zt12 21 rfl zo12 zzf1_29 X31 f5 (by decide) (by decide) ⟨by omega, by omega⟩ rfl (by decide) zw1_2 (fun M190 X191 e192 h193 => ?_)
          refine z_xP zt12 22 44 [some (.ref 5), some (.int 116)] [.int 1] rfl rfl ?_
          refine z_xrz zt12 23 rfl zzr12 (by decide) (by decide) ?_
          show z_ev (d + 32) 11 85 [some (.ref 5)] [.int 1] M190 _
          refine z_xZ zt11 32 rfl rfl (fun (h194 : (1 : Int) = 0) => absurd h194 (by omega)) (fun (h194 : (1 : Int) ≠ 0) => ?_)
          refine z_xP zt11 33 91 [some (.ref 5)] [.int 32, .ref 5] rfl rfl ?_
          refine z_xcV (vs := [.ref 5, .int 32]) (r := []) (L2 := [some (.ref 5), some (.int 32)]) zt11 34 rfl zo11 zzcV1_56 (Or.inl rfl) rfl X191 f5 rfl rfl rfl (Nat.le_of_ble_eq_true rfl) zzm8 (Nat.le_of_ble_eq_true rfl) rfl ?_
          refine z_xP zt8 0 1 [some (.ref 5), some (.int 32)] [.ref 5] rfl rfl ?_
          have h195 := (e192.f f5 (by decide) h160)
          refine z_xgv zt8 1 rfl zo8 zzf1_32 X191 f5 (by decide) h195 ?_
          refine z_xZ zt8 2 rfl rfl (fun (h196 : x2.toInt < 0) => ?_) (fun (h196 : 0 ≤ x2.toInt) => absurd h196 (by omega))
          refine z_xP zt8 4 9 [some (.ref 5), some (.int 32)] [.ref 5] rfl rfl ?_
          refine z_xgv zt8 5 rfl zo8 zzf1_29 X191 f5 (by decide) h193 ?_
          refine z_xP zt8 6 13 [some (.ref 5), some (.int 32)] [.ref 5, .int x188] rfl rfl ?_
          have h197 := (e192.f f5 (by decide) h162)
          refine z_xgv zt8 7 rfl zo8 zzf1_25 X191 f5 (by decide) h197 ?_
          refine z_xJ zt8 8 rfl rfl (fun (h198 : x13.toInt ≤ x188.toInt) => ?_) (fun (h198 : x188.toInt < x13.toInt) => ?_)
          · skip
            refine z_xP zt8 22 47 [some (.ref 5), some (.int 32)] [.ref 5, .ref 5] rfl rfl ?_
            refine z_xgv zt8 23 rfl zo8 zzf1_29 X191 f5 (by decide) h193 ?_
            refine z_xpf zt8 24 rfl zo8 zzf1_32 X191 f5 (by decide) (by decide) ⟨Int32.le_toInt _, Int32.toInt_le _⟩ rfl (by decide) zw1_3 (fun M199 X200 e201 h202 => ?_)
            refine z_xrv zt8 25 rfl zzr8 ?_
            show z_ev (d + 32) 11 94 [some (.ref 5)] [] M199 _
            refine z_xP zt11 35 95 [some (.ref 5)] [.ref 5] rfl rfl ?_
            refine z_xgX (b := 8) zt11 36 rfl zo11 zzf1_18 X200 f5 (by decide) (by decide) rfl ?_
            refine z_xP zt11 37 99 [some (.ref 5)] [.ref 5, .ref 8] rfl rfl ?_
            have h203 := (e201.f f5 (by decide) (e192.f f5 (by decide) h165))
            refine z_xgv zt11 38 rfl zo11 zzf1_38 X200 f5 (by decide) h203 ?_
            refine z_xP zt11 39 103 [some (.ref 5)] [.ref 5, .int x166, .ref 8] rfl rfl ?_
            have h204 := (e201.f f5 (by decide) h193)
            refine z_xgv zt11 40 rfl zo11 zzf1_29 X200 f5 (by decide) h204 ?_
            have f8 : T[8]? = some (.inr (8, 0, 8, 0, 160)) := X200.1.k rfl (by decide)
            refine z_xis zt11 41 rfl X200 f8 (by decide) (by decide) (by omega) (by omega) (by omega) (by omega) (by decide) (fun M205 X206 e207 h208 => ?_)
            refine z_xP zt11 42 109 [some (.ref 5)] [.ref 5, .ref 5] rfl rfl ?_
            have h209 := (e207.f f5 (by decide) h203)
            refine z_xgv zt11 43 rfl zo11 zzf1_38 X206 f5 (by decide) h209 ?_
            refine z_xP zt11 44 113 [some (.ref 5)] [.int 1, .int x166, .ref 5] rfl rfl ?_
            refine z_xI zt11 45 rfl rfl (fun (x210 : Int32) (h211 : x210.toInt = x166.toInt + 1) => ?_) (z_pAdd rfl rfl (by omega) (by omega))
            refine z_xpf zt11 46 rfl zo11 zzf1_38 X206 f5 (by decide) (by decide) ⟨by omega, by omega⟩ rfl (by decide) zw1_7 (fun M212 X213 e214 h215 => ?_)
            refine z_xP zt11 47 119 [some (.ref 5)] [.int 0, .ref 5] rfl rfl ?_
            refine z_xcV (vs := [.ref 5, .int 0]) (r := []) (L2 := [some (.ref 5), some (.int 0), none, none, none, none, none]) zt11 48 rfl zo11 zzcV1_77 (Or.inl rfl) rfl X213 f5 rfl rfl rfl (Nat.le_of_ble_eq_true rfl) zzm15 (Nat.le_of_ble_eq_true rfl) rfl ?_
            have q0 : ((0 : Int32)).toInt = 0 := rfl
            have q0 : ((0 : Int32)).toInt = 0 := rfl
            refine zC15 X213.1 (by decide) (fun y218 M216 X217  => ?_)
            have X219 := X213.go X217 (z_sb (by decide))
            show z_ev (d + 32) 11 122 [some (.ref 5)] [.long y218] M216 _
            refine z_xP zt11 49 130 [some (.ref 5)] [] rfl rfl ?_
            exact z_xrv zt11 52 rfl zzr11 (kk M216 X219)
          refine z_xP zt8 9 20 [some (.ref 5), some (.int 32)] [.ref 5] rfl rfl ?_
          refine z_xgX (b := 6) zt8 10 rfl zo8 zzf1_9 X191 f5 (by decide) (by decide) rfl ?_
          refine z_xP zt8 11 24 [some (.ref 5), some (.int 32)] [.ref 5, .ref 6] rfl rfl ?_
          refine z_xgv zt8 12 rfl zo8 zzf1_29 X191 f5 (by decide) h193 ?_
          refine z_xil zt8 13 rfl X191 f6 (by decide) (by omega) (by omega) (fun (x221 : Int32) h222 (h223 : (-2147483648) ≤ x221.toInt) (h224 : x221.toInt ≤ 2147483647) => ?_)
          refine z_xP zt8 14 29 [some (.ref 5), some (.int 32)] [.int 32, .int x221] rfl rfl ?_
          refine z_xJ zt8 15 rfl rfl (fun (h225 : x221.toInt ≠ 32) => ?_) (fun (h225 : x221.toInt = 32) => ?_)
          · skip
            refine z_xP zt8 22 47 [some (.ref 5), some (.int 32)] [.ref 5, .ref 5] rfl rfl ?_
            refine z_xgv zt8 23 rfl zo8 zzf1_29 X191 f5 (by decide) h193 ?_
            refine z_xpf zt8 24 rfl zo8 zzf1_32 X191 f5 (by decide) (by decide) ⟨Int32.le_toInt _, Int32.toInt_le _⟩ rfl (by decide) zw1_3 (fun M226 X227 e228 h229 => ?_)
            refine z_xrv zt8 25 rfl zzr8 ?_
            show z_ev (d + 32) 11 94 [some (.ref 5)] [] M226 _
            refine z_xP zt11 35 95 [some (.ref 5)] [.ref 5] rfl rfl ?_
            refine z_xgX (b := 8) zt11 36 rfl zo11 zzf1_18 X227 f5 (by decide) (by decide) rfl ?_
            refine z_xP zt11 37 99 [some (.ref 5)] [.ref 5, .ref 8] rfl rfl ?_
            have h230 := (e228.f f5 (by decide) (e192.f f5 (by decide) h165))
            refine z_xgv zt11 38 rfl zo11 zzf1_38 X227 f5 (by decide) h230 ?_
            refine z_xP zt11 39 103 [some (.ref 5)] [.ref 5, .int x166, .ref 8] rfl rfl ?_
            have h231 := (e228.f f5 (by decide) h193)
            refine z_xgv zt11 40 rfl zo11 zzf1_29 X227 f5 (by decide) h231 ?_
            have f8 : T[8]? = some (.inr (8, 0, 8, 0, 160)) := X227.1.k rfl (by decide)
            refine z_xis zt11 41 rfl X227 f8 (by decide) (by decide) (by omega) (by omega) (by omega) (by omega) (by decide) (fun M232 X233 e234 h235 => ?_)
            refine z_xP zt11 42 109 [some (.ref 5)] [.ref 5, .ref 5] rfl rfl ?_
            have h236 := (e234.f f5 (by decide) h230)
            refine z_xgv zt11 43 rfl zo11 zzf1_38 X233 f5 (by decide) h236 ?_
            refine z_xP zt11 44 113 [some (.ref 5)] [.int 1, .int x166, .ref 5] rfl rfl ?_
            refine z_xI zt11 45 rfl rfl (fun (x237 : Int32) (h238 : x237.toInt = x166.toInt + 1) => ?_) (z_pAdd rfl rfl (by omega) (by omega))
            refine z_xpf zt11 46 rfl zo11 zzf1_38 X233 f5 (by decide) (by decide) ⟨by omega, by omega⟩ rfl (by decide) zw1_7 (fun M239 X240 e241 h242 => ?_)
            refine z_xP zt11 47 119 [some (.ref 5)] [.int 0, .ref 5] rfl rfl ?_
            refine z_xcV (vs := [.ref 5, .int 0]) (r := []) (L2 := [some (.ref 5), some (.int 0), none, none, none, none, none]) zt11 48 rfl zo11 zzcV1_77 (Or.inl rfl) rfl X240 f5 rfl rfl rfl (Nat.le_of_ble_eq_true rfl) zzm15 (Nat.le_of_ble_eq_true rfl) rfl ?_
            have q0 : ((0 : Int32)).toInt = 0 := rfl
            have q0 : ((0 : Int32)).toInt = 0 := rfl
            refine zC15 X240.1 (by decide) (fun y245 M243 X244  => ?_)
            have X246 := X240.go X244 (z_sb (by decide))
            show z_ev (d + 32) 11 122 [some (.ref 5)] [.long y245] M243 _
            refine z_xP zt11 49 130 [some (.ref 5)] [] rfl rfl ?_
            exact z_xrv zt11 52 rfl zzr11 (kk M243 X246)
          refine z_xP zt8 16 34 [some (.ref 5), some (.int 32)] [.ref 5, .ref 5] rfl rfl ?_
          refine z_xgv zt8 17 rfl zo8 zzf1_29 X191 f5 (by decide) h193 ?_
          refine z_xP zt8 18 38 [some (.ref 5), some (.int 32)] [.int 1, .int x188, .ref 5] rfl rfl ?_
          refine z_xI zt8 19 rfl rfl (fun (x248 : Int32) (h249 : x248.toInt = x188.toInt + 1) => ?_) (z_pAdd rfl rfl (by omega) (by omega))
          refine z_xpf zt8 20 rfl zo8 zzf1_29 X191 f5 (by decide) (by decide) ⟨by omega, by omega⟩ rfl (by decide) zw1_2 (fun M250 X251 e252 h253 => ?_)
          refine z_xP zt8 21 53 [some (.ref 5), some (.int 32)] [] rfl rfl ?_
          refine z_xrv zt8 25 rfl zzr8 ?_
          show z_ev (d + 32) 11 94 [some (.ref 5)] [] M250 _
          refine z_xP zt11 35 95 [some (.ref 5)] [.ref 5] rfl rfl ?_
          refine z_xgX (b := 8) zt11 36 rfl zo11 zzf1_18 X251 f5 (by decide) (by decide) rfl ?_
          refine z_xP zt11 37 99 [some (.ref 5)] [.ref 5, .ref 8] rfl rfl ?_
          have h254 := (e252.f f5 (by decide) (e192.f f5 (by decide) h165))
          refine z_xgv zt11 38 rfl zo11 zzf1_38 X251 f5 (by decide) h254 ?_
          refine z_xP zt11 39 103 [some (.ref 5)] [.ref 5, .int x166, .ref 8] rfl rfl ?_
          refine z_xgv zt11 40 rfl zo11 zzf1_29 X251 f5 (by decide) h253 ?_
          have f8 : T[8]? = some (.inr (8, 0, 8, 0, 160)) := X251.1.k rfl (by decide)
          refine z_xis zt11 41 rfl X251 f8 (by decide) (by decide) (by omega) (by omega) (by omega) (by omega) (by decide) (fun M255 X256 e257 h258 => ?_)
          refine z_xP zt11 42 109 [some (.ref 5)] [.ref 5, .ref 5] rfl rfl ?_
          have h259 := (e257.f f5 (by decide) h254)
          refine z_xgv zt11 43 rfl zo11 zzf1_38 X256 f5 (by decide) h259 ?_
          refine z_xP zt11 44 113 [some (.ref 5)] [.int 1, .int x166, .ref 5] rfl rfl ?_
          refine z_xI zt11 45 rfl rfl (fun (x260 : Int32) (h261 : x260.toInt = x166.toInt + 1) => ?_) (z_pAdd rfl rfl (by omega) (by omega))
          refine z_xpf zt11 46 rfl zo11 zzf1_38 X256 f5 (by decide) (by decide) ⟨by omega, by omega⟩ rfl (by decide) zw1_7 (fun M262 X263 e264 h265 => ?_)
          refine z_xP zt11 47 119 [some (.ref 5)] [.int 0, .ref 5] rfl rfl ?_
          refine z_xcV (vs := [.ref 5, .int 0]) (r := []) (L2 := [some (.ref 5), some (.int 0), none, none, none, none, none]) zt11 48 rfl zo11 zzcV1_77 (Or.inl rfl) rfl X263 f5 rfl rfl rfl (Nat.le_of_ble_eq_true rfl) zzm15 (Nat.le_of_ble_eq_true rfl) rfl ?_
          have q0 : ((0 : Int32)).toInt = 0 := rfl
          have q0 : ((0 : Int32)).toInt = 0 := rfl
          refine zC15 X263.1 (by decide) (fun y268 M266 X267  => ?_)
          have X269 := X263.go X267 (z_sb (by decide))
          show z_ev (d + 32) 11 122 [some (.ref 5)] [.long y268] M266 _
          refine z_xP zt11 49 130 [some (.ref 5)] [] rfl rfl ?_
          exact z_xrv zt11 52 rfl zzr11 (kk M266 X269)
        refine z_xP zt12 15 32 [some (.ref 5), some (.int 116)] [.int 0] rfl rfl ?_
        refine z_xrz zt12 16 rfl zzr12 (by decide) (by decide) ?_
        show z_ev (d + 32) 11 85 [some (.ref 5)] [.int 0] M30 _
        refine z_xZ zt11 32 rfl rfl (fun (h271 : (0 : Int) = 0) => ?_) (fun (h271 : (0 : Int) ≠ 0) => absurd h271 (by omega))
        refine z_xP zt11 50 127 [some (.ref 5)] [.ref 5] rfl rfl ?_
        refine z_xcV (vs := [.ref 5]) (r := []) (L2 := [some (.ref 5)]) zt11 51 rfl zo11 zzcV1_66 (Or.inl rfl) rfl X31 f5 rfl rfl rfl (Nat.le_of_ble_eq_true rfl) zzm10 (Nat.le_of_ble_eq_true rfl) rfl ?_
        refine z_xP zt10 0 1 [some (.ref 5)] [.ref 5] rfl rfl ?_
        refine z_xgv zt10 1 rfl zo10 zzf1_32 X31 f5 (by decide) h160 ?_
        refine z_xZ zt10 2 rfl rfl (fun (h272 : 0 ≤ x2.toInt) => absurd h272 (by omega)) (fun (h272 : x2.toInt < 0) => ?_)
        refine z_xP zt10 3 9 [some (.ref 5)] [.ref 5, .ref 5] rfl rfl ?_
        refine z_xgv zt10 4 rfl zo10 zzf1_29 X31 f5 (by decide) h33 ?_
        refine z_xpf zt10 5 rfl zo10 zzf1_32 X31 f5 (by decide) (by decide) ⟨Int32.le_toInt _, Int32.toInt_le _⟩ rfl (by decide) zw1_3 (fun M273 X274 e275 h276 => ?_)
        refine z_xrv zt10 6 rfl zzr10 ?_
        show z_ev (d + 32) 11 130 [some (.ref 5)] [] M273 _
        exact z_xrv zt11 52 rfl zzr11 (kk M273 X274)
      refine z_xP zt12 8 19 [some (.ref 5), some (.int 101)] [.ref 5] rfl rfl ?_
      refine z_xgX (b := 6) zt12 9 rfl zo12 zzf1_9 X31 f5 (by decide) (by decide) rfl ?_
      refine z_xP zt12 10 23 [some (.ref 5), some (.int 101)] [.ref 5, .ref 6] rfl rfl ?_
      refine z_xgv zt12 11 rfl zo12 zzf1_29 X31 f5 (by decide) h33 ?_
      refine z_xil zt12 12 rfl X31 f6 (by decide) (by omega) (by omega) (fun (x277 : Int32) h278 (h279 : (-2147483648) ≤ x277.toInt) (h280 : x277.toInt ≤ 2147483647) => ?_)
      refine z_xP zt12 13 28 [some (.ref 5), some (.int 101)] [.int 101, .int x277] rfl rfl ?_
      refine z_xJ zt12 14 rfl rfl (fun (h281 : x277.toInt = 101) => ?_) (fun (h281 : x277.toInt ≠ 101) => ?_)
      · skip
        refine z_xP zt12 17 35 [some (.ref 5), some (.int 101)] [.ref 5, .ref 5] rfl rfl ?_
        refine z_xgv zt12 18 rfl zo12 zzf1_29 X31 f5 (by decide) h33 ?_
        refine z_xP zt12 19 39 [some (.ref 5), some (.int 101)] [.int 1, .int x28, .ref 5] rfl rfl ?_
        refine z_xI zt12 20 rfl rfl (fun (x282 : Int32) (h283 : x282.toInt = x28.toInt + 1) => ?_) (z_pAdd rfl rfl (by omega) (by omega))
        refine z_xpf zt12 21 rfl zo12 zzf1_29 X31 f5 (by decide) (by decide) ⟨by omega, by omega⟩ rfl (by decide) zw1_2 (fun M284 X285 e286 h287 => ?_)
        refine z_xP zt12 22 44 [some (.ref 5), some (.int 101)] [.int 1] rfl rfl ?_
        refine z_xrz zt12 23 rfl zzr12 (by decide) (by decide) ?_
        show z_ev (d + 32) 11 56 [some (.ref 5)] [.int 1] M284 _
        refine z_xZ zt11 21 rfl rfl (fun (h288 : (1 : Int) = 0) => absurd h288 (by omega)) (fun (h288 : (1 : Int) ≠ 0) => ?_)
        refine z_xP zt11 22 61 [some (.ref 5)] [.ref 5, .ref 5] rfl rfl ?_
        refine z_xcV (vs := [.ref 5]) (r := [.ref 5]) (L2 := [some (.ref 5), none, none, none]) zt11 23 rfl zo11 zzcV1_73 (Or.inl rfl) rfl X285 f5 rfl rfl rfl (Nat.le_of_ble_eq_true rfl) zzm13 (Nat.le_of_ble_eq_true rfl) rfl ?_
        refine zC13 X285.1 (fun x291 M289 X290 h292 h293 => ?_)
        have X294 := X285.go X290 (z_sb (by decide))
        show z_ev (d + 32) 11 64 [some (.ref 5)] [.int x291, .ref 5] M289 _
        refine z_xpf zt11 24 rfl zo11 zzf1_41 X294 f5 (by decide) (by decide) ⟨Int32.le_toInt _, Int32.toInt_le _⟩ rfl (by decide) zw1_6 (fun M296 X297 e298 h299 => ?_)
        refine z_xP zt11 25 130 [some (.ref 5)] [] rfl rfl ?_
        exact z_xrv zt11 52 rfl zzr11 (kk M296 X297)
      refine z_xP zt12 15 32 [some (.ref 5), some (.int 101)] [.int 0] rfl rfl ?_
      refine z_xrz zt12 16 rfl zzr12 (by decide) (by decide) ?_
      show z_ev (d + 32) 11 56 [some (.ref 5)] [.int 0] M30 _
      refine z_xZ zt11 21 rfl rfl (fun (h300 : (0 : Int) = 0) => ?_) (fun (h300 : (0 : Int) ≠ 0) => absurd h300 (by omega))
      refine z_xP zt11 26 71 [some (.ref 5)] [.ref 5] rfl rfl ?_
      refine z_xgI zt11 27 rfl zo11 zzf1_38 X31 f5 (by decide) (by decide) rfl (fun (x302 : Int32) h301 (h303 : 0 ≤ x302.toInt) (h304 : x302.toInt ≤ 8) => ?_)
      refine z_xP zt11 28 76 [some (.ref 5)] [.int 8, .int x302] rfl rfl ?_
      refine z_xJ zt11 29 rfl rfl (fun (h305 : 8 ≤ x302.toInt) => ?_) (fun (h305 : x302.toInt < 8) => ?_)
      · skip
        refine z_xP zt11 50 127 [some (.ref 5)] [.ref 5] rfl rfl ?_
        refine z_xcV (vs := [.ref 5]) (r := []) (L2 := [some (.ref 5)]) zt11 51 rfl zo11 zzcV1_66 (Or.inl rfl) rfl X31 f5 rfl rfl rfl (Nat.le_of_ble_eq_true rfl) zzm10 (Nat.le_of_ble_eq_true rfl) rfl ?_
        refine z_xP zt10 0 1 [some (.ref 5)] [.ref 5] rfl rfl ?_
        refine z_xgv zt10 1 rfl zo10 zzf1_32 X31 f5 (by decide) h160 ?_
        refine z_xZ zt10 2 rfl rfl (fun (h306 : 0 ≤ x2.toInt) => absurd h306 (by omega)) (fun (h306 : x2.toInt < 0) => ?_)
        refine z_xP zt10 3 9 [some (.ref 5)] [.ref 5, .ref 5] rfl rfl ?_
        refine z_xgv zt10 4 rfl zo10 zzf1_29 X31 f5 (by decide) h33 ?_
        refine z_xpf zt10 5 rfl zo10 zzf1_32 X31 f5 (by decide) (by decide) ⟨Int32.le_toInt _, Int32.toInt_le _⟩ rfl (by decide) zw1_3 (fun M307 X308 e309 h310 => ?_)
        refine z_xrv zt10 6 rfl zzr10 ?_
        show z_ev (d + 32) 11 130 [some (.ref 5)] [] M307 _
        exact z_xrv zt11 52 rfl zzr11 (kk M307 X308)
      refine z_xP zt11 30 82 [some (.ref 5)] [.int 116, .ref 5] rfl rfl ?_
      refine z_xcV (vs := [.ref 5, .int 116]) (r := []) (L2 := [some (.ref 5), some (.int 116)]) zt11 31 rfl zo11 zzcV1_69 (Or.inl rfl) rfl X31 f5 rfl rfl rfl (Nat.le_of_ble_eq_true rfl) zzm12 (Nat.le_of_ble_eq_true rfl) rfl ?_
      refine z_xP zt12 0 1 [some (.ref 5), some (.int 116)] [.ref 5] rfl rfl ?_
      refine z_xgv zt12 1 rfl zo12 zzf1_32 X31 f5 (by decide) h160 ?_
      refine z_xZ zt12 2 rfl rfl (fun (h311 : 0 ≤ x2.toInt) => absurd h311 (by omega)) (fun (h311 : x2.toInt < 0) => ?_)
      refine z_xP zt12 3 8 [some (.ref 5), some (.int 116)] [.ref 5] rfl rfl ?_
      refine z_xgv zt12 4 rfl zo12 zzf1_29 X31 f5 (by decide) h33 ?_
      refine z_xP zt12 5 12 [some (.ref 5), some (.int 116)] [.ref 5, .int x28] rfl rfl ?_
      refine z_xgv zt12 6 rfl zo12 zzf1_25 X31 f5 (by decide) h162 ?_
      refine z_xJ zt12 7 rfl rfl (fun (h312 : x13.toInt ≤ x28.toInt) => ?_) (fun (h312 : x28.toInt < x13.toInt) => ?_)
      · skip
        refine z_xP zt12 15 32 [some (.ref 5), some (.int 116)] [.int 0] rfl rfl ?_
        refine z_xrz zt12 16 rfl zzr12 (by decide) (by decide) ?_
        show z_ev (d + 32) 11 85 [some (.ref 5)] [.int 0] M30 _
        refine z_xZ zt11 32 rfl rfl (fun (h313 : (0 : Int) = 0) => ?_) (fun (h313 : (0 : Int) ≠ 0) => absurd h313 (by omega))
        refine z_xP zt11 50 127 [some (.ref 5)] [.ref 5] rfl rfl ?_
        refine z_xcV (vs := [.ref 5]) (r := []) (L2 := [some (.ref 5)]) zt11 51 rfl zo11 zzcV1_66 (Or.inl rfl) rfl X31 f5 rfl rfl rfl (Nat.le_of_ble_eq_true rfl) zzm10 (Nat.le_of_ble_eq_true rfl) rfl ?_
        refine z_xP zt10 0 1 [some (.ref 5)] [.ref 5] rfl rfl ?_
        refine z_xgv zt10 1 rfl zo10 zzf1_32 X31 f5 (by decide) h160 ?_
        refine z_xZ zt10 2 rfl rfl (fun (h314 : 0 ≤ x2.toInt) => absurd h314 (by omega)) (fun (h314 : x2.toInt < 0) => ?_)
        refine z_xP zt10 3 9 [some (.ref 5)] [.ref 5, .ref 5] rfl rfl ?_
        refine z_xgv zt10 4 rfl zo10 zzf1_29 X31 f5 (by decide) h33 ?_
        refine z_xpf zt10 5 rfl zo10 zzf1_32 X31 f5 (by decide) (by decide) ⟨Int32.le_toInt _, Int32.toInt_le _⟩ rfl (by decide) zw1_3 (fun M315 X316 e317 h318 => ?_)
        refine z_xrv zt10 6 rfl zzr10 ?_
        show z_ev (d + 32) 11 130 [some (.ref 5)] [] M315 _
        exact z_xrv zt11 52 rfl zzr11 (kk M315 X316)
      refine z_xP zt12 8 19 [some (.ref 5), some (.int 116)] [.ref 5] rfl rfl ?_
      refine z_xgX (b := 6) zt12 9 rfl zo12 zzf1_9 X31 f5 (by decide) (by decide) rfl ?_
      refine z_xP zt12 10 23 [some (.ref 5), some (.int 116)] [.ref 5, .ref 6] rfl rfl ?_
      refine z_xgv zt12 11 rfl zo12 zzf1_29 X31 f5 (by decide) h33 ?_
      refine z_xil zt12 12 rfl X31 f6 (by decide) (by omega) (by omega) (fun (x319 : Int32) h320 (h321 : (-2147483648) ≤ x319.toInt) (h322 : x319.toInt ≤ 2147483647) => ?_)
      have h323 := congrArg Int32.toInt (h320.symm.trans h278)
      refine z_xP zt12 13 28 [some (.ref 5), some (.int 116)] [.int 116, .int x319] rfl rfl ?_
      refine z_xJ zt12 14 rfl rfl (fun (h324 : x319.toInt = 116) => ?_) (fun (h324 : x319.toInt ≠ 116) => ?_)
      · skip
        refine z_xP zt12 17 35 [some (.ref 5), some (.int 116)] [.ref 5, .ref 5] rfl rfl ?_
        refine z_xgv zt12 18 rfl zo12 zzf1_29 X31 f5 (by decide) h33 ?_
        refine z_xP zt12 19 39 [some (.ref 5), some (.int 116)] [.int 1, .int x28, .ref 5] rfl rfl ?_
        refine z_xI zt12 20 rfl rfl (fun (x325 : Int32) (h326 : x325.toInt = x28.toInt + 1) => ?_) (z_pAdd rfl rfl (by omega) (by omega))
        refine z_xpf zt12 21 rfl zo12 zzf1_29 X31 f5 (by decide) (by decide) ⟨by omega, by omega⟩ rfl (by decide) zw1_2 (fun M327 X328 e329 h330 => ?_)
        refine z_xP zt12 22 44 [some (.ref 5), some (.int 116)] [.int 1] rfl rfl ?_
        refine z_xrz zt12 23 rfl zzr12 (by decide) (by decide) ?_
        show z_ev (d + 32) 11 85 [some (.ref 5)] [.int 1] M327 _
        refine z_xZ zt11 32 rfl rfl (fun (h331 : (1 : Int) = 0) => absurd h331 (by omega)) (fun (h331 : (1 : Int) ≠ 0) => ?_)
        refine z_xP zt11 33 91 [some (.ref 5)] [.int 32, .ref 5] rfl rfl ?_
        refine z_xcV (vs := [.ref 5, .int 32]) (r := []) (L2 := [some (.ref 5), some (.int 32)]) zt11 34 rfl zo11 zzcV1_56 (Or.inl rfl) rfl X328 f5 rfl rfl rfl (Nat.le_of_ble_eq_true rfl) zzm8 (Nat.le_of_ble_eq_true rfl) rfl ?_
        refine z_xP zt8 0 1 [some (.ref 5), some (.int 32)] [.ref 5] rfl rfl ?_
        have h332 := (e329.f f5 (by decide) h160)
        refine z_xgv zt8 1 rfl zo8 zzf1_32 X328 f5 (by decide) h332 ?_
        refine z_xZ zt8 2 rfl rfl (fun (h333 : x2.toInt < 0) => ?_) (fun (h333 : 0 ≤ x2.toInt) => absurd h333 (by omega))
        refine z_xP zt8 4 9 [some (.ref 5), some (.int 32)] [.ref 5] rfl rfl ?_
        refine z_xgv zt8 5 rfl zo8 zzf1_29 X328 f5 (by decide) h330 ?_
        refine z_xP zt8 6 13 [some (.ref 5), some (.int 32)] [.ref 5, .int x325] rfl rfl ?_
        have h334 := (e329.f f5 (by decide) h162)
        refine z_xgv zt8 7 rfl zo8 zzf1_25 X328 f5 (by decide) h334 ?_
        refine z_xJ zt8 8 rfl rfl (fun (h335 : x13.toInt ≤ x325.toInt) => ?_) (fun (h335 : x325.toInt < x13.toInt) => ?_)
        · skip
          refine z_xP zt8 22 47 [some (.ref 5), some (.int 32)] [.ref 5, .ref 5] rfl rfl ?_
          refine z_xgv zt8 23 rfl zo8 zzf1_29 X328 f5 (by decide) h330 ?_
          refine z_xpf zt8 24 rfl zo8 zzf1_32 X328 f5 (by decide) (by decide) ⟨Int32.le_toInt _, Int32.toInt_le _⟩ rfl (by decide) zw1_3 (fun M336 X337 e338 h339 => ?_)
          refine z_xrv zt8 25 rfl zzr8 ?_
          show z_ev (d + 32) 11 94 [some (.ref 5)] [] M336 _
          refine z_xP zt11 35 95 [some (.ref 5)] [.ref 5] rfl rfl ?_
          refine z_xgX (b := 8) zt11 36 rfl zo11 zzf1_18 X337 f5 (by decide) (by decide) rfl ?_
          refine z_xP zt11 37 99 [some (.ref 5)] [.ref 5, .ref 8] rfl rfl ?_
          have h340 := (e338.f f5 (by decide) (e329.f f5 (by decide) h301))
          refine z_xgv zt11 38 rfl zo11 zzf1_38 X337 f5 (by decide) h340 ?_
          refine z_xP zt11 39 103 [some (.ref 5)] [.ref 5, .int x302, .ref 8] rfl rfl ?_
          have h341 := (e338.f f5 (by decide) h330)
          refine z_xgv zt11 40 rfl zo11 zzf1_29 X337 f5 (by decide) h341 ?_
          have f8 : T[8]? = some (.inr (8, 0, 8, 0, 160)) := X337.1.k rfl (by decide)
          refine z_xis zt11 41 rfl X337 f8 (by decide) (by decide) (by omega) (by omega) (by omega) (by omega) (by decide) (fun M342 X343 e344 h345 => ?_)
          refine z_xP zt11 42 109 [some (.ref 5)] [.ref 5, .ref 5] rfl rfl ?_
          have h346 := (e344.f f5 (by decide) h340)
          refine z_xgv zt11 43 rfl zo11 zzf1_38 X343 f5 (by decide) h346 ?_
          refine z_xP zt11 44 113 [some (.ref 5)] [.int 1, .int x302, .ref 5] rfl rfl ?_
          refine z_xI zt11 45 rfl rfl (fun (x347 : Int32) (h348 : x347.toInt = x302.toInt + 1) => ?_) (z_pAdd rfl rfl (by omega) (by omega))
          refine z_xpf zt11 46 rfl zo11 zzf1_38 X343 f5 (by decide) (by decide) ⟨by omega, by omega⟩ rfl (by decide) zw1_7 (fun M349 X350 e351 h352 => ?_)
          refine z_xP zt11 47 119 [some (.ref 5)] [.int 0, .ref 5] rfl rfl ?_
          refine z_xcV (vs := [.ref 5, .int 0]) (r := []) (L2 := [some (.ref 5), some (.int 0), none, none, none, none, none]) zt11 48 rfl zo11 zzcV1_77 (Or.inl rfl) rfl X350 f5 rfl rfl rfl (Nat.le_of_ble_eq_true rfl) zzm15 (Nat.le_of_ble_eq_true rfl) rfl ?_
          have q0 : ((0 : Int32)).toInt = 0 := rfl
          have q0 : ((0 : Int32)).toInt = 0 := rfl
          refine zC15 X350.1 (by decide) (fun y355 M353 X354  => ?_)
          have X356 := X350.go X354 (z_sb (by decide))
          show z_ev (d + 32) 11 122 [some (.ref 5)] [.long y355] M353 _
          refine z_xP zt11 49 130 [some (.ref 5)] [] rfl rfl ?_
          exact z_xrv zt11 52 rfl zzr11 (kk M353 X356)
        refine z_xP zt8 9 20 [some (.ref 5), some (.int 32)] [.ref 5] rfl rfl ?_
        refine z_xgX (b := 6) zt8 10 rfl zo8 zzf1_9 X328 f5 (by decide) (by decide) rfl ?_
        refine z_xP zt8 11 24 [some (.ref 5), some (.int 32)] [.ref 5, .ref 6] rfl rfl ?_
        refine z_xgv zt8 12 rfl zo8 zzf1_29 X328 f5 (by decide) h330 ?_
        refine z_xil zt8 13 rfl X328 f6 (by decide) (by omega) (by omega) (fun (x358 : Int32) h359 (h360 : (-2147483648) ≤ x358.toInt) (h361 : x358.toInt ≤ 2147483647) => ?_)
        refine z_xP zt8 14 29 [some (.ref 5), some (.int 32)] [.int 32, .int x358] rfl rfl ?_
        refine z_xJ zt8 15 rfl rfl (fun (h362 : x358.toInt ≠ 32) => ?_) (fun (h362 : x358.toInt = 32) => ?_)
        · skip
          refine z_xP zt8 22 47 [some (.ref 5), some (.int 32)] [.ref 5, .ref 5] rfl rfl ?_
          refine z_xgv zt8 23 rfl zo8 zzf1_29 X328 f5 (by decide) h330 ?_
          refine z_xpf zt8 24 rfl zo8 zzf1_32 X328 f5 (by decide) (by decide) ⟨Int32.le_toInt _, Int32.toInt_le _⟩ rfl (by decide) zw1_3 (fun M363 X364 e365 h366 => ?_)
          refine z_xrv zt8 25 rfl zzr8 ?_
          show z_ev (d + 32) 11 94 [some (.ref 5)] [] M363 _
          refine z_xP zt11 35 95 [some (.ref 5)] [.ref 5] rfl rfl ?_
          refine z_xgX (b := 8) zt11 36 rfl zo11 zzf1_18 X364 f5 (by decide) (by decide) rfl ?_
          refine z_xP zt11 37 99 [some (.ref 5)] [.ref 5, .ref 8] rfl rfl ?_
          have h367 := (e365.f f5 (by decide) (e329.f f5 (by decide) h301))
          refine z_xgv zt11 38 rfl zo11 zzf1_38 X364 f5 (by decide) h367 ?_
          refine z_xP zt11 39 103 [some (.ref 5)] [.ref 5, .int x302, .ref 8] rfl rfl ?_
          have h368 := (e365.f f5 (by decide) h330)
          refine z_xgv zt11 40 rfl zo11 zzf1_29 X364 f5 (by decide) h368 ?_
          have f8 : T[8]? = some (.inr (8, 0, 8, 0, 160)) := X364.1.k rfl (by decide)
          refine z_xis zt11 41 rfl X364 f8 (by decide) (by decide) (by omega) (by omega) (by omega) (by omega) (by decide) (fun M369 X370 e371 h372 => ?_)
          refine z_xP zt11 42 109 [some (.ref 5)] [.ref 5, .ref 5] rfl rfl ?_
          have h373 := (e371.f f5 (by decide) h367)
          refine z_xgv zt11 43 rfl zo11 zzf1_38 X370 f5 (by decide) h373 ?_
          refine z_xP zt11 44 113 [some (.ref 5)] [.int 1, .int x302, .ref 5] rfl rfl ?_
          refine z_xI zt11 45 rfl rfl (fun (x374 : Int32) (h375 : x374.toInt = x302.toInt + 1) => ?_) (z_pAdd rfl rfl (by omega) (by omega))
          refine z_xpf zt11 46 rfl zo11 zzf1_38 X370 f5 (by decide) (by decide) ⟨by omega, by omega⟩ rfl (by decide) zw1_7 (fun M376 X377 e378 h379 => ?_)
          refine z_xP zt11 47 119 [some (.ref 5)] [.int 0, .ref 5] rfl rfl ?_
          refine z_xcV (vs := [.ref 5, .int 0]) (r := []) (L2 := [some (.ref 5), some (.int 0), none, none, none, none, none]) zt11 48 rfl zo11 zzcV1_77 (Or.inl rfl) rfl X377 f5 rfl rfl rfl (Nat.le_of_ble_eq_true rfl) zzm15 (Nat.le_of_ble_eq_true rfl) rfl ?_
          have q0 : ((0 : Int32)).toInt = 0 := rfl
          have q0 : ((0 : Int32)).toInt = 0 := rfl
          refine zC15 X377.1 (by decide) (fun y382 M380 X381  => ?_)
          have X383 := X377.go X381 (z_sb (by decide))
          show z_ev (d + 32) 11 122 [some (.ref 5)] [.long y382] M380 _
          refine z_xP zt11 49 130 [some (.ref 5)] [] rfl rfl ?_
          exact z_xrv zt11 52 rfl zzr11 (kk M380 X383)
        refine z_xP zt8 16 34 [some (.ref 5), some (.int 32)] [.ref 5, .ref 5] rfl rfl ?_
        refine z_xgv zt8 17 rfl zo8 zzf1_29 X328 f5 (by decide) h330 ?_
        refine z_xP zt8 18 38 [some (.ref 5), some (.int 32)] [.int 1, .int x325, .ref 5] rfl rfl ?_
        refine z_xI zt8 19 rfl rfl (fun (x385 : Int32) (h386 : x385.toInt = x325.toInt + 1) => ?_) (z_pAdd rfl rfl (by omega) (by omega))
        refine z_xpf zt8 20 rfl zo8 zzf1_29 X328 f5 (by decide) (by decide) ⟨by omega, by omega⟩ rfl (by decide) zw1_2 (fun M387 X388 e389 h390 => ?_)
        refine z_xP zt8 21 53 [some (.ref 5), some (.int 32)] [] rfl rfl ?_
        refine z_xrv zt8 25 rfl zzr8 ?_
        show z_ev (d + 32) 11 94 [some (.ref 5)] [] M387 _
        refine z_xP zt11 35 95 [some (.ref 5)] [.ref 5] rfl rfl ?_
        refine z_xgX (b := 8) zt11 36 rfl zo11 zzf1_18 X388 f5 (by decide) (by decide) rfl ?_
        refine z_xP zt11 37 99 [some (.ref 5)] [.ref 5, .ref 8] rfl rfl ?_
        have h391 := (e389.f f5 (by decide) (e329.f f5 (by decide) h301))
        refine z_xgv zt11 38 rfl zo11 zzf1_38 X388 f5 (by decide) h391 ?_
        refine z_xP zt11 39 103 [some (.ref 5)] [.ref 5, .int x302, .ref 8] rfl rfl ?_
        refine z_xgv zt11 40 rfl zo11 zzf1_29 X388 f5 (by decide) h390 ?_
        have f8 : T[8]? = some (.inr (8, 0, 8, 0, 160)) := X388.1.k rfl (by decide)
        refine z_xis zt11 41 rfl X388 f8 (by decide) (by decide) (by omega) (by omega) (by omega) (by omega) (by decide) (fun M392 X393 e394 h395 => ?_)
        refine z_xP zt11 42 109 [some (.ref 5)] [.ref 5, .ref 5] rfl rfl ?_
        have h396 := (e394.f f5 (by decide) h391)
        refine z_xgv zt11 43 rfl zo11 zzf1_38 X393 f5 (by decide) h396 ?_
        refine z_xP zt11 44 113 [some (.ref 5)] [.int 1, .int x302, .ref 5] rfl rfl ?_
        refine z_xI zt11 45 rfl rfl (fun (x397 : Int32) (h398 : x397.toInt = x302.toInt + 1) => ?_) (z_pAdd rfl rfl (by omega) (by omega))
        refine z_xpf zt11 46 rfl zo11 zzf1_38 X393 f5 (by decide) (by decide) ⟨by omega, by omega⟩ rfl (by decide) zw1_7 (fun M399 X400 e401 h402 => ?_)
        refine z_xP zt11 47 119 [some (.ref 5)] [.int 0, .ref 5] rfl rfl ?_
        refine z_xcV (vs := [.ref 5, .int 0]) (r := []) (L2 := [some (.ref 5), some (.int 0), none, none, none, none, none]) zt11 48 rfl zo11 zzcV1_77 (Or.inl rfl) rfl X400 f5 rfl rfl rfl (Nat.le_of_ble_eq_true rfl) zzm15 (Nat.le_of_ble_eq_true rfl) rfl ?_
        have q0 : ((0 : Int32)).toInt = 0 := rfl
        have q0 : ((0 : Int32)).toInt = 0 := rfl
        refine zC15 X400.1 (by decide) (fun y405 M403 X404  => ?_)
        have X406 := X400.go X404 (z_sb (by decide))
        show z_ev (d + 32) 11 122 [some (.ref 5)] [.long y405] M403 _
        refine z_xP zt11 49 130 [some (.ref 5)] [] rfl rfl ?_
        exact z_xrv zt11 52 rfl zzr11 (kk M403 X406)
      refine z_xP zt12 15 32 [some (.ref 5), some (.int 116)] [.int 0] rfl rfl ?_
      refine z_xrz zt12 16 rfl zzr12 (by decide) (by decide) ?_
      show z_ev (d + 32) 11 85 [some (.ref 5)] [.int 0] M30 _
      refine z_xZ zt11 32 rfl rfl (fun (h408 : (0 : Int) = 0) => ?_) (fun (h408 : (0 : Int) ≠ 0) => absurd h408 (by omega))
      refine z_xP zt11 50 127 [some (.ref 5)] [.ref 5] rfl rfl ?_
      refine z_xcV (vs := [.ref 5]) (r := []) (L2 := [some (.ref 5)]) zt11 51 rfl zo11 zzcV1_66 (Or.inl rfl) rfl X31 f5 rfl rfl rfl (Nat.le_of_ble_eq_true rfl) zzm10 (Nat.le_of_ble_eq_true rfl) rfl ?_
      refine z_xP zt10 0 1 [some (.ref 5)] [.ref 5] rfl rfl ?_
      refine z_xgv zt10 1 rfl zo10 zzf1_32 X31 f5 (by decide) h160 ?_
      refine z_xZ zt10 2 rfl rfl (fun (h409 : 0 ≤ x2.toInt) => absurd h409 (by omega)) (fun (h409 : x2.toInt < 0) => ?_)
      refine z_xP zt10 3 9 [some (.ref 5)] [.ref 5, .ref 5] rfl rfl ?_
      refine z_xgv zt10 4 rfl zo10 zzf1_29 X31 f5 (by decide) h33 ?_
      refine z_xpf zt10 5 rfl zo10 zzf1_32 X31 f5 (by decide) (by decide) ⟨Int32.le_toInt _, Int32.toInt_le _⟩ rfl (by decide) zw1_3 (fun M410 X411 e412 h413 => ?_)
      refine z_xrv zt10 6 rfl zzr10 ?_
      show z_ev (d + 32) 11 130 [some (.ref 5)] [] M410 _
      exact z_xrv zt11 52 rfl zzr11 (kk M410 X411)
    refine z_xP zt11 9 26 [some (.ref 5)] [.int 112, .ref 5] rfl rfl ?_
    refine z_xcV (vs := [.ref 5, .int 112]) (r := []) (L2 := [some (.ref 5), some (.int 112)]) zt11 10 rfl zo11 zzcV1_69 (Or.inl rfl) rfl X31 f5 rfl rfl rfl (Nat.le_of_ble_eq_true rfl) zzm12 (Nat.le_of_ble_eq_true rfl) rfl ?_
    refine z_xP zt12 0 1 [some (.ref 5), some (.int 112)] [.ref 5] rfl rfl ?_
    have h414 := (e32.f f5 (by decide) h1)
    refine z_xgv zt12 1 rfl zo12 zzf1_32 X31 f5 (by decide) h414 ?_
    refine z_xZ zt12 2 rfl rfl (fun (h415 : 0 ≤ x2.toInt) => absurd h415 (by omega)) (fun (h415 : x2.toInt < 0) => ?_)
    refine z_xP zt12 3 8 [some (.ref 5), some (.int 112)] [.ref 5] rfl rfl ?_
    refine z_xgv zt12 4 rfl zo12 zzf1_29 X31 f5 (by decide) h33 ?_
    refine z_xP zt12 5 12 [some (.ref 5), some (.int 112)] [.ref 5, .int x28] rfl rfl ?_
    have h416 := (e32.f f5 (by decide) h12)
    refine z_xgv zt12 6 rfl zo12 zzf1_25 X31 f5 (by decide) h416 ?_
    refine z_xJ zt12 7 rfl rfl (fun (h417 : x13.toInt ≤ x28.toInt) => ?_) (fun (h417 : x28.toInt < x13.toInt) => ?_)
    · skip
      refine z_xP zt12 15 32 [some (.ref 5), some (.int 112)] [.int 0] rfl rfl ?_
      refine z_xrz zt12 16 rfl zzr12 (by decide) (by decide) ?_
      show z_ev (d + 32) 11 29 [some (.ref 5)] [.int 0] M30 _
      refine z_xZ zt11 11 rfl rfl (fun (h418 : (0 : Int) = 0) => ?_) (fun (h418 : (0 : Int) ≠ 0) => absurd h418 (by omega))
      refine z_xP zt11 16 44 [some (.ref 5)] [.ref 5] rfl rfl ?_
      refine z_xgI zt11 17 rfl zo11 zzf1_41 X31 f5 (by decide) (by decide) rfl (fun (x420 : Int32) h419 (h421 : (-2147483648) ≤ x420.toInt) (h422 : x420.toInt ≤ 2147483647) => ?_)
      refine z_xZ zt11 18 rfl rfl (fun (h423 : x420.toInt ≠ 0) => ?_) (fun (h423 : x420.toInt = 0) => ?_)
      · skip
        refine z_xP zt11 26 71 [some (.ref 5)] [.ref 5] rfl rfl ?_
        refine z_xgI zt11 27 rfl zo11 zzf1_38 X31 f5 (by decide) (by decide) rfl (fun (x425 : Int32) h424 (h426 : 0 ≤ x425.toInt) (h427 : x425.toInt ≤ 8) => ?_)
        refine z_xP zt11 28 76 [some (.ref 5)] [.int 8, .int x425] rfl rfl ?_
        refine z_xJ zt11 29 rfl rfl (fun (h428 : 8 ≤ x425.toInt) => ?_) (fun (h428 : x425.toInt < 8) => ?_)
        · skip
          refine z_xP zt11 50 127 [some (.ref 5)] [.ref 5] rfl rfl ?_
          refine z_xcV (vs := [.ref 5]) (r := []) (L2 := [some (.ref 5)]) zt11 51 rfl zo11 zzcV1_66 (Or.inl rfl) rfl X31 f5 rfl rfl rfl (Nat.le_of_ble_eq_true rfl) zzm10 (Nat.le_of_ble_eq_true rfl) rfl ?_
          refine z_xP zt10 0 1 [some (.ref 5)] [.ref 5] rfl rfl ?_
          refine z_xgv zt10 1 rfl zo10 zzf1_32 X31 f5 (by decide) h414 ?_
          refine z_xZ zt10 2 rfl rfl (fun (h429 : 0 ≤ x2.toInt) => absurd h429 (by omega)) (fun (h429 : x2.toInt < 0) => ?_)
          refine z_xP zt10 3 9 [some (.ref 5)] [.ref 5, .ref 5] rfl rfl ?_
          refine z_xgv zt10 4 rfl zo10 zzf1_29 X31 f5 (by decide) h33 ?_
          refine z_xpf zt10 5 rfl zo10 zzf1_32 X31 f5 (by decide) (by decide) ⟨Int32.le_toInt _, Int32.toInt_le _⟩ rfl (by decide) zw1_3 (fun M430 X431 e432 h433 => ?_)
          refine z_xrv zt10 6 rfl zzr10 ?_
          show z_ev (d + 32) 11 130 [some (.ref 5)] [] M430 _
          exact z_xrv zt11 52 rfl zzr11 (kk M430 X431)
        refine z_xP zt11 30 82 [some (.ref 5)] [.int 116, .ref 5] rfl rfl ?_
        refine z_xcV (vs := [.ref 5, .int 116]) (r := []) (L2 := [some (.ref 5), some (.int 116)]) zt11 31 rfl zo11 zzcV1_69 (Or.inl rfl) rfl X31 f5 rfl rfl rfl (Nat.le_of_ble_eq_true rfl) zzm12 (Nat.le_of_ble_eq_true rfl) rfl ?_
        refine z_xP zt12 0 1 [some (.ref 5), some (.int 116)] [.ref 5] rfl rfl ?_
        refine z_xgv zt12 1 rfl zo12 zzf1_32 X31 f5 (by decide) h414 ?_
        refine z_xZ zt12 2 rfl rfl (fun (h434 : 0 ≤ x2.toInt) => absurd h434 (by omega)) (fun (h434 : x2.toInt < 0) => ?_)
        refine z_xP zt12 3 8 [some (.ref 5), some (.int 116)] [.ref 5] rfl rfl ?_
        refine z_xgv zt12 4 rfl zo12 zzf1_29 X31 f5 (by decide) h33 ?_
        refine z_xP zt12 5 12 [some (.ref 5), some (.int 116)] [.ref 5, .int x28] rfl rfl ?_
        refine z_xgv zt12 6 rfl zo12 zzf1_25 X31 f5 (by decide) h416 ?_
        refine z_xJ zt12 7 rfl rfl (fun (h435 : x13.toInt ≤ x28.toInt) => ?_) (fun (h435 : x28.toInt < x13.toInt) => ?_)
        · skip
          refine z_xP zt12 15 32 [some (.ref 5), some (.int 116)] [.int 0] rfl rfl ?_
          refine z_xrz zt12 16 rfl zzr12 (by decide) (by decide) ?_
          show z_ev (d + 32) 11 85 [some (.ref 5)] [.int 0] M30 _
          refine z_xZ zt11 32 rfl rfl (fun (h436 : (0 : Int) = 0) => ?_) (fun (h436 : (0 : Int) ≠ 0) => absurd h436 (by omega))
          refine z_xP zt11 50 127 [some (.ref 5)] [.ref 5] rfl rfl ?_
          refine z_xcV (vs := [.ref 5]) (r := []) (L2 := [some (.ref 5)]) zt11 51 rfl zo11 zzcV1_66 (Or.inl rfl) rfl X31 f5 rfl rfl rfl (Nat.le_of_ble_eq_true rfl) zzm10 (Nat.le_of_ble_eq_true rfl) rfl ?_
          refine z_xP zt10 0 1 [some (.ref 5)] [.ref 5] rfl rfl ?_
          refine z_xgv zt10 1 rfl zo10 zzf1_32 X31 f5 (by decide) h414 ?_
          refine z_xZ zt10 2 rfl rfl (fun (h437 : 0 ≤ x2.toInt) => absurd h437 (by omega)) (fun (h437 : x2.toInt < 0) => ?_)
          refine z_xP zt10 3 9 [some (.ref 5)] [.ref 5, .ref 5] rfl rfl ?_
          refine z_xgv zt10 4 rfl zo10 zzf1_29 X31 f5 (by decide) h33 ?_
          refine z_xpf zt10 5 rfl zo10 zzf1_32 X31 f5 (by decide) (by decide) ⟨Int32.le_toInt _, Int32.toInt_le _⟩ rfl (by decide) zw1_3 (fun M438 X439 e440 h441 => ?_)
          refine z_xrv zt10 6 rfl zzr10 ?_
          show z_ev (d + 32) 11 130 [some (.ref 5)] [] M438 _
          exact z_xrv zt11 52 rfl zzr11 (kk M438 X439)
        refine z_xP zt12 8 19 [some (.ref 5), some (.int 116)] [.ref 5] rfl rfl ?_
        refine z_xgX (b := 6) zt12 9 rfl zo12 zzf1_9 X31 f5 (by decide) (by decide) rfl ?_
        refine z_xP zt12 10 23 [some (.ref 5), some (.int 116)] [.ref 5, .ref 6] rfl rfl ?_
        refine z_xgv zt12 11 rfl zo12 zzf1_29 X31 f5 (by decide) h33 ?_
        refine z_xil zt12 12 rfl X31 f6 (by decide) (by omega) (by omega) (fun (x442 : Int32) h443 (h444 : (-2147483648) ≤ x442.toInt) (h445 : x442.toInt ≤ 2147483647) => ?_)
        refine z_xP zt12 13 28 [some (.ref 5), some (.int 116)] [.int 116, .int x442] rfl rfl ?_
        refine z_xJ zt12 14 rfl rfl (fun (h446 : x442.toInt = 116) => ?_) (fun (h446 : x442.toInt ≠ 116) => ?_)
        · skip
          refine z_xP zt12 17 35 [some (.ref 5), some (.int 116)] [.ref 5, .ref 5] rfl rfl ?_
          refine z_xgv zt12 18 rfl zo12 zzf1_29 X31 f5 (by decide) h33 ?_
          refine z_xP zt12 19 39 [some (.ref 5), some (.int 116)] [.int 1, .int x28, .ref 5] rfl rfl ?_
          refine z_xI zt12 20 rfl rfl (fun (x447 : Int32) (h448 : x447.toInt = x28.toInt + 1) => ?_) (z_pAdd rfl rfl (by omega) (by omega))
          refine z_xpf zt12 21 rfl zo12 zzf1_29 X31 f5 (by decide) (by decide) ⟨by omega, by omega⟩ rfl (by decide) zw1_2 (fun M449 X450 e451 h452 => ?_)
          refine z_xP zt12 22 44 [some (.ref 5), some (.int 116)] [.int 1] rfl rfl ?_
          refine z_xrz zt12 23 rfl zzr12 (by decide) (by decide) ?_
          show z_ev (d + 32) 11 85 [some (.ref 5)] [.int 1] M449 _
          refine z_xZ zt11 32 rfl rfl (fun (h453 : (1 : Int) = 0) => absurd h453 (by omega)) (fun (h453 : (1 : Int) ≠ 0) => ?_)
          refine z_xP zt11 33 91 [some (.ref 5)] [.int 32, .ref 5] rfl rfl ?_
          refine z_xcV (vs := [.ref 5, .int 32]) (r := []) (L2 := [some (.ref 5), some (.int 32)]) zt11 34 rfl zo11 zzcV1_56 (Or.inl rfl) rfl X450 f5 rfl rfl rfl (Nat.le_of_ble_eq_true rfl) zzm8 (Nat.le_of_ble_eq_true rfl) rfl ?_
          refine z_xP zt8 0 1 [some (.ref 5), some (.int 32)] [.ref 5] rfl rfl ?_
          have h454 := (e451.f f5 (by decide) h414)
          refine z_xgv zt8 1 rfl zo8 zzf1_32 X450 f5 (by decide) h454 ?_
          refine z_xZ zt8 2 rfl rfl (fun (h455 : x2.toInt < 0) => ?_) (fun (h455 : 0 ≤ x2.toInt) => absurd h455 (by omega))
          refine z_xP zt8 4 9 [some (.ref 5), some (.int 32)] [.ref 5] rfl rfl ?_
          refine z_xgv zt8 5 rfl zo8 zzf1_29 X450 f5 (by decide) h452 ?_
          refine z_xP zt8 6 13 [some (.ref 5), some (.int 32)] [.ref 5, .int x447] rfl rfl ?_
          have h456 := (e451.f f5 (by decide) h416)
          refine z_xgv zt8 7 rfl zo8 zzf1_25 X450 f5 (by decide) h456 ?_
          refine z_xJ zt8 8 rfl rfl (fun (h457 : x13.toInt ≤ x447.toInt) => ?_) (fun (h457 : x447.toInt < x13.toInt) => ?_)
          · skip
            refine z_xP zt8 22 47 [some (.ref 5), some (.int 32)] [.ref 5, .ref 5] rfl rfl ?_
            refine z_xgv zt8 23 rfl zo8 zzf1_29 X450 f5 (by decide) h452 ?_
            refine z_xpf zt8 24 rfl zo8 zzf1_32 X450 f5 (by decide) (by decide) ⟨Int32.le_toInt _, Int32.toInt_le _⟩ rfl (by decide) zw1_3 (fun M458 X459 e460 h461 => ?_)
            refine z_xrv zt8 25 rfl zzr8 ?_
            show z_ev (d + 32) 11 94 [some (.ref 5)] [] M458 _
            refine z_xP zt11 35 95 [some (.ref 5)] [.ref 5] rfl rfl ?_
            refine z_xgX (b := 8) zt11 36 rfl zo11 zzf1_18 X459 f5 (by decide) (by decide) rfl ?_
            refine z_xP zt11 37 99 [some (.ref 5)] [.ref 5, .ref 8] rfl rfl ?_
            have h462 := (e460.f f5 (by decide) (e451.f f5 (by decide) h424))
            refine z_xgv zt11 38 rfl zo11 zzf1_38 X459 f5 (by decide) h462 ?_
            refine z_xP zt11 39 103 [some (.ref 5)] [.ref 5, .int x425, .ref 8] rfl rfl ?_
            have h463 := (e460.f f5 (by decide) h452)
            refine z_xgv zt11 40 rfl zo11 zzf1_29 X459 f5 (by decide) h463 ?_
            have f8 : T[8]? = some (.inr (8, 0, 8, 0, 160)) := X459.1.k rfl (by decide)
            refine z_xis zt11 41 rfl X459 f8 (by decide) (by decide) (by omega) (by omega) (by omega) (by omega) (by decide) (fun M464 X465 e466 h467 => ?_)
            refine z_xP zt11 42 109 [some (.ref 5)] [.ref 5, .ref 5] rfl rfl ?_
            have h468 := (e466.f f5 (by decide) h462)
            refine z_xgv zt11 43 rfl zo11 zzf1_38 X465 f5 (by decide) h468 ?_
            refine z_xP zt11 44 113 [some (.ref 5)] [.int 1, .int x425, .ref 5] rfl rfl ?_
            refine z_xI zt11 45 rfl rfl (fun (x469 : Int32) (h470 : x469.toInt = x425.toInt + 1) => ?_) (z_pAdd rfl rfl (by omega) (by omega))
            refine z_xpf zt11 46 rfl zo11 zzf1_38 X465 f5 (by decide) (by decide) ⟨by omega, by omega⟩ rfl (by decide) zw1_7 (fun M471 X472 e473 h474 => ?_)
            refine z_xP zt11 47 119 [some (.ref 5)] [.int 0, .ref 5] rfl rfl ?_
            refine z_xcV (vs := [.ref 5, .int 0]) (r := []) (L2 := [some (.ref 5), some (.int 0), none, none, none, none, none]) zt11 48 rfl zo11 zzcV1_77 (Or.inl rfl) rfl X472 f5 rfl rfl rfl (Nat.le_of_ble_eq_true rfl) zzm15 (Nat.le_of_ble_eq_true rfl) rfl ?_
            have q0 : ((0 : Int32)).toInt = 0 := rfl
            have q0 : ((0 : Int32)).toInt = 0 := rfl
            refine zC15 X472.1 (by decide) (fun y477 M475 X476  => ?_)
            have X478 := X472.go X476 (z_sb (by decide))
            show z_ev (d + 32) 11 122 [some (.ref 5)] [.long y477] M475 _
            refine z_xP zt11 49 130 [some (.ref 5)] [] rfl rfl ?_
            exact z_xrv zt11 52 rfl zzr11 (kk M475 X478)
          refine z_xP zt8 9 20 [some (.ref 5), some (.int 32)] [.ref 5] rfl rfl ?_
          refine z_xgX (b := 6) zt8 10 rfl zo8 zzf1_9 X450 f5 (by decide) (by decide) rfl ?_
          refine z_xP zt8 11 24 [some (.ref 5), some (.int 32)] [.ref 5, .ref 6] rfl rfl ?_
          refine z_xgv zt8 12 rfl zo8 zzf1_29 X450 f5 (by decide) h452 ?_
          refine z_xil zt8 13 rfl X450 f6 (by decide) (by omega) (by omega) (fun (x480 : Int32) h481 (h482 : (-2147483648) ≤ x480.toInt) (h483 : x480.toInt ≤ 2147483647) => ?_)
          refine z_xP zt8 14 29 [some (.ref 5), some (.int 32)] [.int 32, .int x480] rfl rfl ?_
          refine z_xJ zt8 15 rfl rfl (fun (h484 : x480.toInt ≠ 32) => ?_) (fun (h484 : x480.toInt = 32) => ?_)
          · skip
            refine z_xP zt8 22 47 [some (.ref 5), some (.int 32)] [.ref 5, .ref 5] rfl rfl ?_
            refine z_xgv zt8 23 rfl zo8 zzf1_29 X450 f5 (by decide) h452 ?_
            refine z_xpf zt8 24 rfl zo8 zzf1_32 X450 f5 (by decide) (by decide) ⟨Int32.le_toInt _, Int32.toInt_le _⟩ rfl (by decide) zw1_3 (fun M485 X486 e487 h488 => ?_)
            refine z_xrv zt8 25 rfl zzr8 ?_
            show z_ev (d + 32) 11 94 [some (.ref 5)] [] M485 _
            refine z_xP zt11 35 95 [some (.ref 5)] [.ref 5] rfl rfl ?_
            refine z_xgX (b := 8) zt11 36 rfl zo11 zzf1_18 X486 f5 (by decide) (by decide) rfl ?_
            refine z_xP zt11 37 99 [some (.ref 5)] [.ref 5, .ref 8] rfl rfl ?_
            have h489 := (e487.f f5 (by decide) (e451.f f5 (by decide) h424))
            refine z_xgv zt11 38 rfl zo11 zzf1_38 X486 f5 (by decide) h489 ?_
            refine z_xP zt11 39 103 [some (.ref 5)] [.ref 5, .int x425, .ref 8] rfl rfl ?_
            have h490 := (e487.f f5 (by decide) h452)
            refine z_xgv zt11 40 rfl zo11 zzf1_29 X486 f5 (by decide) h490 ?_
            have f8 : T[8]? = some (.inr (8, 0, 8, 0, 160)) := X486.1.k rfl (by decide)
            refine z_xis zt11 41 rfl X486 f8 (by decide) (by decide) (by omega) (by omega) (by omega) (by omega) (by decide) (fun M491 X492 e493 h494 => ?_)
            refine z_xP zt11 42 109 [some (.ref 5)] [.ref 5, .ref 5] rfl rfl ?_
            have h495 := (e493.f f5 (by decide) h489)
            refine z_xgv zt11 43 rfl zo11 zzf1_38 X492 f5 (by decide) h495 ?_
            refine z_xP zt11 44 113 [some (.ref 5)] [.int 1, .int x425, .ref 5] rfl rfl ?_
            refine z_xI zt11 45 rfl rfl (fun (x496 : Int32) (h497 : x496.toInt = x425.toInt + 1) => ?_) (z_pAdd rfl rfl (by omega) (by omega))
            refine z_xpf zt11 46 rfl zo11 zzf1_38 X492 f5 (by decide) (by decide) ⟨by omega, by omega⟩ rfl (by decide) zw1_7 (fun M498 X499 e500 h501 => ?_)
            refine z_xP zt11 47 119 [some (.ref 5)] [.int 0, .ref 5] rfl rfl ?_
            refine z_xcV (vs := [.ref 5, .int 0]) (r := []) (L2 := [some (.ref 5), some (.int 0), none, none, none, none, none]) zt11 48 rfl zo11 zzcV1_77 (Or.inl rfl) rfl X499 f5 rfl rfl rfl (Nat.le_of_ble_eq_true rfl) zzm15 (Nat.le_of_ble_eq_true rfl) rfl ?_
            have q0 : ((0 : Int32)).toInt = 0 := rfl
            have q0 : ((0 : Int32)).toInt = 0 := rfl
            refine zC15 X499.1 (by decide) (fun y504 M502 X503  => ?_)
            have X505 := X499.go X503 (z_sb (by decide))
            show z_ev (d + 32) 11 122 [some (.ref 5)] [.long y504] M502 _
            refine z_xP zt11 49 130 [some (.ref 5)] [] rfl rfl ?_
            exact z_xrv zt11 52 rfl zzr11 (kk M502 X505)
          refine z_xP zt8 16 34 [some (.ref 5), some (.int 32)] [.ref 5, .ref 5] rfl rfl ?_
          refine z_xgv zt8 17 rfl zo8 zzf1_29 X450 f5 (by decide) h452 ?_
          refine z_xP zt8 18 38 [some (.ref 5), some (.int 32)] [.int 1, .int x447, .ref 5] rfl rfl ?_
          refine z_xI zt8 19 rfl rfl (fun (x507 : Int32) (h508 : x507.toInt = x447.toInt + 1) => ?_) (z_pAdd rfl rfl (by omega) (by omega))
          refine z_xpf zt8 20 rfl zo8 zzf1_29 X450 f5 (by decide) (by decide) ⟨by omega, by omega⟩ rfl (by decide) zw1_2 (fun M509 X510 e511 h512 => ?_)
          refine z_xP zt8 21 53 [some (.ref 5), some (.int 32)] [] rfl rfl ?_
          refine z_xrv zt8 25 rfl zzr8 ?_
          show z_ev (d + 32) 11 94 [some (.ref 5)] [] M509 _
          refine z_xP zt11 35 95 [some (.ref 5)] [.ref 5] rfl rfl ?_
          refine z_xgX (b := 8) zt11 36 rfl zo11 zzf1_18 X510 f5 (by decide) (by decide) rfl ?_
          refine z_xP zt11 37 99 [some (.ref 5)] [.ref 5, .ref 8] rfl rfl ?_
          have h513 := (e511.f f5 (by decide) (e451.f f5 (by decide) h424))
          refine z_xgv zt11 38 rfl zo11 zzf1_38 X510 f5 (by decide) h513 ?_
          refine z_xP zt11 39 103 [some (.ref 5)] [.ref 5, .int x425, .ref 8] rfl rfl ?_
          refine z_xgv zt11 40 rfl zo11 zzf1_29 X510 f5 (by decide) h512 ?_
          have f8 : T[8]? = some (.inr (8, 0, 8, 0, 160)) := X510.1.k rfl (by decide)
          refine z_xis zt11 41 rfl X510 f8 (by decide) (by decide) (by omega) (by omega) (by omega) (by omega) (by decide) (fun M514 X515 e516 h517 => ?_)
          refine z_xP zt11 42 109 [some (.ref 5)] [.ref 5, .ref 5] rfl rfl ?_
          have h518 := (e516.f f5 (by decide) h513)
          refine z_xgv zt11 43 rfl zo11 zzf1_38 X515 f5 (by decide) h518 ?_
          refine z_xP zt11 44 113 [some (.ref 5)] [.int 1, .int x425, .ref 5] rfl rfl ?_
          refine z_xI zt11 45 rfl rfl (fun (x519 : Int32) (h520 : x519.toInt = x425.toInt + 1) => ?_) (z_pAdd rfl rfl (by omega) (by omega))
          refine z_xpf zt11 46 rfl zo11 zzf1_38 X515 f5 (by decide) (by decide) ⟨by omega, by omega⟩ rfl (by decide) zw1_7 (fun M521 X522 e523 h524 => ?_)
          refine z_xP zt11 47 119 [some (.ref 5)] [.int 0, .ref 5] rfl rfl ?_
          refine z_xcV (vs := [.ref 5, .int 0]) (r := []) (L2 := [some (.ref 5), some (.int 0), none, none, none, none, none]) zt11 48 rfl zo11 zzcV1_77 (Or.inl rfl) rfl X522 f5 rfl rfl rfl (Nat.le_of_ble_eq_true rfl) zzm15 (Nat.le_of_ble_eq_true rfl) rfl ?_
          have q0 : ((0 : Int32)).toInt = 0 := rfl
          have q0 : ((0 : Int32)).toInt = 0 := rfl
          refine zC15 X522.1 (by decide) (fun y527 M525 X526  => ?_)
          have X528 := X522.go X526 (z_sb (by decide))
          show z_ev (d + 32) 11 122 [some (.ref 5)] [.long y527] M525 _
          refine z_xP zt11 49 130 [some (.ref 5)] [] rfl rfl ?_
          exact z_xrv zt11 52 rfl zzr11 (kk M525 X528)
        refine z_xP zt12 15 32 [some (.ref 5), some (.int 116)] [.int 0] rfl rfl ?_
        refine z_xrz zt12 16 rfl zzr12 (by decide) (by decide) ?_
        show z_ev (d + 32) 11 85 [some (.ref 5)] [.int 0] M30 _
        refine z_xZ zt11 32 rfl rfl (fun (h530 : (0 : Int) = 0) => ?_) (fun (h530 : (0 : Int) ≠ 0) => absurd h530 (by omega))
        refine z_xP zt11 50 127 [some (.ref 5)] [.ref 5] rfl rfl ?_
        refine z_xcV (vs := [.ref 5]) (r := []) (L2 := [some (.ref 5)]) zt11 51 rfl zo11 zzcV1_66 (Or.inl rfl) rfl X31 f5 rfl rfl rfl (Nat.le_of_ble_eq_true rfl) zzm10 (Nat.le_of_ble_eq_true rfl) rfl ?_
        refine z_xP zt10 0 1 [some (.ref 5)] [.ref 5] rfl rfl ?_
        refine z_xgv zt10 1 rfl zo10 zzf1_32 X31 f5 (by decide) h414 ?_
        refine z_xZ zt10 2 rfl rfl (fun (h531 : 0 ≤ x2.toInt) => absurd h531 (by omega)) (fun (h531 : x2.toInt < 0) => ?_)
        refine z_xP zt10 3 9 [some (.ref 5)] [.ref 5, .ref 5] rfl rfl ?_
        refine z_xgv zt10 4 rfl zo10 zzf1_29 X31 f5 (by decide) h33 ?_
        refine z_xpf zt10 5 rfl zo10 zzf1_32 X31 f5 (by decide) (by decide) ⟨Int32.le_toInt _, Int32.toInt_le _⟩ rfl (by decide) zw1_3 (fun M532 X533 e534 h535 => ?_)
        refine z_xrv zt10 6 rfl zzr10 ?_
        show z_ev (d + 32) 11 130 [some (.ref 5)] [] M532 _
        exact z_xrv zt11 52 rfl zzr11 (kk M532 X533)
      refine z_xP zt11 19 53 [some (.ref 5)] [.int 101, .ref 5] rfl rfl ?_
      refine z_xcV (vs := [.ref 5, .int 101]) (r := []) (L2 := [some (.ref 5), some (.int 101)]) zt11 20 rfl zo11 zzcV1_69 (Or.inl rfl) rfl X31 f5 rfl rfl rfl (Nat.le_of_ble_eq_true rfl) zzm12 (Nat.le_of_ble_eq_true rfl) rfl ?_
      refine z_xP zt12 0 1 [some (.ref 5), some (.int 101)] [.ref 5] rfl rfl ?_
      refine z_xgv zt12 1 rfl zo12 zzf1_32 X31 f5 (by decide) h414 ?_
      refine z_xZ zt12 2 rfl rfl (fun (h536 : 0 ≤ x2.toInt) => absurd h536 (by omega)) (fun (h536 : x2.toInt < 0) => ?_)
      refine z_xP zt12 3 8 [some (.ref 5), some (.int 101)] [.ref 5] rfl rfl ?_
      refine z_xgv zt12 4 rfl zo12 zzf1_29 X31 f5 (by decide) h33 ?_
      refine z_xP zt12 5 12 [some (.ref 5), some (.int 101)] [.ref 5, .int x28] rfl rfl ?_
      refine z_xgv zt12 6 rfl zo12 zzf1_25 X31 f5 (by decide) h416 ?_
      refine z_xJ zt12 7 rfl rfl (fun (h537 : x13.toInt ≤ x28.toInt) => ?_) (fun (h537 : x28.toInt < x13.toInt) => ?_)
      · skip
        refine z_xP zt12 15 32 [some (.ref 5), some (.int 101)] [.int 0] rfl rfl ?_
        refine z_xrz zt12 16 rfl zzr12 (by decide) (by decide) ?_
        show z_ev (d + 32) 11 56 [some (.ref 5)] [.int 0] M30 _
        refine z_xZ zt11 21 rfl rfl (fun (h538 : (0 : Int) = 0) => ?_) (fun (h538 : (0 : Int) ≠ 0) => absurd h538 (by omega))
        refine z_xP zt11 26 71 [some (.ref 5)] [.ref 5] rfl rfl ?_
        refine z_xgI zt11 27 rfl zo11 zzf1_38 X31 f5 (by decide) (by decide) rfl (fun (x540 : Int32) h539 (h541 : 0 ≤ x540.toInt) (h542 : x540.toInt ≤ 8) => ?_)
        refine z_xP zt11 28 76 [some (.ref 5)] [.int 8, .int x540] rfl rfl ?_
        refine z_xJ zt11 29 rfl rfl (fun (h543 : 8 ≤ x540.toInt) => ?_) (fun (h543 : x540.toInt < 8) => ?_)
        · skip
          refine z_xP zt11 50 127 [some (.ref 5)] [.ref 5] rfl rfl ?_
          refine z_xcV (vs := [.ref 5]) (r := []) (L2 := [some (.ref 5)]) zt11 51 rfl zo11 zzcV1_66 (Or.inl rfl) rfl X31 f5 rfl rfl rfl (Nat.le_of_ble_eq_true rfl) zzm10 (Nat.le_of_ble_eq_true rfl) rfl ?_
          refine z_xP zt10 0 1 [some (.ref 5)] [.ref 5] rfl rfl ?_
          refine z_xgv zt10 1 rfl zo10 zzf1_32 X31 f5 (by decide) h414 ?_
          refine z_xZ zt10 2 rfl rfl (fun (h544 : 0 ≤ x2.toInt) => absurd h544 (by omega)) (fun (h544 : x2.toInt < 0) => ?_)
          refine z_xP zt10 3 9 [some (.ref 5)] [.ref 5, .ref 5] rfl rfl ?_
          refine z_xgv zt10 4 rfl zo10 zzf1_29 X31 f5 (by decide) h33 ?_
          refine z_xpf zt10 5 rfl zo10 zzf1_32 X31 f5 (by decide) (by decide) ⟨Int32.le_toInt _, Int32.toInt_le _⟩ rfl (by decide) zw1_3 (fun M545 X546 e547 h548 => ?_)
          refine z_xrv zt10 6 rfl zzr10 ?_
          show z_ev (d + 32) 11 130 [some (.ref 5)] [] M545 _
          exact z_xrv zt11 52 rfl zzr11 (kk M545 X546)
        refine z_xP zt11 30 82 [some (.ref 5)] [.int 116, .ref 5] rfl rfl ?_
        refine z_xcV (vs := [.ref 5, .int 116]) (r := []) (L2 := [some (.ref 5), some (.int 116)]) zt11 31 rfl zo11 zzcV1_69 (Or.inl rfl) rfl X31 f5 rfl rfl rfl (Nat.le_of_ble_eq_true rfl) zzm12 (Nat.le_of_ble_eq_true rfl) rfl ?_
        refine z_xP zt12 0 1 [some (.ref 5), some (.int 116)] [.ref 5] rfl rfl ?_
        refine z_xgv zt12 1 rfl zo12 zzf1_32 X31 f5 (by decide) h414 ?_
        refine z_xZ zt12 2 rfl rfl (fun (h549 : 0 ≤ x2.toInt) => absurd h549 (by omega)) (fun (h549 : x2.toInt < 0) => ?_)
        refine z_xP zt12 3 8 [some (.ref 5), some (.int 116)] [.ref 5] rfl rfl ?_
        refine z_xgv zt12 4 rfl zo12 zzf1_29 X31 f5 (by decide) h33 ?_
        refine z_xP zt12 5 12 [some (.ref 5), some (.int 116)] [.ref 5, .int x28] rfl rfl ?_
        refine z_xgv zt12 6 rfl zo12 zzf1_25 X31 f5 (by decide) h416 ?_
        refine z_xJ zt12 7 rfl rfl (fun (h550 : x13.toInt ≤ x28.toInt) => ?_) (fun (h550 : x28.toInt < x13.toInt) => ?_)
        · skip
          refine z_xP zt12 15 32 [some (.ref 5), some (.int 116)] [.int 0] rfl rfl ?_
          refine z_xrz zt12 16 rfl zzr12 (by decide) (by decide) ?_
          show z_ev (d + 32) 11 85 [some (.ref 5)] [.int 0] M30 _
          refine z_xZ zt11 32 rfl rfl (fun (h551 : (0 : Int) = 0) => ?_) (fun (h551 : (0 : Int) ≠ 0) => absurd h551 (by omega))
          refine z_xP zt11 50 127 [some (.ref 5)] [.ref 5] rfl rfl ?_
          refine z_xcV (vs := [.ref 5]) (r := []) (L2 := [some (.ref 5)]) zt11 51 rfl zo11 zzcV1_66 (Or.inl rfl) rfl X31 f5 rfl rfl rfl (Nat.le_of_ble_eq_true rfl) zzm10 (Nat.le_of_ble_eq_true rfl) rfl ?_
          refine z_xP zt10 0 1 [some (.ref 5)] [.ref 5] rfl rfl ?_
          refine z_xgv zt10 1 rfl zo10 zzf1_32 X31 f5 (by decide) h414 ?_
          refine z_xZ zt10 2 rfl rfl (fun (h552 : 0 ≤ x2.toInt) => absurd h552 (by omega)) (fun (h552 : x2.toInt < 0) => ?_)
          refine z_xP zt10 3 9 [some (.ref 5)] [.ref 5, .ref 5] rfl rfl ?_
          refine z_xgv zt10 4 rfl zo10 zzf1_29 X31 f5 (by decide) h33 ?_
          refine z_xpf zt10 5 rfl zo10 zzf1_32 X31 f5 (by decide) (by decide) ⟨Int32.le_toInt _, Int32.toInt_le _⟩ rfl (by decide) zw1_3 (fun M553 X554 e555 h556 => ?_)
          refine z_xrv zt10 6 rfl zzr10 ?_
          show z_ev (d + 32) 11 130 [some (.ref 5)] [] M553 _
          exact z_xrv zt11 52 rfl zzr11 (kk M553 X554)
        refine z_xP zt12 8 19 [some (.ref 5), some (.int 116)] [.ref 5] rfl rfl ?_
        refine z_xgX (b := 6) zt12 9 rfl zo12 zzf1_9 X31 f5 (by decide) (by decide) rfl ?_
        refine z_xP zt12 10 23 [some (.ref 5), some (.int 116)] [.ref 5, .ref 6] rfl rfl ?_
        refine z_xgv zt12 11 rfl zo12 zzf1_29 X31 f5 (by decide) h33 ?_
        refine z_xil zt12 12 rfl X31 f6 (by decide) (by omega) (by omega) (fun (x557 : Int32) h558 (h559 : (-2147483648) ≤ x557.toInt) (h560 : x557.toInt ≤ 2147483647) => ?_)
        refine z_xP zt12 13 28 [some (.ref 5), some (.int 116)] [.int 116, .int x557] rfl rfl ?_
        refine z_xJ zt12 14 rfl rfl (fun (h561 : x557.toInt = 116) => ?_) (fun (h561 : x557.toInt ≠ 116) => ?_)
        · skip
          refine z_xP zt12 17 35 [some (.ref 5), some (.int 116)] [.ref 5, .ref 5] rfl rfl ?_
          refine z_xgv zt12 18 rfl zo12 zzf1_29 X31 f5 (by decide) h33 ?_
          refine z_xP zt12 19 39 [some (.ref 5), some (.int 116)] [.int 1, .int x28, .ref 5] rfl rfl ?_
          refine z_xI zt12 20 rfl rfl (fun (x562 : Int32) (h563 : x562.toInt = x28.toInt + 1) => ?_) (z_pAdd rfl rfl (by omega) (by omega))
          refine z_xpf zt12 21 rfl zo12 zzf1_29 X31 f5 (by decide) (by decide) ⟨by omega, by omega⟩ rfl (by decide) zw1_2 (fun M564 X565 e566 h567 => ?_)
          refine z_xP zt12 22 44 [some (.ref 5), some (.int 116)] [.int 1] rfl rfl ?_
          refine z_xrz zt12 23 rfl zzr12 (by decide) (by decide) ?_
          show z_ev (d + 32) 11 85 [some (.ref 5)] [.int 1] M564 _
          refine z_xZ zt11 32 rfl rfl (fun (h568 : (1 : Int) = 0) => absurd h568 (by omega)) (fun (h568 : (1 : Int) ≠ 0) => ?_)
          refine z_xP zt11 33 91 [some (.ref 5)] [.int 32, .ref 5] rfl rfl ?_
          refine z_xcV (vs := [.ref 5, .int 32]) (r := []) (L2 := [some (.ref 5), some (.int 32)]) zt11 34 rfl zo11 zzcV1_56 (Or.inl rfl) rfl X565 f5 rfl rfl rfl (Nat.le_of_ble_eq_true rfl) zzm8 (Nat.le_of_ble_eq_true rfl) rfl ?_
          refine z_xP zt8 0 1 [some (.ref 5), some (.int 32)] [.ref 5] rfl rfl ?_
          have h569 := (e566.f f5 (by decide) h414)
          refine z_xgv zt8 1 rfl zo8 zzf1_32 X565 f5 (by decide) h569 ?_
          refine z_xZ zt8 2 rfl rfl (fun (h570 : x2.toInt < 0) => ?_) (fun (h570 : 0 ≤ x2.toInt) => absurd h570 (by omega))
          refine z_xP zt8 4 9 [some (.ref 5), some (.int 32)] [.ref 5] rfl rfl ?_
          refine z_xgv zt8 5 rfl zo8 zzf1_29 X565 f5 (by decide) h567 ?_
          refine z_xP zt8 6 13 [some (.ref 5), some (.int 32)] [.ref 5, .int x562] rfl rfl ?_
          have h571 := (e566.f f5 (by decide) h416)
          refine z_xgv zt8 7 rfl zo8 zzf1_25 X565 f5 (by decide) h571 ?_
          refine z_xJ zt8 8 rfl rfl (fun (h572 : x13.toInt ≤ x562.toInt) => ?_) (fun (h572 : x562.toInt < x13.toInt) => ?_)
          · skip
            refine z_xP zt8 22 47 [some (.ref 5), some (.int 32)] [.ref 5, .ref 5] rfl rfl ?_
            refine z_xgv zt8 23 rfl zo8 zzf1_29 X565 f5 (by decide) h567 ?_
            refine z_xpf zt8 24 rfl zo8 zzf1_32 X565 f5 (by decide) (by decide) ⟨Int32.le_toInt _, Int32.toInt_le _⟩ rfl (by decide) zw1_3 (fun M573 X574 e575 h576 => ?_)
            refine z_xrv zt8 25 rfl zzr8 ?_
            show z_ev (d + 32) 11 94 [some (.ref 5)] [] M573 _
            refine z_xP zt11 35 95 [some (.ref 5)] [.ref 5] rfl rfl ?_
            refine z_xgX (b := 8) zt11 36 rfl zo11 zzf1_18 X574 f5 (by decide) (by decide) rfl ?_
            refine z_xP zt11 37 99 [some (.ref 5)] [.ref 5, .ref 8] rfl rfl ?_
            have h577 := (e575.f f5 (by decide) (e566.f f5 (by decide) h539))
            refine z_xgv zt11 38 rfl zo11 zzf1_38 X574 f5 (by decide) h577 ?_
            refine z_xP zt11 39 103 [some (.ref 5)] [.ref 5, .int x540, .ref 8] rfl rfl ?_
            have h578 := (e575.f f5 (by decide) h567)
            refine z_xgv zt11 40 rfl zo11 zzf1_29 X574 f5 (by decide) h578 ?_
            have f8 : T[8]? = some (.inr (8, 0, 8, 0, 160)) := X574.1.k rfl (by decide)
            refine z_xis zt11 41 rfl X574 f8 (by decide) (by decide) (by omega) (by omega) (by omega) (by omega) (by decide) (fun M579 X580 e581 h582 => ?_)
            refine z_xP zt11 42 109 [some (.ref 5)] [.ref 5, .ref 5] rfl rfl ?_
            have h583 := (e581.f f5 (by decide) h577)
            refine z_xgv zt11 43 rfl zo11 zzf1_38 X580 f5 (by decide) h583 ?_
            refine z_xP zt11 44 113 [some (.ref 5)] [.int 1, .int x540, .ref 5] rfl rfl ?_
            refine z_xI zt11 45 rfl rfl (fun (x584 : Int32) (h585 : x584.toInt = x540.toInt + 1) => ?_) (z_pAdd rfl rfl (by omega) (by omega))
            refine z_xpf zt11 46 rfl zo11 zzf1_38 X580 f5 (by decide) (by decide) ⟨by omega, by omega⟩ rfl (by decide) zw1_7 (fun M586 X587 e588 h589 => ?_)
            refine z_xP zt11 47 119 [some (.ref 5)] [.int 0, .ref 5] rfl rfl ?_
            refine z_xcV (vs := [.ref 5, .int 0]) (r := []) (L2 := [some (.ref 5), some (.int 0), none, none, none, none, none]) zt11 48 rfl zo11 zzcV1_77 (Or.inl rfl) rfl X587 f5 rfl rfl rfl (Nat.le_of_ble_eq_true rfl) zzm15 (Nat.le_of_ble_eq_true rfl) rfl ?_
            have q0 : ((0 : Int32)).toInt = 0 := rfl
            have q0 : ((0 : Int32)).toInt = 0 := rfl
            refine zC15 X587.1 (by decide) (fun y592 M590 X591  => ?_)
            have X593 := X587.go X591 (z_sb (by decide))
            show z_ev (d + 32) 11 122 [some (.ref 5)] [.long y592] M590 _
            refine z_xP zt11 49 130 [some (.ref 5)] [] rfl rfl ?_
            exact z_xrv zt11 52 rfl zzr11 (kk M590 X593)
          refine z_xP zt8 9 20 [some (.ref 5), some (.int 32)] [.ref 5] rfl rfl ?_
          refine z_xgX (b := 6) zt8 10 rfl zo8 zzf1_9 X565 f5 (by decide) (by decide) rfl ?_
          refine z_xP zt8 11 24 [some (.ref 5), some (.int 32)] [.ref 5, .ref 6] rfl rfl ?_
          refine z_xgv zt8 12 rfl zo8 zzf1_29 X565 f5 (by decide) h567 ?_
          refine z_xil zt8 13 rfl X565 f6 (by decide) (by omega) (by omega) (fun (x595 : Int32) h596 (h597 : (-2147483648) ≤ x595.toInt) (h598 : x595.toInt ≤ 2147483647) => ?_)
          refine z_xP zt8 14 29 [some (.ref 5), some (.int 32)] [.int 32, .int x595] rfl rfl ?_
          refine z_xJ zt8 15 rfl rfl (fun (h599 : x595.toInt ≠ 32) => ?_) (fun (h599 : x595.toInt = 32) => ?_)
          · skip
            refine z_xP zt8 22 47 [some (.ref 5), some (.int 32)] [.ref 5, .ref 5] rfl rfl ?_
            refine z_xgv zt8 23 rfl zo8 zzf1_29 X565 f5 (by decide) h567 ?_
            refine z_xpf zt8 24 rfl zo8 zzf1_32 X565 f5 (by decide) (by decide) ⟨Int32.le_toInt _, Int32.toInt_le _⟩ rfl (by decide) zw1_3 (fun M600 X601 e602 h603 => ?_)
            refine z_xrv zt8 25 rfl zzr8 ?_
            show z_ev (d + 32) 11 94 [some (.ref 5)] [] M600 _
            refine z_xP zt11 35 95 [some (.ref 5)] [.ref 5] rfl rfl ?_
            refine z_xgX (b := 8) zt11 36 rfl zo11 zzf1_18 X601 f5 (by decide) (by decide) rfl ?_
            refine z_xP zt11 37 99 [some (.ref 5)] [.ref 5, .ref 8] rfl rfl ?_
            have h604 := (e602.f f5 (by decide) (e566.f f5 (by decide) h539))
            refine z_xgv zt11 38 rfl zo11 zzf1_38 X601 f5 (by decide) h604 ?_
            refine z_xP zt11 39 103 [some (.ref 5)] [.ref 5, .int x540, .ref 8] rfl rfl ?_
            have h605 := (e602.f f5 (by decide) h567)
            refine z_xgv zt11 40 rfl zo11 zzf1_29 X601 f5 (by decide) h605 ?_
            have f8 : T[8]? = some (.inr (8, 0, 8, 0, 160)) := X601.1.k rfl (by decide)
            refine z_xis zt11 41 rfl X601 f8 (by decide) (by decide) (by omega) (by omega) (by omega) (by omega) (by decide) (fun M606 X607 e608 h609 => ?_)
            refine z_xP zt11 42 109 [some (.ref 5)] [.ref 5, .ref 5] rfl rfl ?_
            have h610 := (e608.f f5 (by decide) h604)
            refine z_xgv zt11 43 rfl zo11 zzf1_38 X607 f5 (by decide) h610 ?_
            refine z_xP zt11 44 113 [some (.ref 5)] [.int 1, .int x540, .ref 5] rfl rfl ?_
            refine z_xI zt11 45 rfl rfl (fun (x611 : Int32) (h612 : x611.toInt = x540.toInt + 1) => ?_) (z_pAdd rfl rfl (by omega) (by omega))
            refine z_xpf zt11 46 rfl zo11 zzf1_38 X607 f5 (by decide) (by decide) ⟨by omega, by omega⟩ rfl (by decide) zw1_7 (fun M613 X614 e615 h616 => ?_)
            refine z_xP zt11 47 119 [some (.ref 5)] [.int 0, .ref 5] rfl rfl ?_
            refine z_xcV (vs := [.ref 5, .int 0]) (r := []) (L2 := [some (.ref 5), some (.int 0), none, none, none, none, none]) zt11 48 rfl zo11 zzcV1_77 (Or.inl rfl) rfl X614 f5 rfl rfl rfl (Nat.le_of_ble_eq_true rfl) zzm15 (Nat.le_of_ble_eq_true rfl) rfl ?_
            have q0 : ((0 : Int32)).toInt = 0 := rfl
            have q0 : ((0 : Int32)).toInt = 0 := rfl
            refine zC15 X614.1 (by decide) (fun y619 M617 X618  => ?_)
            have X620 := X614.go X618 (z_sb (by decide))
            show z_ev (d + 32) 11 122 [some (.ref 5)] [.long y619] M617 _
            refine z_xP zt11 49 130 [some (.ref 5)] [] rfl rfl ?_
            exact z_xrv zt11 52 rfl zzr11 (kk M617 X620)
          refine z_xP zt8 16 34 [some (.ref 5), some (.int 32)] [.ref 5, .ref 5] rfl rfl ?_
          refine z_xgv zt8 17 rfl zo8 zzf1_29 X565 f5 (by decide) h567 ?_
          refine z_xP zt8 18 38 [some (.ref 5), some (.int 32)] [.int 1, .int x562, .ref 5] rfl rfl ?_
          refine z_xI zt8 19 rfl rfl (fun (x622 : Int32) (h623 : x622.toInt = x562.toInt + 1) => ?_) (z_pAdd rfl rfl (by omega) (by omega))
          refine z_xpf zt8 20 rfl zo8 zzf1_29 X565 f5 (by decide) (by decide) ⟨by omega, by omega⟩ rfl (by decide) zw1_2 (fun M624 X625 e626 h627 => ?_)
          refine z_xP zt8 21 53 [some (.ref 5), some (.int 32)] [] rfl rfl ?_
          refine z_xrv zt8 25 rfl zzr8 ?_
          show z_ev (d + 32) 11 94 [some (.ref 5)] [] M624 _
          refine z_xP zt11 35 95 [some (.ref 5)] [.ref 5] rfl rfl ?_
          refine z_xgX (b := 8) zt11 36 rfl zo11 zzf1_18 X625 f5 (by decide) (by decide) rfl ?_
          refine z_xP zt11 37 99 [some (.ref 5)] [.ref 5, .ref 8] rfl rfl ?_
          have h628 := (e626.f f5 (by decide) (e566.f f5 (by decide) h539))
          refine z_xgv zt11 38 rfl zo11 zzf1_38 X625 f5 (by decide) h628 ?_
          refine z_xP zt11 39 103 [some (.ref 5)] [.ref 5, .int x540, .ref 8] rfl rfl ?_
          refine z_xgv zt11 40 rfl zo11 zzf1_29 X625 f5 (by decide) h627 ?_
          have f8 : T[8]? = some (.inr (8, 0, 8, 0, 160)) := X625.1.k rfl (by decide)
          refine z_xis zt11 41 rfl X625 f8 (by decide) (by decide) (by omega) (by omega) (by omega) (by omega) (by decide) (fun M629 X630 e631 h632 => ?_)
          refine z_xP zt11 42 109 [some (.ref 5)] [.ref 5, .ref 5] rfl rfl ?_
          have h633 := (e631.f f5 (by decide) h628)
          refine z_xgv zt11 43 rfl zo11 zzf1_38 X630 f5 (by decide) h633 ?_
          refine z_xP zt11 44 113 [some (.ref 5)] [.int 1, .int x540, .ref 5] rfl rfl ?_
          refine z_xI zt11 45 rfl rfl (fun (x634 : Int32) (h635 : x634.toInt = x540.toInt + 1) => ?_) (z_pAdd rfl rfl (by omega) (by omega))
          refine z_xpf zt11 46 rfl zo11 zzf1_38 X630 f5 (by decide) (by decide) ⟨by omega, by omega⟩ rfl (by decide) zw1_7 (fun M636 X637 e638 h639 => ?_)
          refine z_xP zt11 47 119 [some (.ref 5)] [.int 0, .ref 5] rfl rfl ?_
          refine z_xcV (vs := [.ref 5, .int 0]) (r := []) (L2 := [some (.ref 5), some (.int 0), none, none, none, none, none]) zt11 48 rfl zo11 zzcV1_77 (Or.inl rfl) rfl X637 f5 rfl rfl rfl (Nat.le_of_ble_eq_true rfl) zzm15 (Nat.le_of_ble_eq_true rfl) rfl ?_
          have q0 : ((0 : Int32)).toInt = 0 := rfl
          have q0 : ((0 : Int32)).toInt = 0 := rfl
          refine zC15 X637.1 (by decide) (fun y642 M640 X641  => ?_)
          have X643 := X637.go X641 (z_sb (by decide))
          show z_ev (d + 32) 11 122 [some (.ref 5)] [.long y642] M640 _
          refine z_xP zt11 49 130 [some (.ref 5)] [] rfl rfl ?_
          exact z_xrv zt11 52 rfl zzr11 (kk M640 X643)
        refine z_xP zt12 15 32 [some (.ref 5), some (.int 116)] [.int 0] rfl rfl ?_
        refine z_xrz zt12 16 rfl zzr12 (by decide) (by decide) ?_
        show z_ev (d + 32) 11 85 [some (.ref 5)] [.int 0] M30 _
        refine z_xZ zt11 32 rfl rfl (fun (h645 : (0 : Int) = 0) => ?_) (fun (h645 : (0 : Int) ≠ 0) => absurd h645 (by omega))
        refine z_xP zt11 50 127 [some (.ref 5)] [.ref 5] rfl rfl ?_
        refine z_xcV (vs := [.ref 5]) (r := []) (L2 := [some (.ref 5)]) zt11 51 rfl zo11 zzcV1_66 (Or.inl rfl) rfl X31 f5 rfl rfl rfl (Nat.le_of_ble_eq_true rfl) zzm10 (Nat.le_of_ble_eq_true rfl) rfl ?_
        refine z_xP zt10 0 1 [some (.ref 5)] [.ref 5] rfl rfl ?_
        refine z_xgv zt10 1 rfl zo10 zzf1_32 X31 f5 (by decide) h414 ?_
        refine z_xZ zt10 2 rfl rfl (fun (h646 : 0 ≤ x2.toInt) => absurd h646 (by omega)) (fun (h646 : x2.toInt < 0) => ?_)
        refine z_xP zt10 3 9 [some (.ref 5)] [.ref 5, .ref 5] rfl rfl ?_
        refine z_xgv zt10 4 rfl zo10 zzf1_29 X31 f5 (by decide) h33 ?_
        refine z_xpf zt10 5 rfl zo10 zzf1_32 X31 f5 (by decide) (by decide) ⟨Int32.le_toInt _, Int32.toInt_le _⟩ rfl (by decide) zw1_3 (fun M647 X648 e649 h650 => ?_)
        refine z_xrv zt10 6 rfl zzr10 ?_
        show z_ev (d + 32) 11 130 [some (.ref 5)] [] M647 _
        exact z_xrv zt11 52 rfl zzr11 (kk M647 X648)
      refine z_xP zt12 8 19 [some (.ref 5), some (.int 101)] [.ref 5] rfl rfl ?_
      refine z_xgX (b := 6) zt12 9 rfl zo12 zzf1_9 X31 f5 (by decide) (by decide) rfl ?_
      refine z_xP zt12 10 23 [some (.ref 5), some (.int 101)] [.ref 5, .ref 6] rfl rfl ?_
      refine z_xgv zt12 11 rfl zo12 zzf1_29 X31 f5 (by decide) h33 ?_
      refine z_xil zt12 12 rfl X31 f6 (by decide) (by omega) (by omega) (fun (x651 : Int32) h652 (h653 : (-2147483648) ≤ x651.toInt) (h654 : x651.toInt ≤ 2147483647) => ?_)
      refine z_xP zt12 13 28 [some (.ref 5), some (.int 101)] [.int 101, .int x651] rfl rfl ?_
      refine z_xJ zt12 14 rfl rfl (fun (h655 : x651.toInt = 101) => ?_) (fun (h655 : x651.toInt ≠ 101) => ?_)
      · skip
        refine z_xP zt12 17 35 [some (.ref 5), some (.int 101)] [.ref 5, .ref 5] rfl rfl ?_
        refine z_xgv zt12 18 rfl zo12 zzf1_29 X31 f5 (by decide) h33 ?_
        refine z_xP zt12 19 39 [some (.ref 5), some (.int 101)] [.int 1, .int x28, .ref 5] rfl rfl ?_
        refine z_xI zt12 20 rfl rfl (fun (x656 : Int32) (h657 : x656.toInt = x28.toInt + 1) => ?_) (z_pAdd rfl rfl (by omega) (by omega))
        refine z_xpf zt12 21 rfl zo12 zzf1_29 X31 f5 (by decide) (by decide) ⟨by omega, by omega⟩ rfl (by decide) zw1_2 (fun M658 X659 e660 h661 => ?_)
        refine z_xP zt12 22 44 [some (.ref 5), some (.int 101)] [.int 1] rfl rfl ?_
        refine z_xrz zt12 23 rfl zzr12 (by decide) (by decide) ?_
        show z_ev (d + 32) 11 56 [some (.ref 5)] [.int 1] M658 _
        refine z_xZ zt11 21 rfl rfl (fun (h662 : (1 : Int) = 0) => absurd h662 (by omega)) (fun (h662 : (1 : Int) ≠ 0) => ?_)
        refine z_xP zt11 22 61 [some (.ref 5)] [.ref 5, .ref 5] rfl rfl ?_
        refine z_xcV (vs := [.ref 5]) (r := [.ref 5]) (L2 := [some (.ref 5), none, none, none]) zt11 23 rfl zo11 zzcV1_73 (Or.inl rfl) rfl X659 f5 rfl rfl rfl (Nat.le_of_ble_eq_true rfl) zzm13 (Nat.le_of_ble_eq_true rfl) rfl ?_
        refine zC13 X659.1 (fun x665 M663 X664 h666 h667 => ?_)
        have X668 := X659.go X664 (z_sb (by decide))
        show z_ev (d + 32) 11 64 [some (.ref 5)] [.int x665, .ref 5] M663 _
        refine z_xpf zt11 24 rfl zo11 zzf1_41 X668 f5 (by decide) (by decide) ⟨Int32.le_toInt _, Int32.toInt_le _⟩ rfl (by decide) zw1_6 (fun M670 X671 e672 h673 => ?_)
        refine z_xP zt11 25 130 [some (.ref 5)] [] rfl rfl ?_
        exact z_xrv zt11 52 rfl zzr11 (kk M670 X671)
      refine z_xP zt12 15 32 [some (.ref 5), some (.int 101)] [.int 0] rfl rfl ?_
      refine z_xrz zt12 16 rfl zzr12 (by decide) (by decide) ?_
      show z_ev (d + 32) 11 56 [some (.ref 5)] [.int 0] M30 _
      refine z_xZ zt11 21 rfl rfl (fun (h674 : (0 : Int) = 0) => ?_) (fun (h674 : (0 : Int) ≠ 0) => absurd h674 (by omega))
      refine z_xP zt11 26 71 [some (.ref 5)] [.ref 5] rfl rfl ?_
      refine z_xgI zt11 27 rfl zo11 zzf1_38 X31 f5 (by decide) (by decide) rfl (fun (x676 : Int32) h675 (h677 : 0 ≤ x676.toInt) (h678 : x676.toInt ≤ 8) => ?_)
      refine z_xP zt11 28 76 [some (.ref 5)] [.int 8, .int x676] rfl rfl ?_
      refine z_xJ zt11 29 rfl rfl (fun (h679 : 8 ≤ x676.toInt) => ?_) (fun (h679 : x676.toInt < 8) => ?_)
      · skip
        refine z_xP zt11 50 127 [some (.ref 5)] [.ref 5] rfl rfl ?_
        refine z_xcV (vs := [.ref 5]) (r := []) (L2 := [some (.ref 5)]) zt11 51 rfl zo11 zzcV1_66 (Or.inl rfl) rfl X31 f5 rfl rfl rfl (Nat.le_of_ble_eq_true rfl) zzm10 (Nat.le_of_ble_eq_true rfl) rfl ?_
        refine z_xP zt10 0 1 [some (.ref 5)] [.ref 5] rfl rfl ?_
        refine z_xgv zt10 1 rfl zo10 zzf1_32 X31 f5 (by decide) h414 ?_
        refine z_xZ zt10 2 rfl rfl (fun (h680 : 0 ≤ x2.toInt) => absurd h680 (by omega)) (fun (h680 : x2.toInt < 0) => ?_)
        refine z_xP zt10 3 9 [some (.ref 5)] [.ref 5, .ref 5] rfl rfl ?_
        refine z_xgv zt10 4 rfl zo10 zzf1_29 X31 f5 (by decide) h33 ?_
        refine z_xpf zt10 5 rfl zo10 zzf1_32 X31 f5 (by decide) (by decide) ⟨Int32.le_toInt _, Int32.toInt_le _⟩ rfl (by decide) zw1_3 (fun M681 X682 e683 h684 => ?_)
        refine z_xrv zt10 6 rfl zzr10 ?_
        show z_ev (d + 32) 11 130 [some (.ref 5)] [] M681 _
        exact z_xrv zt11 52 rfl zzr11 (kk M681 X682)
      refine z_xP zt11 30 82 [some (.ref 5)] [.int 116, .ref 5] rfl rfl ?_
      refine z_xcV (vs := [.ref 5, .int 116]) (r := []) (L2 := [some (.ref 5), some (.int 116)]) zt11 31 rfl zo11 zzcV1_69 (Or.inl rfl) rfl X31 f5 rfl rfl rfl (Nat.le_of_ble_eq_true rfl) zzm12 (Nat.le_of_ble_eq_true rfl) rfl ?_
      refine z_xP zt12 0 1 [some (.ref 5), some (.int 116)] [.ref 5] rfl rfl ?_
      refine z_xgv zt12 1 rfl zo12 zzf1_32 X31 f5 (by decide) h414 ?_
      refine z_xZ zt12 2 rfl rfl (fun (h685 : 0 ≤ x2.toInt) => absurd h685 (by omega)) (fun (h685 : x2.toInt < 0) => ?_)
      refine z_xP zt12 3 8 [some (.ref 5), some (.int 116)] [.ref 5] rfl rfl ?_
      refine z_xgv zt12 4 rfl zo12 zzf1_29 X31 f5 (by decide) h33 ?_
      refine z_xP zt12 5 12 [some (.ref 5), some (.int 116)] [.ref 5, .int x28] rfl rfl ?_
      refine z_xgv zt12 6 rfl zo12 zzf1_25 X31 f5 (by decide) h416 ?_
      refine z_xJ zt12 7 rfl rfl (fun (h686 : x13.toInt ≤ x28.toInt) => ?_) (fun (h686 : x28.toInt < x13.toInt) => ?_)
      · skip
        refine z_xP zt12 15 32 [some (.ref 5), some (.int 116)] [.int 0] rfl rfl ?_
        refine z_xrz zt12 16 rfl zzr12 (by decide) (by decide) ?_
        show z_ev (d + 32) 11 85 [some (.ref 5)] [.int 0] M30 _
        refine z_xZ zt11 32 rfl rfl (fun (h687 : (0 : Int) = 0) => ?_) (fun (h687 : (0 : Int) ≠ 0) => absurd h687 (by omega))
        refine z_xP zt11 50 127 [some (.ref 5)] [.ref 5] rfl rfl ?_
        refine z_xcV (vs := [.ref 5]) (r := []) (L2 := [some (.ref 5)]) zt11 51 rfl zo11 zzcV1_66 (Or.inl rfl) rfl X31 f5 rfl rfl rfl (Nat.le_of_ble_eq_true rfl) zzm10 (Nat.le_of_ble_eq_true rfl) rfl ?_
        refine z_xP zt10 0 1 [some (.ref 5)] [.ref 5] rfl rfl ?_
        refine z_xgv zt10 1 rfl zo10 zzf1_32 X31 f5 (by decide) h414 ?_
        refine z_xZ zt10 2 rfl rfl (fun (h688 : 0 ≤ x2.toInt) => absurd h688 (by omega)) (fun (h688 : x2.toInt < 0) => ?_)
        refine z_xP zt10 3 9 [some (.ref 5)] [.ref 5, .ref 5] rfl rfl ?_
        refine z_xgv zt10 4 rfl zo10 zzf1_29 X31 f5 (by decide) h33 ?_
        refine z_xpf zt10 5 rfl zo10 zzf1_32 X31 f5 (by decide) (by decide) ⟨Int32.le_toInt _, Int32.toInt_le _⟩ rfl (by decide) zw1_3 (fun M689 X690 e691 h692 => ?_)
        refine z_xrv zt10 6 rfl zzr10 ?_
        show z_ev (d + 32) 11 130 [some (.ref 5)] [] M689 _
        exact z_xrv zt11 52 rfl zzr11 (kk M689 X690)
      refine z_xP zt12 8 19 [some (.ref 5), some (.int 116)] [.ref 5] rfl rfl ?_
      refine z_xgX (b := 6) zt12 9 rfl zo12 zzf1_9 X31 f5 (by decide) (by decide) rfl ?_
      refine z_xP zt12 10 23 [some (.ref 5), some (.int 116)] [.ref 5, .ref 6] rfl rfl ?_
      refine z_xgv zt12 11 rfl zo12 zzf1_29 X31 f5 (by decide) h33 ?_
      refine z_xil zt12 12 rfl X31 f6 (by decide) (by omega) (by omega) (fun (x693 : Int32) h694 (h695 : (-2147483648) ≤ x693.toInt) (h696 : x693.toInt ≤ 2147483647) => ?_)
      have h697 := congrArg Int32.toInt (h694.symm.trans h652)
      refine z_xP zt12 13 28 [some (.ref 5), some (.int 116)] [.int 116, .int x693] rfl rfl ?_
      refine z_xJ zt12 14 rfl rfl (fun (h698 : x693.toInt = 116) => ?_) (fun (h698 : x693.toInt ≠ 116) => ?_)
      · skip
        refine z_xP zt12 17 35 [some (.ref 5), some (.int 116)] [.ref 5, .ref 5] rfl rfl ?_
        refine z_xgv zt12 18 rfl zo12 zzf1_29 X31 f5 (by decide) h33 ?_
        refine z_xP zt12 19 39 [some (.ref 5), some (.int 116)] [.int 1, .int x28, .ref 5] rfl rfl ?_
        refine z_xI zt12 20 rfl rfl (fun (x699 : Int32) (h700 : x699.toInt = x28.toInt + 1) => ?_) (z_pAdd rfl rfl (by omega) (by omega))
        refine z_xpf zt12 21 rfl zo12 zzf1_29 X31 f5 (by decide) (by decide) ⟨by omega, by omega⟩ rfl (by decide) zw1_2 (fun M701 X702 e703 h704 => ?_)
        refine z_xP zt12 22 44 [some (.ref 5), some (.int 116)] [.int 1] rfl rfl ?_
        refine z_xrz zt12 23 rfl zzr12 (by decide) (by decide) ?_
        show z_ev (d + 32) 11 85 [some (.ref 5)] [.int 1] M701 _
        refine z_xZ zt11 32 rfl rfl (fun (h705 : (1 : Int) = 0) => absurd h705 (by omega)) (fun (h705 : (1 : Int) ≠ 0) => ?_)
        refine z_xP zt11 33 91 [some (.ref 5)] [.int 32, .ref 5] rfl rfl ?_
        refine z_xcV (vs := [.ref 5, .int 32]) (r := []) (L2 := [some (.ref 5), some (.int 32)]) zt11 34 rfl zo11 zzcV1_56 (Or.inl rfl) rfl X702 f5 rfl rfl rfl (Nat.le_of_ble_eq_true rfl) zzm8 (Nat.le_of_ble_eq_true rfl) rfl ?_
        refine z_xP zt8 0 1 [some (.ref 5), some (.int 32)] [.ref 5] rfl rfl ?_
        have h706 := (e703.f f5 (by decide) h414)
        refine z_xgv zt8 1 rfl zo8 zzf1_32 X702 f5 (by decide) h706 ?_
        refine z_xZ zt8 2 rfl rfl (fun (h707 : x2.toInt < 0) => ?_) (fun (h707 : 0 ≤ x2.toInt) => absurd h707 (by omega))
        refine z_xP zt8 4 9 [some (.ref 5), some (.int 32)] [.ref 5] rfl rfl ?_
        refine z_xgv zt8 5 rfl zo8 zzf1_29 X702 f5 (by decide) h704 ?_
        refine z_xP zt8 6 13 [some (.ref 5), some (.int 32)] [.ref 5, .int x699] rfl rfl ?_
        have h708 := (e703.f f5 (by decide) h416)
        refine z_xgv zt8 7 rfl zo8 zzf1_25 X702 f5 (by decide) h708 ?_
        refine z_xJ zt8 8 rfl rfl (fun (h709 : x13.toInt ≤ x699.toInt) => ?_) (fun (h709 : x699.toInt < x13.toInt) => ?_)
        · skip
          refine z_xP zt8 22 47 [some (.ref 5), some (.int 32)] [.ref 5, .ref 5] rfl rfl ?_
          refine z_xgv zt8 23 rfl zo8 zzf1_29 X702 f5 (by decide) h704 ?_
          refine z_xpf zt8 24 rfl zo8 zzf1_32 X702 f5 (by decide) (by decide) ⟨Int32.le_toInt _, Int32.toInt_le _⟩ rfl (by decide) zw1_3 (fun M710 X711 e712 h713 => ?_)
          refine z_xrv zt8 25 rfl zzr8 ?_
          show z_ev (d + 32) 11 94 [some (.ref 5)] [] M710 _
          refine z_xP zt11 35 95 [some (.ref 5)] [.ref 5] rfl rfl ?_
          refine z_xgX (b := 8) zt11 36 rfl zo11 zzf1_18 X711 f5 (by decide) (by decide) rfl ?_
          refine z_xP zt11 37 99 [some (.ref 5)] [.ref 5, .ref 8] rfl rfl ?_
          have h714 := (e712.f f5 (by decide) (e703.f f5 (by decide) h675))
          refine z_xgv zt11 38 rfl zo11 zzf1_38 X711 f5 (by decide) h714 ?_
          refine z_xP zt11 39 103 [some (.ref 5)] [.ref 5, .int x676, .ref 8] rfl rfl ?_
          have h715 := (e712.f f5 (by decide) h704)
          refine z_xgv zt11 40 rfl zo11 zzf1_29 X711 f5 (by decide) h715 ?_
          have f8 : T[8]? = some (.inr (8, 0, 8, 0, 160)) := X711.1.k rfl (by decide)
          refine z_xis zt11 41 rfl X711 f8 (by decide) (by decide) (by omega) (by omega) (by omega) (by omega) (by decide) (fun M716 X717 e718 h719 => ?_)
          refine z_xP zt11 42 109 [some (.ref 5)] [.ref 5, .ref 5] rfl rfl ?_
          have h720 := (e718.f f5 (by decide) h714)
          refine z_xgv zt11 43 rfl zo11 zzf1_38 X717 f5 (by decide) h720 ?_
          refine z_xP zt11 44 113 [some (.ref 5)] [.int 1, .int x676, .ref 5] rfl rfl ?_
          refine z_xI zt11 45 rfl rfl (fun (x721 : Int32) (h722 : x721.toInt = x676.toInt + 1) => ?_) (z_pAdd rfl rfl (by omega) (by omega))
          refine z_xpf zt11 46 rfl zo11 zzf1_38 X717 f5 (by decide) (by decide) ⟨by omega, by omega⟩ rfl (by decide) zw1_7 (fun M723 X724 e725 h726 => ?_)
          refine z_xP zt11 47 119 [some (.ref 5)] [.int 0, .ref 5] rfl rfl ?_
          refine z_xcV (vs := [.ref 5, .int 0]) (r := []) (L2 := [some (.ref 5), some (.int 0), none, none, none, none, none]) zt11 48 rfl zo11 zzcV1_77 (Or.inl rfl) rfl X724 f5 rfl rfl rfl (Nat.le_of_ble_eq_true rfl) zzm15 (Nat.le_of_ble_eq_true rfl) rfl ?_
          have q0 : ((0 : Int32)).toInt = 0 := rfl
          have q0 : ((0 : Int32)).toInt = 0 := rfl
          refine zC15 X724.1 (by decide) (fun y729 M727 X728  => ?_)
          have X730 := X724.go X728 (z_sb (by decide))
          show z_ev (d + 32) 11 122 [some (.ref 5)] [.long y729] M727 _
          refine z_xP zt11 49 130 [some (.ref 5)] [] rfl rfl ?_
          exact z_xrv zt11 52 rfl zzr11 (kk M727 X730)
        refine z_xP zt8 9 20 [some (.ref 5), some (.int 32)] [.ref 5] rfl rfl ?_
        refine z_xgX (b := 6) zt8 10 rfl zo8 zzf1_9 X702 f5 (by decide) (by decide) rfl ?_
        refine z_xP zt8 11 24 [some (.ref 5), some (.int 32)] [.ref 5, .ref 6] rfl rfl ?_
        refine z_xgv zt8 12 rfl zo8 zzf1_29 X702 f5 (by decide) h704 ?_
        refine z_xil zt8 13 rfl X702 f6 (by decide) (by omega) (by omega) (fun (x732 : Int32) h733 (h734 : (-2147483648) ≤ x732.toInt) (h735 : x732.toInt ≤ 2147483647) => ?_)
        refine z_xP zt8 14 29 [some (.ref 5), some (.int 32)] [.int 32, .int x732] rfl rfl ?_
        refine z_xJ zt8 15 rfl rfl (fun (h736 : x732.toInt ≠ 32) => ?_) (fun (h736 : x732.toInt = 32) => ?_)
        · skip
          refine z_xP zt8 22 47 [some (.ref 5), some (.int 32)] [.ref 5, .ref 5] rfl rfl ?_
          refine z_xgv zt8 23 rfl zo8 zzf1_29 X702 f5 (by decide) h704 ?_
          refine z_xpf zt8 24 rfl zo8 zzf1_32 X702 f5 (by decide) (by decide) ⟨Int32.le_toInt _, Int32.toInt_le _⟩ rfl (by decide) zw1_3 (fun M737 X738 e739 h740 => ?_)
          refine z_xrv zt8 25 rfl zzr8 ?_
          show z_ev (d + 32) 11 94 [some (.ref 5)] [] M737 _
          refine z_xP zt11 35 95 [some (.ref 5)] [.ref 5] rfl rfl ?_
          refine z_xgX (b := 8) zt11 36 rfl zo11 zzf1_18 X738 f5 (by decide) (by decide) rfl ?_
          refine z_xP zt11 37 99 [some (.ref 5)] [.ref 5, .ref 8] rfl rfl ?_
          have h741 := (e739.f f5 (by decide) (e703.f f5 (by decide) h675))
          refine z_xgv zt11 38 rfl zo11 zzf1_38 X738 f5 (by decide) h741 ?_
          refine z_xP zt11 39 103 [some (.ref 5)] [.ref 5, .int x676, .ref 8] rfl rfl ?_
          have h742 := (e739.f f5 (by decide) h704)
          refine z_xgv zt11 40 rfl zo11 zzf1_29 X738 f5 (by decide) h742 ?_
          have f8 : T[8]? = some (.inr (8, 0, 8, 0, 160)) := X738.1.k rfl (by decide)
          refine z_xis zt11 41 rfl X738 f8 (by decide) (by decide) (by omega) (by omega) (by omega) (by omega) (by decide) (fun M743 X744 e745 h746 => ?_)
          refine z_xP zt11 42 109 [some (.ref 5)] [.ref 5, .ref 5] rfl rfl ?_
          have h747 := (e745.f f5 (by decide) h741)
          refine z_xgv zt11 43 rfl zo11 zzf1_38 X744 f5 (by decide) h747 ?_
          refine z_xP zt11 44 113 [some (.ref 5)] [.int 1, .int x676, .ref 5] rfl rfl ?_
          refine z_xI zt11 45 rfl rfl (fun (x748 : Int32) (h749 : x748.toInt = x676.toInt + 1) => ?_) (z_pAdd rfl rfl (by omega) (by omega))
          refine z_xpf zt11 46 rfl zo11 zzf1_38 X744 f5 (by decide) (by decide) ⟨by omega, by omega⟩ rfl (by decide) zw1_7 (fun M750 X751 e752 h753 => ?_)
          refine z_xP zt11 47 119 [some (.ref 5)] [.int 0, .ref 5] rfl rfl ?_
          refine z_xcV (vs := [.ref 5, .int 0]) (r := []) (L2 := [some (.ref 5), some (.int 0), none, none, none, none, none]) zt11 48 rfl zo11 zzcV1_77 (Or.inl rfl) rfl X751 f5 rfl rfl rfl (Nat.le_of_ble_eq_true rfl) zzm15 (Nat.le_of_ble_eq_true rfl) rfl ?_
          have q0 : ((0 : Int32)).toInt = 0 := rfl
          have q0 : ((0 : Int32)).toInt = 0 := rfl
          refine zC15 X751.1 (by decide) (fun y756 M754 X755  => ?_)
          have X757 := X751.go X755 (z_sb (by decide))
          show z_ev (d + 32) 11 122 [some (.ref 5)] [.long y756] M754 _
          refine z_xP zt11 49 130 [some (.ref 5)] [] rfl rfl ?_
          exact z_xrv zt11 52 rfl zzr11 (kk M754 X757)
        refine z_xP zt8 16 34 [some (.ref 5), some (.int 32)] [.ref 5, .ref 5] rfl rfl ?_
        refine z_xgv zt8 17 rfl zo8 zzf1_29 X702 f5 (by decide) h704 ?_
        refine z_xP zt8 18 38 [some (.ref 5), some (.int 32)] [.int 1, .int x699, .ref 5] rfl rfl ?_
        refine z_xI zt8 19 rfl rfl (fun (x759 : Int32) (h760 : x759.toInt = x699.toInt + 1) => ?_) (z_pAdd rfl rfl (by omega) (by omega))
        refine z_xpf zt8 20 rfl zo8 zzf1_29 X702 f5 (by decide) (by decide) ⟨by omega, by omega⟩ rfl (by decide) zw1_2 (fun M761 X762 e763 h764 => ?_)
        refine z_xP zt8 21 53 [some (.ref 5), some (.int 32)] [] rfl rfl ?_
        refine z_xrv zt8 25 rfl zzr8 ?_
        show z_ev (d + 32) 11 94 [some (.ref 5)] [] M761 _
        refine z_xP zt11 35 95 [some (.ref 5)] [.ref 5] rfl rfl ?_
        refine z_xgX (b := 8) zt11 36 rfl zo11 zzf1_18 X762 f5 (by decide) (by decide) rfl ?_
        refine z_xP zt11 37 99 [some (.ref 5)] [.ref 5, .ref 8] rfl rfl ?_
        have h765 := (e763.f f5 (by decide) (e703.f f5 (by decide) h675))
        refine z_xgv zt11 38 rfl zo11 zzf1_38 X762 f5 (by decide) h765 ?_
        refine z_xP zt11 39 103 [some (.ref 5)] [.ref 5, .int x676, .ref 8] rfl rfl ?_
        refine z_xgv zt11 40 rfl zo11 zzf1_29 X762 f5 (by decide) h764 ?_
        have f8 : T[8]? = some (.inr (8, 0, 8, 0, 160)) := X762.1.k rfl (by decide)
        refine z_xis zt11 41 rfl X762 f8 (by decide) (by decide) (by omega) (by omega) (by omega) (by omega) (by decide) (fun M766 X767 e768 h769 => ?_)
        refine z_xP zt11 42 109 [some (.ref 5)] [.ref 5, .ref 5] rfl rfl ?_
        have h770 := (e768.f f5 (by decide) h765)
        refine z_xgv zt11 43 rfl zo11 zzf1_38 X767 f5 (by decide) h770 ?_
        refine z_xP zt11 44 113 [some (.ref 5)] [.int 1, .int x676, .ref 5] rfl rfl ?_
        refine z_xI zt11 45 rfl rfl (fun (x771 : Int32) (h772 : x771.toInt = x676.toInt + 1) => ?_) (z_pAdd rfl rfl (by omega) (by omega))
        refine z_xpf zt11 46 rfl zo11 zzf1_38 X767 f5 (by decide) (by decide) ⟨by omega, by omega⟩ rfl (by decide) zw1_7 (fun M773 X774 e775 h776 => ?_)
        refine z_xP zt11 47 119 [some (.ref 5)] [.int 0, .ref 5] rfl rfl ?_
        refine z_xcV (vs := [.ref 5, .int 0]) (r := []) (L2 := [some (.ref 5), some (.int 0), none, none, none, none, none]) zt11 48 rfl zo11 zzcV1_77 (Or.inl rfl) rfl X774 f5 rfl rfl rfl (Nat.le_of_ble_eq_true rfl) zzm15 (Nat.le_of_ble_eq_true rfl) rfl ?_
        have q0 : ((0 : Int32)).toInt = 0 := rfl
        have q0 : ((0 : Int32)).toInt = 0 := rfl
        refine zC15 X774.1 (by decide) (fun y779 M777 X778  => ?_)
        have X780 := X774.go X778 (z_sb (by decide))
        show z_ev (d + 32) 11 122 [some (.ref 5)] [.long y779] M777 _
        refine z_xP zt11 49 130 [some (.ref 5)] [] rfl rfl ?_
        exact z_xrv zt11 52 rfl zzr11 (kk M777 X780)
      refine z_xP zt12 15 32 [some (.ref 5), some (.int 116)] [.int 0] rfl rfl ?_
      refine z_xrz zt12 16 rfl zzr12 (by decide) (by decide) ?_
      show z_ev (d + 32) 11 85 [some (.ref 5)] [.int 0] M30 _
      refine z_xZ zt11 32 rfl rfl (fun (h782 : (0 : Int) = 0) => ?_) (fun (h782 : (0 : Int) ≠ 0) => absurd h782 (by omega))
      refine z_xP zt11 50 127 [some (.ref 5)] [.ref 5] rfl rfl ?_
      refine z_xcV (vs := [.ref 5]) (r := []) (L2 := [some (.ref 5)]) zt11 51 rfl zo11 zzcV1_66 (Or.inl rfl) rfl X31 f5 rfl rfl rfl (Nat.le_of_ble_eq_true rfl) zzm10 (Nat.le_of_ble_eq_true rfl) rfl ?_
      refine z_xP zt10 0 1 [some (.ref 5)] [.ref 5] rfl rfl ?_
      refine z_xgv zt10 1 rfl zo10 zzf1_32 X31 f5 (by decide) h414 ?_
      refine z_xZ zt10 2 rfl rfl (fun (h783 : 0 ≤ x2.toInt) => absurd h783 (by omega)) (fun (h783 : x2.toInt < 0) => ?_)
      refine z_xP zt10 3 9 [some (.ref 5)] [.ref 5, .ref 5] rfl rfl ?_
      refine z_xgv zt10 4 rfl zo10 zzf1_29 X31 f5 (by decide) h33 ?_
      refine z_xpf zt10 5 rfl zo10 zzf1_32 X31 f5 (by decide) (by decide) ⟨Int32.le_toInt _, Int32.toInt_le _⟩ rfl (by decide) zw1_3 (fun M784 X785 e786 h787 => ?_)
      refine z_xrv zt10 6 rfl zzr10 ?_
      show z_ev (d + 32) 11 130 [some (.ref 5)] [] M784 _
      exact z_xrv zt11 52 rfl zzr11 (kk M784 X785)
    refine z_xP zt12 8 19 [some (.ref 5), some (.int 112)] [.ref 5] rfl rfl ?_
    refine z_xgX (b := 6) zt12 9 rfl zo12 zzf1_9 X31 f5 (by decide) (by decide) rfl ?_
    refine z_xP zt12 10 23 [some (.ref 5), some (.int 112)] [.ref 5, .ref 6] rfl rfl ?_
    refine z_xgv zt12 11 rfl zo12 zzf1_29 X31 f5 (by decide) h33 ?_
    refine z_xil zt12 12 rfl X31 f6 (by decide) (by omega) (by omega) (fun (x788 : Int32) h789 (h790 : (-2147483648) ≤ x788.toInt) (h791 : x788.toInt ≤ 2147483647) => ?_)
    refine z_xP zt12 13 28 [some (.ref 5), some (.int 112)] [.int 112, .int x788] rfl rfl ?_
    refine z_xJ zt12 14 rfl rfl (fun (h792 : x788.toInt = 112) => ?_) (fun (h792 : x788.toInt ≠ 112) => ?_)
    · skip
      refine z_xP zt12 17 35 [some (.ref 5), some (.int 112)] [.ref 5, .ref 5] rfl rfl ?_
      refine z_xgv zt12 18 rfl zo12 zzf1_29 X31 f5 (by decide) h33 ?_
      refine z_xP zt12 19 39 [some (.ref 5), some (.int 112)] [.int 1, .int x28, .ref 5] rfl rfl ?_
      refine z_xI zt12 20 rfl rfl (fun (x793 : Int32) (h794 : x793.toInt = x28.toInt + 1) => ?_) (z_pAdd rfl rfl (by omega) (by omega))
      refine z_xpf zt12 21 rfl zo12 zzf1_29 X31 f5 (by decide) (by decide) ⟨by omega, by omega⟩ rfl (by decide) zw1_2 (fun M795 X796 e797 h798 => ?_)
      refine z_xP zt12 22 44 [some (.ref 5), some (.int 112)] [.int 1] rfl rfl ?_
      refine z_xrz zt12 23 rfl zzr12 (by decide) (by decide) ?_
      show z_ev (d + 32) 11 29 [some (.ref 5)] [.int 1] M795 _
      refine z_xZ zt11 11 rfl rfl (fun (h799 : (1 : Int) = 0) => absurd h799 (by omega)) (fun (h799 : (1 : Int) ≠ 0) => ?_)
      refine z_xP zt11 12 34 [some (.ref 5)] [.ref 5, .ref 5] rfl rfl ?_
      refine z_xcV (vs := [.ref 5]) (r := [.ref 5]) (L2 := [some (.ref 5), none, none, none]) zt11 13 rfl zo11 zzcV1_73 (Or.inl rfl) rfl X796 f5 rfl rfl rfl (Nat.le_of_ble_eq_true rfl) zzm13 (Nat.le_of_ble_eq_true rfl) rfl ?_
      refine zC13 X796.1 (fun x802 M800 X801 h803 h804 => ?_)
      have X805 := X796.go X801 (z_sb (by decide))
      show z_ev (d + 32) 11 37 [some (.ref 5)] [.int x802, .ref 5] M800 _
      refine z_xpf zt11 14 rfl zo11 zzf1_44 X805 f5 (by decide) (by decide) ⟨Int32.le_toInt _, Int32.toInt_le _⟩ rfl (by decide) zw1_5 (fun M807 X808 e809 h810 => ?_)
      refine z_xP zt11 15 130 [some (.ref 5)] [] rfl rfl ?_
      exact z_xrv zt11 52 rfl zzr11 (kk M807 X808)
    refine z_xP zt12 15 32 [some (.ref 5), some (.int 112)] [.int 0] rfl rfl ?_
    refine z_xrz zt12 16 rfl zzr12 (by decide) (by decide) ?_
    show z_ev (d + 32) 11 29 [some (.ref 5)] [.int 0] M30 _
    refine z_xZ zt11 11 rfl rfl (fun (h811 : (0 : Int) = 0) => ?_) (fun (h811 : (0 : Int) ≠ 0) => absurd h811 (by omega))
    refine z_xP zt11 16 44 [some (.ref 5)] [.ref 5] rfl rfl ?_
    refine z_xgI zt11 17 rfl zo11 zzf1_41 X31 f5 (by decide) (by decide) rfl (fun (x813 : Int32) h812 (h814 : (-2147483648) ≤ x813.toInt) (h815 : x813.toInt ≤ 2147483647) => ?_)
    refine z_xZ zt11 18 rfl rfl (fun (h816 : x813.toInt ≠ 0) => ?_) (fun (h816 : x813.toInt = 0) => ?_)
    · skip
      refine z_xP zt11 26 71 [some (.ref 5)] [.ref 5] rfl rfl ?_
      refine z_xgI zt11 27 rfl zo11 zzf1_38 X31 f5 (by decide) (by decide) rfl (fun (x818 : Int32) h817 (h819 : 0 ≤ x818.toInt) (h820 : x818.toInt ≤ 8) => ?_)
      refine z_xP zt11 28 76 [some (.ref 5)] [.int 8, .int x818] rfl rfl ?_
      refine z_xJ zt11 29 rfl rfl (fun (h821 : 8 ≤ x818.toInt) => ?_) (fun (h821 : x818.toInt < 8) => ?_)
      · skip
        refine z_xP zt11 50 127 [some (.ref 5)] [.ref 5] rfl rfl ?_
        refine z_xcV (vs := [.ref 5]) (r := []) (L2 := [some (.ref 5)]) zt11 51 rfl zo11 zzcV1_66 (Or.inl rfl) rfl X31 f5 rfl rfl rfl (Nat.le_of_ble_eq_true rfl) zzm10 (Nat.le_of_ble_eq_true rfl) rfl ?_
        refine z_xP zt10 0 1 [some (.ref 5)] [.ref 5] rfl rfl ?_
        refine z_xgv zt10 1 rfl zo10 zzf1_32 X31 f5 (by decide) h414 ?_
        refine z_xZ zt10 2 rfl rfl (fun (h822 : 0 ≤ x2.toInt) => absurd h822 (by omega)) (fun (h822 : x2.toInt < 0) => ?_)
        refine z_xP zt10 3 9 [some (.ref 5)] [.ref 5, .ref 5] rfl rfl ?_
        refine z_xgv zt10 4 rfl zo10 zzf1_29 X31 f5 (by decide) h33 ?_
        refine z_xpf zt10 5 rfl zo10 zzf1_32 X31 f5 (by decide) (by decide) ⟨Int32.le_toInt _, Int32.toInt_le _⟩ rfl (by decide) zw1_3 (fun M823 X824 e825 h826 => ?_)
        refine z_xrv zt10 6 rfl zzr10 ?_
        show z_ev (d + 32) 11 130 [some (.ref 5)] [] M823 _
        exact z_xrv zt11 52 rfl zzr11 (kk M823 X824)
      refine z_xP zt11 30 82 [some (.ref 5)] [.int 116, .ref 5] rfl rfl ?_
      refine z_xcV (vs := [.ref 5, .int 116]) (r := []) (L2 := [some (.ref 5), some (.int 116)]) zt11 31 rfl zo11 zzcV1_69 (Or.inl rfl) rfl X31 f5 rfl rfl rfl (Nat.le_of_ble_eq_true rfl) zzm12 (Nat.le_of_ble_eq_true rfl) rfl ?_
      refine z_xP zt12 0 1 [some (.ref 5), some (.int 116)] [.ref 5] rfl rfl ?_
      refine z_xgv zt12 1 rfl zo12 zzf1_32 X31 f5 (by decide) h414 ?_
      refine z_xZ zt12 2 rfl rfl (fun (h827 : 0 ≤ x2.toInt) => absurd h827 (by omega)) (fun (h827 : x2.toInt < 0) => ?_)
      refine z_xP zt12 3 8 [some (.ref 5), some (.int 116)] [.ref 5] rfl rfl ?_
      refine z_xgv zt12 4 rfl zo12 zzf1_29 X31 f5 (by decide) h33 ?_
      refine z_xP zt12 5 12 [some (.ref 5), some (.int 116)] [.ref 5, .int x28] rfl rfl ?_
      refine z_xgv zt12 6 rfl zo12 zzf1_25 X31 f5 (by decide) h416 ?_
      refine z_xJ zt12 7 rfl rfl (fun (h828 : x13.toInt ≤ x28.toInt) => ?_) (fun (h828 : x28.toInt < x13.toInt) => ?_)
      · skip
        refine z_xP zt12 15 32 [some (.ref 5), some (.int 116)] [.int 0] rfl rfl ?_
        refine z_xrz zt12 16 rfl zzr12 (by decide) (by decide) ?_
        show z_ev (d + 32) 11 85 [some (.ref 5)] [.int 0] M30 _
        refine z_xZ zt11 32 rfl rfl (fun (h829 : (0 : Int) = 0) => ?_) (fun (h829 : (0 : Int) ≠ 0) => absurd h829 (by omega))
        refine z_xP zt11 50 127 [some (.ref 5)] [.ref 5] rfl rfl ?_
        refine z_xcV (vs := [.ref 5]) (r := []) (L2 := [some (.ref 5)]) zt11 51 rfl zo11 zzcV1_66 (Or.inl rfl) rfl X31 f5 rfl rfl rfl (Nat.le_of_ble_eq_true rfl) zzm10 (Nat.le_of_ble_eq_true rfl) rfl ?_
        refine z_xP zt10 0 1 [some (.ref 5)] [.ref 5] rfl rfl ?_
        refine z_xgv zt10 1 rfl zo10 zzf1_32 X31 f5 (by decide) h414 ?_
        refine z_xZ zt10 2 rfl rfl (fun (h830 : 0 ≤ x2.toInt) => absurd h830 (by omega)) (fun (h830 : x2.toInt < 0) => ?_)
        refine z_xP zt10 3 9 [some (.ref 5)] [.ref 5, .ref 5] rfl rfl ?_
        refine z_xgv zt10 4 rfl zo10 zzf1_29 X31 f5 (by decide) h33 ?_
        refine z_xpf zt10 5 rfl zo10 zzf1_32 X31 f5 (by decide) (by decide) ⟨Int32.le_toInt _, Int32.toInt_le _⟩ rfl (by decide) zw1_3 (fun M831 X832 e833 h834 => ?_)
        refine z_xrv zt10 6 rfl zzr10 ?_
        show z_ev (d + 32) 11 130 [some (.ref 5)] [] M831 _
        exact z_xrv zt11 52 rfl zzr11 (kk M831 X832)
      refine z_xP zt12 8 19 [some (.ref 5), some (.int 116)] [.ref 5] rfl rfl ?_
      refine z_xgX (b := 6) zt12 9 rfl zo12 zzf1_9 X31 f5 (by decide) (by decide) rfl ?_
      refine z_xP zt12 10 23 [some (.ref 5), some (.int 116)] [.ref 5, .ref 6] rfl rfl ?_
      refine z_xgv zt12 11 rfl zo12 zzf1_29 X31 f5 (by decide) h33 ?_
      refine z_xil zt12 12 rfl X31 f6 (by decide) (by omega) (by omega) (fun (x835 : Int32) h836 (h837 : (-2147483648) ≤ x835.toInt) (h838 : x835.toInt ≤ 2147483647) => ?_)
      have h839 := congrArg Int32.toInt (h836.symm.trans h789)
      refine z_xP zt12 13 28 [some (.ref 5), some (.int 116)] [.int 116, .int x835] rfl rfl ?_
      refine z_xJ zt12 14 rfl rfl (fun (h840 : x835.toInt = 116) => ?_) (fun (h840 : x835.toInt ≠ 116) => ?_)
      · skip
        refine z_xP zt12 17 35 [some (.ref 5), some (.int 116)] [.ref 5, .ref 5] rfl rfl ?_
        refine z_xgv zt12 18 rfl zo12 zzf1_29 X31 f5 (by decide) h33 ?_
        refine z_xP zt12 19 39 [some (.ref 5), some (.int 116)] [.int 1, .int x28, .ref 5] rfl rfl ?_
        refine z_xI zt12 20 rfl rfl (fun (x841 : Int32) (h842 : x841.toInt = x28.toInt + 1) => ?_) (z_pAdd rfl rfl (by omega) (by omega))
        refine z_xpf zt12 21 rfl zo12 zzf1_29 X31 f5 (by decide) (by decide) ⟨by omega, by omega⟩ rfl (by decide) zw1_2 (fun M843 X844 e845 h846 => ?_)
        refine z_xP zt12 22 44 [some (.ref 5), some (.int 116)] [.int 1] rfl rfl ?_
        refine z_xrz zt12 23 rfl zzr12 (by decide) (by decide) ?_
        show z_ev (d + 32) 11 85 [some (.ref 5)] [.int 1] M843 _
        refine z_xZ zt11 32 rfl rfl (fun (h847 : (1 : Int) = 0) => absurd h847 (by omega)) (fun (h847 : (1 : Int) ≠ 0) => ?_)
        refine z_xP zt11 33 91 [some (.ref 5)] [.int 32, .ref 5] rfl rfl ?_
        refine z_xcV (vs := [.ref 5, .int 32]) (r := []) (L2 := [some (.ref 5), some (.int 32)]) zt11 34 rfl zo11 zzcV1_56 (Or.inl rfl) rfl X844 f5 rfl rfl rfl (Nat.le_of_ble_eq_true rfl) zzm8 (Nat.le_of_ble_eq_true rfl) rfl ?_
        refine z_xP zt8 0 1 [some (.ref 5), some (.int 32)] [.ref 5] rfl rfl ?_
        have h848 := (e845.f f5 (by decide) h414)
        refine z_xgv zt8 1 rfl zo8 zzf1_32 X844 f5 (by decide) h848 ?_
        refine z_xZ zt8 2 rfl rfl (fun (h849 : x2.toInt < 0) => ?_) (fun (h849 : 0 ≤ x2.toInt) => absurd h849 (by omega))
        refine z_xP zt8 4 9 [some (.ref 5), some (.int 32)] [.ref 5] rfl rfl ?_
        refine z_xgv zt8 5 rfl zo8 zzf1_29 X844 f5 (by decide) h846 ?_
        refine z_xP zt8 6 13 [some (.ref 5), some (.int 32)] [.ref 5, .int x841] rfl rfl ?_
        have h850 := (e845.f f5 (by decide) h416)
        refine z_xgv zt8 7 rfl zo8 zzf1_25 X844 f5 (by decide) h850 ?_
        refine z_xJ zt8 8 rfl rfl (fun (h851 : x13.toInt ≤ x841.toInt) => ?_) (fun (h851 : x841.toInt < x13.toInt) => ?_)
        · skip
          refine z_xP zt8 22 47 [some (.ref 5), some (.int 32)] [.ref 5, .ref 5] rfl rfl ?_
          refine z_xgv zt8 23 rfl zo8 zzf1_29 X844 f5 (by decide) h846 ?_
          refine z_xpf zt8 24 rfl zo8 zzf1_32 X844 f5 (by decide) (by decide) ⟨Int32.le_toInt _, Int32.toInt_le _⟩ rfl (by decide) zw1_3 (fun M852 X853 e854 h855 => ?_)
          refine z_xrv zt8 25 rfl zzr8 ?_
          show z_ev (d + 32) 11 94 [some (.ref 5)] [] M852 _
          refine z_xP zt11 35 95 [some (.ref 5)] [.ref 5] rfl rfl ?_
          refine z_xgX (b := 8) zt11 36 rfl zo11 zzf1_18 X853 f5 (by decide) (by decide) rfl ?_
          refine z_xP zt11 37 99 [some (.ref 5)] [.ref 5, .ref 8] rfl rfl ?_
          have h856 := (e854.f f5 (by decide) (e845.f f5 (by decide) h817))
          refine z_xgv zt11 38 rfl zo11 zzf1_38 X853 f5 (by decide) h856 ?_
          refine z_xP zt11 39 103 [some (.ref 5)] [.ref 5, .int x818, .ref 8] rfl rfl ?_
          have h857 := (e854.f f5 (by decide) h846)
          refine z_xgv zt11 40 rfl zo11 zzf1_29 X853 f5 (by decide) h857 ?_
          have f8 : T[8]? = some (.inr (8, 0, 8, 0, 160)) := X853.1.k rfl (by decide)
          refine z_xis zt11 41 rfl X853 f8 (by decide) (by decide) (by omega) (by omega) (by omega) (by omega) (by decide) (fun M858 X859 e860 h861 => ?_)
          refine z_xP zt11 42 109 [some (.ref 5)] [.ref 5, .ref 5] rfl rfl ?_
          have h862 := (e860.f f5 (by decide) h856)
          refine z_xgv zt11 43 rfl zo11 zzf1_38 X859 f5 (by decide) h862 ?_
          refine z_xP zt11 44 113 [some (.ref 5)] [.int 1, .int x818, .ref 5] rfl rfl ?_
          refine z_xI zt11 45 rfl rfl (fun (x863 : Int32) (h864 : x863.toInt = x818.toInt + 1) => ?_) (z_pAdd rfl rfl (by omega) (by omega))
          refine z_xpf zt11 46 rfl zo11 zzf1_38 X859 f5 (by decide) (by decide) ⟨by omega, by omega⟩ rfl (by decide) zw1_7 (fun M865 X866 e867 h868 => ?_)
          refine z_xP zt11 47 119 [some (.ref 5)] [.int 0, .ref 5] rfl rfl ?_
          refine z_xcV (vs := [.ref 5, .int 0]) (r := []) (L2 := [some (.ref 5), some (.int 0), none, none, none, none, none]) zt11 48 rfl zo11 zzcV1_77 (Or.inl rfl) rfl X866 f5 rfl rfl rfl (Nat.le_of_ble_eq_true rfl) zzm15 (Nat.le_of_ble_eq_true rfl) rfl ?_
          have q0 : ((0 : Int32)).toInt = 0 := rfl
          have q0 : ((0 : Int32)).toInt = 0 := rfl
          refine zC15 X866.1 (by decide) (fun y871 M869 X870  => ?_)
          have X872 := X866.go X870 (z_sb (by decide))
          show z_ev (d + 32) 11 122 [some (.ref 5)] [.long y871] M869 _
          refine z_xP zt11 49 130 [some (.ref 5)] [] rfl rfl ?_
          exact z_xrv zt11 52 rfl zzr11 (kk M869 X872)
        refine z_xP zt8 9 20 [some (.ref 5), some (.int 32)] [.ref 5] rfl rfl ?_
        refine z_xgX (b := 6) zt8 10 rfl zo8 zzf1_9 X844 f5 (by decide) (by decide) rfl ?_
        refine z_xP zt8 11 24 [some (.ref 5), some (.int 32)] [.ref 5, .ref 6] rfl rfl ?_
        refine z_xgv zt8 12 rfl zo8 zzf1_29 X844 f5 (by decide) h846 ?_
        refine z_xil zt8 13 rfl X844 f6 (by decide) (by omega) (by omega) (fun (x874 : Int32) h875 (h876 : (-2147483648) ≤ x874.toInt) (h877 : x874.toInt ≤ 2147483647) => ?_)
        refine z_xP zt8 14 29 [some (.ref 5), some (.int 32)] [.int 32, .int x874] rfl rfl ?_
        refine z_xJ zt8 15 rfl rfl (fun (h878 : x874.toInt ≠ 32) => ?_) (fun (h878 : x874.toInt = 32) => ?_)
        · skip
          refine z_xP zt8 22 47 [some (.ref 5), some (.int 32)] [.ref 5, .ref 5] rfl rfl ?_
          refine z_xgv zt8 23 rfl zo8 zzf1_29 X844 f5 (by decide) h846 ?_
          refine z_xpf zt8 24 rfl zo8 zzf1_32 X844 f5 (by decide) (by decide) ⟨Int32.le_toInt _, Int32.toInt_le _⟩ rfl (by decide) zw1_3 (fun M879 X880 e881 h882 => ?_)
          refine z_xrv zt8 25 rfl zzr8 ?_
          show z_ev (d + 32) 11 94 [some (.ref 5)] [] M879 _
          refine z_xP zt11 35 95 [some (.ref 5)] [.ref 5] rfl rfl ?_
          refine z_xgX (b := 8) zt11 36 rfl zo11 zzf1_18 X880 f5 (by decide) (by decide) rfl ?_
          refine z_xP zt11 37 99 [some (.ref 5)] [.ref 5, .ref 8] rfl rfl ?_
          have h883 := (e881.f f5 (by decide) (e845.f f5 (by decide) h817))
          refine z_xgv zt11 38 rfl zo11 zzf1_38 X880 f5 (by decide) h883 ?_
          refine z_xP zt11 39 103 [some (.ref 5)] [.ref 5, .int x818, .ref 8] rfl rfl ?_
          have h884 := (e881.f f5 (by decide) h846)
          refine z_xgv zt11 40 rfl zo11 zzf1_29 X880 f5 (by decide) h884 ?_
          have f8 : T[8]? = some (.inr (8, 0, 8, 0, 160)) := X880.1.k rfl (by decide)
          refine z_xis zt11 41 rfl X880 f8 (by decide) (by decide) (by omega) (by omega) (by omega) (by omega) (by decide) (fun M885 X886 e887 h888 => ?_)
          refine z_xP zt11 42 109 [some (.ref 5)] [.ref 5, .ref 5] rfl rfl ?_
          have h889 := (e887.f f5 (by decide) h883)
          refine z_xgv zt11 43 rfl zo11 zzf1_38 X886 f5 (by decide) h889 ?_
          refine z_xP zt11 44 113 [some (.ref 5)] [.int 1, .int x818, .ref 5] rfl rfl ?_
          refine z_xI zt11 45 rfl rfl (fun (x890 : Int32) (h891 : x890.toInt = x818.toInt + 1) => ?_) (z_pAdd rfl rfl (by omega) (by omega))
          refine z_xpf zt11 46 rfl zo11 zzf1_38 X886 f5 (by decide) (by decide) ⟨by omega, by omega⟩ rfl (by decide) zw1_7 (fun M892 X893 e894 h895 => ?_)
          refine z_xP zt11 47 119 [some (.ref 5)] [.int 0, .ref 5] rfl rfl ?_
          refine z_xcV (vs := [.ref 5, .int 0]) (r := []) (L2 := [some (.ref 5), some (.int 0), none, none, none, none, none]) zt11 48 rfl zo11 zzcV1_77 (Or.inl rfl) rfl X893 f5 rfl rfl rfl (Nat.le_of_ble_eq_true rfl) zzm15 (Nat.le_of_ble_eq_true rfl) rfl ?_
          have q0 : ((0 : Int32)).toInt = 0 := rfl
          have q0 : ((0 : Int32)).toInt = 0 := rfl
          refine zC15 X893.1 (by decide) (fun y898 M896 X897  => ?_)
          have X899 := X893.go X897 (z_sb (by decide))
          show z_ev (d + 32) 11 122 [some (.ref 5)] [.long y898] M896 _
          refine z_xP zt11 49 130 [some (.ref 5)] [] rfl rfl ?_
          exact z_xrv zt11 52 rfl zzr11 (kk M896 X899)
        refine z_xP zt8 16 34 [some (.ref 5), some (.int 32)] [.ref 5, .ref 5] rfl rfl ?_
        refine z_xgv zt8 17 rfl zo8 zzf1_29 X844 f5 (by decide) h846 ?_
        refine z_xP zt8 18 38 [some (.ref 5), some (.int 32)] [.int 1, .int x841, .ref 5] rfl rfl ?_
        refine z_xI zt8 19 rfl rfl (fun (x901 : Int32) (h902 : x901.toInt = x841.toInt + 1) => ?_) (z_pAdd rfl rfl (by omega) (by omega))
        refine z_xpf zt8 20 rfl zo8 zzf1_29 X844 f5 (by decide) (by decide) ⟨by omega, by omega⟩ rfl (by decide) zw1_2 (fun M903 X904 e905 h906 => ?_)
        refine z_xP zt8 21 53 [some (.ref 5), some (.int 32)] [] rfl rfl ?_
        refine z_xrv zt8 25 rfl zzr8 ?_
        show z_ev (d + 32) 11 94 [some (.ref 5)] [] M903 _
        refine z_xP zt11 35 95 [some (.ref 5)] [.ref 5] rfl rfl ?_
        refine z_xgX (b := 8) zt11 36 rfl zo11 zzf1_18 X904 f5 (by decide) (by decide) rfl ?_
        refine z_xP zt11 37 99 [some (.ref 5)] [.ref 5, .ref 8] rfl rfl ?_
        have h907 := (e905.f f5 (by decide) (e845.f f5 (by decide) h817))
        refine z_xgv zt11 38 rfl zo11 zzf1_38 X904 f5 (by decide) h907 ?_
        refine z_xP zt11 39 103 [some (.ref 5)] [.ref 5, .int x818, .ref 8] rfl rfl ?_
        refine z_xgv zt11 40 rfl zo11 zzf1_29 X904 f5 (by decide) h906 ?_
        have f8 : T[8]? = some (.inr (8, 0, 8, 0, 160)) := X904.1.k rfl (by decide)
        refine z_xis zt11 41 rfl X904 f8 (by decide) (by decide) (by omega) (by omega) (by omega) (by omega) (by decide) (fun M908 X909 e910 h911 => ?_)
        refine z_xP zt11 42 109 [some (.ref 5)] [.ref 5, .ref 5] rfl rfl ?_
        have h912 := (e910.f f5 (by decide) h907)
        refine z_xgv zt11 43 rfl zo11 zzf1_38 X909 f5 (by decide) h912 ?_
        refine z_xP zt11 44 113 [some (.ref 5)] [.int 1, .int x818, .ref 5] rfl rfl ?_
        refine z_xI zt11 45 rfl rfl (fun (x913 : Int32) (h914 : x913.toInt = x818.toInt + 1) => ?_) (z_pAdd rfl rfl (by omega) (by omega))
        refine z_xpf zt11 46 rfl zo11 zzf1_38 X909 f5 (by decide) (by decide) ⟨by omega, by omega⟩ rfl (by decide) zw1_7 (fun M915 X916 e917 h918 => ?_)
        refine z_xP zt11 47 119 [some (.ref 5)] [.int 0, .ref 5] rfl rfl ?_
        refine z_xcV (vs := [.ref 5, .int 0]) (r := []) (L2 := [some (.ref 5), some (.int 0), none, none, none, none, none]) zt11 48 rfl zo11 zzcV1_77 (Or.inl rfl) rfl X916 f5 rfl rfl rfl (Nat.le_of_ble_eq_true rfl) zzm15 (Nat.le_of_ble_eq_true rfl) rfl ?_
        have q0 : ((0 : Int32)).toInt = 0 := rfl
        have q0 : ((0 : Int32)).toInt = 0 := rfl
        refine zC15 X916.1 (by decide) (fun y921 M919 X920  => ?_)
        have X922 := X916.go X920 (z_sb (by decide))
        show z_ev (d + 32) 11 122 [some (.ref 5)] [.long y921] M919 _
        refine z_xP zt11 49 130 [some (.ref 5)] [] rfl rfl ?_
        exact z_xrv zt11 52 rfl zzr11 (kk M919 X922)
      refine z_xP zt12 15 32 [some (.ref 5), some (.int 116)] [.int 0] rfl rfl ?_
      refine z_xrz zt12 16 rfl zzr12 (by decide) (by decide) ?_
      show z_ev (d + 32) 11 85 [some (.ref 5)] [.int 0] M30 _
      refine z_xZ zt11 32 rfl rfl (fun (h924 : (0 : Int) = 0) => ?_) (fun (h924 : (0 : Int) ≠ 0) => absurd h924 (by omega))
      refine z_xP zt11 50 127 [some (.ref 5)] [.ref 5] rfl rfl ?_
      refine z_xcV (vs := [.ref 5]) (r := []) (L2 := [some (.ref 5)]) zt11 51 rfl zo11 zzcV1_66 (Or.inl rfl) rfl X31 f5 rfl rfl rfl (Nat.le_of_ble_eq_true rfl) zzm10 (Nat.le_of_ble_eq_true rfl) rfl ?_
      refine z_xP zt10 0 1 [some (.ref 5)] [.ref 5] rfl rfl ?_
      refine z_xgv zt10 1 rfl zo10 zzf1_32 X31 f5 (by decide) h414 ?_
      refine z_xZ zt10 2 rfl rfl (fun (h925 : 0 ≤ x2.toInt) => absurd h925 (by omega)) (fun (h925 : x2.toInt < 0) => ?_)
      refine z_xP zt10 3 9 [some (.ref 5)] [.ref 5, .ref 5] rfl rfl ?_
      refine z_xgv zt10 4 rfl zo10 zzf1_29 X31 f5 (by decide) h33 ?_
      refine z_xpf zt10 5 rfl zo10 zzf1_32 X31 f5 (by decide) (by decide) ⟨Int32.le_toInt _, Int32.toInt_le _⟩ rfl (by decide) zw1_3 (fun M926 X927 e928 h929 => ?_)
      refine z_xrv zt10 6 rfl zzr10 ?_
      show z_ev (d + 32) 11 130 [some (.ref 5)] [] M926 _
      exact z_xrv zt11 52 rfl zzr11 (kk M926 X927)
    refine z_xP zt11 19 53 [some (.ref 5)] [.int 101, .ref 5] rfl rfl ?_
    refine z_xcV (vs := [.ref 5, .int 101]) (r := []) (L2 := [some (.ref 5), some (.int 101)]) zt11 20 rfl zo11 zzcV1_69 (Or.inl rfl) rfl X31 f5 rfl rfl rfl (Nat.le_of_ble_eq_true rfl) zzm12 (Nat.le_of_ble_eq_true rfl) rfl ?_
    refine z_xP zt12 0 1 [some (.ref 5), some (.int 101)] [.ref 5] rfl rfl ?_
    refine z_xgv zt12 1 rfl zo12 zzf1_32 X31 f5 (by decide) h414 ?_
    refine z_xZ zt12 2 rfl rfl (fun (h930 : 0 ≤ x2.toInt) => absurd h930 (by omega)) (fun (h930 : x2.toInt < 0) => ?_)
    refine z_xP zt12 3 8 [some (.ref 5), some (.int 101)] [.ref 5] rfl rfl ?_
    refine z_xgv zt12 4 rfl zo12 zzf1_29 X31 f5 (by decide) h33 ?_
    refine z_xP zt12 5 12 [some (.ref 5), some (.int 101)] [.ref 5, .int x28] rfl rfl ?_
    refine z_xgv zt12 6 rfl zo12 zzf1_25 X31 f5 (by decide) h416 ?_
    refine z_xJ zt12 7 rfl rfl (fun (h931 : x13.toInt ≤ x28.toInt) => ?_) (fun (h931 : x28.toInt < x13.toInt) => ?_)
    · skip
      refine z_xP zt12 15 32 [some (.ref 5), some (.int 101)] [.int 0] rfl rfl ?_
      refine z_xrz zt12 16 rfl zzr12 (by decide) (by decide) ?_
      show z_ev (d + 32) 11 56 [some (.ref 5)] [.int 0] M30 _
      refine z_xZ zt11 21 rfl rfl (fun (h932 : (0 : Int) = 0) => ?_) (fun (h932 : (0 : Int) ≠ 0) => absurd h932 (by omega))
      refine z_xP zt11 26 71 [some (.ref 5)] [.ref 5] rfl rfl ?_
      refine z_xgI zt11 27 rfl zo11 zzf1_38 X31 f5 (by decide) (by decide) rfl (fun (x934 : Int32) h933 (h935 : 0 ≤ x934.toInt) (h936 : x934.toInt ≤ 8) => ?_)
      refine z_xP zt11 28 76 [some (.ref 5)] [.int 8, .int x934] rfl rfl ?_
      refine z_xJ zt11 29 rfl rfl (fun (h937 : 8 ≤ x934.toInt) => ?_) (fun (h937 : x934.toInt < 8) => ?_)
      · skip
        refine z_xP zt11 50 127 [some (.ref 5)] [.ref 5] rfl rfl ?_
        refine z_xcV (vs := [.ref 5]) (r := []) (L2 := [some (.ref 5)]) zt11 51 rfl zo11 zzcV1_66 (Or.inl rfl) rfl X31 f5 rfl rfl rfl (Nat.le_of_ble_eq_true rfl) zzm10 (Nat.le_of_ble_eq_true rfl) rfl ?_
        refine z_xP zt10 0 1 [some (.ref 5)] [.ref 5] rfl rfl ?_
        refine z_xgv zt10 1 rfl zo10 zzf1_32 X31 f5 (by decide) h414 ?_
        refine z_xZ zt10 2 rfl rfl (fun (h938 : 0 ≤ x2.toInt) => absurd h938 (by omega)) (fun (h938 : x2.toInt < 0) => ?_)
        refine z_xP zt10 3 9 [some (.ref 5)] [.ref 5, .ref 5] rfl rfl ?_
        refine z_xgv zt10 4 rfl zo10 zzf1_29 X31 f5 (by decide) h33 ?_
        refine z_xpf zt10 5 rfl zo10 zzf1_32 X31 f5 (by decide) (by decide) ⟨Int32.le_toInt _, Int32.toInt_le _⟩ rfl (by decide) zw1_3 (fun M939 X940 e941 h942 => ?_)
        refine z_xrv zt10 6 rfl zzr10 ?_
        show z_ev (d + 32) 11 130 [some (.ref 5)] [] M939 _
        exact z_xrv zt11 52 rfl zzr11 (kk M939 X940)
      refine z_xP zt11 30 82 [some (.ref 5)] [.int 116, .ref 5] rfl rfl ?_
      refine z_xcV (vs := [.ref 5, .int 116]) (r := []) (L2 := [some (.ref 5), some (.int 116)]) zt11 31 rfl zo11 zzcV1_69 (Or.inl rfl) rfl X31 f5 rfl rfl rfl (Nat.le_of_ble_eq_true rfl) zzm12 (Nat.le_of_ble_eq_true rfl) rfl ?_
      refine z_xP zt12 0 1 [some (.ref 5), some (.int 116)] [.ref 5] rfl rfl ?_
      refine z_xgv zt12 1 rfl zo12 zzf1_32 X31 f5 (by decide) h414 ?_
      refine z_xZ zt12 2 rfl rfl (fun (h943 : 0 ≤ x2.toInt) => absurd h943 (by omega)) (fun (h943 : x2.toInt < 0) => ?_)
      refine z_xP zt12 3 8 [some (.ref 5), some (.int 116)] [.ref 5] rfl rfl ?_
      refine z_xgv zt12 4 rfl zo12 zzf1_29 X31 f5 (by decide) h33 ?_
      refine z_xP zt12 5 12 [some (.ref 5), some (.int 116)] [.ref 5, .int x28] rfl rfl ?_
      refine z_xgv zt12 6 rfl zo12 zzf1_25 X31 f5 (by decide) h416 ?_
      refine z_xJ zt12 7 rfl rfl (fun (h944 : x13.toInt ≤ x28.toInt) => ?_) (fun (h944 : x28.toInt < x13.toInt) => ?_)
      · skip
        refine z_xP zt12 15 32 [some (.ref 5), some (.int 116)] [.int 0] rfl rfl ?_
        refine z_xrz zt12 16 rfl zzr12 (by decide) (by decide) ?_
        show z_ev (d + 32) 11 85 [some (.ref 5)] [.int 0] M30 _
        refine z_xZ zt11 32 rfl rfl (fun (h945 : (0 : Int) = 0) => ?_) (fun (h945 : (0 : Int) ≠ 0) => absurd h945 (by omega))
        refine z_xP zt11 50 127 [some (.ref 5)] [.ref 5] rfl rfl ?_
        refine z_xcV (vs := [.ref 5]) (r := []) (L2 := [some (.ref 5)]) zt11 51 rfl zo11 zzcV1_66 (Or.inl rfl) rfl X31 f5 rfl rfl rfl (Nat.le_of_ble_eq_true rfl) zzm10 (Nat.le_of_ble_eq_true rfl) rfl ?_
        refine z_xP zt10 0 1 [some (.ref 5)] [.ref 5] rfl rfl ?_
        refine z_xgv zt10 1 rfl zo10 zzf1_32 X31 f5 (by decide) h414 ?_
        refine z_xZ zt10 2 rfl rfl (fun (h946 : 0 ≤ x2.toInt) => absurd h946 (by omega)) (fun (h946 : x2.toInt < 0) => ?_)
        refine z_xP zt10 3 9 [some (.ref 5)] [.ref 5, .ref 5] rfl rfl ?_
        refine z_xgv zt10 4 rfl zo10 zzf1_29 X31 f5 (by decide) h33 ?_
        refine z_xpf zt10 5 rfl zo10 zzf1_32 X31 f5 (by decide) (by decide) ⟨Int32.le_toInt _, Int32.toInt_le _⟩ rfl (by decide) zw1_3 (fun M947 X948 e949 h950 => ?_)
        refine z_xrv zt10 6 rfl zzr10 ?_
        show z_ev (d + 32) 11 130 [some (.ref 5)] [] M947 _
        exact z_xrv zt11 52 rfl zzr11 (kk M947 X948)
      refine z_xP zt12 8 19 [some (.ref 5), some (.int 116)] [.ref 5] rfl rfl ?_
      refine z_xgX (b := 6) zt12 9 rfl zo12 zzf1_9 X31 f5 (by decide) (by decide) rfl ?_
      refine z_xP zt12 10 23 [some (.ref 5), some (.int 116)] [.ref 5, .ref 6] rfl rfl ?_
      refine z_xgv zt12 11 rfl zo12 zzf1_29 X31 f5 (by decide) h33 ?_
      refine z_xil zt12 12 rfl X31 f6 (by decide) (by omega) (by omega) (fun (x951 : Int32) h952 (h953 : (-2147483648) ≤ x951.toInt) (h954 : x951.toInt ≤ 2147483647) => ?_)
      have h955 := congrArg Int32.toInt (h952.symm.trans h789)
      refine z_xP zt12 13 28 [some (.ref 5), some (.int 116)] [.int 116, .int x951] rfl rfl ?_
      refine z_xJ zt12 14 rfl rfl (fun (h956 : x951.toInt = 116) => ?_) (fun (h956 : x951.toInt ≠ 116) => ?_)
      · skip
        refine z_xP zt12 17 35 [some (.ref 5), some (.int 116)] [.ref 5, .ref 5] rfl rfl ?_
        refine z_xgv zt12 18 rfl zo12 zzf1_29 X31 f5 (by decide) h33 ?_
        refine z_xP zt12 19 39 [some (.ref 5), some (.int 116)] [.int 1, .int x28, .ref 5] rfl rfl ?_
        refine z_xI zt12 20 rfl rfl (fun (x957 : Int32) (h958 : x957.toInt = x28.toInt + 1) => ?_) (z_pAdd rfl rfl (by omega) (by omega))
        refine z_xpf zt12 21 rfl zo12 zzf1_29 X31 f5 (by decide) (by decide) ⟨by omega, by omega⟩ rfl (by decide) zw1_2 (fun M959 X960 e961 h962 => ?_)
        refine z_xP zt12 22 44 [some (.ref 5), some (.int 116)] [.int 1] rfl rfl ?_
        refine z_xrz zt12 23 rfl zzr12 (by decide) (by decide) ?_
        show z_ev (d + 32) 11 85 [some (.ref 5)] [.int 1] M959 _
        refine z_xZ zt11 32 rfl rfl (fun (h963 : (1 : Int) = 0) => absurd h963 (by omega)) (fun (h963 : (1 : Int) ≠ 0) => ?_)
        refine z_xP zt11 33 91 [some (.ref 5)] [.int 32, .ref 5] rfl rfl ?_
        refine z_xcV (vs := [.ref 5, .int 32]) (r := []) (L2 := [some (.ref 5), some (.int 32)]) zt11 34 rfl zo11 zzcV1_56 (Or.inl rfl) rfl X960 f5 rfl rfl rfl (Nat.le_of_ble_eq_true rfl) zzm8 (Nat.le_of_ble_eq_true rfl) rfl ?_
        refine z_xP zt8 0 1 [some (.ref 5), some (.int 32)] [.ref 5] rfl rfl ?_
        have h964 := (e961.f f5 (by decide) h414)
        refine z_xgv zt8 1 rfl zo8 zzf1_32 X960 f5 (by decide) h964 ?_
        refine z_xZ zt8 2 rfl rfl (fun (h965 : x2.toInt < 0) => ?_) (fun (h965 : 0 ≤ x2.toInt) => absurd h965 (by omega))
        refine z_xP zt8 4 9 [some (.ref 5), some (.int 32)] [.ref 5] rfl rfl ?_
        refine z_xgv zt8 5 rfl zo8 zzf1_29 X960 f5 (by decide) h962 ?_
        refine z_xP zt8 6 13 [some (.ref 5), some (.int 32)] [.ref 5, .int x957] rfl rfl ?_
        have h966 := (e961.f f5 (by decide) h416)
        refine z_xgv zt8 7 rfl zo8 zzf1_25 X960 f5 (by decide) h966 ?_
        refine z_xJ zt8 8 rfl rfl (fun (h967 : x13.toInt ≤ x957.toInt) => ?_) (fun (h967 : x957.toInt < x13.toInt) => ?_)
        · skip
          refine z_xP zt8 22 47 [some (.ref 5), some (.int 32)] [.ref 5, .ref 5] rfl rfl ?_
          refine z_xgv zt8 23 rfl zo8 zzf1_29 X960 f5 (by decide) h962 ?_
          refine z_xpf zt8 24 rfl zo8 zzf1_32 X960 f5 (by decide) (by decide) ⟨Int32.le_toInt _, Int32.toInt_le _⟩ rfl (by decide) zw1_3 (fun M968 X969 e970 h971 => ?_)
          refine z_xrv zt8 25 rfl zzr8 ?_
          show z_ev (d + 32) 11 94 [some (.ref 5)] [] M968 _
          refine z_xP zt11 35 95 [some (.ref 5)] [.ref 5] rfl rfl ?_
          refine z_xgX (b := 8) zt11 36 rfl zo11 zzf1_18 X969 f5 (by decide) (by decide) rfl ?_
          refine z_xP zt11 37 99 [some (.ref 5)] [.ref 5, .ref 8] rfl rfl ?_
          have h972 := (e970.f f5 (by decide) (e961.f f5 (by decide) h933))
          refine z_xgv zt11 38 rfl zo11 zzf1_38 X969 f5 (by decide) h972 ?_
          refine z_xP zt11 39 103 [some (.ref 5)] [.ref 5, .int x934, .ref 8] rfl rfl ?_
          have h973 := (e970.f f5 (by decide) h962)
          refine z_xgv zt11 40 rfl zo11 zzf1_29 X969 f5 (by decide) h973 ?_
          have f8 : T[8]? = some (.inr (8, 0, 8, 0, 160)) := X969.1.k rfl (by decide)
          refine z_xis zt11 41 rfl X969 f8 (by decide) (by decide) (by omega) (by omega) (by omega) (by omega) (by decide) (fun M974 X975 e976 h977 => ?_)
          refine z_xP zt11 42 109 [some (.ref 5)] [.ref 5, .ref 5] rfl rfl ?_
          have h978 := (e976.f f5 (by decide) h972)
          refine z_xgv zt11 43 rfl zo11 zzf1_38 X975 f5 (by decide) h978 ?_
          refine z_xP zt11 44 113 [some (.ref 5)] [.int 1, .int x934, .ref 5] rfl rfl ?_
          refine z_xI zt11 45 rfl rfl (fun (x979 : Int32) (h980 : x979.toInt = x934.toInt + 1) => ?_) (z_pAdd rfl rfl (by omega) (by omega))
          refine z_xpf zt11 46 rfl zo11 zzf1_38 X975 f5 (by decide) (by decide) ⟨by omega, by omega⟩ rfl (by decide) zw1_7 (fun M981 X982 e983 h984 => ?_)
          refine z_xP zt11 47 119 [some (.ref 5)] [.int 0, .ref 5] rfl rfl ?_
          refine z_xcV (vs := [.ref 5, .int 0]) (r := []) (L2 := [some (.ref 5), some (.int 0), none, none, none, none, none]) zt11 48 rfl zo11 zzcV1_77 (Or.inl rfl) rfl X982 f5 rfl rfl rfl (Nat.le_of_ble_eq_true rfl) zzm15 (Nat.le_of_ble_eq_true rfl) rfl ?_
          have q0 : ((0 : Int32)).toInt = 0 := rfl
          have q0 : ((0 : Int32)).toInt = 0 := rfl
          refine zC15 X982.1 (by decide) (fun y987 M985 X986  => ?_)
          have X988 := X982.go X986 (z_sb (by decide))
          show z_ev (d + 32) 11 122 [some (.ref 5)] [.long y987] M985 _
          refine z_xP zt11 49 130 [some (.ref 5)] [] rfl rfl ?_
          exact z_xrv zt11 52 rfl zzr11 (kk M985 X988)
        refine z_xP zt8 9 20 [some (.ref 5), some (.int 32)] [.ref 5] rfl rfl ?_
        refine z_xgX (b := 6) zt8 10 rfl zo8 zzf1_9 X960 f5 (by decide) (by decide) rfl ?_
        refine z_xP zt8 11 24 [some (.ref 5), some (.int 32)] [.ref 5, .ref 6] rfl rfl ?_
        refine z_xgv zt8 12 rfl zo8 zzf1_29 X960 f5 (by decide) h962 ?_
        refine z_xil zt8 13 rfl X960 f6 (by decide) (by omega) (by omega) (fun (x990 : Int32) h991 (h992 : (-2147483648) ≤ x990.toInt) (h993 : x990.toInt ≤ 2147483647) => ?_)
        refine z_xP zt8 14 29 [some (.ref 5), some (.int 32)] [.int 32, .int x990] rfl rfl ?_
        refine z_xJ zt8 15 rfl rfl (fun (h994 : x990.toInt ≠ 32) => ?_) (fun (h994 : x990.toInt = 32) => ?_)
        · skip
          refine z_xP zt8 22 47 [some (.ref 5), some (.int 32)] [.ref 5, .ref 5] rfl rfl ?_
          refine z_xgv zt8 23 rfl zo8 zzf1_29 X960 f5 (by decide) h962 ?_
          refine z_xpf zt8 24 rfl zo8 zzf1_32 X960 f5 (by decide) (by decide) ⟨Int32.le_toInt _, Int32.toInt_le _⟩ rfl (by decide) zw1_3 (fun M995 X996 e997 h998 => ?_)
          refine z_xrv zt8 25 rfl zzr8 ?_
          show z_ev (d + 32) 11 94 [some (.ref 5)] [] M995 _
          refine z_xP zt11 35 95 [some (.ref 5)] [.ref 5] rfl rfl ?_
          refine z_xgX (b := 8) zt11 36 rfl zo11 zzf1_18 X996 f5 (by decide) (by decide) rfl ?_
          refine z_xP zt11 37 99 [some (.ref 5)] [.ref 5, .ref 8] rfl rfl ?_
          have h999 := (e997.f f5 (by decide) (e961.f f5 (by decide) h933))
          refine z_xgv zt11 38 rfl zo11 zzf1_38 X996 f5 (by decide) h999 ?_
          refine z_xP zt11 39 103 [some (.ref 5)] [.ref 5, .int x934, .ref 8] rfl rfl ?_
          have h1000 := (e997.f f5 (by decide) h962)
          refine z_xgv zt11 40 rfl zo11 zzf1_29 X996 f5 (by decide) h1000 ?_
          have f8 : T[8]? = some (.inr (8, 0, 8, 0, 160)) := X996.1.k rfl (by decide)
          refine z_xis zt11 41 rfl X996 f8 (by decide) (by decide) (by omega) (by omega) (by omega) (by omega) (by decide) (fun M1001 X1002 e1003 h1004 => ?_)
          refine z_xP zt11 42 109 [some (.ref 5)] [.ref 5, .ref 5] rfl rfl ?_
          have h1005 := (e1003.f f5 (by decide) h999)
          refine z_xgv zt11 43 rfl zo11 zzf1_38 X1002 f5 (by decide) h1005 ?_
          refine z_xP zt11 44 113 [some (.ref 5)] [.int 1, .int x934, .ref 5] rfl rfl ?_
          refine z_xI zt11 45 rfl rfl (fun (x1006 : Int32) (h1007 : x1006.toInt = x934.toInt + 1) => ?_) (z_pAdd rfl rfl (by omega) (by omega))
          refine z_xpf zt11 46 rfl zo11 zzf1_38 X1002 f5 (by decide) (by decide) ⟨by omega, by omega⟩ rfl (by decide) zw1_7 (fun M1008 X1009 e1010 h1011 => ?_)
          refine z_xP zt11 47 119 [some (.ref 5)] [.int 0, .ref 5] rfl rfl ?_
          refine z_xcV (vs := [.ref 5, .int 0]) (r := []) (L2 := [some (.ref 5), some (.int 0), none, none, none, none, none]) zt11 48 rfl zo11 zzcV1_77 (Or.inl rfl) rfl X1009 f5 rfl rfl rfl (Nat.le_of_ble_eq_true rfl) zzm15 (Nat.le_of_ble_eq_true rfl) rfl ?_
          have q0 : ((0 : Int32)).toInt = 0 := rfl
          have q0 : ((0 : Int32)).toInt = 0 := rfl
          refine zC15 X1009.1 (by decide) (fun y1014 M1012 X1013  => ?_)
          have X1015 := X1009.go X1013 (z_sb (by decide))
          show z_ev (d + 32) 11 122 [some (.ref 5)] [.long y1014] M1012 _
          refine z_xP zt11 49 130 [some (.ref 5)] [] rfl rfl ?_
          exact z_xrv zt11 52 rfl zzr11 (kk M1012 X1015)
        refine z_xP zt8 16 34 [some (.ref 5), some (.int 32)] [.ref 5, .ref 5] rfl rfl ?_
        refine z_xgv zt8 17 rfl zo8 zzf1_29 X960 f5 (by decide) h962 ?_
        refine z_xP zt8 18 38 [some (.ref 5), some (.int 32)] [.int 1, .int x957, .ref 5] rfl rfl ?_
        refine z_xI zt8 19 rfl rfl (fun (x1017 : Int32) (h1018 : x1017.toInt = x957.toInt + 1) => ?_) (z_pAdd rfl rfl (by omega) (by omega))
        refine z_xpf zt8 20 rfl zo8 zzf1_29 X960 f5 (by decide) (by decide) ⟨by omega, by omega⟩ rfl (by decide) zw1_2 (fun M1019 X1020 e1021 h1022 => ?_)
        refine z_xP zt8 21 53 [some (.ref 5), some (.int 32)] [] rfl rfl ?_
        refine z_xrv zt8 25 rfl zzr8 ?_
        show z_ev (d + 32) 11 94 [some (.ref 5)] [] M1019 _
        refine z_xP zt11 35 95 [some (.ref 5)] [.ref 5] rfl rfl ?_
        refine z_xgX (b := 8) zt11 36 rfl zo11 zzf1_18 X1020 f5 (by decide) (by decide) rfl ?_
        refine z_xP zt11 37 99 [some (.ref 5)] [.ref 5, .ref 8] rfl rfl ?_
        have h1023 := (e1021.f f5 (by decide) (e961.f f5 (by decide) h933))
        refine z_xgv zt11 38 rfl zo11 zzf1_38 X1020 f5 (by decide) h1023 ?_
        refine z_xP zt11 39 103 [some (.ref 5)] [.ref 5, .int x934, .ref 8] rfl rfl ?_
        refine z_xgv zt11 40 rfl zo11 zzf1_29 X1020 f5 (by decide) h1022 ?_
        have f8 : T[8]? = some (.inr (8, 0, 8, 0, 160)) := X1020.1.k rfl (by decide)
        refine z_xis zt11 41 rfl X1020 f8 (by decide) (by decide) (by omega) (by omega) (by omega) (by omega) (by decide) (fun M1024 X1025 e1026 h1027 => ?_)
        refine z_xP zt11 42 109 [some (.ref 5)] [.ref 5, .ref 5] rfl rfl ?_
        have h1028 := (e1026.f f5 (by decide) h1023)
        refine z_xgv zt11 43 rfl zo11 zzf1_38 X1025 f5 (by decide) h1028 ?_
        refine z_xP zt11 44 113 [some (.ref 5)] [.int 1, .int x934, .ref 5] rfl rfl ?_
        refine z_xI zt11 45 rfl rfl (fun (x1029 : Int32) (h1030 : x1029.toInt = x934.toInt + 1) => ?_) (z_pAdd rfl rfl (by omega) (by omega))
        refine z_xpf zt11 46 rfl zo11 zzf1_38 X1025 f5 (by decide) (by decide) ⟨by omega, by omega⟩ rfl (by decide) zw1_7 (fun M1031 X1032 e1033 h1034 => ?_)
        refine z_xP zt11 47 119 [some (.ref 5)] [.int 0, .ref 5] rfl rfl ?_
        refine z_xcV (vs := [.ref 5, .int 0]) (r := []) (L2 := [some (.ref 5), some (.int 0), none, none, none, none, none]) zt11 48 rfl zo11 zzcV1_77 (Or.inl rfl) rfl X1032 f5 rfl rfl rfl (Nat.le_of_ble_eq_true rfl) zzm15 (Nat.le_of_ble_eq_true rfl) rfl ?_
        have q0 : ((0 : Int32)).toInt = 0 := rfl
        have q0 : ((0 : Int32)).toInt = 0 := rfl
        refine zC15 X1032.1 (by decide) (fun y1037 M1035 X1036  => ?_)
        have X1038 := X1032.go X1036 (z_sb (by decide))
        show z_ev (d + 32) 11 122 [some (.ref 5)] [.long y1037] M1035 _
        refine z_xP zt11 49 130 [some (.ref 5)] [] rfl rfl ?_
        exact z_xrv zt11 52 rfl zzr11 (kk M1035 X1038)
      refine z_xP zt12 15 32 [some (.ref 5), some (.int 116)] [.int 0] rfl rfl ?_
      refine z_xrz zt12 16 rfl zzr12 (by decide) (by decide) ?_
      show z_ev (d + 32) 11 85 [some (.ref 5)] [.int 0] M30 _
      refine z_xZ zt11 32 rfl rfl (fun (h1040 : (0 : Int) = 0) => ?_) (fun (h1040 : (0 : Int) ≠ 0) => absurd h1040 (by omega))
      refine z_xP zt11 50 127 [some (.ref 5)] [.ref 5] rfl rfl ?_
      refine z_xcV (vs := [.ref 5]) (r := []) (L2 := [some (.ref 5)]) zt11 51 rfl zo11 zzcV1_66 (Or.inl rfl) rfl X31 f5 rfl rfl rfl (Nat.le_of_ble_eq_true rfl) zzm10 (Nat.le_of_ble_eq_true rfl) rfl ?_
      refine z_xP zt10 0 1 [some (.ref 5)] [.ref 5] rfl rfl ?_
      refine z_xgv zt10 1 rfl zo10 zzf1_32 X31 f5 (by decide) h414 ?_
      refine z_xZ zt10 2 rfl rfl (fun (h1041 : 0 ≤ x2.toInt) => absurd h1041 (by omega)) (fun (h1041 : x2.toInt < 0) => ?_)
      refine z_xP zt10 3 9 [some (.ref 5)] [.ref 5, .ref 5] rfl rfl ?_
      refine z_xgv zt10 4 rfl zo10 zzf1_29 X31 f5 (by decide) h33 ?_
      refine z_xpf zt10 5 rfl zo10 zzf1_32 X31 f5 (by decide) (by decide) ⟨Int32.le_toInt _, Int32.toInt_le _⟩ rfl (by decide) zw1_3 (fun M1042 X1043 e1044 h1045 => ?_)
      refine z_xrv zt10 6 rfl zzr10 ?_
      show z_ev (d + 32) 11 130 [some (.ref 5)] [] M1042 _
      exact z_xrv zt11 52 rfl zzr11 (kk M1042 X1043)
    refine z_xP zt12 8 19 [some (.ref 5), some (.int 101)] [.ref 5] rfl rfl ?_
    refine z_xgX (b := 6) zt12 9 rfl zo12 zzf1_9 X31 f5 (by decide) (by decide) rfl ?_
    refine z_xP zt12 10 23 [some (.ref 5), some (.int 101)] [.ref 5, .ref 6] rfl rfl ?_
    refine z_xgv zt12 11 rfl zo12 zzf1_29 X31 f5 (by decide) h33 ?_
    refine z_xil zt12 12 rfl X31 f6 (by decide) (by omega) (by omega) (fun (x1046 : Int32) h1047 (h1048 : (-2147483648) ≤ x1046.toInt) (h1049 : x1046.toInt ≤ 2147483647) => ?_)
    have h1050 := congrArg Int32.toInt (h1047.symm.trans h789)
    refine z_xP zt12 13 28 [some (.ref 5), some (.int 101)] [.int 101, .int x1046] rfl rfl ?_
    refine z_xJ zt12 14 rfl rfl (fun (h1051 : x1046.toInt = 101) => ?_) (fun (h1051 : x1046.toInt ≠ 101) => ?_)
    · skip
      refine z_xP zt12 17 35 [some (.ref 5), some (.int 101)] [.ref 5, .ref 5] rfl rfl ?_
      refine z_xgv zt12 18 rfl zo12 zzf1_29 X31 f5 (by decide) h33 ?_
      refine z_xP zt12 19 39 [some (.ref 5), some (.int 101)] [.int 1, .int x28, .ref 5] rfl rfl ?_
      refine z_xI zt12 20 rfl rfl (fun (x1052 : Int32) (h1053 : x1052.toInt = x28.toInt + 1) => ?_) (z_pAdd rfl rfl (by omega) (by omega))
      refine z_xpf zt12 21 rfl zo12 zzf1_29 X31 f5 (by decide) (by decide) ⟨by omega, by omega⟩ rfl (by decide) zw1_2 (fun M1054 X1055 e1056 h1057 => ?_)
      refine z_xP zt12 22 44 [some (.ref 5), some (.int 101)] [.int 1] rfl rfl ?_
      refine z_xrz zt12 23 rfl zzr12 (by decide) (by decide) ?_
      show z_ev (d + 32) 11 56 [some (.ref 5)] [.int 1] M1054 _
      refine z_xZ zt11 21 rfl rfl (fun (h1058 : (1 : Int) = 0) => absurd h1058 (by omega)) (fun (h1058 : (1 : Int) ≠ 0) => ?_)
      refine z_xP zt11 22 61 [some (.ref 5)] [.ref 5, .ref 5] rfl rfl ?_
      refine z_xcV (vs := [.ref 5]) (r := [.ref 5]) (L2 := [some (.ref 5), none, none, none]) zt11 23 rfl zo11 zzcV1_73 (Or.inl rfl) rfl X1055 f5 rfl rfl rfl (Nat.le_of_ble_eq_true rfl) zzm13 (Nat.le_of_ble_eq_true rfl) rfl ?_
      refine zC13 X1055.1 (fun x1061 M1059 X1060 h1062 h1063 => ?_)
      have X1064 := X1055.go X1060 (z_sb (by decide))
      show z_ev (d + 32) 11 64 [some (.ref 5)] [.int x1061, .ref 5] M1059 _
      refine z_xpf zt11 24 rfl zo11 zzf1_41 X1064 f5 (by decide) (by decide) ⟨Int32.le_toInt _, Int32.toInt_le _⟩ rfl (by decide) zw1_6 (fun M1066 X1067 e1068 h1069 => ?_)
      refine z_xP zt11 25 130 [some (.ref 5)] [] rfl rfl ?_
      exact z_xrv zt11 52 rfl zzr11 (kk M1066 X1067)
    refine z_xP zt12 15 32 [some (.ref 5), some (.int 101)] [.int 0] rfl rfl ?_
    refine z_xrz zt12 16 rfl zzr12 (by decide) (by decide) ?_
    show z_ev (d + 32) 11 56 [some (.ref 5)] [.int 0] M30 _
    refine z_xZ zt11 21 rfl rfl (fun (h1070 : (0 : Int) = 0) => ?_) (fun (h1070 : (0 : Int) ≠ 0) => absurd h1070 (by omega))
    refine z_xP zt11 26 71 [some (.ref 5)] [.ref 5] rfl rfl ?_
    refine z_xgI zt11 27 rfl zo11 zzf1_38 X31 f5 (by decide) (by decide) rfl (fun (x1072 : Int32) h1071 (h1073 : 0 ≤ x1072.toInt) (h1074 : x1072.toInt ≤ 8) => ?_)
    refine z_xP zt11 28 76 [some (.ref 5)] [.int 8, .int x1072] rfl rfl ?_
    refine z_xJ zt11 29 rfl rfl (fun (h1075 : 8 ≤ x1072.toInt) => ?_) (fun (h1075 : x1072.toInt < 8) => ?_)
    · skip
      refine z_xP zt11 50 127 [some (.ref 5)] [.ref 5] rfl rfl ?_
      refine z_xcV (vs := [.ref 5]) (r := []) (L2 := [some (.ref 5)]) zt11 51 rfl zo11 zzcV1_66 (Or.inl rfl) rfl X31 f5 rfl rfl rfl (Nat.le_of_ble_eq_true rfl) zzm10 (Nat.le_of_ble_eq_true rfl) rfl ?_
      refine z_xP zt10 0 1 [some (.ref 5)] [.ref 5] rfl rfl ?_
      refine z_xgv zt10 1 rfl zo10 zzf1_32 X31 f5 (by decide) h414 ?_
      refine z_xZ zt10 2 rfl rfl (fun (h1076 : 0 ≤ x2.toInt) => absurd h1076 (by omega)) (fun (h1076 : x2.toInt < 0) => ?_)
      refine z_xP zt10 3 9 [some (.ref 5)] [.ref 5, .ref 5] rfl rfl ?_
      refine z_xgv zt10 4 rfl zo10 zzf1_29 X31 f5 (by decide) h33 ?_
      refine z_xpf zt10 5 rfl zo10 zzf1_32 X31 f5 (by decide) (by decide) ⟨Int32.le_toInt _, Int32.toInt_le _⟩ rfl (by decide) zw1_3 (fun M1077 X1078 e1079 h1080 => ?_)
      refine z_xrv zt10 6 rfl zzr10 ?_
      show z_ev (d + 32) 11 130 [some (.ref 5)] [] M1077 _
      exact z_xrv zt11 52 rfl zzr11 (kk M1077 X1078)
    refine z_xP zt11 30 82 [some (.ref 5)] [.int 116, .ref 5] rfl rfl ?_
    refine z_xcV (vs := [.ref 5, .int 116]) (r := []) (L2 := [some (.ref 5), some (.int 116)]) zt11 31 rfl zo11 zzcV1_69 (Or.inl rfl) rfl X31 f5 rfl rfl rfl (Nat.le_of_ble_eq_true rfl) zzm12 (Nat.le_of_ble_eq_true rfl) rfl ?_
    refine z_xP zt12 0 1 [some (.ref 5), some (.int 116)] [.ref 5] rfl rfl ?_
    refine z_xgv zt12 1 rfl zo12 zzf1_32 X31 f5 (by decide) h414 ?_
    refine z_xZ zt12 2 rfl rfl (fun (h1081 : 0 ≤ x2.toInt) => absurd h1081 (by omega)) (fun (h1081 : x2.toInt < 0) => ?_)
    refine z_xP zt12 3 8 [some (.ref 5), some (.int 116)] [.ref 5] rfl rfl ?_
    refine z_xgv zt12 4 rfl zo12 zzf1_29 X31 f5 (by decide) h33 ?_
    refine z_xP zt12 5 12 [some (.ref 5), some (.int 116)] [.ref 5, .int x28] rfl rfl ?_
    refine z_xgv zt12 6 rfl zo12 zzf1_25 X31 f5 (by decide) h416 ?_
    refine z_xJ zt12 7 rfl rfl (fun (h1082 : x13.toInt ≤ x28.toInt) => ?_) (fun (h1082 : x28.toInt < x13.toInt) => ?_)
    · skip
      refine z_xP zt12 15 32 [some (.ref 5), some (.int 116)] [.int 0] rfl rfl ?_
      refine z_xrz zt12 16 rfl zzr12 (by decide) (by decide) ?_
      show z_ev (d + 32) 11 85 [some (.ref 5)] [.int 0] M30 _
      refine z_xZ zt11 32 rfl rfl (fun (h1083 : (0 : Int) = 0) => ?_) (fun (h1083 : (0 : Int) ≠ 0) => absurd h1083 (by omega))
      refine z_xP zt11 50 127 [some (.ref 5)] [.ref 5] rfl rfl ?_
      refine z_xcV (vs := [.ref 5]) (r := []) (L2 := [some (.ref 5)]) zt11 51 rfl zo11 zzcV1_66 (Or.inl rfl) rfl X31 f5 rfl rfl rfl (Nat.le_of_ble_eq_true rfl) zzm10 (Nat.le_of_ble_eq_true rfl) rfl ?_
      refine z_xP zt10 0 1 [some (.ref 5)] [.ref 5] rfl rfl ?_
      refine z_xgv zt10 1 rfl zo10 zzf1_32 X31 f5 (by decide) h414 ?_
      refine z_xZ zt10 2 rfl rfl (fun (h1084 : 0 ≤ x2.toInt) => absurd h1084 (by omega)) (fun (h1084 : x2.toInt < 0) => ?_)
      refine z_xP zt10 3 9 [some (.ref 5)] [.ref 5, .ref 5] rfl rfl ?_
      refine z_xgv zt10 4 rfl zo10 zzf1_29 X31 f5 (by decide) h33 ?_
      refine z_xpf zt10 5 rfl zo10 zzf1_32 X31 f5 (by decide) (by decide) ⟨Int32.le_toInt _, Int32.toInt_le _⟩ rfl (by decide) zw1_3 (fun M1085 X1086 e1087 h1088 => ?_)
      refine z_xrv zt10 6 rfl zzr10 ?_
      show z_ev (d + 32) 11 130 [some (.ref 5)] [] M1085 _
      exact z_xrv zt11 52 rfl zzr11 (kk M1085 X1086)
    refine z_xP zt12 8 19 [some (.ref 5), some (.int 116)] [.ref 5] rfl rfl ?_
    refine z_xgX (b := 6) zt12 9 rfl zo12 zzf1_9 X31 f5 (by decide) (by decide) rfl ?_
    refine z_xP zt12 10 23 [some (.ref 5), some (.int 116)] [.ref 5, .ref 6] rfl rfl ?_
    refine z_xgv zt12 11 rfl zo12 zzf1_29 X31 f5 (by decide) h33 ?_
    refine z_xil zt12 12 rfl X31 f6 (by decide) (by omega) (by omega) (fun (x1089 : Int32) h1090 (h1091 : (-2147483648) ≤ x1089.toInt) (h1092 : x1089.toInt ≤ 2147483647) => ?_)
    have h1093 := congrArg Int32.toInt (h1090.symm.trans h789)
    refine z_xP zt12 13 28 [some (.ref 5), some (.int 116)] [.int 116, .int x1089] rfl rfl ?_
    refine z_xJ zt12 14 rfl rfl (fun (h1094 : x1089.toInt = 116) => ?_) (fun (h1094 : x1089.toInt ≠ 116) => ?_)
    · skip
      refine z_xP zt12 17 35 [some (.ref 5), some (.int 116)] [.ref 5, .ref 5] rfl rfl ?_
      refine z_xgv zt12 18 rfl zo12 zzf1_29 X31 f5 (by decide) h33 ?_
      refine z_xP zt12 19 39 [some (.ref 5), some (.int 116)] [.int 1, .int x28, .ref 5] rfl rfl ?_
      refine z_xI zt12 20 rfl rfl (fun (x1095 : Int32) (h1096 : x1095.toInt = x28.toInt + 1) => ?_) (z_pAdd rfl rfl (by omega) (by omega))
      refine z_xpf zt12 21 rfl zo12 zzf1_29 X31 f5 (by decide) (by decide) ⟨by omega, by omega⟩ rfl (by decide) zw1_2 (fun M1097 X1098 e1099 h1100 => ?_)
      refine z_xP zt12 22 44 [some (.ref 5), some (.int 116)] [.int 1] rfl rfl ?_
      refine z_xrz zt12 23 rfl zzr12 (by decide) (by decide) ?_
      show z_ev (d + 32) 11 85 [some (.ref 5)] [.int 1] M1097 _
      refine z_xZ zt11 32 rfl rfl (fun (h1101 : (1 : Int) = 0) => absurd h1101 (by omega)) (fun (h1101 : (1 : Int) ≠ 0) => ?_)
      refine z_xP zt11 33 91 [some (.ref 5)] [.int 32, .ref 5] rfl rfl ?_
      refine z_xcV (vs := [.ref 5, .int 32]) (r := []) (L2 := [some (.ref 5), some (.int 32)]) zt11 34 rfl zo11 zzcV1_56 (Or.inl rfl) rfl X1098 f5 rfl rfl rfl (Nat.le_of_ble_eq_true rfl) zzm8 (Nat.le_of_ble_eq_true rfl) rfl ?_
      refine z_xP zt8 0 1 [some (.ref 5), some (.int 32)] [.ref 5] rfl rfl ?_
      have h1102 := (e1099.f f5 (by decide) h414)
      refine z_xgv zt8 1 rfl zo8 zzf1_32 X1098 f5 (by decide) h1102 ?_
      refine z_xZ zt8 2 rfl rfl (fun (h1103 : x2.toInt < 0) => ?_) (fun (h1103 : 0 ≤ x2.toInt) => absurd h1103 (by omega))
      refine z_xP zt8 4 9 [some (.ref 5), some (.int 32)] [.ref 5] rfl rfl ?_
      refine z_xgv zt8 5 rfl zo8 zzf1_29 X1098 f5 (by decide) h1100 ?_
      refine z_xP zt8 6 13 [some (.ref 5), some (.int 32)] [.ref 5, .int x1095] rfl rfl ?_
      have h1104 := (e1099.f f5 (by decide) h416)
      refine z_xgv zt8 7 rfl zo8 zzf1_25 X1098 f5 (by decide) h1104 ?_
      refine z_xJ zt8 8 rfl rfl (fun (h1105 : x13.toInt ≤ x1095.toInt) => ?_) (fun (h1105 : x1095.toInt < x13.toInt) => ?_)
      · skip
        refine z_xP zt8 22 47 [some (.ref 5), some (.int 32)] [.ref 5, .ref 5] rfl rfl ?_
        refine z_xgv zt8 23 rfl zo8 zzf1_29 X1098 f5 (by decide) h1100 ?_
        refine z_xpf zt8 24 rfl zo8 zzf1_32 X1098 f5 (by decide) (by decide) ⟨Int32.le_toInt _, Int32.toInt_le _⟩ rfl (by decide) zw1_3 (fun M1106 X1107 e1108 h1109 => ?_)
        refine z_xrv zt8 25 rfl zzr8 ?_
        show z_ev (d + 32) 11 94 [some (.ref 5)] [] M1106 _
        refine z_xP zt11 35 95 [some (.ref 5)] [.ref 5] rfl rfl ?_
        refine z_xgX (b := 8) zt11 36 rfl zo11 zzf1_18 X1107 f5 (by decide) (by decide) rfl ?_
        refine z_xP zt11 37 99 [some (.ref 5)] [.ref 5, .ref 8] rfl rfl ?_
        have h1110 := (e1108.f f5 (by decide) (e1099.f f5 (by decide) h1071))
        refine z_xgv zt11 38 rfl zo11 zzf1_38 X1107 f5 (by decide) h1110 ?_
        refine z_xP zt11 39 103 [some (.ref 5)] [.ref 5, .int x1072, .ref 8] rfl rfl ?_
        have h1111 := (e1108.f f5 (by decide) h1100)
        refine z_xgv zt11 40 rfl zo11 zzf1_29 X1107 f5 (by decide) h1111 ?_
        have f8 : T[8]? = some (.inr (8, 0, 8, 0, 160)) := X1107.1.k rfl (by decide)
        refine z_xis zt11 41 rfl X1107 f8 (by decide) (by decide) (by omega) (by omega) (by omega) (by omega) (by decide) (fun M1112 X1113 e1114 h1115 => ?_)
        refine z_xP zt11 42 109 [some (.ref 5)] [.ref 5, .ref 5] rfl rfl ?_
        have h1116 := (e1114.f f5 (by decide) h1110)
        refine z_xgv zt11 43 rfl zo11 zzf1_38 X1113 f5 (by decide) h1116 ?_
        refine z_xP zt11 44 113 [some (.ref 5)] [.int 1, .int x1072, .ref 5] rfl rfl ?_
        refine z_xI zt11 45 rfl rfl (fun (x1117 : Int32) (h1118 : x1117.toInt = x1072.toInt + 1) => ?_) (z_pAdd rfl rfl (by omega) (by omega))
        refine z_xpf zt11 46 rfl zo11 zzf1_38 X1113 f5 (by decide) (by decide) ⟨by omega, by omega⟩ rfl (by decide) zw1_7 (fun M1119 X1120 e1121 h1122 => ?_)
        refine z_xP zt11 47 119 [some (.ref 5)] [.int 0, .ref 5] rfl rfl ?_
        refine z_xcV (vs := [.ref 5, .int 0]) (r := []) (L2 := [some (.ref 5), some (.int 0), none, none, none, none, none]) zt11 48 rfl zo11 zzcV1_77 (Or.inl rfl) rfl X1120 f5 rfl rfl rfl (Nat.le_of_ble_eq_true rfl) zzm15 (Nat.le_of_ble_eq_true rfl) rfl ?_
        have q0 : ((0 : Int32)).toInt = 0 := rfl
        have q0 : ((0 : Int32)).toInt = 0 := rfl
        refine zC15 X1120.1 (by decide) (fun y1125 M1123 X1124  => ?_)
        have X1126 := X1120.go X1124 (z_sb (by decide))
        show z_ev (d + 32) 11 122 [some (.ref 5)] [.long y1125] M1123 _
        refine z_xP zt11 49 130 [some (.ref 5)] [] rfl rfl ?_
        exact z_xrv zt11 52 rfl zzr11 (kk M1123 X1126)
      refine z_xP zt8 9 20 [some (.ref 5), some (.int 32)] [.ref 5] rfl rfl ?_
      refine z_xgX (b := 6) zt8 10 rfl zo8 zzf1_9 X1098 f5 (by decide) (by decide) rfl ?_
      refine z_xP zt8 11 24 [some (.ref 5), some (.int 32)] [.ref 5, .ref 6] rfl rfl ?_
      refine z_xgv zt8 12 rfl zo8 zzf1_29 X1098 f5 (by decide) h1100 ?_
      refine z_xil zt8 13 rfl X1098 f6 (by decide) (by omega) (by omega) (fun (x1128 : Int32) h1129 (h1130 : (-2147483648) ≤ x1128.toInt) (h1131 : x1128.toInt ≤ 2147483647) => ?_)
      refine z_xP zt8 14 29 [some (.ref 5), some (.int 32)] [.int 32, .int x1128] rfl rfl ?_
      refine z_xJ zt8 15 rfl rfl (fun (h1132 : x1128.toInt ≠ 32) => ?_) (fun (h1132 : x1128.toInt = 32) => ?_)
      · skip
        refine z_xP zt8 22 47 [some (.ref 5), some (.int 32)] [.ref 5, .ref 5] rfl rfl ?_
        refine z_xgv zt8 23 rfl zo8 zzf1_29 X1098 f5 (by decide) h1100 ?_
        refine z_xpf zt8 24 rfl zo8 zzf1_32 X1098 f5 (by decide) (by decide) ⟨Int32.le_toInt _, Int32.toInt_le _⟩ rfl (by decide) zw1_3 (fun M1133 X1134 e1135 h1136 => ?_)
        refine z_xrv zt8 25 rfl zzr8 ?_
        show z_ev (d + 32) 11 94 [some (.ref 5)] [] M1133 _
        refine z_xP zt11 35 95 [some (.ref 5)] [.ref 5] rfl rfl ?_
        refine z_xgX (b := 8) zt11 36 rfl zo11 zzf1_18 X1134 f5 (by decide) (by decide) rfl ?_
        refine z_xP zt11 37 99 [some (.ref 5)] [.ref 5, .ref 8] rfl rfl ?_
        have h1137 := (e1135.f f5 (by decide) (e1099.f f5 (by decide) h1071))
        refine z_xgv zt11 38 rfl zo11 zzf1_38 X1134 f5 (by decide) h1137 ?_
        refine z_xP zt11 39 103 [some (.ref 5)] [.ref 5, .int x1072, .ref 8] rfl rfl ?_
        have h1138 := (e1135.f f5 (by decide) h1100)
        refine z_xgv zt11 40 rfl zo11 zzf1_29 X1134 f5 (by decide) h1138 ?_
        have f8 : T[8]? = some (.inr (8, 0, 8, 0, 160)) := X1134.1.k rfl (by decide)
        refine z_xis zt11 41 rfl X1134 f8 (by decide) (by decide) (by omega) (by omega) (by omega) (by omega) (by decide) (fun M1139 X1140 e1141 h1142 => ?_)
        refine z_xP zt11 42 109 [some (.ref 5)] [.ref 5, .ref 5] rfl rfl ?_
        have h1143 := (e1141.f f5 (by decide) h1137)
        refine z_xgv zt11 43 rfl zo11 zzf1_38 X1140 f5 (by decide) h1143 ?_
        refine z_xP zt11 44 113 [some (.ref 5)] [.int 1, .int x1072, .ref 5] rfl rfl ?_
        refine z_xI zt11 45 rfl rfl (fun (x1144 : Int32) (h1145 : x1144.toInt = x1072.toInt + 1) => ?_) (z_pAdd rfl rfl (by omega) (by omega))
        refine z_xpf zt11 46 rfl zo11 zzf1_38 X1140 f5 (by decide) (by decide) ⟨by omega, by omega⟩ rfl (by decide) zw1_7 (fun M1146 X1147 e1148 h1149 => ?_)
        refine z_xP zt11 47 119 [some (.ref 5)] [.int 0, .ref 5] rfl rfl ?_
        refine z_xcV (vs := [.ref 5, .int 0]) (r := []) (L2 := [some (.ref 5), some (.int 0), none, none, none, none, none]) zt11 48 rfl zo11 zzcV1_77 (Or.inl rfl) rfl X1147 f5 rfl rfl rfl (Nat.le_of_ble_eq_true rfl) zzm15 (Nat.le_of_ble_eq_true rfl) rfl ?_
        have q0 : ((0 : Int32)).toInt = 0 := rfl
        have q0 : ((0 : Int32)).toInt = 0 := rfl
        refine zC15 X1147.1 (by decide) (fun y1152 M1150 X1151  => ?_)
        have X1153 := X1147.go X1151 (z_sb (by decide))
        show z_ev (d + 32) 11 122 [some (.ref 5)] [.long y1152] M1150 _
        refine z_xP zt11 49 130 [some (.ref 5)] [] rfl rfl ?_
        exact z_xrv zt11 52 rfl zzr11 (kk M1150 X1153)
      refine z_xP zt8 16 34 [some (.ref 5), some (.int 32)] [.ref 5, .ref 5] rfl rfl ?_
      refine z_xgv zt8 17 rfl zo8 zzf1_29 X1098 f5 (by decide) h1100 ?_
      refine z_xP zt8 18 38 [some (.ref 5), some (.int 32)] [.int 1, .int x1095, .ref 5] rfl rfl ?_
      refine z_xI zt8 19 rfl rfl (fun (x1155 : Int32) (h1156 : x1155.toInt = x1095.toInt + 1) => ?_) (z_pAdd rfl rfl (by omega) (by omega))
      refine z_xpf zt8 20 rfl zo8 zzf1_29 X1098 f5 (by decide) (by decide) ⟨by omega, by omega⟩ rfl (by decide) zw1_2 (fun M1157 X1158 e1159 h1160 => ?_)
      refine z_xP zt8 21 53 [some (.ref 5), some (.int 32)] [] rfl rfl ?_
      refine z_xrv zt8 25 rfl zzr8 ?_
      show z_ev (d + 32) 11 94 [some (.ref 5)] [] M1157 _
      refine z_xP zt11 35 95 [some (.ref 5)] [.ref 5] rfl rfl ?_
      refine z_xgX (b := 8) zt11 36 rfl zo11 zzf1_18 X1158 f5 (by decide) (by decide) rfl ?_
      refine z_xP zt11 37 99 [some (.ref 5)] [.ref 5, .ref 8] rfl rfl ?_
      have h1161 := (e1159.f f5 (by decide) (e1099.f f5 (by decide) h1071))
      refine z_xgv zt11 38 rfl zo11 zzf1_38 X1158 f5 (by decide) h1161 ?_
      refine z_xP zt11 39 103 [some (.ref 5)] [.ref 5, .int x1072, .ref 8] rfl rfl ?_
      refine z_xgv zt11 40 rfl zo11 zzf1_29 X1158 f5 (by decide) h1160 ?_
      have f8 : T[8]? = some (.inr (8, 0, 8, 0, 160)) := X1158.1.k rfl (by decide)
      refine z_xis zt11 41 rfl X1158 f8 (by decide) (by decide) (by omega) (by omega) (by omega) (by omega) (by decide) (fun M1162 X1163 e1164 h1165 => ?_)
      refine z_xP zt11 42 109 [some (.ref 5)] [.ref 5, .ref 5] rfl rfl ?_
      have h1166 := (e1164.f f5 (by decide) h1161)
      refine z_xgv zt11 43 rfl zo11 zzf1_38 X1163 f5 (by decide) h1166 ?_
      refine z_xP zt11 44 113 [some (.ref 5)] [.int 1, .int x1072, .ref 5] rfl rfl ?_
      refine z_xI zt11 45 rfl rfl (fun (x1167 : Int32) (h1168 : x1167.toInt = x1072.toInt + 1) => ?_) (z_pAdd rfl rfl (by omega) (by omega))
      refine z_xpf zt11 46 rfl zo11 zzf1_38 X1163 f5 (by decide) (by decide) ⟨by omega, by omega⟩ rfl (by decide) zw1_7 (fun M1169 X1170 e1171 h1172 => ?_)
      refine z_xP zt11 47 119 [some (.ref 5)] [.int 0, .ref 5] rfl rfl ?_
      refine z_xcV (vs := [.ref 5, .int 0]) (r := []) (L2 := [some (.ref 5), some (.int 0), none, none, none, none, none]) zt11 48 rfl zo11 zzcV1_77 (Or.inl rfl) rfl X1170 f5 rfl rfl rfl (Nat.le_of_ble_eq_true rfl) zzm15 (Nat.le_of_ble_eq_true rfl) rfl ?_
      have q0 : ((0 : Int32)).toInt = 0 := rfl
      have q0 : ((0 : Int32)).toInt = 0 := rfl
      refine zC15 X1170.1 (by decide) (fun y1175 M1173 X1174  => ?_)
      have X1176 := X1170.go X1174 (z_sb (by decide))
      show z_ev (d + 32) 11 122 [some (.ref 5)] [.long y1175] M1173 _
      refine z_xP zt11 49 130 [some (.ref 5)] [] rfl rfl ?_
      exact z_xrv zt11 52 rfl zzr11 (kk M1173 X1176)
    refine z_xP zt12 15 32 [some (.ref 5), some (.int 116)] [.int 0] rfl rfl ?_
    refine z_xrz zt12 16 rfl zzr12 (by decide) (by decide) ?_
    show z_ev (d + 32) 11 85 [some (.ref 5)] [.int 0] M30 _
    refine z_xZ zt11 32 rfl rfl (fun (h1178 : (0 : Int) = 0) => ?_) (fun (h1178 : (0 : Int) ≠ 0) => absurd h1178 (by omega))
    refine z_xP zt11 50 127 [some (.ref 5)] [.ref 5] rfl rfl ?_
    refine z_xcV (vs := [.ref 5]) (r := []) (L2 := [some (.ref 5)]) zt11 51 rfl zo11 zzcV1_66 (Or.inl rfl) rfl X31 f5 rfl rfl rfl (Nat.le_of_ble_eq_true rfl) zzm10 (Nat.le_of_ble_eq_true rfl) rfl ?_
    refine z_xP zt10 0 1 [some (.ref 5)] [.ref 5] rfl rfl ?_
    refine z_xgv zt10 1 rfl zo10 zzf1_32 X31 f5 (by decide) h414 ?_
    refine z_xZ zt10 2 rfl rfl (fun (h1179 : 0 ≤ x2.toInt) => absurd h1179 (by omega)) (fun (h1179 : x2.toInt < 0) => ?_)
    refine z_xP zt10 3 9 [some (.ref 5)] [.ref 5, .ref 5] rfl rfl ?_
    refine z_xgv zt10 4 rfl zo10 zzf1_29 X31 f5 (by decide) h33 ?_
    refine z_xpf zt10 5 rfl zo10 zzf1_32 X31 f5 (by decide) (by decide) ⟨Int32.le_toInt _, Int32.toInt_le _⟩ rfl (by decide) zw1_3 (fun M1180 X1181 e1182 h1183 => ?_)
    refine z_xrv zt10 6 rfl zzr10 ?_
    show z_ev (d + 32) 11 130 [some (.ref 5)] [] M1180 _
    exact z_xrv zt11 52 rfl zzr11 (kk M1180 X1181)
  refine z_xP zt12 15 32 [some (.ref 5), some (.int 59)] [.int 0] rfl rfl ?_
  refine z_xrz zt12 16 rfl zzr12 (by decide) (by decide) ?_
  show z_ev (d + 32) 11 6 [some (.ref 5)] [.int 0] M0 _
  refine z_xZ zt11 2 rfl rfl (fun (h1184 : (0 : Int) ≠ 0) => absurd h1184 (by omega)) (fun (h1184 : (0 : Int) = 0) => ?_)
  refine z_xP zt11 3 10 [some (.ref 5)] [.ref 5] rfl rfl ?_
  refine z_xcV (vs := [.ref 5]) (r := []) (L2 := [some (.ref 5)]) zt11 4 rfl zo11 zzcV1_66 (Or.inl rfl) rfl X f5 rfl rfl rfl (Nat.le_of_ble_eq_true rfl) zzm10 (Nat.le_of_ble_eq_true rfl) rfl ?_
  refine z_xP zt10 0 1 [some (.ref 5)] [.ref 5] rfl rfl ?_
  refine z_xgv zt10 1 rfl zo10 zzf1_32 X f5 (by decide) h1 ?_
  refine z_xZ zt10 2 rfl rfl (fun (h1185 : 0 ≤ x2.toInt) => absurd h1185 (by omega)) (fun (h1185 : x2.toInt < 0) => ?_)
  refine z_xP zt10 3 9 [some (.ref 5)] [.ref 5, .ref 5] rfl rfl ?_
  refine z_xgv zt10 4 rfl zo10 zzf1_29 X f5 (by decide) h8 ?_
  refine z_xpf zt10 5 rfl zo10 zzf1_32 X f5 (by decide) (by decide) ⟨Int32.le_toInt _, Int32.toInt_le _⟩ rfl (by decide) zw1_3 (fun M1186 X1187 e1188 h1189 => ?_)
  refine z_xrv zt10 6 rfl zzr10 ?_
  show z_ev (d + 32) 11 13 [some (.ref 5)] [] M1186 _
  refine z_xP zt11 5 130 [some (.ref 5)] [] rfl rfl ?_
  exact z_xrv zt11 52 rfl zzr11 (kk M1186 X1187)
