/-! contracts of the methods (printed by wip/gen/vparts.py) -/
def zw4 : List Nat := [6, 1101]
def zw3 : List Nat := [6, 1101]
theorem zB7 {T : List zK} {d : Nat} {K : Option Value → zH → Prop} {a0 : Nat} {rr : Nat} {len : Nat} {lo : Int} {hi : Int} {p1 : Int32} {M0 : zH} (r0 : rr ≠ 99 ∧ 4 ≤ a0) (k0 : T[a0]? = some (.inr (rr, 0, len, lo, hi))) (hv : lo ≤ p1.toInt ∧ p1.toInt ≤ hi) (hl : len < 2147483648) (kk : ∀ (M1 : zH), z_X T [rr] M0 M1 → K none M1) : ∀ n : Nat, (∀ (M : zH) (b2 : Int32) (b3 : Int32), z_X T [rr] M0 M → 0 ≤ b2.toInt ∧ b2.toInt ≤ 2147483647 → 0 ≤ b3.toInt ∧ b3.toInt ≤ 2147483647 → b3.toInt = (len : Int) → ((0) * 2 + 0) * 2147483648 + (2147483647 - b2.toInt) < (n : Int) → z_ev d 7 5 [some (.ref a0), some (.int p1), some (.int b2), some (.int b3)] [] M K) := by
  intro n
  induction n with
  | zero => exact by intros; exfalso; omega
  | succ n ih =>
    intro M b2 b3 X hh0 hh1 hh2 hE
    refine z_xP zt7 3 7 [some (.ref a0), some (.int p1), some (.int b2), some (.int b3)] [.int b3, .int b2] rfl rfl ?_
    have h1 := z_b32 b2
    have h2 := z_b32 b3
    refine z_xJ zt7 4 rfl rfl (fun (h3 : b3.toInt ≤ b2.toInt) => ?_) (fun (h3 : b2.toInt < b3.toInt) => ?_)
    · skip
      exact z_xrv zt7 9 rfl zzr7 (kk M X)
    refine z_xP zt7 5 13 [some (.ref a0), some (.int p1), some (.int b2), some (.int b3)] [.int p1, .int b2, .ref a0] rfl rfl ?_
    refine z_xis zt7 6 rfl X k0 r0.1 r0.2 (by omega) (by omega) (by omega) (by omega) (List.mem_singleton.mpr rfl) (fun M4 X5 e6 h7 => ?_)
    refine z_xN zt7 7 rfl rfl (fun (x8 : Int32) (h9 : x8.toInt = b2.toInt + 1) => ?_) (z_pAdd rfl rfl (by omega) (by omega))
    show z_ev d 7 17 [some (.ref a0), some (.int p1), some (.int x8), some (.int b3)] [] M4 _
    refine z_xP zt7 8 5 [some (.ref a0), some (.int p1), some (.int x8), some (.int b3)] [] rfl rfl ?_
    have h10 := z_b32 x8
    exact ih M4 x8 b3 X5 ⟨by omega, by omega⟩ ⟨by omega, by omega⟩ (by omega) (by omega)
theorem zC7 {T : List zK} {d : Nat} {K : Option Value → zH → Prop} {a0 : Nat} {rr : Nat} {len : Nat} {lo : Int} {hi : Int} {p1 : Int32} {M0 : zH} (hW : z_W M0 T) (r0 : rr ≠ 99 ∧ 4 ≤ a0) (k0 : T[a0]? = some (.inr (rr, 0, len, lo, hi))) (hv : lo ≤ p1.toInt ∧ p1.toInt ≤ hi) (hl : len < 2147483648) (kk : ∀ (M1 : zH), z_X T [rr] M0 M1 → K none M1) : z_ev d 7 0 [some (.ref a0), some (.int p1), none, none] [] M0 K := by
  have X : z_X T [rr] M0 M0 := .refl hW
  refine z_xP zt7 0 3 [some (.ref a0), some (.int p1), some (.int 0), none] [.ref a0] rfl rfl ?_
  refine z_xln zt7 1 rfl X k0 r0.1 (by omega) (fun (x1 : Int32) (h2 : x1.toInt = ((len : Nat) : Int)) => ?_)
  refine z_xP zt7 2 5 [some (.ref a0), some (.int p1), some (.int 0), some (.int x1)] [] rfl rfl ?_
  have q0 : ((0 : Int32)).toInt = 0 := rfl
  have h3 := z_b32 x1
  exact (zB7 r0 k0 hv hl kk 4294967296) M0 (0) x1 X (by decide) ⟨by omega, by omega⟩ (by omega) (by omega)
def zw9 : List Nat := [7, 1102, 1103, 1104]
def zw13 : List Nat := [1102, 1103]
theorem zB20 {T : List zK} {d : Nat} {K : Option Value → zH → Prop} {a0 : Nat} {rr : Nat} {len : Nat} {p1 : Int32} {p2 : Int32} {p3 : Int64} {M0 : zH} (r0 : rr ≠ 99 ∧ 4 ≤ a0) (k0 : T[a0]? = some (.inr (rr, 1, len, 0, 0))) (u1 : 0 ≤ p1.toInt ∧ p1.toInt ≤ 360) (u2 : 0 ≤ p2.toInt ∧ p2.toInt ≤ 360) (hl : len < 2147483648) (hb : p1.toInt ≤ p2.toInt ∧ p2.toInt ≤ (len : Int)) (kk : ∀ (M1 : zH), z_X T [rr] M0 M1 → K none M1) : ∀ n : Nat, (∀ (M : zH) (b5 : Int32), z_X T [rr] M0 M → 0 ≤ b5.toInt ∧ b5.toInt ≤ 360 → ((0) * 2 + 0) * 361 + (360 - b5.toInt) < (n : Int) → z_ev (d + 1) 20 10 [some (.ref a0), some (.int p1), some (.int p2), some (.long p3), none, some (.int b5)] [] M K) := by
  intro n
  induction n with
  | zero => exact by intros; exfalso; omega
  | succ n ih =>
    intro M b5 X hh0 hE
    refine z_xP zt20 5 13 [some (.ref a0), some (.int p1), some (.int p2), some (.long p3), none, some (.int b5)] [.int p2, .int b5] rfl rfl ?_
    refine z_xJ zt20 6 rfl rfl (fun (h1 : p2.toInt ≤ b5.toInt) => ?_) (fun (h1 : b5.toInt < p2.toInt) => ?_)
    · skip
      exact z_xrv zt20 11 rfl zzr20 (kk M X)
    refine z_xP zt20 7 20 [some (.ref a0), some (.int p1), some (.int p2), some (.long p3), none, some (.int b5)] [.long p3, .int b5, .ref a0] rfl rfl ?_
    refine z_xls zt20 8 rfl X k0 r0.1 r0.2 (by omega) (by omega) (List.mem_singleton.mpr rfl) (fun M2 X3 e4 => ?_)
    refine z_xN zt20 9 rfl rfl (fun (x5 : Int32) (h6 : x5.toInt = b5.toInt + 1) => ?_) (z_pAdd rfl rfl (by omega) (by omega))
    show z_ev (d + 1) 20 24 [some (.ref a0), some (.int p1), some (.int p2), some (.long p3), none, some (.int x5)] [] M2 _
    refine z_xP zt20 10 10 [some (.ref a0), some (.int p1), some (.int p2), some (.long p3), none, some (.int x5)] [] rfl rfl ?_
    exact ih M2 x5 X3 ⟨by omega, by omega⟩ (by omega)
theorem zC20 {T : List zK} {d : Nat} {K : Option Value → zH → Prop} {a0 : Nat} {rr : Nat} {len : Nat} {p1 : Int32} {p2 : Int32} {p3 : Int64} {M0 : zH} (hW : z_W M0 T) (r0 : rr ≠ 99 ∧ 4 ≤ a0) (k0 : T[a0]? = some (.inr (rr, 1, len, 0, 0))) (u1 : 0 ≤ p1.toInt ∧ p1.toInt ≤ 360) (u2 : 0 ≤ p2.toInt ∧ p2.toInt ≤ 360) (hl : len < 2147483648) (hb : p1.toInt ≤ p2.toInt ∧ p2.toInt ≤ (len : Int)) (kk : ∀ (M1 : zH), z_X T [rr] M0 M1 → K none M1) : z_ev (d + 1) 20 0 [some (.ref a0), some (.int p1), some (.int p2), some (.long p3), none, none] [] M0 K := by
  have X : z_X T [rr] M0 M0 := .refl hW
  refine z_xP zt20 0 1 [some (.ref a0), some (.int p1), some (.int p2), some (.long p3), none, none] [.ref a0] rfl rfl ?_
  refine z_xln zt20 1 rfl X k0 r0.1 (by omega) (fun (x1 : Int32) (h2 : x1.toInt = ((len : Nat) : Int)) => ?_)
  refine z_xP zt20 2 4 [some (.ref a0), some (.int p1), some (.int p2), some (.long p3), none, none] [.int p2, .int p1, .int x1] rfl rfl ?_
  refine z_xcS (vs := [.int x1, .int p1, .int p2]) (r := []) (L2 := [some (.int x1), some (.int p1), some (.int p2)]) zt20 3 rfl zo20 zzcS14_13 (Or.inl rfl) (Nat.le_of_ble_eq_true rfl) rfl rfl (Nat.le_of_ble_eq_true rfl) zzm21 (Nat.le_of_ble_eq_true rfl) rfl ?_
  refine z_xP zt21 0 2 [some (.int x1), some (.int p1), some (.int p2)] [.int p2, .int p1] rfl rfl ?_
  refine z_xJ zt21 1 rfl rfl (fun (h3 : p1.toInt ≤ p2.toInt) => ?_) (fun (h3 : p2.toInt < p1.toInt) => ?_)
  · skip
    refine z_xP zt21 20 47 [some (.int x1), some (.int p1), some (.int p2)] [.int p1] rfl rfl ?_
    refine z_xZ zt21 21 rfl rfl (fun (h4 : 0 ≤ p1.toInt) => ?_) (fun (h4 : p1.toInt < 0) => absurd h4 (by omega))
    refine z_xP zt21 26 61 [some (.int x1), some (.int p1), some (.int p2)] [.int x1, .int p2] rfl rfl ?_
    have h5 := z_b32 x1
    refine z_xJ zt21 27 rfl rfl (fun (h6 : p2.toInt ≤ x1.toInt) => ?_) (fun (h6 : x1.toInt < p2.toInt) => ?_)
    · skip
      refine z_xrv zt21 32 rfl zzr21 ?_
      show z_ev (d + 1) 20 7 [some (.ref a0), some (.int p1), some (.int p2), some (.long p3), none, none] [] M0 _
      refine z_xP zt20 4 10 [some (.ref a0), some (.int p1), some (.int p2), some (.long p3), none, some (.int p1)] [] rfl rfl ?_
      exact (zB20 r0 k0 u1 u2 hl hb kk 722) M0 p1 X ⟨by omega, by omega⟩ (by omega)
    exfalso; omega
  exfalso; omega
def zw15 : List Nat := [9, 1102, 1103]
def zw16 : List Nat := [9, 1102, 1103]
def zw17 : List Nat := [9, 1102, 1103]
def zw19 : List Nat := [9, 1102, 1103]
def zw11 : List Nat := [8, 9, 1102, 1103, 1105, 1106, 1107]
