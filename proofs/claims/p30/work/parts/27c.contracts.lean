/-! contracts of the methods (printed by wip/gen/vparts.py) -/
def zw99 : List Nat := [206, 207]
theorem zC99 {T : List zK} {d : Nat} {K : Option Value → zH → Prop} {a0 : Nat} {a1 : Nat} {q1 : Nat} {t1 : Nat} {m1 : Nat} {J1 : Nat} {M0 : zH} (hW : z_W M0 T) (k0 : T[a0]? = some (.inl (8, 0, 0, 0, 0))) (k1 : T[a1]? = some (.inl (3, q1, t1, m1, J1))) (kk : ∀ (x : Int32) (M1 : zH), z_X T zw99 M0 M1 → K (some (.int x)) M1) : z_ev (d + 3) 99 0 [some (.ref a0), some (.ref a1)] [] M0 K := by
  have X : z_X T zw99 M0 M0 := .refl hW
  have g1 := X.1.p3 k1
  refine z_xP zt99 0 1 [some (.ref a0), some (.ref a1)] [.ref a1] rfl rfl ?_
  refine z_xgR (κ := .inl (2, q1, t1, m1, 0)) zt99 1 rfl zo99 zzf8_7 X k1 (by decide) (by decide) rfl (fun (a2 : Nat) h1 k3 => ?_)
  have g4 := X.1.p2 k3
  refine z_xP zt99 2 6 [some (.ref a0), some (.ref a1)] [.int 0, .ref a1, .ref a2] rfl rfl ?_
  refine z_xcV (vs := [.ref a1, .int 0]) (r := [.ref a2]) (L2 := [some (.ref a1), some (.int 0), none, none, none, none, none, none, none, none]) zt99 3 rfl zo99 zzcV8_13 (Or.inl rfl) rfl X k1 rfl rfl rfl (Nat.le_of_ble_eq_true rfl) zzm96 (Nat.le_of_ble_eq_true rfl) rfl ?_
  have q0 : ((0 : Int32)).toInt = 0 := rfl
  have q0 : ((0 : Int32)).toInt = 0 := rfl
  refine zC96 X.1 k1 (by decide) (fun x7 M5 X6 h8 h9 => ?_)
  have X10 := X.go X6 (z_sb (by decide))
  show z_ev (d + 3) 99 9 [some (.ref a0), some (.ref a1)] [.int x7, .ref a2] M5 _
  refine z_xP zt99 4 10 [some (.ref a0), some (.ref a1)] [.int 0, .int x7, .ref a2] rfl rfl ?_
  have q0 : ((0 : Int32)).toInt = 0 := rfl
  refine z_xmx zt99 5 rfl zo99 zzcS8_17 (Nat.le_of_ble_eq_true rfl) (fun (x12 : Int32) h13 => ?_)
  refine z_xcV (vs := [.ref a2, .int x12]) (r := []) (L2 := [some (.ref a2), some (.int x12)]) zt99 6 rfl zo99 zzcV8_23 (Or.inl rfl) rfl X10 k3 rfl rfl rfl (Nat.le_of_ble_eq_true rfl) zzm39 (Nat.le_of_ble_eq_true rfl) rfl ?_
  refine z_xP zt39 0 2 [some (.ref a2), some (.int x12)] [.ref a2, .int x12] rfl rfl ?_
  refine z_xgI zt39 1 rfl zo39 zzf2_32 X10 k3 (by decide) (by decide) rfl (fun (x15 : Int32) h14 (h16 : ((z_po q1 : Nat) : Int) - 1 ≤ x15.toInt) (h17 : x15.toInt ≤ ((z_po q1 : Nat) : Int) - 1) => ?_)
  refine z_xP zt39 2 7 [some (.ref a2), some (.int x12)] [.int (-1), .int x12, .int x15, .int x12] rfl rfl ?_
  refine z_xI zt39 3 rfl rfl (P := fun _ => True) (fun (x18 : Int32) _ => ?_) trivial
  refine z_xI zt39 4 rfl rfl (fun (x20 : Int32) (h21 : 0 ≤ x20.toInt ∧ x20.toInt ≤ x15.toInt) => ?_) (z_pAndL rfl (by omega))
  refine z_xP zt39 5 11 [some (.ref a2), some (.int x12)] [.int 10, .int x20, .int x12] rfl rfl ?_
  refine z_xI zt39 6 rfl rfl (fun (x22 : Int32) (h23 : x22.toInt = x20.toInt * 1024) => ?_) (z_pShl 10 rfl rfl (by decide) (by decide) (by omega) rfl (by omega))
  refine z_xI zt39 7 rfl rfl (fun (x24 : Int32) (h25 : 0 ≤ x24.toInt ∧ x24.toInt < 1048576 ∧ x12.toInt ≤ x24.toInt ∧ x22.toInt ≤ x24.toInt) => ?_) (z_pOr 20 rfl rfl (by omega) (by omega) (by decide) (by omega) (by omega) (by decide))
  refine z_xri zt39 8 rfl zzr39 ?_
  show z_ev (d + 3) 99 16 [some (.ref a0), some (.ref a1)] [.int x24] M5 _
  exact z_xri zt99 7 rfl zzr99 (kk x24 M5 X10)
def zw100 : List Nat := []
theorem zC100 {T : List zK} {d : Nat} {K : Option Value → zH → Prop} {a0 : Nat} {a1 : Nat} {q1 : Nat} {t1 : Nat} {m1 : Nat} {J1 : Nat} {M0 : zH} (hW : z_W M0 T) (k0 : T[a0]? = some (.inl (6, 0, 0, 0, 0))) (k1 : T[a1]? = some (.inl (3, q1, t1, m1, J1))) (kk : ∀ (x : Int32) (M1 : zH), z_X T zw100 M0 M1 → K (some (.int x)) M1) : z_ev (d + 3) 100 0 [some (.ref a0), some (.ref a1), none, none, none] [] M0 K := by
  have X : z_X T zw100 M0 M0 := .refl hW
  have g1 := X.1.p3 k1
  refine z_xP zt100 0 1 [some (.ref a0), some (.ref a1), none, none, none] [.ref a1] rfl rfl ?_
  refine z_xgR (κ := .inl (2, q1, t1, m1, 0)) zt100 1 rfl zo100 zzf6_7 X k1 (by decide) (by decide) rfl (fun (a2 : Nat) h1 k3 => ?_)
  have g4 := X.1.p2 k3
  refine z_xgI zt100 2 rfl zo100 zzf6_13 X k3 (by decide) (by decide) rfl (fun (x6 : Int32) h5 (h7 : (-2147483648) ≤ x6.toInt) (h8 : x6.toInt ≤ 2147483647) => ?_)
  refine z_xcS (vs := [.int x6]) (r := []) (L2 := [some (.int x6)]) zt100 3 rfl zo100 zzcS6_19 (Or.inl rfl) (Nat.le_of_ble_eq_true rfl) rfl rfl (Nat.le_of_ble_eq_true rfl) zzm94 (Nat.le_of_ble_eq_true rfl) rfl ?_
  refine z_xP zt94 0 4 [some (.int x6)] [.int 10, .int x6, .int x6] rfl rfl ?_
  refine z_xI zt94 1 rfl rfl (P := fun _ => True) (fun (x9 : Int32) _ => ?_) trivial
  refine z_xI zt94 2 rfl rfl (P := fun _ => True) (fun (x11 : Int32) _ => ?_) trivial
  refine z_xri zt94 3 rfl zzr94 ?_
  show z_ev (d + 3) 100 10 [some (.ref a0), some (.ref a1), none, none, none] [.int x11] M0 _
  refine z_xP zt100 4 12 [some (.ref a0), some (.ref a1), some (.int x11), none, none] [.ref a1] rfl rfl ?_
  refine z_xcV (vs := [.ref a1]) (r := []) (L2 := [some (.ref a1), none, none]) zt100 5 rfl zo100 zzcV6_23 (Or.inl rfl) rfl X k1 rfl rfl rfl (Nat.le_of_ble_eq_true rfl) zzm95 (Nat.le_of_ble_eq_true rfl) rfl ?_
  refine zC95 X.1 k1 (fun x15 M13 X14 h16 h17 => ?_)
  have X18 := X.go X14 (z_sb (by decide))
  show z_ev (d + 3) 100 15 [some (.ref a0), some (.ref a1), some (.int x11), none, none] [.int x15] M13 _
  refine z_xP zt100 6 16 [some (.ref a0), some (.ref a1), some (.int x11), none, none] [.int x11, .int x15] rfl rfl ?_
  refine z_xI zt100 7 rfl rfl (fun (x20 : Int32) (h21 : 0 ≤ x20.toInt ∧ x20.toInt ≤ x15.toInt) => ?_) (z_pAndL rfl (by omega))
  refine z_xP zt100 8 19 [some (.ref a0), some (.ref a1), some (.int x11), some (.int x20), none] [.ref a1] rfl rfl ?_
  have h22 := (X14.2.f k1 (by decide) h1)
  refine z_xgv zt100 9 rfl zo100 zzf6_7 X18 k1 (by decide) h22 ?_
  refine z_xP zt100 10 23 [some (.ref a0), some (.ref a1), some (.int x11), some (.int x20), none] [.int x20, .ref a2] rfl rfl ?_
  refine z_xcV (vs := [.ref a2, .int x20]) (r := []) (L2 := [some (.ref a2), some (.int x20), none, none, none, none, none, none, none, none]) zt100 11 rfl zo100 zzcV6_27 (Or.inl rfl) rfl X18 k3 rfl rfl rfl (Nat.le_of_ble_eq_true rfl) zzm49 (Nat.le_of_ble_eq_true rfl) rfl ?_
  refine zC49 X18.1 k3 (fun x25 M23 X24 h26 h27 => ?_)
  have X28 := X18.go X24 (z_sb (by decide))
  show z_ev (d + 3) 100 26 [some (.ref a0), some (.ref a1), some (.int x11), some (.int x20), none] [.int x25] M23 _
  refine z_xP zt100 12 30 [some (.ref a0), some (.ref a1), some (.int x11), some (.int x20), some (.int x25)] [.int x25] rfl rfl ?_
  refine z_xZ zt100 13 rfl rfl (fun (h30 : 0 ≤ x25.toInt) => ?_) (fun (h30 : x25.toInt < 0) => ?_)
  · skip
    refine z_xP zt100 15 42 [some (.ref a0), some (.ref a1), some (.int x11), some (.int x20), some (.int x25)] [.int (-1), .int x11, .int x25, .int x20] rfl rfl ?_
    refine z_xI zt100 16 rfl rfl (P := fun _ => True) (fun (x31 : Int32) _ => ?_) trivial
    refine z_xI zt100 17 rfl rfl (fun (x33 : Int32) (h34 : 0 ≤ x33.toInt ∧ x33.toInt ≤ x25.toInt) => ?_) (z_pAndL rfl (by omega))
    refine z_xI zt100 18 rfl rfl (fun (x35 : Int32) (h36 : 0 ≤ x35.toInt ∧ x35.toInt < 1048576 ∧ x20.toInt ≤ x35.toInt ∧ x33.toInt ≤ x35.toInt) => ?_) (z_pOr 20 rfl rfl (by omega) (by omega) (by decide) (by omega) (by omega) (by decide))
    exact z_xri zt100 19 rfl zzr100 (kk x35 M23 X28)
  refine z_xP zt100 14 45 [some (.ref a0), some (.ref a1), some (.int x11), some (.int x20), some (.int x25)] [.int x20] rfl rfl ?_
  exact z_xri zt100 19 rfl zzr100 (kk x20 M23 X28)
def zwVdecide : List Nat := [206, 207, 208, 209]
theorem zVdecide {j pc : Nat} {segs : List (List (Nat × Instr × Nat))} {idx : Nat} {d : Nat} {T : List zK} {rs : List Nat} {M0 M : zH} {L : zL} {r : zS} {K : Option Value → zH → Prop} {w c oc : Nat} {b0 q0 t0 m0 J0 : Nat} (ht : z_dcs j segs = true) (n : Nat) (hk : segs[n]? = some [(pc, .invokevirtual idx, 3)]) (ho : z_oc j = oc) (hq : (z_find z_cV oc idx).map (·.1) = some (2, 1, [(4, 101), (10, 86), (7, 93), (5, 97), (11, 98), (8, 99), (6, 100), (9, 86)])) (hX : z_X T rs M0 M) (hw : T[w]? = some (.inl (c, 0, 0, 0, 0))) (hc : 4 ≤ c ∧ c ≤ 11) (hr : z_ws r ≤ 8) (hb0 : T[b0]? = some (.inl (3, q0, t0, m0, J0))) (kk : ∀ (x : Int32) (M1 : zH), z_X T zwVdecide M M1 → z_ev (d + 1 + 3) j (pc + 3) L (.int x :: r) M1 K) : z_ev (d + 1 + 3) j pc L (.ref b0 :: .ref w :: r) M K := by
  refine z_w8 (fun c => T[w]? = some (.inl (c, 0, 0, 0, 0)) → z_ev (d + 1 + 3) j pc L (.ref b0 :: .ref w :: r) M K) ?_ ?_ ?_ ?_ ?_ ?_ ?_ ?_ hc hw
  · intro hw
    refine z_xcV (vs := [.ref w, .ref b0]) (r := r) (L2 := [some (.ref w), some (.ref b0)]) ht n hk ho hq (Or.inr rfl) rfl hX hw rfl rfl rfl hr zzm101 (Nat.le_of_ble_eq_true rfl) rfl ?_
    refine zC101 hX.1 (by decide) hw hb0 (fun x M1 X1  => ?_)
    exact kk x M1 ((z_X.refl hX.1).go X1 (z_sb (by decide)))
  · intro hw
    refine z_xcV (vs := [.ref w, .ref b0]) (r := r) (L2 := [some (.ref w), some (.ref b0)]) ht n hk ho hq (Or.inr rfl) rfl hX hw rfl rfl rfl hr zzm97 (Nat.le_of_ble_eq_true rfl) rfl ?_
    refine zC97 hX.1 (by decide) hw hb0 (fun x M1 X1  => ?_)
    exact kk x M1 ((z_X.refl hX.1).go X1 (z_sb (by decide)))
  · intro hw
    refine z_xcV (vs := [.ref w, .ref b0]) (r := r) (L2 := [some (.ref w), some (.ref b0), none, none, none]) ht n hk ho hq (Or.inr rfl) rfl hX hw rfl rfl rfl hr zzm100 (Nat.le_of_ble_eq_true rfl) rfl ?_
    refine zC100 hX.1 hw hb0 (fun x M1 X1  => ?_)
    exact kk x M1 ((z_X.refl hX.1).go X1 (z_sb (by decide)))
  · intro hw
    refine z_xcV (vs := [.ref w, .ref b0]) (r := r) (L2 := [some (.ref w), some (.ref b0), none, none, none]) ht n hk ho hq (Or.inr rfl) rfl hX hw rfl rfl rfl hr zzm93 (Nat.le_of_ble_eq_true rfl) rfl ?_
    refine zC93 hX.1 hw hb0 (fun x M1 X1  => ?_)
    exact kk x M1 ((z_X.refl hX.1).go X1 (z_sb (by decide)))
  · intro hw
    refine z_xcV (vs := [.ref w, .ref b0]) (r := r) (L2 := [some (.ref w), some (.ref b0)]) ht n hk ho hq (Or.inr rfl) rfl hX hw rfl rfl rfl hr zzm99 (Nat.le_of_ble_eq_true rfl) rfl ?_
    refine zC99 hX.1 hw hb0 (fun x M1 X1  => ?_)
    exact kk x M1 ((z_X.refl hX.1).go X1 (z_sb (by decide)))
  · intro hw
    refine z_xcV (vs := [.ref w, .ref b0]) (r := r) (L2 := [some (.ref w), some (.ref b0)]) ht n hk ho hq (Or.inr rfl) rfl hX hw rfl rfl rfl hr zzm86 (Nat.le_of_ble_eq_true rfl) rfl ?_
    refine zC86 hX.1 (by decide) hw hb0 (fun x M1 X1  => ?_)
    exact kk x M1 ((z_X.refl hX.1).go X1 (z_sb (by decide)))
  · intro hw
    refine z_xcV (vs := [.ref w, .ref b0]) (r := r) (L2 := [some (.ref w), some (.ref b0)]) ht n hk ho hq (Or.inr rfl) rfl hX hw rfl rfl rfl hr zzm86 (Nat.le_of_ble_eq_true rfl) rfl ?_
    refine zC86 hX.1 (by decide) hw hb0 (fun x M1 X1  => ?_)
    exact kk x M1 ((z_X.refl hX.1).go X1 (z_sb (by decide)))
  · intro hw
    refine z_xcV (vs := [.ref w, .ref b0]) (r := r) (L2 := [some (.ref w), some (.ref b0), none, none]) ht n hk ho hq (Or.inr rfl) rfl hX hw rfl rfl rfl hr zzm98 (Nat.le_of_ble_eq_true rfl) rfl ?_
    refine zC98 hX.1 hw hb0 (fun x M1 X1  => ?_)
    exact kk x M1 ((z_X.refl hX.1).go X1 (z_sb (by decide)))
def zw85 : List Nat := [206, 207, 208, 209]
theorem zC85 {T : List zK} {d : Nat} {K : Option Value → zH → Prop} {p1 : Int32} {p2 : Int32} {p3 : Int32} {M0 : zH} (hW : z_W M0 T)  (hG : z_GG T M0) (kk : ∀ (x : Int32) (M1 : zH), z_X T zw85 M0 M1 → (-2097152) ≤ x.toInt → x.toInt ≤ 2097151 → K (some (.int x)) M1) : z_ev (d + 4) 85 0 [some (.ref 4), some (.int p1), some (.int p2), some (.int p3), none, none, none] [] M0 K := by
  have X : z_X T zw85 M0 M0 := .refl hW
  refine z_xP zt85 0 2 [some (.ref 4), some (.int p1), some (.int p2), some (.int p3), none, none, none] [.int p1, .ref 4] rfl rfl ?_
  have f4 : T[4]? = some (.inl (0, 0, 0, 0, 0)) := X.1.k rfl (by decide)
  refine z_xcV (vs := [.ref 4, .int p1]) (r := []) (L2 := [some (.ref 4), some (.int p1)]) zt85 1 rfl zo85 zzcV0_221 (Or.inl rfl) rfl X f4 rfl rfl rfl (Nat.le_of_ble_eq_true rfl) zzm84 (Nat.le_of_ble_eq_true rfl) rfl ?_
  refine z_xP zt84 0 1 [some (.ref 4), some (.int p1)] [.int p1] rfl rfl ?_
  refine z_xZ zt84 1 rfl rfl (fun (h1 : p1.toInt < 0) => ?_) (fun (h1 : 0 ≤ p1.toInt) => ?_)
  · skip
    refine z_xP zt84 5 22 [some (.ref 4), some (.int p1)] [.null] rfl rfl ?_
    refine z_xrn zt84 10 rfl zzr84 ?_
    show z_ev (d + 4) 85 5 [some (.ref 4), some (.int p1), some (.int p2), some (.int p3), none, none, none] [.null] M0 _
    refine z_xP zt85 2 9 [some (.ref 4), some (.int p1), some (.int p2), some (.int p3), some (.null), none, none] [.int p2, .ref 4] rfl rfl ?_
    refine z_xcV (vs := [.ref 4, .int p2]) (r := []) (L2 := [some (.ref 4), some (.int p2)]) zt85 3 rfl zo85 zzcV0_85 (Or.inl rfl) rfl X f4 rfl rfl rfl (Nat.le_of_ble_eq_true rfl) zzm35 (Nat.le_of_ble_eq_true rfl) rfl ?_
    refine z_xP zt35 0 1 [some (.ref 4), some (.int p2)] [.int p2] rfl rfl ?_
    refine z_xZ zt35 1 rfl rfl (fun (h2 : p2.toInt < 0) => ?_) (fun (h2 : 0 ≤ p2.toInt) => ?_)
    · skip
      refine z_xP zt35 5 22 [some (.ref 4), some (.int p2)] [.null] rfl rfl ?_
      refine z_xrn zt35 10 rfl zzr35 ?_
      show z_ev (d + 4) 85 12 [some (.ref 4), some (.int p1), some (.int p2), some (.int p3), some (.null), none, none] [.null] M0 _
      refine z_xP zt85 4 33 [some (.ref 4), some (.int p1), some (.int p2), some (.int p3), some (.null), some (.null), none] [] rfl rfl ?_
      refine z_xP zt85 10 34 [some (.ref 4), some (.int p1), some (.int p2), some (.int p3), some (.null), some (.null), none] [.int (-1)] rfl rfl ?_
      have qm1 : (((-1) : Int32)).toInt = (-1) := rfl
      exact z_xri zt85 11 rfl zzr85 (kk (-1) M0 X (by omega) (by omega))
    refine z_xP zt35 2 6 [some (.ref 4), some (.int p2)] [.ref 4, .int p2] rfl rfl ?_
    refine z_xgI zt35 3 rfl zo35 zzf0_59 X f4 (by decide) (by decide) rfl (fun (x4 : Int32) h3 (h5 : 0 ≤ x4.toInt) (h6 : x4.toInt ≤ 8) => ?_)
    have h7 := z_b32 p2
    refine z_xJ zt35 4 rfl rfl (fun (h8 : p2.toInt < x4.toInt) => ?_) (fun (h8 : x4.toInt ≤ p2.toInt) => ?_)
    · skip
      refine z_xP zt35 6 17 [some (.ref 4), some (.int p2)] [.ref 4] rfl rfl ?_
      refine z_xgX (b := 10) zt35 7 rfl zo35 zzf0_18 X f4 (by decide) (by decide) rfl ?_
      refine z_xP zt35 8 21 [some (.ref 4), some (.int p2)] [.int p2, .ref 10] rfl rfl ?_
      have f10 : T[10]? = some (.inr (10, 2, 8, 9, 0)) := X.1.k rfl (by decide)
      refine z_xal zt35 9 rfl X f10 (by decide) (by decide) (by decide) (by omega) (by omega) (fun (a9 : Nat) h10 h11 => ?_) (fun h12 => absurd h12 (z_Gs (hG.go X (by decide)).2.1 h3 (by omega) (by omega)))
      obtain ⟨q13, t14, m15, k16⟩ : ∃ q t m, T[a9]? = some (.inl (3, q, t, m, 9)) := h11
      have g17 := X.1.p3 k16
      refine z_xra zt35 10 rfl zzr35 ?_
      show z_ev (d + 4) 85 12 [some (.ref 4), some (.int p1), some (.int p2), some (.int p3), some (.null), none, none] [.ref a9] M0 _
      refine z_xP zt85 4 33 [some (.ref 4), some (.int p1), some (.int p2), some (.int p3), some (.null), some (.ref a9), none] [] rfl rfl ?_
      refine z_xP zt85 10 34 [some (.ref 4), some (.int p1), some (.int p2), some (.int p3), some (.null), some (.ref a9), none] [.int (-1)] rfl rfl ?_
      have qm1 : (((-1) : Int32)).toInt = (-1) := rfl
      exact z_xri zt85 11 rfl zzr85 (kk (-1) M0 X (by omega) (by omega))
    refine z_xP zt35 5 22 [some (.ref 4), some (.int p2)] [.null] rfl rfl ?_
    refine z_xrn zt35 10 rfl zzr35 ?_
    show z_ev (d + 4) 85 12 [some (.ref 4), some (.int p1), some (.int p2), some (.int p3), some (.null), none, none] [.null] M0 _
    refine z_xP zt85 4 33 [some (.ref 4), some (.int p1), some (.int p2), some (.int p3), some (.null), some (.null), none] [] rfl rfl ?_
    refine z_xP zt85 10 34 [some (.ref 4), some (.int p1), some (.int p2), some (.int p3), some (.null), some (.null), none] [.int (-1)] rfl rfl ?_
    have qm1 : (((-1) : Int32)).toInt = (-1) := rfl
    exact z_xri zt85 11 rfl zzr85 (kk (-1) M0 X (by omega) (by omega))
  refine z_xP zt84 2 6 [some (.ref 4), some (.int p1)] [.ref 4, .int p1] rfl rfl ?_
  refine z_xgI zt84 3 rfl zo84 zzf0_188 X f4 (by decide) (by decide) rfl (fun (x19 : Int32) h18 (h20 : 0 ≤ x19.toInt) (h21 : x19.toInt ≤ 20) => ?_)
  have h22 := z_b32 p1
  refine z_xJ zt84 4 rfl rfl (fun (h23 : p1.toInt < x19.toInt) => ?_) (fun (h23 : x19.toInt ≤ p1.toInt) => ?_)
  · skip
    refine z_xP zt84 6 17 [some (.ref 4), some (.int p1)] [.ref 4] rfl rfl ?_
    refine z_xgX (b := 12) zt84 7 rfl zo84 zzf0_27 X f4 (by decide) (by decide) rfl ?_
    refine z_xP zt84 8 21 [some (.ref 4), some (.int p1)] [.int p1, .ref 12] rfl rfl ?_
    have f12 : T[12]? = some (.inr (12, 3, 20, 0, 0)) := X.1.k rfl (by decide)
    refine z_xal zt84 9 rfl X f12 (by decide) (by decide) (by decide) (by omega) (by omega) (fun (a24 : Nat) h25 h26 => ?_) (fun h27 => absurd h27 (z_Gb (hG.go X (by decide)).2.1 h18 (by omega) (by omega)))
    obtain ⟨c28, w29l, w29u, k30⟩ : ∃ ci, 4 ≤ ci ∧ ci ≤ 11 ∧ T[a24]? = some (.inl (ci, 0, 0, 0, 0)) := h26
    have w29 := And.intro w29l w29u
    refine z_xra zt84 10 rfl zzr84 ?_
    show z_ev (d + 4) 85 5 [some (.ref 4), some (.int p1), some (.int p2), some (.int p3), none, none, none] [.ref a24] M0 _
    refine z_xP zt85 2 9 [some (.ref 4), some (.int p1), some (.int p2), some (.int p3), some (.ref a24), none, none] [.int p2, .ref 4] rfl rfl ?_
    refine z_xcV (vs := [.ref 4, .int p2]) (r := []) (L2 := [some (.ref 4), some (.int p2)]) zt85 3 rfl zo85 zzcV0_85 (Or.inl rfl) rfl X f4 rfl rfl rfl (Nat.le_of_ble_eq_true rfl) zzm35 (Nat.le_of_ble_eq_true rfl) rfl ?_
    refine z_xP zt35 0 1 [some (.ref 4), some (.int p2)] [.int p2] rfl rfl ?_
    refine z_xZ zt35 1 rfl rfl (fun (h31 : p2.toInt < 0) => ?_) (fun (h31 : 0 ≤ p2.toInt) => ?_)
    · skip
      refine z_xP zt35 5 22 [some (.ref 4), some (.int p2)] [.null] rfl rfl ?_
      refine z_xrn zt35 10 rfl zzr35 ?_
      show z_ev (d + 4) 85 12 [some (.ref 4), some (.int p1), some (.int p2), some (.int p3), some (.ref a24), none, none] [.null] M0 _
      refine z_xP zt85 4 19 [some (.ref 4), some (.int p1), some (.int p2), some (.int p3), some (.ref a24), some (.null), none] [] rfl rfl ?_
      refine z_xP zt85 5 33 [some (.ref 4), some (.int p1), some (.int p2), some (.int p3), some (.ref a24), some (.null), none] [] rfl rfl ?_
      refine z_xP zt85 10 34 [some (.ref 4), some (.int p1), some (.int p2), some (.int p3), some (.ref a24), some (.null), none] [.int (-1)] rfl rfl ?_
      have qm1 : (((-1) : Int32)).toInt = (-1) := rfl
      exact z_xri zt85 11 rfl zzr85 (kk (-1) M0 X (by omega) (by omega))
    refine z_xP zt35 2 6 [some (.ref 4), some (.int p2)] [.ref 4, .int p2] rfl rfl ?_
    refine z_xgI zt35 3 rfl zo35 zzf0_59 X f4 (by decide) (by decide) rfl (fun (x33 : Int32) h32 (h34 : 0 ≤ x33.toInt) (h35 : x33.toInt ≤ 8) => ?_)
    have h36 := z_b32 p2
    refine z_xJ zt35 4 rfl rfl (fun (h37 : p2.toInt < x33.toInt) => ?_) (fun (h37 : x33.toInt ≤ p2.toInt) => ?_)
    · skip
      refine z_xP zt35 6 17 [some (.ref 4), some (.int p2)] [.ref 4] rfl rfl ?_
      refine z_xgX (b := 10) zt35 7 rfl zo35 zzf0_18 X f4 (by decide) (by decide) rfl ?_
      refine z_xP zt35 8 21 [some (.ref 4), some (.int p2)] [.int p2, .ref 10] rfl rfl ?_
      have f10 : T[10]? = some (.inr (10, 2, 8, 9, 0)) := X.1.k rfl (by decide)
      refine z_xal zt35 9 rfl X f10 (by decide) (by decide) (by decide) (by omega) (by omega) (fun (a38 : Nat) h39 h40 => ?_) (fun h41 => absurd h41 (z_Gs (hG.go X (by decide)).2.1 h32 (by omega) (by omega)))
      obtain ⟨q42, t43, m44, k45⟩ : ∃ q t m, T[a38]? = some (.inl (3, q, t, m, 9)) := h40
      have g46 := X.1.p3 k45
      refine z_xra zt35 10 rfl zzr35 ?_
      show z_ev (d + 4) 85 12 [some (.ref 4), some (.int p1), some (.int p2), some (.int p3), some (.ref a24), none, none] [.ref a38] M0 _
      refine z_xP zt85 4 19 [some (.ref 4), some (.int p1), some (.int p2), some (.int p3), some (.ref a24), some (.ref a38), none] [] rfl rfl ?_
      refine z_xP zt85 5 24 [some (.ref 4), some (.int p1), some (.int p2), some (.int p3), some (.ref a24), some (.ref a38), none] [] rfl rfl ?_
      refine z_xP zt85 6 25 [some (.ref 4), some (.int p1), some (.int p2), some (.int p3), some (.ref a24), some (.ref a38), none] [.int p3] rfl rfl ?_
      refine z_xZ zt85 7 rfl rfl (fun (h47 : p3.toInt < 0) => ?_) (fun (h47 : 0 ≤ p3.toInt) => ?_)
      · skip
        refine z_xP zt85 10 34 [some (.ref 4), some (.int p1), some (.int p2), some (.int p3), some (.ref a24), some (.ref a38), none] [.int (-1)] rfl rfl ?_
        have qm1 : (((-1) : Int32)).toInt = (-1) := rfl
        exact z_xri zt85 11 rfl zzr85 (kk (-1) M0 X (by omega) (by omega))
      refine z_xP zt85 8 30 [some (.ref 4), some (.int p1), some (.int p2), some (.int p3), some (.ref a24), some (.ref a38), none] [.int 4, .int p3] rfl rfl ?_
      refine z_xJ zt85 9 rfl rfl (fun (h48 : p3.toInt ≤ 4) => ?_) (fun (h48 : 4 < p3.toInt) => ?_)
      · skip
        refine z_xP zt85 12 39 [some (.ref 4), some (.int p1), some (.int p2), some (.int p3), some (.ref a24), some (.ref a38), none] [.ref a38, .ref a24] rfl rfl ?_
        refine zVdecide zt85 13 rfl zo85 zzcV0_234 X k30 w29 (Nat.le_of_ble_eq_true rfl) k45 (fun x51 M49 X50  => ?_)
        have X52 := X.go X50 (z_sb (by decide))
        show z_ev (d + 4) 85 42 [some (.ref 4), some (.int p1), some (.int p2), some (.int p3), some (.ref a24), some (.ref a38), none] [.int x51] M49 _
        refine z_xP zt85 14 45 [some (.ref 4), some (.int p1), some (.int p2), some (.int p3), some (.ref a24), some (.ref a38), some (.int x51)] [.int p3] rfl rfl ?_
        by_cases h54 : p3.toInt = 0
        · refine z_xSC zt85 15 (z_sub (k := 0) h54 rfl) 76 rfl rfl ?_
          refine z_xP zt85 16 81 [some (.ref 4), some (.int p1), some (.int p2), some (.int p3), some (.ref a24), some (.ref a38), some (.int x51)] [.int 1023, .int x51] rfl rfl ?_
          refine z_xI zt85 17 rfl rfl (fun (x55 : Int32) (h56 : 0 ≤ x55.toInt ∧ x55.toInt ≤ 1023) => ?_) (z_pAnd rfl (by omega))
          exact z_xri zt85 18 rfl zzr85 (kk x55 M49 X52 (by omega) (by omega))
        by_cases h57 : p3.toInt = 1
        · refine z_xSC zt85 15 (z_sub (k := 1) h57 rfl) 83 rfl rfl ?_
          refine z_xP zt85 19 87 [some (.ref 4), some (.int p1), some (.int p2), some (.int p3), some (.ref a24), some (.ref a38), some (.int x51)] [.int 10, .int x51] rfl rfl ?_
          have h58 := z_b32 x51
          refine z_xI zt85 20 rfl rfl (fun (x59 : Int32) (h60 : x59.toInt = x51.toInt / 1024) => ?_) (z_pShr (c := 1024) 10 rfl rfl (by decide))
          exact z_xri zt85 21 rfl zzr85 (kk x59 M49 X52 (by omega) (by omega))
        by_cases h61 : p3.toInt = 2
        · refine z_xSC zt85 15 (z_sub (k := 2) h61 rfl) 89 rfl rfl ?_
          refine z_xP zt85 22 91 [some (.ref 4), some (.int p1), some (.int p2), some (.int p3), some (.ref a24), some (.ref a38), some (.int x51)] [.ref a38] rfl rfl ?_
          refine z_xgR (κ := .inl (2, q42, t43, m44, 0)) zt85 23 rfl zo85 zzf0_89 X52 k45 (by decide) (by decide) rfl (fun (a63 : Nat) h62 k64 => ?_)
          have g65 := X52.1.p2 k64
          refine z_xgI zt85 24 rfl zo85 zzf0_238 X52 k64 (by decide) (by decide) rfl (fun (x67 : Int32) h66 (h68 : ((z_po q42 : Nat) : Int) - 1 ≤ x67.toInt) (h69 : x67.toInt ≤ ((z_po q42 : Nat) : Int) - 1) => ?_)
          refine z_xP zt85 25 103 [some (.ref 4), some (.int p1), some (.int p2), some (.int p3), some (.ref a24), some (.ref a38), some (.int x51)] [.int 10, .int x51, .int x51, .int x67] rfl rfl ?_
          have h70 := z_b32 x51
          refine z_xI zt85 26 rfl rfl (fun (x71 : Int32) (h72 : x71.toInt = x51.toInt / 1024) => ?_) (z_pShr (c := 1024) 10 rfl rfl (by decide))
          refine z_xI zt85 27 rfl rfl (P := fun _ => True) (fun (x73 : Int32) _ => ?_) trivial
          refine z_xP zt85 28 106 [some (.ref 4), some (.int p1), some (.int p2), some (.int p3), some (.ref a24), some (.ref a38), some (.int x51)] [.int (-1), .int x73, .int x67] rfl rfl ?_
          refine z_xI zt85 29 rfl rfl (P := fun _ => True) (fun (x75 : Int32) _ => ?_) trivial
          refine z_xI zt85 30 rfl rfl (fun (x77 : Int32) (h78 : 0 ≤ x77.toInt ∧ x77.toInt ≤ x67.toInt) => ?_) (z_pAndL rfl (by omega))
          exact z_xri zt85 31 rfl zzr85 (kk x77 M49 X52 (by omega) (by omega))
        by_cases h79 : p3.toInt = 3
        · refine z_xSC zt85 15 (z_sub (k := 3) h79 rfl) 109 rfl rfl ?_
          refine z_xP zt85 32 111 [some (.ref 4), some (.int p1), some (.int p2), some (.int p3), some (.ref a24), some (.ref a38), some (.int x51)] [.ref a38] rfl rfl ?_
          refine z_xgR (κ := .inl (2, q42, t43, m44, 0)) zt85 33 rfl zo85 zzf0_89 X52 k45 (by decide) (by decide) rfl (fun (a81 : Nat) h80 k82 => ?_)
          have g83 := X52.1.p2 k82
          refine z_xP zt85 34 116 [some (.ref 4), some (.int p1), some (.int p2), some (.int p3), some (.ref a24), some (.ref a38), some (.int x51)] [.int x51, .ref a81] rfl rfl ?_
          refine z_xcV (vs := [.ref a81, .int x51]) (r := []) (L2 := [some (.ref a81), some (.int x51), none, none, none, none, none]) zt85 35 rfl zo85 zzcV0_120 (Or.inl rfl) rfl X52 k82 rfl rfl rfl (Nat.le_of_ble_eq_true rfl) zzm40 (Nat.le_of_ble_eq_true rfl) rfl ?_
          refine zC40 X52.1 k82 (fun x86 M84 X85 h87 h88 => ?_)
          have X89 := X52.go X85 (z_sb (by decide))
          show z_ev (d + 4) 85 119 [some (.ref 4), some (.int p1), some (.int p2), some (.int p3), some (.ref a24), some (.ref a38), some (.int x51)] [.int x86] M84 _
          exact z_xri zt85 36 rfl zzr85 (kk x86 M84 X89 (by omega) (by omega))
        refine z_xSD zt85 15 rfl rfl (by omega) ?_
        refine z_xP zt85 37 122 [some (.ref 4), some (.int p1), some (.int p2), some (.int p3), some (.ref a24), some (.ref a38), some (.int x51)] [.ref a38] rfl rfl ?_
        refine z_xgR (κ := .inl (2, q42, t43, m44, 0)) zt85 38 rfl zo85 zzf0_89 X52 k45 (by decide) (by decide) rfl (fun (a92 : Nat) h91 k93 => ?_)
        have g94 := X52.1.p2 k93
        refine z_xP zt85 39 127 [some (.ref 4), some (.int p1), some (.int p2), some (.int p3), some (.ref a24), some (.ref a38), some (.int x51)] [.int x51, .ref a92] rfl rfl ?_
        refine z_xcV (vs := [.ref a92, .int x51]) (r := []) (L2 := [some (.ref a92), some (.int x51), none]) zt85 40 rfl zo85 zzcV0_126 (Or.inl rfl) rfl X52 k93 rfl rfl rfl (Nat.le_of_ble_eq_true rfl) zzm44 (Nat.le_of_ble_eq_true rfl) rfl ?_
        refine zC44 X52.1 k93 (fun x97 M95 X96 h98 h99 => ?_)
        have X100 := X52.go X96 (z_sb (by decide))
        show z_ev (d + 4) 85 130 [some (.ref 4), some (.int p1), some (.int p2), some (.int p3), some (.ref a24), some (.ref a38), some (.int x51)] [.int x97] M95 _
        refine z_xZ zt85 41 rfl rfl (fun (h102 : x97.toInt = 0) => ?_) (fun (h102 : x97.toInt ≠ 0) => ?_)
        · skip
          refine z_xP zt85 43 138 [some (.ref 4), some (.int p1), some (.int p2), some (.int p3), some (.ref a24), some (.ref a38), some (.int x51)] [.int 1] rfl rfl ?_
          have q1 : ((1 : Int32)).toInt = 1 := rfl
          exact z_xri zt85 44 rfl zzr85 (kk 1 M95 X100 (by omega) (by omega))
        refine z_xP zt85 42 138 [some (.ref 4), some (.int p1), some (.int p2), some (.int p3), some (.ref a24), some (.ref a38), some (.int x51)] [.int 0] rfl rfl ?_
        have q0 : ((0 : Int32)).toInt = 0 := rfl
        exact z_xri zt85 44 rfl zzr85 (kk 0 M95 X100 (by omega) (by omega))
      refine z_xP zt85 10 34 [some (.ref 4), some (.int p1), some (.int p2), some (.int p3), some (.ref a24), some (.ref a38), none] [.int (-1)] rfl rfl ?_
      have qm1 : (((-1) : Int32)).toInt = (-1) := rfl
      exact z_xri zt85 11 rfl zzr85 (kk (-1) M0 X (by omega) (by omega))
    refine z_xP zt35 5 22 [some (.ref 4), some (.int p2)] [.null] rfl rfl ?_
    refine z_xrn zt35 10 rfl zzr35 ?_
    show z_ev (d + 4) 85 12 [some (.ref 4), some (.int p1), some (.int p2), some (.int p3), some (.ref a24), none, none] [.null] M0 _
    refine z_xP zt85 4 19 [some (.ref 4), some (.int p1), some (.int p2), some (.int p3), some (.ref a24), some (.null), none] [] rfl rfl ?_
    refine z_xP zt85 5 33 [some (.ref 4), some (.int p1), some (.int p2), some (.int p3), some (.ref a24), some (.null), none] [] rfl rfl ?_
    refine z_xP zt85 10 34 [some (.ref 4), some (.int p1), some (.int p2), some (.int p3), some (.ref a24), some (.null), none] [.int (-1)] rfl rfl ?_
    have qm1 : (((-1) : Int32)).toInt = (-1) := rfl
    exact z_xri zt85 11 rfl zzr85 (kk (-1) M0 X (by omega) (by omega))
  refine z_xP zt84 5 22 [some (.ref 4), some (.int p1)] [.null] rfl rfl ?_
  refine z_xrn zt84 10 rfl zzr84 ?_
  show z_ev (d + 4) 85 5 [some (.ref 4), some (.int p1), some (.int p2), some (.int p3), none, none, none] [.null] M0 _
  refine z_xP zt85 2 9 [some (.ref 4), some (.int p1), some (.int p2), some (.int p3), some (.null), none, none] [.int p2, .ref 4] rfl rfl ?_
  refine z_xcV (vs := [.ref 4, .int p2]) (r := []) (L2 := [some (.ref 4), some (.int p2)]) zt85 3 rfl zo85 zzcV0_85 (Or.inl rfl) rfl X f4 rfl rfl rfl (Nat.le_of_ble_eq_true rfl) zzm35 (Nat.le_of_ble_eq_true rfl) rfl ?_
  refine z_xP zt35 0 1 [some (.ref 4), some (.int p2)] [.int p2] rfl rfl ?_
  refine z_xZ zt35 1 rfl rfl (fun (h103 : p2.toInt < 0) => ?_) (fun (h103 : 0 ≤ p2.toInt) => ?_)
  · skip
    refine z_xP zt35 5 22 [some (.ref 4), some (.int p2)] [.null] rfl rfl ?_
    refine z_xrn zt35 10 rfl zzr35 ?_
    show z_ev (d + 4) 85 12 [some (.ref 4), some (.int p1), some (.int p2), some (.int p3), some (.null), none, none] [.null] M0 _
    refine z_xP zt85 4 33 [some (.ref 4), some (.int p1), some (.int p2), some (.int p3), some (.null), some (.null), none] [] rfl rfl ?_
    refine z_xP zt85 10 34 [some (.ref 4), some (.int p1), some (.int p2), some (.int p3), some (.null), some (.null), none] [.int (-1)] rfl rfl ?_
    have qm1 : (((-1) : Int32)).toInt = (-1) := rfl
    exact z_xri zt85 11 rfl zzr85 (kk (-1) M0 X (by omega) (by omega))
  refine z_xP zt35 2 6 [some (.ref 4), some (.int p2)] [.ref 4, .int p2] rfl rfl ?_
  refine z_xgI zt35 3 rfl zo35 zzf0_59 X f4 (by decide) (by decide) rfl (fun (x105 : Int32) h104 (h106 : 0 ≤ x105.toInt) (h107 : x105.toInt ≤ 8) => ?_)
  have h108 := z_b32 p2
  refine z_xJ zt35 4 rfl rfl (fun (h109 : p2.toInt < x105.toInt) => ?_) (fun (h109 : x105.toInt ≤ p2.toInt) => ?_)
  · skip
    refine z_xP zt35 6 17 [some (.ref 4), some (.int p2)] [.ref 4] rfl rfl ?_
    refine z_xgX (b := 10) zt35 7 rfl zo35 zzf0_18 X f4 (by decide) (by decide) rfl ?_
    refine z_xP zt35 8 21 [some (.ref 4), some (.int p2)] [.int p2, .ref 10] rfl rfl ?_
    have f10 : T[10]? = some (.inr (10, 2, 8, 9, 0)) := X.1.k rfl (by decide)
    refine z_xal zt35 9 rfl X f10 (by decide) (by decide) (by decide) (by omega) (by omega) (fun (a110 : Nat) h111 h112 => ?_) (fun h113 => absurd h113 (z_Gs (hG.go X (by decide)).2.1 h104 (by omega) (by omega)))
    obtain ⟨q114, t115, m116, k117⟩ : ∃ q t m, T[a110]? = some (.inl (3, q, t, m, 9)) := h112
    have g118 := X.1.p3 k117
    refine z_xra zt35 10 rfl zzr35 ?_
    show z_ev (d + 4) 85 12 [some (.ref 4), some (.int p1), some (.int p2), some (.int p3), some (.null), none, none] [.ref a110] M0 _
    refine z_xP zt85 4 33 [some (.ref 4), some (.int p1), some (.int p2), some (.int p3), some (.null), some (.ref a110), none] [] rfl rfl ?_
    refine z_xP zt85 10 34 [some (.ref 4), some (.int p1), some (.int p2), some (.int p3), some (.null), some (.ref a110), none] [.int (-1)] rfl rfl ?_
    have qm1 : (((-1) : Int32)).toInt = (-1) := rfl
    exact z_xri zt85 11 rfl zzr85 (kk (-1) M0 X (by omega) (by omega))
  refine z_xP zt35 5 22 [some (.ref 4), some (.int p2)] [.null] rfl rfl ?_
  refine z_xrn zt35 10 rfl zzr35 ?_
  show z_ev (d + 4) 85 12 [some (.ref 4), some (.int p1), some (.int p2), some (.int p3), some (.null), none, none] [.null] M0 _
  refine z_xP zt85 4 33 [some (.ref 4), some (.int p1), some (.int p2), some (.int p3), some (.null), some (.null), none] [] rfl rfl ?_
  refine z_xP zt85 10 34 [some (.ref 4), some (.int p1), some (.int p2), some (.int p3), some (.null), some (.null), none] [.int (-1)] rfl rfl ?_
  have qm1 : (((-1) : Int32)).toInt = (-1) := rfl
  exact z_xri zt85 11 rfl zzr85 (kk (-1) M0 X (by omega) (by omega))
def zw102 : List Nat := []
theorem zC102 {T : List zK} {d : Nat} {K : Option Value → zH → Prop} {p1 : Int32} {p2 : Int32} {M0 : zH} (hW : z_W M0 T)  (hG : z_GG T M0) (kk : ∀ (x : Int32) (M1 : zH), z_X T zw102 M0 M1 → (-4) ≤ x.toInt → x.toInt ≤ 4368 → K (some (.int x)) M1) : z_ev (d + 2) 102 0 [some (.ref 4), some (.int p1), some (.int p2), none] [] M0 K := by
  have X : z_X T zw102 M0 M0 := .refl hW
  refine z_xP zt102 0 3 [some (.ref 4), some (.int p1), some (.int p2), none] [.int p2, .int p1, .ref 4] rfl rfl ?_
  have f4 : T[4]? = some (.inl (0, 0, 0, 0, 0)) := X.1.k rfl (by decide)
  refine z_xcV (vs := [.ref 4, .int p1, .int p2]) (r := []) (L2 := [some (.ref 4), some (.int p1), some (.int p2), none]) zt102 1 rfl zo102 zzcV0_241 (Or.inl rfl) rfl X f4 rfl rfl rfl (Nat.le_of_ble_eq_true rfl) zzm103 (Nat.le_of_ble_eq_true rfl) rfl ?_
  refine z_xP zt103 0 2 [some (.ref 4), some (.int p1), some (.int p2), none] [.int p1, .ref 4] rfl rfl ?_
  refine z_xcV (vs := [.ref 4, .int p1]) (r := []) (L2 := [some (.ref 4), some (.int p1)]) zt103 1 rfl zo103 zzcV0_108 (Or.inl rfl) rfl X f4 rfl rfl rfl (Nat.le_of_ble_eq_true rfl) zzm37 (Nat.le_of_ble_eq_true rfl) rfl ?_
  refine z_xP zt37 0 1 [some (.ref 4), some (.int p1)] [.int p1] rfl rfl ?_
  refine z_xZ zt37 1 rfl rfl (fun (h1 : p1.toInt < 0) => ?_) (fun (h1 : 0 ≤ p1.toInt) => ?_)
  · skip
    refine z_xP zt37 5 25 [some (.ref 4), some (.int p1)] [.null] rfl rfl ?_
    refine z_xrn zt37 11 rfl zzr37 ?_
    show z_ev (d + 1) 103 5 [some (.ref 4), some (.int p1), some (.int p2), none] [.null] M0 _
    refine z_xP zt103 2 20 [some (.ref 4), some (.int p1), some (.int p2), some (.null)] [] rfl rfl ?_
    refine z_xP zt103 7 21 [some (.ref 4), some (.int p1), some (.int p2), some (.null)] [.int (-1)] rfl rfl ?_
    refine z_xri zt103 8 rfl zzr103 ?_
    show z_ev (d + 2) 102 6 [some (.ref 4), some (.int p1), some (.int p2), none] [.int (-1)] M0 _
    refine z_xP zt102 2 8 [some (.ref 4), some (.int p1), some (.int p2), some (.int (-1))] [.int (-1)] rfl rfl ?_
    refine z_xZ zt102 3 rfl rfl (fun (h2 : ((-1) : Int) = 0) => absurd h2 (by omega)) (fun (h2 : ((-1) : Int) ≠ 0) => ?_)
    refine z_xP zt102 4 12 [some (.ref 4), some (.int p1), some (.int p2), some (.int (-1))] [.int (-1)] rfl rfl ?_
    have qm1 : (((-1) : Int32)).toInt = (-1) := rfl
    exact z_xri zt102 5 rfl zzr102 (kk (-1) M0 X (by omega) (by omega))
  refine z_xP zt37 2 6 [some (.ref 4), some (.int p1)] [.ref 4, .int p1] rfl rfl ?_
  refine z_xgI zt37 3 rfl zo37 zzf0_59 X f4 (by decide) (by decide) rfl (fun (x4 : Int32) h3 (h5 : 0 ≤ x4.toInt) (h6 : x4.toInt ≤ 8) => ?_)
  have h7 := z_b32 p1
  refine z_xJ zt37 4 rfl rfl (fun (h8 : p1.toInt < x4.toInt) => ?_) (fun (h8 : x4.toInt ≤ p1.toInt) => ?_)
  · skip
    refine z_xP zt37 6 17 [some (.ref 4), some (.int p1)] [.ref 4] rfl rfl ?_
    refine z_xgX (b := 10) zt37 7 rfl zo37 zzf0_18 X f4 (by decide) (by decide) rfl ?_
    refine z_xP zt37 8 21 [some (.ref 4), some (.int p1)] [.int p1, .ref 10] rfl rfl ?_
    have f10 : T[10]? = some (.inr (10, 2, 8, 9, 0)) := X.1.k rfl (by decide)
    refine z_xal zt37 9 rfl X f10 (by decide) (by decide) (by decide) (by omega) (by omega) (fun (a9 : Nat) h10 h11 => ?_) (fun h12 => absurd h12 (z_Gs (hG.go X (by decide)).2.1 h3 (by omega) (by omega)))
    obtain ⟨q13, t14, m15, k16⟩ : ∃ q t m, T[a9]? = some (.inl (3, q, t, m, 9)) := h11
    have g17 := X.1.p3 k16
    refine z_xgR (κ := .inl (2, q13, t14, m15, 0)) zt37 10 rfl zo37 zzf0_89 X k16 (by decide) (by decide) rfl (fun (a19 : Nat) h18 k20 => ?_)
    have g21 := X.1.p2 k20
    refine z_xra zt37 11 rfl zzr37 ?_
    show z_ev (d + 1) 103 5 [some (.ref 4), some (.int p1), some (.int p2), none] [.ref a19] M0 _
    refine z_xP zt103 2 10 [some (.ref 4), some (.int p1), some (.int p2), some (.ref a19)] [] rfl rfl ?_
    refine z_xP zt103 3 12 [some (.ref 4), some (.int p1), some (.int p2), some (.ref a19)] [.int 1, .int p2] rfl rfl ?_
    refine z_xJ zt103 4 rfl rfl (fun (h22 : p2.toInt < 1) => ?_) (fun (h22 : 1 ≤ p2.toInt) => ?_)
    · skip
      refine z_xP zt103 7 21 [some (.ref 4), some (.int p1), some (.int p2), some (.ref a19)] [.int (-1)] rfl rfl ?_
      refine z_xri zt103 8 rfl zzr103 ?_
      show z_ev (d + 2) 102 6 [some (.ref 4), some (.int p1), some (.int p2), none] [.int (-1)] M0 _
      refine z_xP zt102 2 8 [some (.ref 4), some (.int p1), some (.int p2), some (.int (-1))] [.int (-1)] rfl rfl ?_
      refine z_xZ zt102 3 rfl rfl (fun (h23 : ((-1) : Int) = 0) => absurd h23 (by omega)) (fun (h23 : ((-1) : Int) ≠ 0) => ?_)
      refine z_xP zt102 4 12 [some (.ref 4), some (.int p1), some (.int p2), some (.int (-1))] [.int (-1)] rfl rfl ?_
      have qm1 : (((-1) : Int32)).toInt = (-1) := rfl
      exact z_xri zt102 5 rfl zzr102 (kk (-1) M0 X (by omega) (by omega))
    refine z_xP zt103 5 17 [some (.ref 4), some (.int p1), some (.int p2), some (.ref a19)] [.int 5, .int p2] rfl rfl ?_
    refine z_xJ zt103 6 rfl rfl (fun (h24 : p2.toInt ≤ 5) => ?_) (fun (h24 : 5 < p2.toInt) => ?_)
    · skip
      refine z_xP zt103 9 23 [some (.ref 4), some (.int p1), some (.int p2), some (.ref a19)] [.ref a19] rfl rfl ?_
      refine z_xgR (κ := .inr (102, 0, m15, 0, 1023)) zt103 10 rfl zo103 zzf0_74 X k20 (by decide) (by decide) rfl (fun (a26 : Nat) h25 k27 => ?_)
      refine z_xln zt103 11 rfl X k27 (by decide) (by omega) (fun (x28 : Int32) (h29 : x28.toInt = ((m15 : Nat) : Int)) => ?_)
      refine z_xP zt103 12 29 [some (.ref 4), some (.int p1), some (.int p2), some (.ref a19)] [.int 12, .int x28] rfl rfl ?_
      refine z_xJ zt103 13 rfl rfl (fun (h30 : x28.toInt ≤ 12) => ?_) (fun (h30 : 12 < x28.toInt) => ?_)
      · skip
        refine z_xP zt103 15 38 [some (.ref 4), some (.int p1), some (.int p2), some (.ref a19)] [.int 0] rfl rfl ?_
        refine z_xri zt103 16 rfl zzr103 ?_
        show z_ev (d + 2) 102 6 [some (.ref 4), some (.int p1), some (.int p2), none] [.int 0] M0 _
        refine z_xP zt102 2 8 [some (.ref 4), some (.int p1), some (.int p2), some (.int 0)] [.int 0] rfl rfl ?_
        refine z_xZ zt102 3 rfl rfl (fun (h31 : (0 : Int) = 0) => ?_) (fun (h31 : (0 : Int) ≠ 0) => absurd h31 (by omega))
        refine z_xP zt102 6 14 [some (.ref 4), some (.int p1), some (.int p2), some (.int 0)] [.ref 4] rfl rfl ?_
        refine z_xgX (b := 11) zt102 7 rfl zo102 zzf0_22 X f4 (by decide) (by decide) rfl ?_
        refine z_xP zt102 8 18 [some (.ref 4), some (.int p1), some (.int p2), some (.int 0)] [.int p1, .ref 11] rfl rfl ?_
        have f11 : T[11]? = some (.inr (11, 2, 8, 5, 0)) := X.1.k rfl (by decide)
        refine z_xal zt102 9 rfl X f11 (by decide) (by decide) (by decide) (by omega) (by omega) (fun (a32 : Nat) h33 h34 => ?_) (fun h35 => absurd h35 (z_Gt (hG.go X (by decide)).2.1 h3 (by omega) (by omega)))
        obtain ⟨q36, t37, m38, k39⟩ : ∃ q t m, T[a32]? = some (.inl (3, q, t, m, 5)) := h34
        have g40 := X.1.p3 k39
        have h41 := z_Gm (hG.go X (by decide)).2.2 X.1 (z_cll (n := 8) (by omega) (by decide)) h10 h33 k16 k39
        refine z_xP zt102 10 20 [some (.ref 4), some (.int p1), some (.int p2), some (.int 0)] [.int p2, .ref a32] rfl rfl ?_
        refine z_xcV (vs := [.ref a32, .int p2]) (r := []) (L2 := [some (.ref a32), some (.int p2)]) zt102 11 rfl zo102 zzcV0_245 (Or.inl rfl) rfl X k39 rfl rfl rfl (Nat.le_of_ble_eq_true rfl) zzm104 (Nat.le_of_ble_eq_true rfl) rfl ?_
        refine z_xP zt104 0 1 [some (.ref a32), some (.int p2)] [.ref a32] rfl rfl ?_
        refine z_xgR (κ := .inl (2, q36, t37, m38, 0)) zt104 1 rfl zo104 zzf3_39 X k39 (by decide) (by decide) rfl (fun (a43 : Nat) h42 k44 => ?_)
        have g45 := X.1.p2 k44
        refine z_xgR (κ := .inr (102, 0, m38, 0, 1023)) zt104 2 rfl zo104 zzf3_101 X k44 (by decide) (by decide) rfl (fun (a47 : Nat) h46 k48 => ?_)
        refine z_xln zt104 3 rfl X k48 (by decide) (by omega) (fun (x49 : Int32) (h50 : x49.toInt = ((m38 : Nat) : Int)) => ?_)
        refine z_xP zt104 4 9 [some (.ref a32), some (.int p2)] [.int p2, .int x49] rfl rfl ?_
        refine z_xI zt104 5 rfl rfl (fun (x51 : Int32) (h52 : x51.toInt = x49.toInt + p2.toInt) => ?_) (z_pAdd rfl rfl (by omega) (by omega))
        refine z_xP zt104 6 11 [some (.ref a32), some (.int p2)] [.int 1, .int x51] rfl rfl ?_
        refine z_xI zt104 7 rfl rfl (fun (x53 : Int32) (h54 : x53.toInt = x51.toInt - 1) => ?_) (z_pSub rfl rfl (by omega) (by omega))
        refine z_xP zt104 8 13 [some (.ref a32), some (.int p2)] [.int p2, .int x53] rfl rfl ?_
        refine z_xcS (vs := [.int x53, .int p2]) (r := []) (L2 := [some (.int x53), some (.int p2)]) zt104 9 rfl zo104 zzcS3_136 (Or.inr rfl) (Nat.le_of_ble_eq_true rfl) rfl rfl (Nat.le_of_ble_eq_true rfl) zzm105 (Nat.le_of_ble_eq_true rfl) rfl ?_
        refine z_xP zt105 0 1 [some (.int x53), some (.int p2)] [.int x53] rfl rfl ?_
        refine z_xZ zt105 1 rfl rfl (fun (h55 : x53.toInt < 0) => absurd h55 (by omega)) (fun (h55 : 0 ≤ x53.toInt) => ?_)
        refine z_xP zt105 2 5 [some (.int x53), some (.int p2)] [.int p2] rfl rfl ?_
        refine z_xZ zt105 3 rfl rfl (fun (h56 : p2.toInt < 0) => absurd h56 (by omega)) (fun (h56 : 0 ≤ p2.toInt) => ?_)
        refine z_xP zt105 4 10 [some (.int x53), some (.int p2)] [.int 5, .int p2] rfl rfl ?_
        refine z_xJ zt105 5 rfl rfl (fun (h57 : 5 < p2.toInt) => absurd h57 (by omega)) (fun (h57 : p2.toInt ≤ 5) => ?_)
        refine z_xP zt105 6 16 [some (.int x53), some (.int p2)] [.int x53, .int 6] rfl rfl ?_
        refine z_xI zt105 7 rfl rfl (fun (x58 : Int32) (h59 : x58.toInt = 6 * x53.toInt) => ?_) (z_pMul rfl rfl (by omega) (by omega))
        refine z_xP zt105 8 18 [some (.int x53), some (.int p2)] [.int p2, .int x58] rfl rfl ?_
        refine z_xI zt105 9 rfl rfl (fun (x60 : Int32) (h61 : x60.toInt = x58.toInt + p2.toInt) => ?_) (z_pAdd rfl rfl (by omega) (by omega))
        refine z_xgs zt105 10 rfl zo105 zg0_340 ?_
        have f1 : T[1]? = some (.inr (1, 0, 102, 0, 4368)) := X.1.k rfl (by decide)
        refine z_xln zt105 11 rfl X f1 (by decide) (by decide) (fun (x62 : Int32) (h63 : x62.toInt = ((102 : Nat) : Int)) => ?_)
        refine z_xJ zt105 12 rfl rfl (fun (h64 : x60.toInt < x62.toInt) => ?_) (fun (h64 : x62.toInt ≤ x60.toInt) => ?_)
        · skip
          refine z_xgs zt105 15 rfl zo105 zg0_340 ?_
          refine z_xP zt105 16 34 [some (.int x53), some (.int p2)] [.int x53, .int 6, .ref 1] rfl rfl ?_
          refine z_xI zt105 17 rfl rfl (fun (x65 : Int32) (h66 : x65.toInt = 6 * x53.toInt) => ?_) (z_pMul rfl rfl (by omega) (by omega))
          refine z_xP zt105 18 36 [some (.int x53), some (.int p2)] [.int p2, .int x65, .ref 1] rfl rfl ?_
          refine z_xI zt105 19 rfl rfl (fun (x67 : Int32) (h68 : x67.toInt = x65.toInt + p2.toInt) => ?_) (z_pAdd rfl rfl (by omega) (by omega))
          refine z_xil zt105 20 rfl X f1 (by decide) (by omega) (by omega) (fun (x69 : Int32) h70 (h71 : 0 ≤ x69.toInt) (h72 : x69.toInt ≤ 4368) => ?_)
          refine z_xri zt105 21 rfl zzr105 ?_
          show z_ev (d + 1) 104 16 [some (.ref a32), some (.int p2)] [.int x69] M0 _
          refine z_xri zt104 10 rfl zzr104 ?_
          show z_ev (d + 2) 102 23 [some (.ref 4), some (.int p1), some (.int p2), some (.int 0)] [.int x69] M0 _
          exact z_xri zt102 12 rfl zzr102 (kk x69 M0 X (by omega) (by omega))
        refine z_xP zt105 13 27 [some (.int x53), some (.int p2)] [.int 0] rfl rfl ?_
        refine z_xri zt105 14 rfl zzr105 ?_
        show z_ev (d + 1) 104 16 [some (.ref a32), some (.int p2)] [.int 0] M0 _
        refine z_xri zt104 10 rfl zzr104 ?_
        show z_ev (d + 2) 102 23 [some (.ref 4), some (.int p1), some (.int p2), some (.int 0)] [.int 0] M0 _
        have q0 : ((0 : Int32)).toInt = 0 := rfl
        exact z_xri zt102 12 rfl zzr102 (kk 0 M0 X (by omega) (by omega))
      refine z_xP zt103 14 38 [some (.ref 4), some (.int p1), some (.int p2), some (.ref a19)] [.int (-4)] rfl rfl ?_
      refine z_xri zt103 16 rfl zzr103 ?_
      show z_ev (d + 2) 102 6 [some (.ref 4), some (.int p1), some (.int p2), none] [.int (-4)] M0 _
      refine z_xP zt102 2 8 [some (.ref 4), some (.int p1), some (.int p2), some (.int (-4))] [.int (-4)] rfl rfl ?_
      refine z_xZ zt102 3 rfl rfl (fun (h73 : ((-4) : Int) = 0) => absurd h73 (by omega)) (fun (h73 : ((-4) : Int) ≠ 0) => ?_)
      refine z_xP zt102 4 12 [some (.ref 4), some (.int p1), some (.int p2), some (.int (-4))] [.int (-4)] rfl rfl ?_
      have qm4 : (((-4) : Int32)).toInt = (-4) := rfl
      exact z_xri zt102 5 rfl zzr102 (kk (-4) M0 X (by omega) (by omega))
    refine z_xP zt103 7 21 [some (.ref 4), some (.int p1), some (.int p2), some (.ref a19)] [.int (-1)] rfl rfl ?_
    refine z_xri zt103 8 rfl zzr103 ?_
    show z_ev (d + 2) 102 6 [some (.ref 4), some (.int p1), some (.int p2), none] [.int (-1)] M0 _
    refine z_xP zt102 2 8 [some (.ref 4), some (.int p1), some (.int p2), some (.int (-1))] [.int (-1)] rfl rfl ?_
    refine z_xZ zt102 3 rfl rfl (fun (h74 : ((-1) : Int) = 0) => absurd h74 (by omega)) (fun (h74 : ((-1) : Int) ≠ 0) => ?_)
    refine z_xP zt102 4 12 [some (.ref 4), some (.int p1), some (.int p2), some (.int (-1))] [.int (-1)] rfl rfl ?_
    have qm1 : (((-1) : Int32)).toInt = (-1) := rfl
    exact z_xri zt102 5 rfl zzr102 (kk (-1) M0 X (by omega) (by omega))
  refine z_xP zt37 5 25 [some (.ref 4), some (.int p1)] [.null] rfl rfl ?_
  refine z_xrn zt37 11 rfl zzr37 ?_
  show z_ev (d + 1) 103 5 [some (.ref 4), some (.int p1), some (.int p2), none] [.null] M0 _
  refine z_xP zt103 2 20 [some (.ref 4), some (.int p1), some (.int p2), some (.null)] [] rfl rfl ?_
  refine z_xP zt103 7 21 [some (.ref 4), some (.int p1), some (.int p2), some (.null)] [.int (-1)] rfl rfl ?_
  refine z_xri zt103 8 rfl zzr103 ?_
  show z_ev (d + 2) 102 6 [some (.ref 4), some (.int p1), some (.int p2), none] [.int (-1)] M0 _
  refine z_xP zt102 2 8 [some (.ref 4), some (.int p1), some (.int p2), some (.int (-1))] [.int (-1)] rfl rfl ?_
  refine z_xZ zt102 3 rfl rfl (fun (h75 : ((-1) : Int) = 0) => absurd h75 (by omega)) (fun (h75 : ((-1) : Int) ≠ 0) => ?_)
  refine z_xP zt102 4 12 [some (.ref 4), some (.int p1), some (.int p2), some (.int (-1))] [.int (-1)] rfl rfl ?_
  have qm1 : (((-1) : Int32)).toInt = (-1) := rfl
  exact z_xri zt102 5 rfl zzr102 (kk (-1) M0 X (by omega) (by omega))
def zw108 : List Nat := [201, 202, 203, 205, 210, 1304]
theorem zB108 {T : List zK} {d : Nat} {K : Option Value → zH → Prop} {a0 : Nat} {q : Nat} {t : Nat} {m : Nat} {p1 : Int32} {zp0 : Int32} {M0 : zH} (k0 : T[a0]? = some (.inl (3, q, t, m, 5))) (u1 : 1 ≤ p1.toInt ∧ p1.toInt ≤ 5) (hz0 : z_F M0 a0 4 = some (.int zp0)) (bz0 : 0 ≤ zp0.toInt ∧ zp0.toInt ≤ 5) (kk : ∀ (x : Int32) (M1 : zH), z_X T zw108 M0 M1 → 0 ≤ x.toInt → x.toInt ≤ 4368 → ∀ (w0 : Int32), z_F M1 a0 4 = some (.int w0) → 0 ≤ w0.toInt ∧ w0.toInt ≤ 5 → w0.toInt ≤ p1.toInt → K (some (.int x)) M1) : ∀ n : Nat, (∀ (M : zH) (b2 : Int32) (z0 : Int32), z_X T zw108 M0 M → 0 ≤ b2.toInt ∧ b2.toInt ≤ 5 → z_F M a0 4 = some (.int z0) → 0 ≤ z0.toInt ∧ z0.toInt ≤ 5 → z0.toInt = b2.toInt → b2.toInt ≤ p1.toInt → ((0) * 2 + 0) * 6 + (5 - b2.toInt) < (n : Int) → z_ev (d + 2) 108 6 [some (.ref a0), some (.int p1), some (.int b2)] [] M K) := by
  intro n
  induction n with
  | zero => exact by intros; exfalso; omega
  | succ n ih =>
    intro M b2 z0 X hh0 hp0 hh2 hh3 hh4 hE
    have g0 := X.1.p3 k0
    refine z_xP zt108 3 8 [some (.ref a0), some (.int p1), some (.int b2)] [.int p1, .int b2] rfl rfl ?_
    refine z_xJ zt108 4 rfl rfl (fun (h1 : p1.toInt ≤ b2.toInt) => ?_) (fun (h1 : b2.toInt < p1.toInt) => ?_)
    · skip
      refine z_xP zt108 30 64 [some (.ref a0), some (.int p1), some (.int b2)] [.int p1, .ref a0] rfl rfl ?_
      refine z_xcV (vs := [.ref a0, .int p1]) (r := []) (L2 := [some (.ref a0), some (.int p1)]) zt108 31 rfl zo108 zzcV3_145 (Or.inl rfl) rfl X k0 rfl rfl rfl (Nat.le_of_ble_eq_true rfl) zzm104 (Nat.le_of_ble_eq_true rfl) rfl ?_
      refine z_xP zt104 0 1 [some (.ref a0), some (.int p1)] [.ref a0] rfl rfl ?_
      refine z_xgR (κ := .inl (2, q, t, m, 0)) zt104 1 rfl zo104 zzf3_39 X k0 (by decide) (by decide) rfl (fun (a3 : Nat) h2 k4 => ?_)
      have g5 := X.1.p2 k4
      refine z_xgR (κ := .inr (102, 0, m, 0, 1023)) zt104 2 rfl zo104 zzf3_101 X k4 (by decide) (by decide) rfl (fun (a7 : Nat) h6 k8 => ?_)
      refine z_xln zt104 3 rfl X k8 (by decide) (by omega) (fun (x9 : Int32) (h10 : x9.toInt = ((m : Nat) : Int)) => ?_)
      refine z_xP zt104 4 9 [some (.ref a0), some (.int p1)] [.int p1, .int x9] rfl rfl ?_
      refine z_xI zt104 5 rfl rfl (fun (x11 : Int32) (h12 : x11.toInt = x9.toInt + p1.toInt) => ?_) (z_pAdd rfl rfl (by omega) (by omega))
      refine z_xP zt104 6 11 [some (.ref a0), some (.int p1)] [.int 1, .int x11] rfl rfl ?_
      refine z_xI zt104 7 rfl rfl (fun (x13 : Int32) (h14 : x13.toInt = x11.toInt - 1) => ?_) (z_pSub rfl rfl (by omega) (by omega))
      refine z_xP zt104 8 13 [some (.ref a0), some (.int p1)] [.int p1, .int x13] rfl rfl ?_
      refine z_xcS (vs := [.int x13, .int p1]) (r := []) (L2 := [some (.int x13), some (.int p1)]) zt104 9 rfl zo104 zzcS3_136 (Or.inr rfl) (Nat.le_of_ble_eq_true rfl) rfl rfl (Nat.le_of_ble_eq_true rfl) zzm105 (Nat.le_of_ble_eq_true rfl) rfl ?_
      refine z_xP zt105 0 1 [some (.int x13), some (.int p1)] [.int x13] rfl rfl ?_
      refine z_xZ zt105 1 rfl rfl (fun (h15 : x13.toInt < 0) => absurd h15 (by omega)) (fun (h15 : 0 ≤ x13.toInt) => ?_)
      refine z_xP zt105 2 5 [some (.int x13), some (.int p1)] [.int p1] rfl rfl ?_
      refine z_xZ zt105 3 rfl rfl (fun (h16 : p1.toInt < 0) => absurd h16 (by omega)) (fun (h16 : 0 ≤ p1.toInt) => ?_)
      refine z_xP zt105 4 10 [some (.int x13), some (.int p1)] [.int 5, .int p1] rfl rfl ?_
      refine z_xJ zt105 5 rfl rfl (fun (h17 : 5 < p1.toInt) => absurd h17 (by omega)) (fun (h17 : p1.toInt ≤ 5) => ?_)
      refine z_xP zt105 6 16 [some (.int x13), some (.int p1)] [.int x13, .int 6] rfl rfl ?_
      refine z_xI zt105 7 rfl rfl (fun (x18 : Int32) (h19 : x18.toInt = 6 * x13.toInt) => ?_) (z_pMul rfl rfl (by omega) (by omega))
      refine z_xP zt105 8 18 [some (.int x13), some (.int p1)] [.int p1, .int x18] rfl rfl ?_
      refine z_xI zt105 9 rfl rfl (fun (x20 : Int32) (h21 : x20.toInt = x18.toInt + p1.toInt) => ?_) (z_pAdd rfl rfl (by omega) (by omega))
      refine z_xgs zt105 10 rfl zo105 zg0_340 ?_
      have f1 : T[1]? = some (.inr (1, 0, 102, 0, 4368)) := X.1.k rfl (by decide)
      refine z_xln zt105 11 rfl X f1 (by decide) (by decide) (fun (x22 : Int32) (h23 : x22.toInt = ((102 : Nat) : Int)) => ?_)
      refine z_xJ zt105 12 rfl rfl (fun (h24 : x20.toInt < x22.toInt) => ?_) (fun (h24 : x22.toInt ≤ x20.toInt) => ?_)
      · skip
        refine z_xgs zt105 15 rfl zo105 zg0_340 ?_
        refine z_xP zt105 16 34 [some (.int x13), some (.int p1)] [.int x13, .int 6, .ref 1] rfl rfl ?_
        refine z_xI zt105 17 rfl rfl (fun (x25 : Int32) (h26 : x25.toInt = 6 * x13.toInt) => ?_) (z_pMul rfl rfl (by omega) (by omega))
        refine z_xP zt105 18 36 [some (.int x13), some (.int p1)] [.int p1, .int x25, .ref 1] rfl rfl ?_
        refine z_xI zt105 19 rfl rfl (fun (x27 : Int32) (h28 : x27.toInt = x25.toInt + p1.toInt) => ?_) (z_pAdd rfl rfl (by omega) (by omega))
        refine z_xil zt105 20 rfl X f1 (by decide) (by omega) (by omega) (fun (x29 : Int32) h30 (h31 : 0 ≤ x29.toInt) (h32 : x29.toInt ≤ 4368) => ?_)
        refine z_xri zt105 21 rfl zzr105 ?_
        show z_ev (d + 1) 104 16 [some (.ref a0), some (.int p1)] [.int x29] M _
        refine z_xri zt104 10 rfl zzr104 ?_
        show z_ev (d + 2) 108 67 [some (.ref a0), some (.int p1), some (.int b2)] [.int x29] M _
        exact z_xri zt108 32 rfl zzr108 (kk x29 M X (by omega) (by omega) z0 hp0 ⟨by omega, by omega⟩ (by omega))
      refine z_xP zt105 13 27 [some (.int x13), some (.int p1)] [.int 0] rfl rfl ?_
      refine z_xri zt105 14 rfl zzr105 ?_
      show z_ev (d + 1) 104 16 [some (.ref a0), some (.int p1)] [.int 0] M _
      refine z_xri zt104 10 rfl zzr104 ?_
      show z_ev (d + 2) 108 67 [some (.ref a0), some (.int p1), some (.int b2)] [.int 0] M _
      have q0 : ((0 : Int32)).toInt = 0 := rfl
      exact z_xri zt108 32 rfl zzr108 (kk 0 M X (by omega) (by omega) z0 hp0 ⟨by omega, by omega⟩ (by omega))
    refine z_xP zt108 5 13 [some (.ref a0), some (.int p1), some (.int b2)] [.int 5, .int b2] rfl rfl ?_
    refine z_xJ zt108 6 rfl rfl (fun (h33 : 5 ≤ b2.toInt) => absurd h33 (by omega)) (fun (h33 : b2.toInt < 5) => ?_)
    refine z_xP zt108 7 17 [some (.ref a0), some (.int p1), some (.int b2)] [.ref a0] rfl rfl ?_
    refine z_xgR (κ := .inr (210, 0, 5, 0, ((m : Nat) : Int) - 1)) zt108 8 rfl zo108 zzf3_33 X k0 (by decide) (by decide) rfl (fun (a35 : Nat) h34 k36 => ?_)
    refine z_xP zt108 9 22 [some (.ref a0), some (.int p1), some (.int b2)] [.int 0, .int b2, .ref a35] rfl rfl ?_
    have q0 : ((0 : Int32)).toInt = 0 := rfl
    refine z_xis zt108 10 rfl X k36 (by decide) (X.1.g4 k36 (by decide)) (by omega) (by omega) (by omega) (by omega) (by decide) (fun M37 X38 e39 h40 => ?_)
    refine z_xP zt108 11 26 [some (.ref a0), some (.int p1), some (.int b2)] [.ref a0, .int 1, .ref a0] rfl rfl ?_
    refine z_xgR (κ := .inl (2, q, t, m, 0)) zt108 12 rfl zo108 zzf3_39 X38 k0 (by decide) (by decide) rfl (fun (a42 : Nat) h41 k43 => ?_)
    have g44 := X38.1.p2 k43
    refine z_xgR (κ := .inr (102, 0, m, 0, 1023)) zt108 13 rfl zo108 zzf3_101 X38 k43 (by decide) (by decide) rfl (fun (a46 : Nat) h45 k47 => ?_)
    refine z_xP zt108 14 33 [some (.ref a0), some (.int p1), some (.int b2)] [.int 0, .ref a46, .int 1, .ref a0] rfl rfl ?_
    refine z_xil zt108 15 rfl X38 k47 (by decide) (by decide) (by omega) (fun (x48 : Int32) h49 (h50 : 0 ≤ x48.toInt) (h51 : x48.toInt ≤ 1023) => ?_)
    refine z_xP zt108 16 35 [some (.ref a0), some (.int p1), some (.int b2)] [.ref a0, .int x48, .int 1, .ref a0] rfl rfl ?_
    refine z_xgv zt108 17 rfl zo108 zzf3_39 X38 k0 (by decide) h41 ?_
    refine z_xgI zt108 18 rfl zo108 zzf3_56 X38 k43 (by decide) (by decide) rfl (fun (x53 : Int32) h52 (h54 : ((z_po q : Nat) : Int) - 1 ≤ x53.toInt) (h55 : x53.toInt ≤ ((z_po q : Nat) : Int) - 1) => ?_)
    refine z_xP zt108 19 42 [some (.ref a0), some (.int p1), some (.int b2)] [.ref a0, .int x53, .int x48, .int 1, .ref a0] rfl rfl ?_
    refine z_xgv zt108 20 rfl zo108 zzf3_39 X38 k0 (by decide) h41 ?_
    refine z_xgv zt108 21 rfl zo108 zzf3_101 X38 k43 (by decide) h45 ?_
    refine z_xP zt108 22 49 [some (.ref a0), some (.int p1), some (.int b2)] [.int 0, .ref a46, .int x53, .int x48, .int 1, .ref a0] rfl rfl ?_
    refine z_xil zt108 23 rfl X38 k47 (by decide) (by decide) (by omega) (fun (x56 : Int32) h57 (h58 : 0 ≤ x56.toInt) (h59 : x56.toInt ≤ 1023) => ?_)
    have h60 := congrArg Int32.toInt (h57.symm.trans h49)
    refine z_xP zt108 24 51 [some (.ref a0), some (.int p1), some (.int b2)] [.int (-1), .int x56, .int x53, .int x48, .int 1, .ref a0] rfl rfl ?_
    refine z_xI zt108 25 rfl rfl (P := fun _ => True) (fun (x61 : Int32) _ => ?_) trivial
    refine z_xI zt108 26 rfl rfl (fun (x63 : Int32) (h64 : 0 ≤ x63.toInt ∧ x63.toInt ≤ x53.toInt) => ?_) (z_pAndL rfl (by omega))
    refine z_xcV (vs := [.ref a0, .int 1, .int x48, .int x63]) (r := []) (L2 := [some (.ref a0), some (.int 1), some (.int x48), some (.int x63)]) zt108 27 rfl zo108 zzcV3_142 (Or.inl rfl) rfl X38 k0 rfl rfl rfl (Nat.le_of_ble_eq_true rfl) zzm53 (Nat.le_of_ble_eq_true rfl) rfl ?_
    refine z_xP zt53 0 1 [some (.ref a0), some (.int 1), some (.int x48), some (.int x63)] [.ref a0] rfl rfl ?_
    refine z_xgR (κ := .inr (201, 0, 9, (-2147483648), 2147483647)) zt53 1 rfl zo53 zzf3_9 X38 k0 (by decide) (by decide) rfl (fun (a66 : Nat) h65 k67 => ?_)
    refine z_xP zt53 2 5 [some (.ref a0), some (.int 1), some (.int x48), some (.int x63)] [.ref a0, .ref a66] rfl rfl ?_
    have h68 := (e39.f k0 (by decide) hp0)
    refine z_xgv zt53 3 rfl zo53 zzf3_53 X38 k0 (by decide) h68 ?_
    refine z_xP zt53 4 9 [some (.ref a0), some (.int 1), some (.int x48), some (.int x63)] [.int 1, .int z0, .ref a66] rfl rfl ?_
    have q1 : ((1 : Int32)).toInt = 1 := rfl
    refine z_xis zt53 5 rfl X38 k67 (by decide) (X38.1.g4 k67 (by decide)) (by omega) (by omega) (by omega) (by omega) (by decide) (fun M69 X70 e71 h72 => ?_)
    refine z_xP zt53 6 11 [some (.ref a0), some (.int 1), some (.int x48), some (.int x63)] [.ref a0] rfl rfl ?_
    refine z_xgR (κ := .inr (202, 0, 9, (-2147483648), 2147483647)) zt53 7 rfl zo53 zzf3_15 X70 k0 (by decide) (by decide) rfl (fun (a74 : Nat) h73 k75 => ?_)
    refine z_xP zt53 8 15 [some (.ref a0), some (.int 1), some (.int x48), some (.int x63)] [.ref a0, .ref a74] rfl rfl ?_
    have h76 := (e71.f k0 (by decide) h68)
    refine z_xgv zt53 9 rfl zo53 zzf3_53 X70 k0 (by decide) h76 ?_
    refine z_xP zt53 10 19 [some (.ref a0), some (.int 1), some (.int x48), some (.int x63)] [.ref a0, .int z0, .ref a74] rfl rfl ?_
    refine z_xgR (κ := .inr (203, 0, 9, (-2147483648), 2147483647)) zt53 11 rfl zo53 zzf3_18 X70 k0 (by decide) (by decide) rfl (fun (a78 : Nat) h77 k79 => ?_)
    refine z_xP zt53 12 23 [some (.ref a0), some (.int 1), some (.int x48), some (.int x63)] [.ref a0, .ref a78, .int z0, .ref a74] rfl rfl ?_
    refine z_xgv zt53 13 rfl zo53 zzf3_53 X70 k0 (by decide) h76 ?_
    refine z_xP zt53 14 28 [some (.ref a0), some (.int 1), some (.int x48), some (.int x63)] [.int 0, .int z0, .ref a78, .int 0, .int z0, .ref a74] rfl rfl ?_
    have q0 : ((0 : Int32)).toInt = 0 := rfl
    refine z_xis zt53 15 rfl X70 k79 (by decide) (X70.1.g4 k79 (by decide)) (by omega) (by omega) (by omega) (by omega) (by decide) (fun M80 X81 e82 h83 => ?_)
    have q0 : ((0 : Int32)).toInt = 0 := rfl
    refine z_xis zt53 16 rfl X81 k75 (by decide) (X81.1.g4 k75 (by decide)) (by omega) (by omega) (by omega) (by omega) (by decide) (fun M84 X85 e86 h87 => ?_)
    refine z_xP zt53 17 32 [some (.ref a0), some (.int 1), some (.int x48), some (.int x63)] [.ref a0, .ref a0] rfl rfl ?_
    have h88 := (e86.f k0 (by decide) (e82.f k0 (by decide) h76))
    refine z_xgv zt53 18 rfl zo53 zzf3_53 X85 k0 (by decide) h88 ?_
    refine z_xP zt53 19 36 [some (.ref a0), some (.int 1), some (.int x48), some (.int x63)] [.int 1, .int z0, .ref a0] rfl rfl ?_
    refine z_xI zt53 20 rfl rfl (fun (x89 : Int32) (h90 : x89.toInt = z0.toInt + 1) => ?_) (z_pAdd rfl rfl (by omega) (by omega))
    refine z_xpf zt53 21 rfl zo53 zzf3_53 X85 k0 (by decide) (by decide) ⟨by omega, by omega⟩ rfl (by decide) zw3_4 (fun M91 X92 e93 h94 => ?_)
    refine z_xP zt53 22 42 [some (.ref a0), some (.int 1), some (.int x48), some (.int x63)] [.ref a0, .ref a0] rfl rfl ?_
    refine z_xgv zt53 23 rfl zo53 zzf3_53 X92 k0 (by decide) h94 ?_
    refine z_xP zt53 24 46 [some (.ref a0), some (.int 1), some (.int x48), some (.int x63)] [.int 1, .int x89, .ref a0] rfl rfl ?_
    refine z_xI zt53 25 rfl rfl (fun (x95 : Int32) (h96 : x95.toInt = x89.toInt - 1) => ?_) (z_pSub rfl rfl (by omega) (by omega))
    refine z_xP zt53 26 49 [some (.ref a0), some (.int 1), some (.int x48), some (.int x63)] [.int x63, .int x48, .int x95, .ref a0] rfl rfl ?_
    refine z_xcV (vs := [.ref a0, .int x95, .int x48, .int x63]) (r := []) (L2 := [some (.ref a0), some (.int x95), some (.int x48), some (.int x63), none, none, none, none]) zt53 27 rfl zo53 zzcV3_59 (Or.inl rfl) rfl X92 k0 rfl rfl rfl (Nat.le_of_ble_eq_true rfl) zzm54 (Nat.le_of_ble_eq_true rfl) rfl ?_
    refine zC54 X92.1 k0 (by omega) (fun M97 X98  => ?_)
    have X99 := X92.go X98 (z_sb (by decide))
    show z_ev (d + 1) 53 52 [some (.ref a0), some (.int 1), some (.int x48), some (.int x63)] [] M97 _
    refine z_xrv zt53 28 rfl zzr53 ?_
    show z_ev (d + 2) 108 56 [some (.ref a0), some (.int p1), some (.int b2)] [] M97 _
    refine z_xN zt108 28 rfl rfl (fun (x101 : Int32) (h102 : x101.toInt = b2.toInt + 1) => ?_) (z_pAdd rfl rfl (by omega) (by omega))
    show z_ev (d + 2) 108 59 [some (.ref a0), some (.int p1), some (.int x101)] [] M97 _
    refine z_xP zt108 29 6 [some (.ref a0), some (.int p1), some (.int x101)] [] rfl rfl ?_
    have h103 := (X98.2.f k0 (by decide) h94)
    exact ih M97 x101 x89 X99 ⟨by omega, by omega⟩ h103 ⟨by omega, by omega⟩ (by omega) (by omega) (by omega)
theorem zC108 {T : List zK} {d : Nat} {K : Option Value → zH → Prop} {a0 : Nat} {q : Nat} {t : Nat} {m : Nat} {p1 : Int32} {zp0 : Int32} {M0 : zH} (hW : z_W M0 T) (k0 : T[a0]? = some (.inl (3, q, t, m, 5))) (u1 : 1 ≤ p1.toInt ∧ p1.toInt ≤ 5) (hz0 : z_F M0 a0 4 = some (.int zp0)) (bz0 : 0 ≤ zp0.toInt ∧ zp0.toInt ≤ 5) (kk : ∀ (x : Int32) (M1 : zH), z_X T zw108 M0 M1 → 0 ≤ x.toInt → x.toInt ≤ 4368 → ∀ (w0 : Int32), z_F M1 a0 4 = some (.int w0) → 0 ≤ w0.toInt ∧ w0.toInt ≤ 5 → w0.toInt ≤ p1.toInt → K (some (.int x)) M1) : z_ev (d + 2) 108 0 [some (.ref a0), some (.int p1), none] [] M0 K := by
  have X : z_X T zw108 M0 M0 := .refl hW
  have g0 := X.1.p3 k0
  refine z_xP zt108 0 1 [some (.ref a0), some (.int p1), none] [.ref a0] rfl rfl ?_
  refine z_xcV (vs := [.ref a0]) (r := []) (L2 := [some (.ref a0)]) zt108 1 rfl zo108 zzcV3_139 (Or.inl rfl) rfl X k0 rfl rfl rfl (Nat.le_of_ble_eq_true rfl) zzm61 (Nat.le_of_ble_eq_true rfl) rfl ?_
  refine z_xP zt61 0 2 [some (.ref a0)] [.int 0, .ref a0] rfl rfl ?_
  have q0 : ((0 : Int32)).toInt = 0 := rfl
  refine z_xpf zt61 1 rfl zo61 zzf3_53 X k0 (by decide) (by decide) ⟨by omega, by omega⟩ rfl (by decide) zw3_4 (fun M1 X2 e3 h4 => ?_)
  refine z_xP zt61 2 6 [some (.ref a0)] [.ref a0] rfl rfl ?_
  refine z_xgR (κ := .inr (205, 0, 10, (-2147483648), 2147483647)) zt61 3 rfl zo61 zzf3_21 X2 k0 (by decide) (by decide) rfl (fun (a6 : Nat) h5 k7 => ?_)
  refine z_xP zt61 4 10 [some (.ref a0)] [.int 0, .ref a6] rfl rfl ?_
  refine z_xcS (vs := [.ref a6, .int 0]) (r := []) (L2 := [some (.ref a6), some (.int 0), none, none]) zt61 5 rfl zo61 zzcS3_66 (Or.inl rfl) (Nat.le_of_ble_eq_true rfl) rfl rfl (Nat.le_of_ble_eq_true rfl) zzm7 (Nat.le_of_ble_eq_true rfl) rfl ?_
  have q0 : ((0 : Int32)).toInt = 0 := rfl
  have q0 : ((0 : Int32)).toInt = 0 := rfl
  refine zC7 X2.1 ⟨(by decide), (X2.1.g4 k7 (by decide))⟩ k7 ⟨by omega, by omega⟩ (by decide) (fun M8 X9  => ?_)
  have X10 := X2.go X9 (z_sb (by decide))
  show z_ev (d + 1) 61 13 [some (.ref a0)] [] M8 _
  refine z_xrv zt61 6 rfl zzr61 ?_
  show z_ev (d + 2) 108 4 [some (.ref a0), some (.int p1), none] [] M8 _
  refine z_xP zt108 2 6 [some (.ref a0), some (.int p1), some (.int 0)] [] rfl rfl ?_
  have h12 := (X9.2.f k0 (by decide) h4)
  have q0 : ((0 : Int32)).toInt = 0 := rfl
  have q0 : ((0 : Int32)).toInt = 0 := rfl
  exact (zB108 k0 u1 hz0 bz0 kk 12) M8 (0) (0) X10 (by decide) h12 (by decide) (by omega) (by omega) (by omega)
def zw109 : List Nat := []
theorem zB109 {T : List zK} {d : Nat} {K : Option Value → zH → Prop} {a0 : Nat} {q : Nat} {t : Nat} {m : Nat} {M0 : zH} (k0 : T[a0]? = some (.inl (3, q, t, m, 5))) (kk : ∀ (x : Int32) (M1 : zH), z_X T zw109 M0 M1 → 0 ≤ x.toInt → x.toInt ≤ 67108863 → K (some (.int x)) M1) : ∀ n : Nat, (∀ (M : zH) (b1 : Int32) (b2 : Int32), z_X T zw109 M0 M → 0 ≤ b1.toInt ∧ b1.toInt ≤ 67108863 → 0 ≤ b2.toInt ∧ b2.toInt ≤ 5 → ((0) * 2 + 0) * 6 + (5 - b2.toInt) < (n : Int) → z_ev d 109 4 [some (.ref a0), some (.int b1), some (.int b2)] [] M K) := by
  intro n
  induction n with
  | zero => exact by intros; exfalso; omega
  | succ n ih =>
    intro M b1 b2 X hh0 hh1 hE
    have g0 := X.1.p3 k0
    refine z_xP zt109 1 6 [some (.ref a0), some (.int b1), some (.int b2)] [.ref a0, .int b2] rfl rfl ?_
    refine z_xgI zt109 2 rfl zo109 zzf3_53 X k0 (by decide) (by decide) rfl (fun (x2 : Int32) h1 (h3 : 0 ≤ x2.toInt) (h4 : x2.toInt ≤ (5 : Int)) => ?_)
    refine z_xJ zt109 3 rfl rfl (fun (h5 : x2.toInt ≤ b2.toInt) => ?_) (fun (h5 : b2.toInt < x2.toInt) => ?_)
    · skip
      refine z_xP zt109 15 32 [some (.ref a0), some (.int b1), some (.int b2)] [.int b1] rfl rfl ?_
      exact z_xri zt109 16 rfl zzr109 (kk b1 M X (by omega) (by omega))
    refine z_xP zt109 4 14 [some (.ref a0), some (.int b1), some (.int b2)] [.ref a0, .int b1] rfl rfl ?_
    refine z_xgR (κ := .inr (210, 0, 5, 0, ((m : Nat) : Int) - 1)) zt109 5 rfl zo109 zzf3_33 X k0 (by decide) (by decide) rfl (fun (a7 : Nat) h6 k8 => ?_)
    refine z_xP zt109 6 18 [some (.ref a0), some (.int b1), some (.int b2)] [.int b2, .ref a7, .int b1] rfl rfl ?_
    refine z_xil zt109 7 rfl X k8 (by decide) (by omega) (by omega) (fun (x9 : Int32) h10 (h11 : 0 ≤ x9.toInt) (h12 : x9.toInt ≤ ((m : Nat) : Int) - 1) => ?_)
    refine z_xP zt109 8 21 [some (.ref a0), some (.int b1), some (.int b2)] [.int b2, .int 4, .int x9, .int b1] rfl rfl ?_
    refine z_xI zt109 9 rfl rfl (fun (x13 : Int32) (h14 : x13.toInt = 4 * b2.toInt) => ?_) (z_pMul rfl rfl (by omega) (by omega))
    refine z_xI zt109 10 rfl rfl (fun (x15 : Int32) (h16 : x9.toInt ≤ x15.toInt ∧ x15.toInt ≤ 67043328) => ?_) (z_pShlB (a := 1023) (b := 16) (c := 65536) (r := 67043328) rfl rfl (by omega) (by omega) (by omega) (by omega) (by decide) (by decide) (by decide) (by decide))
    refine z_xI zt109 11 rfl rfl (fun (x17 : Int32) (h18 : 0 ≤ x17.toInt ∧ x17.toInt < 67108864 ∧ b1.toInt ≤ x17.toInt ∧ x15.toInt ≤ x17.toInt) => ?_) (z_pOr 26 rfl rfl (by omega) (by omega) (by decide) (by omega) (by omega) (by decide))
    refine z_xP zt109 12 25 [some (.ref a0), some (.int x17), some (.int b2)] [] rfl rfl ?_
    refine z_xN zt109 13 rfl rfl (fun (x19 : Int32) (h20 : x19.toInt = b2.toInt + 1) => ?_) (z_pAdd rfl rfl (by omega) (by omega))
    show z_ev d 109 28 [some (.ref a0), some (.int x17), some (.int x19)] [] M _
    refine z_xP zt109 14 4 [some (.ref a0), some (.int x17), some (.int x19)] [] rfl rfl ?_
    exact ih M x17 x19 X ⟨by omega, by omega⟩ ⟨by omega, by omega⟩ (by omega)
theorem zC109 {T : List zK} {d : Nat} {K : Option Value → zH → Prop} {a0 : Nat} {q : Nat} {t : Nat} {m : Nat} {M0 : zH} (hW : z_W M0 T) (k0 : T[a0]? = some (.inl (3, q, t, m, 5))) (kk : ∀ (x : Int32) (M1 : zH), z_X T zw109 M0 M1 → 0 ≤ x.toInt → x.toInt ≤ 67108863 → K (some (.int x)) M1) : z_ev d 109 0 [some (.ref a0), none, none] [] M0 K := by
  have X : z_X T zw109 M0 M0 := .refl hW
  have g0 := X.1.p3 k0
  refine z_xP zt109 0 4 [some (.ref a0), some (.int 0), some (.int 0)] [] rfl rfl ?_
  have q0 : ((0 : Int32)).toInt = 0 := rfl
  exact (zB109 k0 kk 12) M0 (0) (0) X (by decide) (by decide) (by omega)
def zw111 : List Nat := [202, 203, 205]
theorem zB111 {T : List zK} {d : Nat} {K : Option Value → zH → Prop} {a0 : Nat} {q : Nat} {t : Nat} {m : Nat} {M0 : zH} (k0 : T[a0]? = some (.inl (3, q, t, m, 5))) (kk : ∀ (M1 : zH), z_X T zw111 M0 M1 → K none M1) : ∀ n : Nat, (∀ (M : zH) (b1 : Int32) (o2 : Option Value), z_X T zw111 M0 M → 0 ≤ b1.toInt ∧ b1.toInt ≤ 5 → ((0) * 2 + 0) * 6 + (5 - b1.toInt) < (n : Int) → z_ev (d + 1) 111 2 [some (.ref a0), some (.int b1), o2] [] M K) := by
  intro n
  induction n with
  | zero => exact by intros; exfalso; omega
  | succ n ih =>
    intro M b1 o2 X hh0 hE
    have g0 := X.1.p3 k0
    refine z_xP zt111 1 4 [some (.ref a0), some (.int b1), o2] [.ref a0, .int b1] rfl rfl ?_
    refine z_xgI zt111 2 rfl zo111 zzf3_53 X k0 (by decide) (by decide) rfl (fun (x2 : Int32) h1 (h3 : 0 ≤ x2.toInt) (h4 : x2.toInt ≤ (5 : Int)) => ?_)
    refine z_xJ zt111 3 rfl rfl (fun (h5 : x2.toInt ≤ b1.toInt) => ?_) (fun (h5 : b1.toInt < x2.toInt) => ?_)
    · skip
      exact z_xrv zt111 27 rfl zzr111 (kk M X)
    refine z_xP zt111 4 11 [some (.ref a0), some (.int b1), o2] [.ref a0] rfl rfl ?_
    refine z_xgR (κ := .inl (2, q, t, m, 0)) zt111 5 rfl zo111 zzf3_39 X k0 (by decide) (by decide) rfl (fun (a7 : Nat) h6 k8 => ?_)
    have g9 := X.1.p2 k8
    refine z_xgR (κ := .inr (102, 0, m, 0, 1023)) zt111 6 rfl zo111 zzf3_101 X k8 (by decide) (by decide) rfl (fun (a11 : Nat) h10 k12 => ?_)
    refine z_xP zt111 7 18 [some (.ref a0), some (.int b1), o2] [.ref a0, .ref a11] rfl rfl ?_
    refine z_xgR (κ := .inr (210, 0, 5, 0, ((m : Nat) : Int) - 1)) zt111 8 rfl zo111 zzf3_33 X k0 (by decide) (by decide) rfl (fun (a14 : Nat) h13 k15 => ?_)
    refine z_xP zt111 9 22 [some (.ref a0), some (.int b1), o2] [.int b1, .ref a14, .ref a11] rfl rfl ?_
    refine z_xil zt111 10 rfl X k15 (by decide) (by omega) (by omega) (fun (x16 : Int32) h17 (h18 : 0 ≤ x16.toInt) (h19 : x16.toInt ≤ ((m : Nat) : Int) - 1) => ?_)
    refine z_xil zt111 11 rfl X k12 (by decide) (by omega) (by omega) (fun (x20 : Int32) h21 (h22 : 0 ≤ x20.toInt) (h23 : x20.toInt ≤ 1023) => ?_)
    refine z_xP zt111 12 26 [some (.ref a0), some (.int b1), some (.int x20)] [.ref a0] rfl rfl ?_
    refine z_xgR (κ := .inr (202, 0, 9, (-2147483648), 2147483647)) zt111 13 rfl zo111 zzf3_15 X k0 (by decide) (by decide) rfl (fun (a25 : Nat) h24 k26 => ?_)
    refine z_xP zt111 14 30 [some (.ref a0), some (.int b1), some (.int x20)] [.int b1, .ref a25] rfl rfl ?_
    refine z_xil zt111 15 rfl X k26 (by decide) (by omega) (by omega) (fun (x27 : Int32) h28 (h29 : (-2147483648) ≤ x27.toInt) (h30 : x27.toInt ≤ 2147483647) => ?_)
    refine z_xP zt111 16 32 [some (.ref a0), some (.int b1), some (.int x20)] [.int x20, .int x27] rfl rfl ?_
    have h31 := z_b32 x27
    refine z_xJ zt111 17 rfl rfl (fun (h32 : x27.toInt = x20.toInt) => ?_) (fun (h32 : x27.toInt ≠ x20.toInt) => ?_)
    · skip
      refine z_xN zt111 25 rfl rfl (fun (x33 : Int32) (h34 : x33.toInt = b1.toInt + 1) => ?_) (z_pAdd rfl rfl (by omega) (by omega))
      show z_ev (d + 1) 111 55 [some (.ref a0), some (.int x33), some (.int x20)] [] M _
      refine z_xP zt111 26 2 [some (.ref a0), some (.int x33), some (.int x20)] [] rfl rfl ?_
      exact ih M x33 (some (.int x20)) X ⟨by omega, by omega⟩ (by omega)
    refine z_xP zt111 18 39 [some (.ref a0), some (.int b1), some (.int x20)] [.ref a0, .int x20, .int b1, .ref a0] rfl rfl ?_
    refine z_xgv zt111 19 rfl zo111 zzf3_39 X k0 (by decide) h6 ?_
    refine z_xgI zt111 20 rfl zo111 zzf3_56 X k8 (by decide) (by decide) rfl (fun (x36 : Int32) h35 (h37 : ((z_po q : Nat) : Int) - 1 ≤ x36.toInt) (h38 : x36.toInt ≤ ((z_po q : Nat) : Int) - 1) => ?_)
    refine z_xP zt111 21 47 [some (.ref a0), some (.int b1), some (.int x20)] [.int (-1), .int x20, .int x36, .int x20, .int b1, .ref a0] rfl rfl ?_
    refine z_xI zt111 22 rfl rfl (P := fun _ => True) (fun (x39 : Int32) _ => ?_) trivial
    refine z_xI zt111 23 rfl rfl (fun (x41 : Int32) (h42 : 0 ≤ x41.toInt ∧ x41.toInt ≤ x36.toInt) => ?_) (z_pAndL rfl (by omega))
    refine z_xcV (vs := [.ref a0, .int b1, .int x20, .int x41]) (r := []) (L2 := [some (.ref a0), some (.int b1), some (.int x20), some (.int x41), none, none, none, none]) zt111 24 rfl zo111 zzcV3_59 (Or.inl rfl) rfl X k0 rfl rfl rfl (Nat.le_of_ble_eq_true rfl) zzm54 (Nat.le_of_ble_eq_true rfl) rfl ?_
    refine zC54 X.1 k0 (by omega) (fun M43 X44  => ?_)
    have X45 := X.go X44 (z_sb (by decide))
    show z_ev (d + 1) 111 52 [some (.ref a0), some (.int b1), some (.int x20)] [] M43 _
    refine z_xN zt111 25 rfl rfl (fun (x47 : Int32) (h48 : x47.toInt = b1.toInt + 1) => ?_) (z_pAdd rfl rfl (by omega) (by omega))
    show z_ev (d + 1) 111 55 [some (.ref a0), some (.int x47), some (.int x20)] [] M43 _
    refine z_xP zt111 26 2 [some (.ref a0), some (.int x47), some (.int x20)] [] rfl rfl ?_
    exact ih M43 x47 (some (.int x20)) X45 ⟨by omega, by omega⟩ (by omega)
theorem zC111 {T : List zK} {d : Nat} {K : Option Value → zH → Prop} {a0 : Nat} {q : Nat} {t : Nat} {m : Nat} {M0 : zH} (hW : z_W M0 T) (k0 : T[a0]? = some (.inl (3, q, t, m, 5))) (kk : ∀ (M1 : zH), z_X T zw111 M0 M1 → K none M1) : z_ev (d + 1) 111 0 [some (.ref a0), none, none] [] M0 K := by
  have X : z_X T zw111 M0 M0 := .refl hW
  have g0 := X.1.p3 k0
  refine z_xP zt111 0 2 [some (.ref a0), some (.int 0), none] [] rfl rfl ?_
  have q0 : ((0 : Int32)).toInt = 0 := rfl
  exact (zB111 k0 kk 12) M0 (0) none X (by decide) (by omega)
def zw110 : List Nat := [202, 203, 205, 210]
theorem zB110 {T : List zK} {d : Nat} {K : Option Value → zH → Prop} {a0 : Nat} {q : Nat} {t : Nat} {m : Nat} {M0 : zH} (k0 : T[a0]? = some (.inl (3, q, t, m, 5))) (kk : ∀ (M1 : zH), z_X T zw110 M0 M1 → K none M1) : ∀ n : Nat, (∀ (M : zH) (b1 : Int32) (b2 : Int32), z_X T zw110 M0 M → (-1) ≤ b1.toInt ∧ b1.toInt ≤ 1023 → (-1) ≤ b2.toInt ∧ b2.toInt ≤ 4 → b1.toInt = ((m : Nat) : Int) - 1 → ((0) * 3 + 1) * 6 + (b2.toInt - (-1)) < (n : Int) → z_ev (d + 2) 110 18 [some (.ref a0), some (.int b1), some (.int b2), none, none] [] M K) ∧ (∀ (M : zH) (b1 : Int32) (b2 : Int32) (b3 : Int32) (b4 : Int32), z_X T zw110 M0 M → 1 ≤ b1.toInt ∧ b1.toInt ≤ 1023 → 0 ≤ b2.toInt ∧ b2.toInt ≤ 4 → 1 ≤ b3.toInt ∧ b3.toInt ≤ 1023 → 0 ≤ b4.toInt ∧ b4.toInt ≤ 5 → b3.toInt < ((m : Nat) : Int) → ((0) * 3 + 0) * 6 + (5 - b4.toInt) < (n : Int) → z_ev (d + 2) 110 55 [some (.ref a0), some (.int b1), some (.int b2), some (.int b3), some (.int b4)] [] M K) := by
  intro n
  induction n with
  | zero => exact ⟨(by intros; exfalso; omega), (by intros; exfalso; omega)⟩
  | succ n ih =>
    refine ⟨?_, ?_⟩
    · skip
      intro M b1 b2 X hh0 hh1 hh2 hE
      have g0 := X.1.p3 k0
      refine z_xP zt110 11 19 [some (.ref a0), some (.int b1), some (.int b2), none, none] [.int b2] rfl rfl ?_
      refine z_xZ zt110 12 rfl rfl (fun (h1 : b2.toInt < 0) => ?_) (fun (h1 : 0 ≤ b2.toInt) => ?_)
      · skip
        refine z_xP zt110 21 39 [some (.ref a0), some (.int b1), some (.int b2), none, none] [.int b2] rfl rfl ?_
        refine z_xZ zt110 22 rfl rfl (fun (h2 : 0 ≤ b2.toInt) => absurd h2 (by omega)) (fun (h2 : b2.toInt < 0) => ?_)
        exact z_xrv zt110 23 rfl zzr110 (kk M X)
      refine z_xP zt110 13 23 [some (.ref a0), some (.int b1), some (.int b2), none, none] [.ref a0] rfl rfl ?_
      refine z_xgR (κ := .inr (210, 0, 5, 0, ((m : Nat) : Int) - 1)) zt110 14 rfl zo110 zzf3_33 X k0 (by decide) (by decide) rfl (fun (a4 : Nat) h3 k5 => ?_)
      refine z_xP zt110 15 27 [some (.ref a0), some (.int b1), some (.int b2), none, none] [.int b2, .ref a4] rfl rfl ?_
      refine z_xil zt110 16 rfl X k5 (by decide) (by omega) (by omega) (fun (x6 : Int32) h7 (h8 : 0 ≤ x6.toInt) (h9 : x6.toInt ≤ ((m : Nat) : Int) - 1) => ?_)
      refine z_xP zt110 17 29 [some (.ref a0), some (.int b1), some (.int b2), none, none] [.int b1, .int x6] rfl rfl ?_
      refine z_xJ zt110 18 rfl rfl (fun (h10 : x6.toInt < b1.toInt) => ?_) (fun (h10 : b1.toInt ≤ x6.toInt) => ?_)
      · skip
        refine z_xP zt110 21 39 [some (.ref a0), some (.int b1), some (.int b2), none, none] [.int b2] rfl rfl ?_
        refine z_xZ zt110 22 rfl rfl (fun (h11 : 0 ≤ b2.toInt) => ?_) (fun (h11 : b2.toInt < 0) => absurd h11 (by omega))
        refine z_xP zt110 24 44 [some (.ref a0), some (.int b1), some (.int b2), none, none] [.ref a0] rfl rfl ?_
        refine z_xgv zt110 25 rfl zo110 zzf3_33 X k0 (by decide) h3 ?_
        refine z_xP zt110 26 48 [some (.ref a0), some (.int b1), some (.int b2), none, none] [.int b2, .ref a4] rfl rfl ?_
        refine z_xil zt110 27 rfl X k5 (by decide) (by omega) (by omega) (fun (x12 : Int32) h13 (h14 : 0 ≤ x12.toInt) (h15 : x12.toInt ≤ ((m : Nat) : Int) - 1) => ?_)
        have h16 := congrArg Int32.toInt (h13.symm.trans h7)
        refine z_xP zt110 28 50 [some (.ref a0), some (.int b1), some (.int b2), none, none] [.int 1, .int x12] rfl rfl ?_
        refine z_xI zt110 29 rfl rfl (fun (x17 : Int32) (h18 : x17.toInt = x12.toInt + 1) => ?_) (z_pAdd rfl rfl (by omega) (by omega))
        refine z_xP zt110 30 55 [some (.ref a0), some (.int b1), some (.int b2), some (.int x17), some (.int b2)] [] rfl rfl ?_
        exact ih.2 M b1 b2 x17 b2 X ⟨by omega, by omega⟩ ⟨by omega, by omega⟩ ⟨by omega, by omega⟩ ⟨by omega, by omega⟩ (by omega) (by omega)
      refine z_xN zt110 19 rfl rfl (fun (x19 : Int32) (h20 : x19.toInt = b2.toInt + (-1)) => ?_) (z_pAdd rfl rfl (by omega) (by omega))
      show z_ev (d + 2) 110 35 [some (.ref a0), some (.int b1), some (.int x19), none, none] [] M _
      refine z_xP zt110 20 18 [some (.ref a0), some (.int b1), some (.int x19), none, none] [] rfl rfl ?_
      exact ih.1 M b1 x19 X ⟨by omega, by omega⟩ ⟨by omega, by omega⟩ (by omega) (by omega)
    · skip
      intro M b1 b2 b3 b4 X hh0 hh1 hh2 hh3 hh4 hE
      have g0 := X.1.p3 k0
      refine z_xP zt110 31 58 [some (.ref a0), some (.int b1), some (.int b2), some (.int b3), some (.int b4)] [.ref a0, .int b4] rfl rfl ?_
      refine z_xgI zt110 32 rfl zo110 zzf3_53 X k0 (by decide) (by decide) rfl (fun (x2 : Int32) h1 (h3 : 0 ≤ x2.toInt) (h4 : x2.toInt ≤ (5 : Int)) => ?_)
      refine z_xJ zt110 33 rfl rfl (fun (h5 : x2.toInt ≤ b4.toInt) => ?_) (fun (h5 : b4.toInt < x2.toInt) => ?_)
      · skip
        refine z_xP zt110 40 79 [some (.ref a0), some (.int b1), some (.int b2), some (.int b3), some (.int b4)] [.ref a0] rfl rfl ?_
        refine z_xcV (vs := [.ref a0]) (r := []) (L2 := [some (.ref a0), none, none]) zt110 41 rfl zo110 zzcV3_148 (Or.inl rfl) rfl X k0 rfl rfl rfl (Nat.le_of_ble_eq_true rfl) zzm111 (Nat.le_of_ble_eq_true rfl) rfl ?_
        refine zC111 X.1 k0 (fun M6 X7  => ?_)
        have X8 := X.go X7 (z_sb (by decide))
        show z_ev (d + 2) 110 82 [some (.ref a0), some (.int b1), some (.int b2), some (.int b3), some (.int b4)] [] M6 _
        exact z_xrv zt110 42 rfl zzr110 (kk M6 X8)
      refine z_xP zt110 34 65 [some (.ref a0), some (.int b1), some (.int b2), some (.int b3), some (.int b4)] [.ref a0] rfl rfl ?_
      refine z_xgR (κ := .inr (210, 0, 5, 0, ((m : Nat) : Int) - 1)) zt110 35 rfl zo110 zzf3_33 X k0 (by decide) (by decide) rfl (fun (a11 : Nat) h10 k12 => ?_)
      refine z_xP zt110 36 71 [some (.ref a0), some (.int b1), some (.int b2), some (.int b3), some (.int b4)] [.int b3, .int b4, .ref a11] rfl rfl ?_
      refine z_xis zt110 37 rfl X k12 (by decide) (X.1.g4 k12 (by decide)) (by omega) (by omega) (by omega) (by omega) (by decide) (fun M13 X14 e15 h16 => ?_)
      refine z_xN zt110 38 rfl rfl (fun (x17 : Int32) (h18 : x17.toInt = b4.toInt + 1) => ?_) (z_pAdd rfl rfl (by omega) (by omega))
      show z_ev (d + 2) 110 75 [some (.ref a0), some (.int b1), some (.int b2), some (.int b3), some (.int x17)] [] M13 _
      refine z_xP zt110 39 55 [some (.ref a0), some (.int b1), some (.int b2), some (.int b3), some (.int x17)] [] rfl rfl ?_
      exact ih.2 M13 b1 b2 b3 x17 X14 ⟨by omega, by omega⟩ ⟨by omega, by omega⟩ ⟨by omega, by omega⟩ ⟨by omega, by omega⟩ (by omega) (by omega)
theorem zC110 {T : List zK} {d : Nat} {K : Option Value → zH → Prop} {a0 : Nat} {q : Nat} {t : Nat} {m : Nat} {M0 : zH} (hW : z_W M0 T) (k0 : T[a0]? = some (.inl (3, q, t, m, 5))) (kk : ∀ (M1 : zH), z_X T zw110 M0 M1 → K none M1) : z_ev (d + 2) 110 0 [some (.ref a0), none, none, none, none] [] M0 K := by
  have X : z_X T zw110 M0 M0 := .refl hW
  have g0 := X.1.p3 k0
  refine z_xP zt110 0 1 [some (.ref a0), none, none, none, none] [.ref a0] rfl rfl ?_
  refine z_xgR (κ := .inl (2, q, t, m, 0)) zt110 1 rfl zo110 zzf3_39 X k0 (by decide) (by decide) rfl (fun (a2 : Nat) h1 k3 => ?_)
  have g4 := X.1.p2 k3
  refine z_xgR (κ := .inr (102, 0, m, 0, 1023)) zt110 2 rfl zo110 zzf3_101 X k3 (by decide) (by decide) rfl (fun (a6 : Nat) h5 k7 => ?_)
  refine z_xln zt110 3 rfl X k7 (by decide) (by omega) (fun (x8 : Int32) (h9 : x8.toInt = ((m : Nat) : Int)) => ?_)
  refine z_xP zt110 4 9 [some (.ref a0), none, none, none, none] [.int 1, .int x8] rfl rfl ?_
  refine z_xI zt110 5 rfl rfl (fun (x10 : Int32) (h11 : x10.toInt = x8.toInt - 1) => ?_) (z_pSub rfl rfl (by omega) (by omega))
  refine z_xP zt110 6 12 [some (.ref a0), some (.int x10), none, none, none] [.ref a0] rfl rfl ?_
  refine z_xgI zt110 7 rfl zo110 zzf3_53 X k0 (by decide) (by decide) rfl (fun (x13 : Int32) h12 (h14 : 0 ≤ x13.toInt) (h15 : x13.toInt ≤ (5 : Int)) => ?_)
  refine z_xP zt110 8 16 [some (.ref a0), some (.int x10), none, none, none] [.int 1, .int x13] rfl rfl ?_
  refine z_xI zt110 9 rfl rfl (fun (x16 : Int32) (h17 : x16.toInt = x13.toInt - 1) => ?_) (z_pSub rfl rfl (by omega) (by omega))
  refine z_xP zt110 10 18 [some (.ref a0), some (.int x10), some (.int x16), none, none] [] rfl rfl ?_
  exact (zB110 k0 kk 18).1 M0 x10 x16 X ⟨by omega, by omega⟩ ⟨by omega, by omega⟩ (by omega) (by omega)
def zw107 : List Nat := [201, 202, 203, 205, 206, 207, 208, 209, 210, 1304]
theorem zB107 {T : List zK} {d : Nat} {K : Option Value → zH → Prop} {a0 : Nat} {ci : Nat} {a1 : Nat} {q1 : Nat} {t1 : Nat} {m1 : Nat} {p2 : Int32} {p3 : Int32} {M0 : zH} (w0 : 4 ≤ ci ∧ ci ≤ 11) (k0 : T[a0]? = some (.inl (ci, 0, 0, 0, 0))) (k1 : T[a1]? = some (.inl (3, q1, t1, m1, 5))) (u2 : 1 ≤ p2.toInt ∧ p2.toInt ≤ 5) (u3 : 0 ≤ p3.toInt ∧ p3.toInt ≤ 1) (kk : ∀ (x : Int32) (M1 : zH), z_X T zw107 M0 M1 → K (some (.int x)) M1) : ∀ n : Nat, (∀ (M : zH) (b4 : Int32) (b5 : Int32) (b6 : Int32), z_X T zw107 M0 M → 0 ≤ b5.toInt ∧ b5.toInt ≤ 4368 → 0 ≤ b6.toInt ∧ b6.toInt ≤ 8191 → ((0) * 2 + 0) * 8192 + (8191 - b6.toInt) < (n : Int) → z_ev (d + 4) 107 13 [some (.ref a0), some (.ref a1), some (.int p2), some (.int p3), some (.int b4), some (.int b5), some (.int b6)] [] M K) := by
  intro n
  induction n with
  | zero => exact by intros; exfalso; omega
  | succ n ih =>
    intro M b4 b5 b6 X hh0 hh1 hE
    have g1 := X.1.p3 k1
    refine z_xP zt107 3 17 [some (.ref a0), some (.ref a1), some (.int p2), some (.int p3), some (.int b4), some (.int b5), some (.int b6)] [.int b5, .int b6] rfl rfl ?_
    refine z_xJ zt107 4 rfl rfl (fun (h1 : b5.toInt ≤ b6.toInt) => ?_) (fun (h1 : b6.toInt < b5.toInt) => ?_)
    · skip
      refine z_xP zt107 21 58 [some (.ref a0), some (.ref a1), some (.int p2), some (.int p3), some (.int b4), some (.int b5), some (.int b6)] [.int p3] rfl rfl ?_
      refine z_xZ zt107 22 rfl rfl (fun (h2 : p3.toInt = 0) => ?_) (fun (h2 : p3.toInt ≠ 0) => ?_)
      · skip
        refine z_xP zt107 24 68 [some (.ref a0), some (.ref a1), some (.int p2), some (.int p3), some (.int b4), some (.int b5), some (.int b6)] [.int b4] rfl rfl ?_
        exact z_xri zt107 25 rfl zzr107 (kk b4 M X)
      refine z_xP zt107 23 68 [some (.ref a0), some (.ref a1), some (.int p2), some (.int p3), some (.int b4), some (.int b5), some (.int b6)] [.int (-2)] rfl rfl ?_
      have qm2 : (((-2) : Int32)).toInt = (-2) := rfl
      exact z_xri zt107 25 rfl zzr107 (kk (-2) M X)
    refine z_xP zt107 5 21 [some (.ref a0), some (.ref a1), some (.int p2), some (.int p3), some (.int b4), some (.int b5), some (.int b6)] [.ref a1] rfl rfl ?_
    refine z_xgR (κ := .inl (2, q1, t1, m1, 0)) zt107 6 rfl zo107 zzf4_50 X k1 (by decide) (by decide) rfl (fun (a4 : Nat) h3 k5 => ?_)
    have g6 := X.1.p2 k5
    refine z_xP zt107 7 26 [some (.ref a0), some (.ref a1), some (.int p2), some (.int p3), some (.int b4), some (.int b5), some (.int b6)] [.ref a1, .ref a0, .ref a4] rfl rfl ?_
    refine zVdecide zt107 8 rfl zo107 zzcV4_54 X k0 w0 (Nat.le_of_ble_eq_true rfl) k1 (fun x9 M7 X8  => ?_)
    have X10 := X.go X8 (z_sb (by decide))
    show z_ev (d + 4) 107 29 [some (.ref a0), some (.ref a1), some (.int p2), some (.int p3), some (.int b4), some (.int b5), some (.int b6)] [.int x9, .ref a4] M7 _
    refine z_xcV (vs := [.ref a4, .int x9]) (r := []) (L2 := [some (.ref a4), some (.int x9), none]) zt107 9 rfl zo107 zzcV4_58 (Or.inl rfl) rfl X10 k5 rfl rfl rfl (Nat.le_of_ble_eq_true rfl) zzm44 (Nat.le_of_ble_eq_true rfl) rfl ?_
    refine zC44 X10.1 k5 (fun x14 M12 X13 h15 h16 => ?_)
    have X17 := X10.go X13 (z_sb (by decide))
    show z_ev (d + 4) 107 32 [some (.ref a0), some (.ref a1), some (.int p2), some (.int p3), some (.int b4), some (.int b5), some (.int b6)] [.int x14] M12 _
    refine z_xZ zt107 10 rfl rfl (fun (h19 : x14.toInt ≠ 0) => ?_) (fun (h19 : x14.toInt = 0) => ?_)
    · skip
      refine z_xP zt107 17 48 [some (.ref a0), some (.ref a1), some (.int p2), some (.int p3), some (.int b4), some (.int b5), some (.int b6)] [.ref a1] rfl rfl ?_
      refine z_xcV (vs := [.ref a1]) (r := []) (L2 := [some (.ref a1), none, none, none, none]) zt107 18 rfl zo107 zzcV4_68 (Or.inl rfl) rfl X17 k1 rfl rfl rfl (Nat.le_of_ble_eq_true rfl) zzm110 (Nat.le_of_ble_eq_true rfl) rfl ?_
      refine zC110 X17.1 k1 (fun M20 X21  => ?_)
      have X22 := X17.go X21 (z_sb (by decide))
      show z_ev (d + 4) 107 51 [some (.ref a0), some (.ref a1), some (.int p2), some (.int p3), some (.int b4), some (.int b5), some (.int b6)] [] M20 _
      refine z_xN zt107 19 rfl rfl (fun (x24 : Int32) (h25 : x24.toInt = b6.toInt + 1) => ?_) (z_pAdd rfl rfl (by omega) (by omega))
      show z_ev (d + 4) 107 54 [some (.ref a0), some (.ref a1), some (.int p2), some (.int p3), some (.int b4), some (.int b5), some (.int x24)] [] M20 _
      refine z_xP zt107 20 13 [some (.ref a0), some (.ref a1), some (.int p2), some (.int p3), some (.int b4), some (.int b5), some (.int x24)] [] rfl rfl ?_
      exact ih M20 b4 b5 x24 X22 ⟨by omega, by omega⟩ ⟨by omega, by omega⟩ (by omega)
    refine z_xP zt107 11 36 [some (.ref a0), some (.ref a1), some (.int p2), some (.int p3), some (.int b4), some (.int b5), some (.int b6)] [.int p3] rfl rfl ?_
    refine z_xZ zt107 12 rfl rfl (fun (h26 : p3.toInt = 0) => ?_) (fun (h26 : p3.toInt ≠ 0) => ?_)
    · skip
      have h27 := z_b32 b4
      refine z_xN zt107 16 rfl rfl (fun (x28 : Int32) (h29 : True) => ?_) (trivial)
      show z_ev (d + 4) 107 47 [some (.ref a0), some (.ref a1), some (.int p2), some (.int p3), some (.int x28), some (.int b5), some (.int b6)] [] M12 _
      refine z_xP zt107 17 48 [some (.ref a0), some (.ref a1), some (.int p2), some (.int p3), some (.int x28), some (.int b5), some (.int b6)] [.ref a1] rfl rfl ?_
      refine z_xcV (vs := [.ref a1]) (r := []) (L2 := [some (.ref a1), none, none, none, none]) zt107 18 rfl zo107 zzcV4_68 (Or.inl rfl) rfl X17 k1 rfl rfl rfl (Nat.le_of_ble_eq_true rfl) zzm110 (Nat.le_of_ble_eq_true rfl) rfl ?_
      refine zC110 X17.1 k1 (fun M30 X31  => ?_)
      have X32 := X17.go X31 (z_sb (by decide))
      show z_ev (d + 4) 107 51 [some (.ref a0), some (.ref a1), some (.int p2), some (.int p3), some (.int x28), some (.int b5), some (.int b6)] [] M30 _
      refine z_xN zt107 19 rfl rfl (fun (x34 : Int32) (h35 : x34.toInt = b6.toInt + 1) => ?_) (z_pAdd rfl rfl (by omega) (by omega))
      show z_ev (d + 4) 107 54 [some (.ref a0), some (.ref a1), some (.int p2), some (.int p3), some (.int x28), some (.int b5), some (.int x34)] [] M30 _
      refine z_xP zt107 20 13 [some (.ref a0), some (.ref a1), some (.int p2), some (.int p3), some (.int x28), some (.int b5), some (.int x34)] [] rfl rfl ?_
      exact ih M30 x28 b5 x34 X32 ⟨by omega, by omega⟩ ⟨by omega, by omega⟩ (by omega)
    refine z_xP zt107 13 40 [some (.ref a0), some (.ref a1), some (.int p2), some (.int p3), some (.int b4), some (.int b5), some (.int b6)] [.ref a1] rfl rfl ?_
    refine z_xcV (vs := [.ref a1]) (r := []) (L2 := [some (.ref a1), none, none]) zt107 14 rfl zo107 zzcV4_64 (Or.inl rfl) rfl X17 k1 rfl rfl rfl (Nat.le_of_ble_eq_true rfl) zzm109 (Nat.le_of_ble_eq_true rfl) rfl ?_
    refine zC109 X17.1 k1 (fun x38 M36 X37 h39 h40 => ?_)
    have X41 := X17.go X37 (z_sb (by decide))
    show z_ev (d + 4) 107 43 [some (.ref a0), some (.ref a1), some (.int p2), some (.int p3), some (.int b4), some (.int b5), some (.int b6)] [.int x38] M36 _
    exact z_xri zt107 15 rfl zzr107 (kk x38 M36 X41)
theorem zC107 {T : List zK} {d : Nat} {K : Option Value → zH → Prop} {a0 : Nat} {ci : Nat} {a1 : Nat} {q1 : Nat} {t1 : Nat} {m1 : Nat} {p2 : Int32} {p3 : Int32} {M0 : zH} (hW : z_W M0 T) (w0 : 4 ≤ ci ∧ ci ≤ 11) (k0 : T[a0]? = some (.inl (ci, 0, 0, 0, 0))) (k1 : T[a1]? = some (.inl (3, q1, t1, m1, 5))) (u2 : 1 ≤ p2.toInt ∧ p2.toInt ≤ 5) (u3 : 0 ≤ p3.toInt ∧ p3.toInt ≤ 1) (kk : ∀ (x : Int32) (M1 : zH), z_X T zw107 M0 M1 → K (some (.int x)) M1) : z_ev (d + 4) 107 0 [some (.ref a0), some (.ref a1), some (.int p2), some (.int p3), none, none, none] [] M0 K := by
  have X : z_X T zw107 M0 M0 := .refl hW
  have g1 := X.1.p3 k1
  refine z_xP zt107 0 5 [some (.ref a0), some (.ref a1), some (.int p2), some (.int p3), some (.int 0), none, none] [.int p2, .ref a1] rfl rfl ?_
  refine z_xcV (vs := [.ref a1, .int p2]) (r := []) (L2 := [some (.ref a1), some (.int p2), none]) zt107 1 rfl zo107 zzcV4_45 (Or.inl rfl) rfl X k1 rfl rfl rfl (Nat.le_of_ble_eq_true rfl) zzm108 (Nat.le_of_ble_eq_true rfl) rfl ?_
  obtain ⟨x1, h2, h3, h4⟩ := z_W.fi X.1 k1 (k := 4) (lo := 0) (hi := (5 : Int)) (by decide) rfl
  refine zC108 X.1 k1 (by omega) h2 ⟨by omega, by omega⟩ (fun x11 M5 X6 h12 h13 z7 h8 h9 h10 => ?_)
  have X14 := X.go X6 (z_sb (by decide))
  show z_ev (d + 4) 107 8 [some (.ref a0), some (.ref a1), some (.int p2), some (.int p3), some (.int 0), none, none] [.int x11] M5 _
  refine z_xP zt107 2 13 [some (.ref a0), some (.ref a1), some (.int p2), some (.int p3), some (.int 0), some (.int x11), some (.int 0)] [] rfl rfl ?_
  have q0 : ((0 : Int32)).toInt = 0 := rfl
  exact (zB107 w0 k0 k1 u2 u3 kk 16384) M5 (0) x11 (0) X14 ⟨by omega, by omega⟩ (by decide) (by omega)
def zw106 : List Nat := [201, 202, 203, 205, 206, 207, 208, 209, 210, 1304]
theorem zC106 {T : List zK} {d : Nat} {K : Option Value → zH → Prop} {p1 : Int32} {p2 : Int32} {p3 : Int32} {p4 : Int32} {M0 : zH} (hW : z_W M0 T)  (hG : z_GG T M0) (kk : ∀ (x : Int32) (M1 : zH), z_X T zw106 M0 M1 → K (some (.int x)) M1) : z_ev (d + 5) 106 0 [some (.ref 4), some (.int p1), some (.int p2), some (.int p3), some (.int p4), none, none] [] M0 K := by
  have X : z_X T zw106 M0 M0 := .refl hW
  refine z_xP zt106 0 2 [some (.ref 4), some (.int p1), some (.int p2), some (.int p3), some (.int p4), none, none] [.int p1, .ref 4] rfl rfl ?_
  have f4 : T[4]? = some (.inl (0, 0, 0, 0, 0)) := X.1.k rfl (by decide)
  refine z_xcV (vs := [.ref 4, .int p1]) (r := []) (L2 := [some (.ref 4), some (.int p1)]) zt106 1 rfl zo106 zzcV0_221 (Or.inl rfl) rfl X f4 rfl rfl rfl (Nat.le_of_ble_eq_true rfl) zzm84 (Nat.le_of_ble_eq_true rfl) rfl ?_
  refine z_xP zt84 0 1 [some (.ref 4), some (.int p1)] [.int p1] rfl rfl ?_
  refine z_xZ zt84 1 rfl rfl (fun (h1 : p1.toInt < 0) => ?_) (fun (h1 : 0 ≤ p1.toInt) => ?_)
  · skip
    refine z_xP zt84 5 22 [some (.ref 4), some (.int p1)] [.null] rfl rfl ?_
    refine z_xrn zt84 10 rfl zzr84 ?_
    show z_ev (d + 5) 106 5 [some (.ref 4), some (.int p1), some (.int p2), some (.int p3), some (.int p4), none, none] [.null] M0 _
    refine z_xP zt106 2 20 [some (.ref 4), some (.int p1), some (.int p2), some (.int p3), some (.int p4), some (.null), none] [] rfl rfl ?_
    refine z_xP zt106 6 21 [some (.ref 4), some (.int p1), some (.int p2), some (.int p3), some (.int p4), some (.null), none] [.int (-1)] rfl rfl ?_
    have qm1 : (((-1) : Int32)).toInt = (-1) := rfl
    exact z_xri zt106 7 rfl zzr106 (kk (-1) M0 X)
  refine z_xP zt84 2 6 [some (.ref 4), some (.int p1)] [.ref 4, .int p1] rfl rfl ?_
  refine z_xgI zt84 3 rfl zo84 zzf0_188 X f4 (by decide) (by decide) rfl (fun (x3 : Int32) h2 (h4 : 0 ≤ x3.toInt) (h5 : x3.toInt ≤ 20) => ?_)
  have h6 := z_b32 p1
  refine z_xJ zt84 4 rfl rfl (fun (h7 : p1.toInt < x3.toInt) => ?_) (fun (h7 : x3.toInt ≤ p1.toInt) => ?_)
  · skip
    refine z_xP zt84 6 17 [some (.ref 4), some (.int p1)] [.ref 4] rfl rfl ?_
    refine z_xgX (b := 12) zt84 7 rfl zo84 zzf0_27 X f4 (by decide) (by decide) rfl ?_
    refine z_xP zt84 8 21 [some (.ref 4), some (.int p1)] [.int p1, .ref 12] rfl rfl ?_
    have f12 : T[12]? = some (.inr (12, 3, 20, 0, 0)) := X.1.k rfl (by decide)
    refine z_xal zt84 9 rfl X f12 (by decide) (by decide) (by decide) (by omega) (by omega) (fun (a8 : Nat) h9 h10 => ?_) (fun h11 => absurd h11 (z_Gb (hG.go X (by decide)).2.1 h2 (by omega) (by omega)))
    obtain ⟨c12, w13l, w13u, k14⟩ : ∃ ci, 4 ≤ ci ∧ ci ≤ 11 ∧ T[a8]? = some (.inl (ci, 0, 0, 0, 0)) := h10
    have w13 := And.intro w13l w13u
    refine z_xra zt84 10 rfl zzr84 ?_
    show z_ev (d + 5) 106 5 [some (.ref 4), some (.int p1), some (.int p2), some (.int p3), some (.int p4), none, none] [.ref a8] M0 _
    refine z_xP zt106 2 12 [some (.ref 4), some (.int p1), some (.int p2), some (.int p3), some (.int p4), some (.ref a8), none] [] rfl rfl ?_
    refine z_xP zt106 3 14 [some (.ref 4), some (.int p1), some (.int p2), some (.int p3), some (.int p4), some (.ref a8), none] [.int p4] rfl rfl ?_
    refine z_xcS (vs := [.int p4]) (r := []) (L2 := [some (.int p4)]) zt106 4 rfl zo106 zzcS0_172 (Or.inl rfl) (Nat.le_of_ble_eq_true rfl) rfl rfl (Nat.le_of_ble_eq_true rfl) zzm64 (Nat.le_of_ble_eq_true rfl) rfl ?_
    refine z_xP zt64 0 1 [some (.int p4)] [.int p4] rfl rfl ?_
    refine z_xZ zt64 1 rfl rfl (fun (h15 : p4.toInt = 0) => ?_) (fun (h15 : p4.toInt ≠ 0) => ?_)
    · skip
      refine z_xP zt64 4 14 [some (.int p4)] [.int 1] rfl rfl ?_
      refine z_xrz zt64 6 rfl zzr64 (by decide) (by decide) ?_
      show z_ev (d + 5) 106 17 [some (.ref 4), some (.int p1), some (.int p2), some (.int p3), some (.int p4), some (.ref a8), none] [.int 1] M0 _
      refine z_xZ zt106 5 rfl rfl (fun (h16 : (1 : Int) ≠ 0) => ?_) (fun (h16 : (1 : Int) = 0) => absurd h16 (by omega))
      refine z_xP zt106 8 25 [some (.ref 4), some (.int p1), some (.int p2), some (.int p3), some (.int p4), some (.ref a8), none] [.int p3, .int p2, .ref 4] rfl rfl ?_
      refine z_xcV (vs := [.ref 4, .int p2, .int p3]) (r := []) (L2 := [some (.ref 4), some (.int p2), some (.int p3), none]) zt106 9 rfl zo106 zzcV0_241 (Or.inl rfl) rfl X f4 rfl rfl rfl (Nat.le_of_ble_eq_true rfl) zzm103 (Nat.le_of_ble_eq_true rfl) rfl ?_
      refine z_xP zt103 0 2 [some (.ref 4), some (.int p2), some (.int p3), none] [.int p2, .ref 4] rfl rfl ?_
      refine z_xcV (vs := [.ref 4, .int p2]) (r := []) (L2 := [some (.ref 4), some (.int p2)]) zt103 1 rfl zo103 zzcV0_108 (Or.inl rfl) rfl X f4 rfl rfl rfl (Nat.le_of_ble_eq_true rfl) zzm37 (Nat.le_of_ble_eq_true rfl) rfl ?_
      refine z_xP zt37 0 1 [some (.ref 4), some (.int p2)] [.int p2] rfl rfl ?_
      refine z_xZ zt37 1 rfl rfl (fun (h17 : p2.toInt < 0) => ?_) (fun (h17 : 0 ≤ p2.toInt) => ?_)
      · skip
        refine z_xP zt37 5 25 [some (.ref 4), some (.int p2)] [.null] rfl rfl ?_
        refine z_xrn zt37 11 rfl zzr37 ?_
        show z_ev (d + 4) 103 5 [some (.ref 4), some (.int p2), some (.int p3), none] [.null] M0 _
        refine z_xP zt103 2 20 [some (.ref 4), some (.int p2), some (.int p3), some (.null)] [] rfl rfl ?_
        refine z_xP zt103 7 21 [some (.ref 4), some (.int p2), some (.int p3), some (.null)] [.int (-1)] rfl rfl ?_
        refine z_xri zt103 8 rfl zzr103 ?_
        show z_ev (d + 5) 106 28 [some (.ref 4), some (.int p1), some (.int p2), some (.int p3), some (.int p4), some (.ref a8), none] [.int (-1)] M0 _
        refine z_xP zt106 10 32 [some (.ref 4), some (.int p1), some (.int p2), some (.int p3), some (.int p4), some (.ref a8), some (.int (-1))] [.int (-1)] rfl rfl ?_
        refine z_xZ zt106 11 rfl rfl (fun (h18 : ((-1) : Int) = 0) => absurd h18 (by omega)) (fun (h18 : ((-1) : Int) ≠ 0) => ?_)
        refine z_xP zt106 12 37 [some (.ref 4), some (.int p1), some (.int p2), some (.int p3), some (.int p4), some (.ref a8), some (.int (-1))] [.int (-1)] rfl rfl ?_
        have qm1 : (((-1) : Int32)).toInt = (-1) := rfl
        exact z_xri zt106 13 rfl zzr106 (kk (-1) M0 X)
      refine z_xP zt37 2 6 [some (.ref 4), some (.int p2)] [.ref 4, .int p2] rfl rfl ?_
      refine z_xgI zt37 3 rfl zo37 zzf0_59 X f4 (by decide) (by decide) rfl (fun (x20 : Int32) h19 (h21 : 0 ≤ x20.toInt) (h22 : x20.toInt ≤ 8) => ?_)
      have h23 := z_b32 p2
      refine z_xJ zt37 4 rfl rfl (fun (h24 : p2.toInt < x20.toInt) => ?_) (fun (h24 : x20.toInt ≤ p2.toInt) => ?_)
      · skip
        refine z_xP zt37 6 17 [some (.ref 4), some (.int p2)] [.ref 4] rfl rfl ?_
        refine z_xgX (b := 10) zt37 7 rfl zo37 zzf0_18 X f4 (by decide) (by decide) rfl ?_
        refine z_xP zt37 8 21 [some (.ref 4), some (.int p2)] [.int p2, .ref 10] rfl rfl ?_
        have f10 : T[10]? = some (.inr (10, 2, 8, 9, 0)) := X.1.k rfl (by decide)
        refine z_xal zt37 9 rfl X f10 (by decide) (by decide) (by decide) (by omega) (by omega) (fun (a25 : Nat) h26 h27 => ?_) (fun h28 => absurd h28 (z_Gs (hG.go X (by decide)).2.1 h19 (by omega) (by omega)))
        obtain ⟨q29, t30, m31, k32⟩ : ∃ q t m, T[a25]? = some (.inl (3, q, t, m, 9)) := h27
        have g33 := X.1.p3 k32
        refine z_xgR (κ := .inl (2, q29, t30, m31, 0)) zt37 10 rfl zo37 zzf0_89 X k32 (by decide) (by decide) rfl (fun (a35 : Nat) h34 k36 => ?_)
        have g37 := X.1.p2 k36
        refine z_xra zt37 11 rfl zzr37 ?_
        show z_ev (d + 4) 103 5 [some (.ref 4), some (.int p2), some (.int p3), none] [.ref a35] M0 _
        refine z_xP zt103 2 10 [some (.ref 4), some (.int p2), some (.int p3), some (.ref a35)] [] rfl rfl ?_
        refine z_xP zt103 3 12 [some (.ref 4), some (.int p2), some (.int p3), some (.ref a35)] [.int 1, .int p3] rfl rfl ?_
        refine z_xJ zt103 4 rfl rfl (fun (h38 : p3.toInt < 1) => ?_) (fun (h38 : 1 ≤ p3.toInt) => ?_)
        · skip
          refine z_xP zt103 7 21 [some (.ref 4), some (.int p2), some (.int p3), some (.ref a35)] [.int (-1)] rfl rfl ?_
          refine z_xri zt103 8 rfl zzr103 ?_
          show z_ev (d + 5) 106 28 [some (.ref 4), some (.int p1), some (.int p2), some (.int p3), some (.int p4), some (.ref a8), none] [.int (-1)] M0 _
          refine z_xP zt106 10 32 [some (.ref 4), some (.int p1), some (.int p2), some (.int p3), some (.int p4), some (.ref a8), some (.int (-1))] [.int (-1)] rfl rfl ?_
          refine z_xZ zt106 11 rfl rfl (fun (h39 : ((-1) : Int) = 0) => absurd h39 (by omega)) (fun (h39 : ((-1) : Int) ≠ 0) => ?_)
          refine z_xP zt106 12 37 [some (.ref 4), some (.int p1), some (.int p2), some (.int p3), some (.int p4), some (.ref a8), some (.int (-1))] [.int (-1)] rfl rfl ?_
          have qm1 : (((-1) : Int32)).toInt = (-1) := rfl
          exact z_xri zt106 13 rfl zzr106 (kk (-1) M0 X)
        refine z_xP zt103 5 17 [some (.ref 4), some (.int p2), some (.int p3), some (.ref a35)] [.int 5, .int p3] rfl rfl ?_
        refine z_xJ zt103 6 rfl rfl (fun (h40 : p3.toInt ≤ 5) => ?_) (fun (h40 : 5 < p3.toInt) => ?_)
        · skip
          refine z_xP zt103 9 23 [some (.ref 4), some (.int p2), some (.int p3), some (.ref a35)] [.ref a35] rfl rfl ?_
          refine z_xgR (κ := .inr (102, 0, m31, 0, 1023)) zt103 10 rfl zo103 zzf0_74 X k36 (by decide) (by decide) rfl (fun (a42 : Nat) h41 k43 => ?_)
          refine z_xln zt103 11 rfl X k43 (by decide) (by omega) (fun (x44 : Int32) (h45 : x44.toInt = ((m31 : Nat) : Int)) => ?_)
          refine z_xP zt103 12 29 [some (.ref 4), some (.int p2), some (.int p3), some (.ref a35)] [.int 12, .int x44] rfl rfl ?_
          refine z_xJ zt103 13 rfl rfl (fun (h46 : x44.toInt ≤ 12) => ?_) (fun (h46 : 12 < x44.toInt) => ?_)
          · skip
            refine z_xP zt103 15 38 [some (.ref 4), some (.int p2), some (.int p3), some (.ref a35)] [.int 0] rfl rfl ?_
            refine z_xri zt103 16 rfl zzr103 ?_
            show z_ev (d + 5) 106 28 [some (.ref 4), some (.int p1), some (.int p2), some (.int p3), some (.int p4), some (.ref a8), none] [.int 0] M0 _
            refine z_xP zt106 10 32 [some (.ref 4), some (.int p1), some (.int p2), some (.int p3), some (.int p4), some (.ref a8), some (.int 0)] [.int 0] rfl rfl ?_
            refine z_xZ zt106 11 rfl rfl (fun (h47 : (0 : Int) = 0) => ?_) (fun (h47 : (0 : Int) ≠ 0) => absurd h47 (by omega))
            refine z_xP zt106 14 41 [some (.ref 4), some (.int p1), some (.int p2), some (.int p3), some (.int p4), some (.ref a8), some (.int 0)] [.ref 4, .ref a8] rfl rfl ?_
            refine z_xgX (b := 11) zt106 15 rfl zo106 zzf0_22 X f4 (by decide) (by decide) rfl ?_
            refine z_xP zt106 16 45 [some (.ref 4), some (.int p1), some (.int p2), some (.int p3), some (.int p4), some (.ref a8), some (.int 0)] [.int p2, .ref 11, .ref a8] rfl rfl ?_
            have f11 : T[11]? = some (.inr (11, 2, 8, 5, 0)) := X.1.k rfl (by decide)
            refine z_xal zt106 17 rfl X f11 (by decide) (by decide) (by decide) (by omega) (by omega) (fun (a48 : Nat) h49 h50 => ?_) (fun h51 => absurd h51 (z_Gt (hG.go X (by decide)).2.1 h19 (by omega) (by omega)))
            obtain ⟨q52, t53, m54, k55⟩ : ∃ q t m, T[a48]? = some (.inl (3, q, t, m, 5)) := h50
            have g56 := X.1.p3 k55
            have h57 := z_Gm (hG.go X (by decide)).2.2 X.1 (z_cll (n := 8) (by omega) (by decide)) h26 h49 k32 k55
            refine z_xP zt106 18 50 [some (.ref 4), some (.int p1), some (.int p2), some (.int p3), some (.int p4), some (.ref a8), some (.int 0)] [.int 1, .int p4, .int p3, .ref a48, .ref a8] rfl rfl ?_
            refine z_xJ zt106 19 rfl rfl (fun (h58 : p4.toInt ≠ 1) => ?_) (fun (h58 : p4.toInt = 1) => absurd h58 (by omega))
            refine z_xP zt106 21 58 [some (.ref 4), some (.int p1), some (.int p2), some (.int p3), some (.int p4), some (.ref a8), some (.int 0)] [.int 0, .int p3, .ref a48, .ref a8] rfl rfl ?_
            refine z_xcV (vs := [.ref a8, .ref a48, .int p3, .int 0]) (r := []) (L2 := [some (.ref a8), some (.ref a48), some (.int p3), some (.int 0), none, none, none]) zt106 22 rfl zo106 zzcV0_248 (Or.inr rfl) rfl X k14 (z_w8 (fun c => (([(4, 107), (10, 107), (7, 107), (5, 107), (11, 107), (8, 107), (6, 107), (9, 107)] : List (Nat × Nat)).find? fun t => t.1 == c) = some (c, 107)) rfl rfl rfl rfl rfl rfl rfl rfl w13) rfl rfl (Nat.le_of_ble_eq_true rfl) zzm107 (Nat.le_of_ble_eq_true rfl) rfl ?_
            have q0 : ((0 : Int32)).toInt = 0 := rfl
            have q0 : ((0 : Int32)).toInt = 0 := rfl
            refine zC107 X.1 w13 k14 k55 (by omega) (by decide) (fun x61 M59 X60  => ?_)
            have X62 := X.go X60 (z_sb (by decide))
            show z_ev (d + 5) 106 61 [some (.ref 4), some (.int p1), some (.int p2), some (.int p3), some (.int p4), some (.ref a8), some (.int 0)] [.int x61] M59 _
            exact z_xri zt106 23 rfl zzr106 (kk x61 M59 X62)
          refine z_xP zt103 14 38 [some (.ref 4), some (.int p2), some (.int p3), some (.ref a35)] [.int (-4)] rfl rfl ?_
          refine z_xri zt103 16 rfl zzr103 ?_
          show z_ev (d + 5) 106 28 [some (.ref 4), some (.int p1), some (.int p2), some (.int p3), some (.int p4), some (.ref a8), none] [.int (-4)] M0 _
          refine z_xP zt106 10 32 [some (.ref 4), some (.int p1), some (.int p2), some (.int p3), some (.int p4), some (.ref a8), some (.int (-4))] [.int (-4)] rfl rfl ?_
          refine z_xZ zt106 11 rfl rfl (fun (h64 : ((-4) : Int) = 0) => absurd h64 (by omega)) (fun (h64 : ((-4) : Int) ≠ 0) => ?_)
          refine z_xP zt106 12 37 [some (.ref 4), some (.int p1), some (.int p2), some (.int p3), some (.int p4), some (.ref a8), some (.int (-4))] [.int (-4)] rfl rfl ?_
          have qm4 : (((-4) : Int32)).toInt = (-4) := rfl
          exact z_xri zt106 13 rfl zzr106 (kk (-4) M0 X)
        refine z_xP zt103 7 21 [some (.ref 4), some (.int p2), some (.int p3), some (.ref a35)] [.int (-1)] rfl rfl ?_
        refine z_xri zt103 8 rfl zzr103 ?_
        show z_ev (d + 5) 106 28 [some (.ref 4), some (.int p1), some (.int p2), some (.int p3), some (.int p4), some (.ref a8), none] [.int (-1)] M0 _
        refine z_xP zt106 10 32 [some (.ref 4), some (.int p1), some (.int p2), some (.int p3), some (.int p4), some (.ref a8), some (.int (-1))] [.int (-1)] rfl rfl ?_
        refine z_xZ zt106 11 rfl rfl (fun (h65 : ((-1) : Int) = 0) => absurd h65 (by omega)) (fun (h65 : ((-1) : Int) ≠ 0) => ?_)
        refine z_xP zt106 12 37 [some (.ref 4), some (.int p1), some (.int p2), some (.int p3), some (.int p4), some (.ref a8), some (.int (-1))] [.int (-1)] rfl rfl ?_
        have qm1 : (((-1) : Int32)).toInt = (-1) := rfl
        exact z_xri zt106 13 rfl zzr106 (kk (-1) M0 X)
      refine z_xP zt37 5 25 [some (.ref 4), some (.int p2)] [.null] rfl rfl ?_
      refine z_xrn zt37 11 rfl zzr37 ?_
      show z_ev (d + 4) 103 5 [some (.ref 4), some (.int p2), some (.int p3), none] [.null] M0 _
      refine z_xP zt103 2 20 [some (.ref 4), some (.int p2), some (.int p3), some (.null)] [] rfl rfl ?_
      refine z_xP zt103 7 21 [some (.ref 4), some (.int p2), some (.int p3), some (.null)] [.int (-1)] rfl rfl ?_
      refine z_xri zt103 8 rfl zzr103 ?_
      show z_ev (d + 5) 106 28 [some (.ref 4), some (.int p1), some (.int p2), some (.int p3), some (.int p4), some (.ref a8), none] [.int (-1)] M0 _
      refine z_xP zt106 10 32 [some (.ref 4), some (.int p1), some (.int p2), some (.int p3), some (.int p4), some (.ref a8), some (.int (-1))] [.int (-1)] rfl rfl ?_
      refine z_xZ zt106 11 rfl rfl (fun (h66 : ((-1) : Int) = 0) => absurd h66 (by omega)) (fun (h66 : ((-1) : Int) ≠ 0) => ?_)
      refine z_xP zt106 12 37 [some (.ref 4), some (.int p1), some (.int p2), some (.int p3), some (.int p4), some (.ref a8), some (.int (-1))] [.int (-1)] rfl rfl ?_
      have qm1 : (((-1) : Int32)).toInt = (-1) := rfl
      exact z_xri zt106 13 rfl zzr106 (kk (-1) M0 X)
    refine z_xP zt64 2 6 [some (.int p4)] [.int 1, .int p4] rfl rfl ?_
    refine z_xJ zt64 3 rfl rfl (fun (h67 : p4.toInt ≠ 1) => ?_) (fun (h67 : p4.toInt = 1) => ?_)
    · skip
      refine z_xP zt64 5 14 [some (.int p4)] [.int 0] rfl rfl ?_
      refine z_xrz zt64 6 rfl zzr64 (by decide) (by decide) ?_
      show z_ev (d + 5) 106 17 [some (.ref 4), some (.int p1), some (.int p2), some (.int p3), some (.int p4), some (.ref a8), none] [.int 0] M0 _
      refine z_xZ zt106 5 rfl rfl (fun (h68 : (0 : Int) ≠ 0) => absurd h68 (by omega)) (fun (h68 : (0 : Int) = 0) => ?_)
      refine z_xP zt106 6 21 [some (.ref 4), some (.int p1), some (.int p2), some (.int p3), some (.int p4), some (.ref a8), none] [.int (-1)] rfl rfl ?_
      have qm1 : (((-1) : Int32)).toInt = (-1) := rfl
      exact z_xri zt106 7 rfl zzr106 (kk (-1) M0 X)
    refine z_xP zt64 4 14 [some (.int p4)] [.int 1] rfl rfl ?_
    refine z_xrz zt64 6 rfl zzr64 (by decide) (by decide) ?_
    show z_ev (d + 5) 106 17 [some (.ref 4), some (.int p1), some (.int p2), some (.int p3), some (.int p4), some (.ref a8), none] [.int 1] M0 _
    refine z_xZ zt106 5 rfl rfl (fun (h69 : (1 : Int) ≠ 0) => ?_) (fun (h69 : (1 : Int) = 0) => absurd h69 (by omega))
    refine z_xP zt106 8 25 [some (.ref 4), some (.int p1), some (.int p2), some (.int p3), some (.int p4), some (.ref a8), none] [.int p3, .int p2, .ref 4] rfl rfl ?_
    refine z_xcV (vs := [.ref 4, .int p2, .int p3]) (r := []) (L2 := [some (.ref 4), some (.int p2), some (.int p3), none]) zt106 9 rfl zo106 zzcV0_241 (Or.inl rfl) rfl X f4 rfl rfl rfl (Nat.le_of_ble_eq_true rfl) zzm103 (Nat.le_of_ble_eq_true rfl) rfl ?_
    refine z_xP zt103 0 2 [some (.ref 4), some (.int p2), some (.int p3), none] [.int p2, .ref 4] rfl rfl ?_
    refine z_xcV (vs := [.ref 4, .int p2]) (r := []) (L2 := [some (.ref 4), some (.int p2)]) zt103 1 rfl zo103 zzcV0_108 (Or.inl rfl) rfl X f4 rfl rfl rfl (Nat.le_of_ble_eq_true rfl) zzm37 (Nat.le_of_ble_eq_true rfl) rfl ?_
    refine z_xP zt37 0 1 [some (.ref 4), some (.int p2)] [.int p2] rfl rfl ?_
    refine z_xZ zt37 1 rfl rfl (fun (h70 : p2.toInt < 0) => ?_) (fun (h70 : 0 ≤ p2.toInt) => ?_)
    · skip
      refine z_xP zt37 5 25 [some (.ref 4), some (.int p2)] [.null] rfl rfl ?_
      refine z_xrn zt37 11 rfl zzr37 ?_
      show z_ev (d + 4) 103 5 [some (.ref 4), some (.int p2), some (.int p3), none] [.null] M0 _
      refine z_xP zt103 2 20 [some (.ref 4), some (.int p2), some (.int p3), some (.null)] [] rfl rfl ?_
      refine z_xP zt103 7 21 [some (.ref 4), some (.int p2), some (.int p3), some (.null)] [.int (-1)] rfl rfl ?_
      refine z_xri zt103 8 rfl zzr103 ?_
      show z_ev (d + 5) 106 28 [some (.ref 4), some (.int p1), some (.int p2), some (.int p3), some (.int p4), some (.ref a8), none] [.int (-1)] M0 _
      refine z_xP zt106 10 32 [some (.ref 4), some (.int p1), some (.int p2), some (.int p3), some (.int p4), some (.ref a8), some (.int (-1))] [.int (-1)] rfl rfl ?_
      refine z_xZ zt106 11 rfl rfl (fun (h71 : ((-1) : Int) = 0) => absurd h71 (by omega)) (fun (h71 : ((-1) : Int) ≠ 0) => ?_)
      refine z_xP zt106 12 37 [some (.ref 4), some (.int p1), some (.int p2), some (.int p3), some (.int p4), some (.ref a8), some (.int (-1))] [.int (-1)] rfl rfl ?_
      have qm1 : (((-1) : Int32)).toInt = (-1) := rfl
      exact z_xri zt106 13 rfl zzr106 (kk (-1) M0 X)
    refine z_xP zt37 2 6 [some (.ref 4), some (.int p2)] [.ref 4, .int p2] rfl rfl ?_
    refine z_xgI zt37 3 rfl zo37 zzf0_59 X f4 (by decide) (by decide) rfl (fun (x73 : Int32) h72 (h74 : 0 ≤ x73.toInt) (h75 : x73.toInt ≤ 8) => ?_)
    have h76 := z_b32 p2
    refine z_xJ zt37 4 rfl rfl (fun (h77 : p2.toInt < x73.toInt) => ?_) (fun (h77 : x73.toInt ≤ p2.toInt) => ?_)
    · skip
      refine z_xP zt37 6 17 [some (.ref 4), some (.int p2)] [.ref 4] rfl rfl ?_
      refine z_xgX (b := 10) zt37 7 rfl zo37 zzf0_18 X f4 (by decide) (by decide) rfl ?_
      refine z_xP zt37 8 21 [some (.ref 4), some (.int p2)] [.int p2, .ref 10] rfl rfl ?_
      have f10 : T[10]? = some (.inr (10, 2, 8, 9, 0)) := X.1.k rfl (by decide)
      refine z_xal zt37 9 rfl X f10 (by decide) (by decide) (by decide) (by omega) (by omega) (fun (a78 : Nat) h79 h80 => ?_) (fun h81 => absurd h81 (z_Gs (hG.go X (by decide)).2.1 h72 (by omega) (by omega)))
      obtain ⟨q82, t83, m84, k85⟩ : ∃ q t m, T[a78]? = some (.inl (3, q, t, m, 9)) := h80
      have g86 := X.1.p3 k85
      refine z_xgR (κ := .inl (2, q82, t83, m84, 0)) zt37 10 rfl zo37 zzf0_89 X k85 (by decide) (by decide) rfl (fun (a88 : Nat) h87 k89 => ?_)
      have g90 := X.1.p2 k89
      refine z_xra zt37 11 rfl zzr37 ?_
      show z_ev (d + 4) 103 5 [some (.ref 4), some (.int p2), some (.int p3), none] [.ref a88] M0 _
      refine z_xP zt103 2 10 [some (.ref 4), some (.int p2), some (.int p3), some (.ref a88)] [] rfl rfl ?_
      refine z_xP zt103 3 12 [some (.ref 4), some (.int p2), some (.int p3), some (.ref a88)] [.int 1, .int p3] rfl rfl ?_
      refine z_xJ zt103 4 rfl rfl (fun (h91 : p3.toInt < 1) => ?_) (fun (h91 : 1 ≤ p3.toInt) => ?_)
      · skip
        refine z_xP zt103 7 21 [some (.ref 4), some (.int p2), some (.int p3), some (.ref a88)] [.int (-1)] rfl rfl ?_
        refine z_xri zt103 8 rfl zzr103 ?_
        show z_ev (d + 5) 106 28 [some (.ref 4), some (.int p1), some (.int p2), some (.int p3), some (.int p4), some (.ref a8), none] [.int (-1)] M0 _
        refine z_xP zt106 10 32 [some (.ref 4), some (.int p1), some (.int p2), some (.int p3), some (.int p4), some (.ref a8), some (.int (-1))] [.int (-1)] rfl rfl ?_
        refine z_xZ zt106 11 rfl rfl (fun (h92 : ((-1) : Int) = 0) => absurd h92 (by omega)) (fun (h92 : ((-1) : Int) ≠ 0) => ?_)
        refine z_xP zt106 12 37 [some (.ref 4), some (.int p1), some (.int p2), some (.int p3), some (.int p4), some (.ref a8), some (.int (-1))] [.int (-1)] rfl rfl ?_
        have qm1 : (((-1) : Int32)).toInt = (-1) := rfl
        exact z_xri zt106 13 rfl zzr106 (kk (-1) M0 X)
      refine z_xP zt103 5 17 [some (.ref 4), some (.int p2), some (.int p3), some (.ref a88)] [.int 5, .int p3] rfl rfl ?_
      refine z_xJ zt103 6 rfl rfl (fun (h93 : p3.toInt ≤ 5) => ?_) (fun (h93 : 5 < p3.toInt) => ?_)
      · skip
        refine z_xP zt103 9 23 [some (.ref 4), some (.int p2), some (.int p3), some (.ref a88)] [.ref a88] rfl rfl ?_
        refine z_xgR (κ := .inr (102, 0, m84, 0, 1023)) zt103 10 rfl zo103 zzf0_74 X k89 (by decide) (by decide) rfl (fun (a95 : Nat) h94 k96 => ?_)
        refine z_xln zt103 11 rfl X k96 (by decide) (by omega) (fun (x97 : Int32) (h98 : x97.toInt = ((m84 : Nat) : Int)) => ?_)
        refine z_xP zt103 12 29 [some (.ref 4), some (.int p2), some (.int p3), some (.ref a88)] [.int 12, .int x97] rfl rfl ?_
        refine z_xJ zt103 13 rfl rfl (fun (h99 : x97.toInt ≤ 12) => ?_) (fun (h99 : 12 < x97.toInt) => ?_)
        · skip
          refine z_xP zt103 15 38 [some (.ref 4), some (.int p2), some (.int p3), some (.ref a88)] [.int 0] rfl rfl ?_
          refine z_xri zt103 16 rfl zzr103 ?_
          show z_ev (d + 5) 106 28 [some (.ref 4), some (.int p1), some (.int p2), some (.int p3), some (.int p4), some (.ref a8), none] [.int 0] M0 _
          refine z_xP zt106 10 32 [some (.ref 4), some (.int p1), some (.int p2), some (.int p3), some (.int p4), some (.ref a8), some (.int 0)] [.int 0] rfl rfl ?_
          refine z_xZ zt106 11 rfl rfl (fun (h100 : (0 : Int) = 0) => ?_) (fun (h100 : (0 : Int) ≠ 0) => absurd h100 (by omega))
          refine z_xP zt106 14 41 [some (.ref 4), some (.int p1), some (.int p2), some (.int p3), some (.int p4), some (.ref a8), some (.int 0)] [.ref 4, .ref a8] rfl rfl ?_
          refine z_xgX (b := 11) zt106 15 rfl zo106 zzf0_22 X f4 (by decide) (by decide) rfl ?_
          refine z_xP zt106 16 45 [some (.ref 4), some (.int p1), some (.int p2), some (.int p3), some (.int p4), some (.ref a8), some (.int 0)] [.int p2, .ref 11, .ref a8] rfl rfl ?_
          have f11 : T[11]? = some (.inr (11, 2, 8, 5, 0)) := X.1.k rfl (by decide)
          refine z_xal zt106 17 rfl X f11 (by decide) (by decide) (by decide) (by omega) (by omega) (fun (a101 : Nat) h102 h103 => ?_) (fun h104 => absurd h104 (z_Gt (hG.go X (by decide)).2.1 h72 (by omega) (by omega)))
          obtain ⟨q105, t106, m107, k108⟩ : ∃ q t m, T[a101]? = some (.inl (3, q, t, m, 5)) := h103
          have g109 := X.1.p3 k108
          have h110 := z_Gm (hG.go X (by decide)).2.2 X.1 (z_cll (n := 8) (by omega) (by decide)) h79 h102 k85 k108
          refine z_xP zt106 18 50 [some (.ref 4), some (.int p1), some (.int p2), some (.int p3), some (.int p4), some (.ref a8), some (.int 0)] [.int 1, .int p4, .int p3, .ref a101, .ref a8] rfl rfl ?_
          refine z_xJ zt106 19 rfl rfl (fun (h111 : p4.toInt ≠ 1) => absurd h111 (by omega)) (fun (h111 : p4.toInt = 1) => ?_)
          refine z_xP zt106 20 58 [some (.ref 4), some (.int p1), some (.int p2), some (.int p3), some (.int p4), some (.ref a8), some (.int 0)] [.int 1, .int p3, .ref a101, .ref a8] rfl rfl ?_
          refine z_xcV (vs := [.ref a8, .ref a101, .int p3, .int 1]) (r := []) (L2 := [some (.ref a8), some (.ref a101), some (.int p3), some (.int 1), none, none, none]) zt106 22 rfl zo106 zzcV0_248 (Or.inr rfl) rfl X k14 (z_w8 (fun c => (([(4, 107), (10, 107), (7, 107), (5, 107), (11, 107), (8, 107), (6, 107), (9, 107)] : List (Nat × Nat)).find? fun t => t.1 == c) = some (c, 107)) rfl rfl rfl rfl rfl rfl rfl rfl w13) rfl rfl (Nat.le_of_ble_eq_true rfl) zzm107 (Nat.le_of_ble_eq_true rfl) rfl ?_
          have q1 : ((1 : Int32)).toInt = 1 := rfl
          have q1 : ((1 : Int32)).toInt = 1 := rfl
          refine zC107 X.1 w13 k14 k108 (by omega) (by decide) (fun x114 M112 X113  => ?_)
          have X115 := X.go X113 (z_sb (by decide))
          show z_ev (d + 5) 106 61 [some (.ref 4), some (.int p1), some (.int p2), some (.int p3), some (.int p4), some (.ref a8), some (.int 0)] [.int x114] M112 _
          exact z_xri zt106 23 rfl zzr106 (kk x114 M112 X115)
        refine z_xP zt103 14 38 [some (.ref 4), some (.int p2), some (.int p3), some (.ref a88)] [.int (-4)] rfl rfl ?_
        refine z_xri zt103 16 rfl zzr103 ?_
        show z_ev (d + 5) 106 28 [some (.ref 4), some (.int p1), some (.int p2), some (.int p3), some (.int p4), some (.ref a8), none] [.int (-4)] M0 _
        refine z_xP zt106 10 32 [some (.ref 4), some (.int p1), some (.int p2), some (.int p3), some (.int p4), some (.ref a8), some (.int (-4))] [.int (-4)] rfl rfl ?_
        refine z_xZ zt106 11 rfl rfl (fun (h117 : ((-4) : Int) = 0) => absurd h117 (by omega)) (fun (h117 : ((-4) : Int) ≠ 0) => ?_)
        refine z_xP zt106 12 37 [some (.ref 4), some (.int p1), some (.int p2), some (.int p3), some (.int p4), some (.ref a8), some (.int (-4))] [.int (-4)] rfl rfl ?_
        have qm4 : (((-4) : Int32)).toInt = (-4) := rfl
        exact z_xri zt106 13 rfl zzr106 (kk (-4) M0 X)
      refine z_xP zt103 7 21 [some (.ref 4), some (.int p2), some (.int p3), some (.ref a88)] [.int (-1)] rfl rfl ?_
      refine z_xri zt103 8 rfl zzr103 ?_
      show z_ev (d + 5) 106 28 [some (.ref 4), some (.int p1), some (.int p2), some (.int p3), some (.int p4), some (.ref a8), none] [.int (-1)] M0 _
      refine z_xP zt106 10 32 [some (.ref 4), some (.int p1), some (.int p2), some (.int p3), some (.int p4), some (.ref a8), some (.int (-1))] [.int (-1)] rfl rfl ?_
      refine z_xZ zt106 11 rfl rfl (fun (h118 : ((-1) : Int) = 0) => absurd h118 (by omega)) (fun (h118 : ((-1) : Int) ≠ 0) => ?_)
      refine z_xP zt106 12 37 [some (.ref 4), some (.int p1), some (.int p2), some (.int p3), some (.int p4), some (.ref a8), some (.int (-1))] [.int (-1)] rfl rfl ?_
      have qm1 : (((-1) : Int32)).toInt = (-1) := rfl
      exact z_xri zt106 13 rfl zzr106 (kk (-1) M0 X)
    refine z_xP zt37 5 25 [some (.ref 4), some (.int p2)] [.null] rfl rfl ?_
    refine z_xrn zt37 11 rfl zzr37 ?_
    show z_ev (d + 4) 103 5 [some (.ref 4), some (.int p2), some (.int p3), none] [.null] M0 _
    refine z_xP zt103 2 20 [some (.ref 4), some (.int p2), some (.int p3), some (.null)] [] rfl rfl ?_
    refine z_xP zt103 7 21 [some (.ref 4), some (.int p2), some (.int p3), some (.null)] [.int (-1)] rfl rfl ?_
    refine z_xri zt103 8 rfl zzr103 ?_
    show z_ev (d + 5) 106 28 [some (.ref 4), some (.int p1), some (.int p2), some (.int p3), some (.int p4), some (.ref a8), none] [.int (-1)] M0 _
    refine z_xP zt106 10 32 [some (.ref 4), some (.int p1), some (.int p2), some (.int p3), some (.int p4), some (.ref a8), some (.int (-1))] [.int (-1)] rfl rfl ?_
    refine z_xZ zt106 11 rfl rfl (fun (h119 : ((-1) : Int) = 0) => absurd h119 (by omega)) (fun (h119 : ((-1) : Int) ≠ 0) => ?_)
    refine z_xP zt106 12 37 [some (.ref 4), some (.int p1), some (.int p2), some (.int p3), some (.int p4), some (.ref a8), some (.int (-1))] [.int (-1)] rfl rfl ?_
    have qm1 : (((-1) : Int32)).toInt = (-1) := rfl
    exact z_xri zt106 13 rfl zzr106 (kk (-1) M0 X)
  refine z_xP zt84 5 22 [some (.ref 4), some (.int p1)] [.null] rfl rfl ?_
  refine z_xrn zt84 10 rfl zzr84 ?_
  show z_ev (d + 5) 106 5 [some (.ref 4), some (.int p1), some (.int p2), some (.int p3), some (.int p4), none, none] [.null] M0 _
  refine z_xP zt106 2 20 [some (.ref 4), some (.int p1), some (.int p2), some (.int p3), some (.int p4), some (.null), none] [] rfl rfl ?_
  refine z_xP zt106 6 21 [some (.ref 4), some (.int p1), some (.int p2), some (.int p3), some (.int p4), some (.null), none] [.int (-1)] rfl rfl ?_
  have qm1 : (((-1) : Int32)).toInt = (-1) := rfl
  exact z_xri zt106 7 rfl zzr106 (kk (-1) M0 X)
def zw113 : List Nat := [201, 202, 203, 205, 206, 207, 208, 209, 210, 1304]
theorem zB113 {T : List zK} {d : Nat} {K : Option Value → zH → Prop} {a0 : Nat} {ci : Nat} {a1 : Nat} {ci1 : Nat} {a2 : Nat} {q2 : Nat} {t2 : Nat} {m2 : Nat} {p3 : Int32} {p4 : Int32} {M0 : zH} (w0 : 4 ≤ ci ∧ ci ≤ 11) (k0 : T[a0]? = some (.inl (ci, 0, 0, 0, 0))) (w1 : 4 ≤ ci1 ∧ ci1 ≤ 11) (k1 : T[a1]? = some (.inl (ci1, 0, 0, 0, 0))) (k2 : T[a2]? = some (.inl (3, q2, t2, m2, 5))) (u3 : 1 ≤ p3.toInt ∧ p3.toInt ≤ 5) (u4 : 0 ≤ p4.toInt ∧ p4.toInt ≤ 1) (kk : ∀ (x : Int32) (M1 : zH), z_X T zw113 M0 M1 → K (some (.int x)) M1) : ∀ n : Nat, (∀ (M : zH) (b5 : Int32) (b6 : Int32) (b7 : Int32), z_X T zw113 M0 M → 0 ≤ b6.toInt ∧ b6.toInt ≤ 4368 → 0 ≤ b7.toInt ∧ b7.toInt ≤ 8191 → ((0) * 2 + 0) * 8192 + (8191 - b7.toInt) < (n : Int) → z_ev (d + 4) 113 13 [some (.ref a0), some (.ref a1), some (.ref a2), some (.int p3), some (.int p4), some (.int b5), some (.int b6), some (.int b7)] [] M K) := by
  intro n
  induction n with
  | zero => exact by intros; exfalso; omega
  | succ n ih =>
    intro M b5 b6 b7 X hh0 hh1 hE
    have g2 := X.1.p3 k2
    refine z_xP zt113 3 17 [some (.ref a0), some (.ref a1), some (.ref a2), some (.int p3), some (.int p4), some (.int b5), some (.int b6), some (.int b7)] [.int b6, .int b7] rfl rfl ?_
    refine z_xJ zt113 4 rfl rfl (fun (h1 : b6.toInt ≤ b7.toInt) => ?_) (fun (h1 : b7.toInt < b6.toInt) => ?_)
    · skip
      refine z_xP zt113 20 58 [some (.ref a0), some (.ref a1), some (.ref a2), some (.int p3), some (.int p4), some (.int b5), some (.int b6), some (.int b7)] [.int p4] rfl rfl ?_
      refine z_xZ zt113 21 rfl rfl (fun (h2 : p4.toInt = 0) => ?_) (fun (h2 : p4.toInt ≠ 0) => ?_)
      · skip
        refine z_xP zt113 23 68 [some (.ref a0), some (.ref a1), some (.ref a2), some (.int p3), some (.int p4), some (.int b5), some (.int b6), some (.int b7)] [.int b5] rfl rfl ?_
        exact z_xri zt113 24 rfl zzr113 (kk b5 M X)
      refine z_xP zt113 22 68 [some (.ref a0), some (.ref a1), some (.ref a2), some (.int p3), some (.int p4), some (.int b5), some (.int b6), some (.int b7)] [.int (-2)] rfl rfl ?_
      have qm2 : (((-2) : Int32)).toInt = (-2) := rfl
      exact z_xri zt113 24 rfl zzr113 (kk (-2) M X)
    refine z_xP zt113 5 22 [some (.ref a0), some (.ref a1), some (.ref a2), some (.int p3), some (.int p4), some (.int b5), some (.int b6), some (.int b7)] [.ref a2, .ref a0] rfl rfl ?_
    refine zVdecide zt113 6 rfl zo113 zzcV4_54 X k0 w0 (Nat.le_of_ble_eq_true rfl) k2 (fun x5 M3 X4  => ?_)
    have X6 := X.go X4 (z_sb (by decide))
    show z_ev (d + 4) 113 25 [some (.ref a0), some (.ref a1), some (.ref a2), some (.int p3), some (.int p4), some (.int b5), some (.int b6), some (.int b7)] [.int x5] M3 _
    refine z_xP zt113 7 27 [some (.ref a0), some (.ref a1), some (.ref a2), some (.int p3), some (.int p4), some (.int b5), some (.int b6), some (.int b7)] [.ref a2, .ref a1, .int x5] rfl rfl ?_
    refine zVdecide zt113 8 rfl zo113 zzcV4_54 X6 k1 w1 (Nat.le_of_ble_eq_true rfl) k2 (fun x10 M8 X9  => ?_)
    have X11 := X6.go X9 (z_sb (by decide))
    show z_ev (d + 4) 113 30 [some (.ref a0), some (.ref a1), some (.ref a2), some (.int p3), some (.int p4), some (.int b5), some (.int b6), some (.int b7)] [.int x10, .int x5] M8 _
    have h13 := z_b32 x5
    have h14 := z_b32 x10
    refine z_xJ zt113 9 rfl rfl (fun (h15 : x5.toInt = x10.toInt) => ?_) (fun (h15 : x5.toInt ≠ x10.toInt) => ?_)
    · skip
      refine z_xP zt113 16 47 [some (.ref a0), some (.ref a1), some (.ref a2), some (.int p3), some (.int p4), some (.int b5), some (.int b6), some (.int b7)] [.ref a2] rfl rfl ?_
      refine z_xcV (vs := [.ref a2]) (r := []) (L2 := [some (.ref a2), none, none, none, none]) zt113 17 rfl zo113 zzcV4_68 (Or.inl rfl) rfl X11 k2 rfl rfl rfl (Nat.le_of_ble_eq_true rfl) zzm110 (Nat.le_of_ble_eq_true rfl) rfl ?_
      refine zC110 X11.1 k2 (fun M16 X17  => ?_)
      have X18 := X11.go X17 (z_sb (by decide))
      show z_ev (d + 4) 113 50 [some (.ref a0), some (.ref a1), some (.ref a2), some (.int p3), some (.int p4), some (.int b5), some (.int b6), some (.int b7)] [] M16 _
      refine z_xN zt113 18 rfl rfl (fun (x20 : Int32) (h21 : x20.toInt = b7.toInt + 1) => ?_) (z_pAdd rfl rfl (by omega) (by omega))
      show z_ev (d + 4) 113 53 [some (.ref a0), some (.ref a1), some (.ref a2), some (.int p3), some (.int p4), some (.int b5), some (.int b6), some (.int x20)] [] M16 _
      refine z_xP zt113 19 13 [some (.ref a0), some (.ref a1), some (.ref a2), some (.int p3), some (.int p4), some (.int b5), some (.int b6), some (.int x20)] [] rfl rfl ?_
      exact ih M16 b5 b6 x20 X18 ⟨by omega, by omega⟩ ⟨by omega, by omega⟩ (by omega)
    refine z_xP zt113 10 35 [some (.ref a0), some (.ref a1), some (.ref a2), some (.int p3), some (.int p4), some (.int b5), some (.int b6), some (.int b7)] [.int p4] rfl rfl ?_
    refine z_xZ zt113 11 rfl rfl (fun (h22 : p4.toInt = 0) => ?_) (fun (h22 : p4.toInt ≠ 0) => ?_)
    · skip
      have h23 := z_b32 b5
      refine z_xN zt113 15 rfl rfl (fun (x24 : Int32) (h25 : True) => ?_) (trivial)
      show z_ev (d + 4) 113 46 [some (.ref a0), some (.ref a1), some (.ref a2), some (.int p3), some (.int p4), some (.int x24), some (.int b6), some (.int b7)] [] M8 _
      refine z_xP zt113 16 47 [some (.ref a0), some (.ref a1), some (.ref a2), some (.int p3), some (.int p4), some (.int x24), some (.int b6), some (.int b7)] [.ref a2] rfl rfl ?_
      refine z_xcV (vs := [.ref a2]) (r := []) (L2 := [some (.ref a2), none, none, none, none]) zt113 17 rfl zo113 zzcV4_68 (Or.inl rfl) rfl X11 k2 rfl rfl rfl (Nat.le_of_ble_eq_true rfl) zzm110 (Nat.le_of_ble_eq_true rfl) rfl ?_
      refine zC110 X11.1 k2 (fun M26 X27  => ?_)
      have X28 := X11.go X27 (z_sb (by decide))
      show z_ev (d + 4) 113 50 [some (.ref a0), some (.ref a1), some (.ref a2), some (.int p3), some (.int p4), some (.int x24), some (.int b6), some (.int b7)] [] M26 _
      refine z_xN zt113 18 rfl rfl (fun (x30 : Int32) (h31 : x30.toInt = b7.toInt + 1) => ?_) (z_pAdd rfl rfl (by omega) (by omega))
      show z_ev (d + 4) 113 53 [some (.ref a0), some (.ref a1), some (.ref a2), some (.int p3), some (.int p4), some (.int x24), some (.int b6), some (.int x30)] [] M26 _
      refine z_xP zt113 19 13 [some (.ref a0), some (.ref a1), some (.ref a2), some (.int p3), some (.int p4), some (.int x24), some (.int b6), some (.int x30)] [] rfl rfl ?_
      exact ih M26 x24 b6 x30 X28 ⟨by omega, by omega⟩ ⟨by omega, by omega⟩ (by omega)
    refine z_xP zt113 12 39 [some (.ref a0), some (.ref a1), some (.ref a2), some (.int p3), some (.int p4), some (.int b5), some (.int b6), some (.int b7)] [.ref a2] rfl rfl ?_
    refine z_xcV (vs := [.ref a2]) (r := []) (L2 := [some (.ref a2), none, none]) zt113 13 rfl zo113 zzcV4_64 (Or.inl rfl) rfl X11 k2 rfl rfl rfl (Nat.le_of_ble_eq_true rfl) zzm109 (Nat.le_of_ble_eq_true rfl) rfl ?_
    refine zC109 X11.1 k2 (fun x34 M32 X33 h35 h36 => ?_)
    have X37 := X11.go X33 (z_sb (by decide))
    show z_ev (d + 4) 113 42 [some (.ref a0), some (.ref a1), some (.ref a2), some (.int p3), some (.int p4), some (.int b5), some (.int b6), some (.int b7)] [.int x34] M32 _
    exact z_xri zt113 14 rfl zzr113 (kk x34 M32 X37)
theorem zC113 {T : List zK} {d : Nat} {K : Option Value → zH → Prop} {a0 : Nat} {ci : Nat} {a1 : Nat} {ci1 : Nat} {a2 : Nat} {q2 : Nat} {t2 : Nat} {m2 : Nat} {p3 : Int32} {p4 : Int32} {M0 : zH} (hW : z_W M0 T) (w0 : 4 ≤ ci ∧ ci ≤ 11) (k0 : T[a0]? = some (.inl (ci, 0, 0, 0, 0))) (w1 : 4 ≤ ci1 ∧ ci1 ≤ 11) (k1 : T[a1]? = some (.inl (ci1, 0, 0, 0, 0))) (k2 : T[a2]? = some (.inl (3, q2, t2, m2, 5))) (u3 : 1 ≤ p3.toInt ∧ p3.toInt ≤ 5) (u4 : 0 ≤ p4.toInt ∧ p4.toInt ≤ 1) (kk : ∀ (x : Int32) (M1 : zH), z_X T zw113 M0 M1 → K (some (.int x)) M1) : z_ev (d + 4) 113 0 [some (.ref a0), some (.ref a1), some (.ref a2), some (.int p3), some (.int p4), none, none, none] [] M0 K := by
  have X : z_X T zw113 M0 M0 := .refl hW
  have g2 := X.1.p3 k2
  refine z_xP zt113 0 5 [some (.ref a0), some (.ref a1), some (.ref a2), some (.int p3), some (.int p4), some (.int 0), none, none] [.int p3, .ref a2] rfl rfl ?_
  refine z_xcV (vs := [.ref a2, .int p3]) (r := []) (L2 := [some (.ref a2), some (.int p3), none]) zt113 1 rfl zo113 zzcV4_45 (Or.inl rfl) rfl X k2 rfl rfl rfl (Nat.le_of_ble_eq_true rfl) zzm108 (Nat.le_of_ble_eq_true rfl) rfl ?_
  obtain ⟨x1, h2, h3, h4⟩ := z_W.fi X.1 k2 (k := 4) (lo := 0) (hi := (5 : Int)) (by decide) rfl
  refine zC108 X.1 k2 (by omega) h2 ⟨by omega, by omega⟩ (fun x11 M5 X6 h12 h13 z7 h8 h9 h10 => ?_)
  have X14 := X.go X6 (z_sb (by decide))
  show z_ev (d + 4) 113 8 [some (.ref a0), some (.ref a1), some (.ref a2), some (.int p3), some (.int p4), some (.int 0), none, none] [.int x11] M5 _
  refine z_xP zt113 2 13 [some (.ref a0), some (.ref a1), some (.ref a2), some (.int p3), some (.int p4), some (.int 0), some (.int x11), some (.int 0)] [] rfl rfl ?_
  have q0 : ((0 : Int32)).toInt = 0 := rfl
  exact (zB113 w0 k0 w1 k1 k2 u3 u4 kk 16384) M5 (0) x11 (0) X14 ⟨by omega, by omega⟩ (by decide) (by omega)
def zw112 : List Nat := [201, 202, 203, 205, 206, 207, 208, 209, 210, 1304]
theorem zC112 {T : List zK} {d : Nat} {K : Option Value → zH → Prop} {p1 : Int32} {p2 : Int32} {p3 : Int32} {p4 : Int32} {p5 : Int32} {M0 : zH} (hW : z_W M0 T)  (hG : z_GG T M0) (kk : ∀ (x : Int32) (M1 : zH), z_X T zw112 M0 M1 → K (some (.int x)) M1) : z_ev (d + 5) 112 0 [some (.ref 4), some (.int p1), some (.int p2), some (.int p3), some (.int p4), some (.int p5), none, none, none] [] M0 K := by
  have X : z_X T zw112 M0 M0 := .refl hW
  refine z_xP zt112 0 2 [some (.ref 4), some (.int p1), some (.int p2), some (.int p3), some (.int p4), some (.int p5), none, none, none] [.int p1, .ref 4] rfl rfl ?_
  have f4 : T[4]? = some (.inl (0, 0, 0, 0, 0)) := X.1.k rfl (by decide)
  refine z_xcV (vs := [.ref 4, .int p1]) (r := []) (L2 := [some (.ref 4), some (.int p1)]) zt112 1 rfl zo112 zzcV0_221 (Or.inl rfl) rfl X f4 rfl rfl rfl (Nat.le_of_ble_eq_true rfl) zzm84 (Nat.le_of_ble_eq_true rfl) rfl ?_
  refine z_xP zt84 0 1 [some (.ref 4), some (.int p1)] [.int p1] rfl rfl ?_
  refine z_xZ zt84 1 rfl rfl (fun (h1 : p1.toInt < 0) => ?_) (fun (h1 : 0 ≤ p1.toInt) => ?_)
  · skip
    refine z_xP zt84 5 22 [some (.ref 4), some (.int p1)] [.null] rfl rfl ?_
    refine z_xrn zt84 10 rfl zzr84 ?_
    show z_ev (d + 5) 112 5 [some (.ref 4), some (.int p1), some (.int p2), some (.int p3), some (.int p4), some (.int p5), none, none, none] [.null] M0 _
    refine z_xP zt112 2 9 [some (.ref 4), some (.int p1), some (.int p2), some (.int p3), some (.int p4), some (.int p5), some (.null), none, none] [.int p2, .ref 4] rfl rfl ?_
    refine z_xcV (vs := [.ref 4, .int p2]) (r := []) (L2 := [some (.ref 4), some (.int p2)]) zt112 3 rfl zo112 zzcV0_221 (Or.inl rfl) rfl X f4 rfl rfl rfl (Nat.le_of_ble_eq_true rfl) zzm84 (Nat.le_of_ble_eq_true rfl) rfl ?_
    refine z_xP zt84 0 1 [some (.ref 4), some (.int p2)] [.int p2] rfl rfl ?_
    refine z_xZ zt84 1 rfl rfl (fun (h2 : p2.toInt < 0) => ?_) (fun (h2 : 0 ≤ p2.toInt) => ?_)
    · skip
      refine z_xP zt84 5 22 [some (.ref 4), some (.int p2)] [.null] rfl rfl ?_
      refine z_xrn zt84 10 rfl zzr84 ?_
      show z_ev (d + 5) 112 12 [some (.ref 4), some (.int p1), some (.int p2), some (.int p3), some (.int p4), some (.int p5), some (.null), none, none] [.null] M0 _
      refine z_xP zt112 4 32 [some (.ref 4), some (.int p1), some (.int p2), some (.int p3), some (.int p4), some (.int p5), some (.null), some (.null), none] [] rfl rfl ?_
      refine z_xP zt112 9 33 [some (.ref 4), some (.int p1), some (.int p2), some (.int p3), some (.int p4), some (.int p5), some (.null), some (.null), none] [.int (-1)] rfl rfl ?_
      have qm1 : (((-1) : Int32)).toInt = (-1) := rfl
      exact z_xri zt112 10 rfl zzr112 (kk (-1) M0 X)
    refine z_xP zt84 2 6 [some (.ref 4), some (.int p2)] [.ref 4, .int p2] rfl rfl ?_
    refine z_xgI zt84 3 rfl zo84 zzf0_188 X f4 (by decide) (by decide) rfl (fun (x4 : Int32) h3 (h5 : 0 ≤ x4.toInt) (h6 : x4.toInt ≤ 20) => ?_)
    have h7 := z_b32 p2
    refine z_xJ zt84 4 rfl rfl (fun (h8 : p2.toInt < x4.toInt) => ?_) (fun (h8 : x4.toInt ≤ p2.toInt) => ?_)
    · skip
      refine z_xP zt84 6 17 [some (.ref 4), some (.int p2)] [.ref 4] rfl rfl ?_
      refine z_xgX (b := 12) zt84 7 rfl zo84 zzf0_27 X f4 (by decide) (by decide) rfl ?_
      refine z_xP zt84 8 21 [some (.ref 4), some (.int p2)] [.int p2, .ref 12] rfl rfl ?_
      have f12 : T[12]? = some (.inr (12, 3, 20, 0, 0)) := X.1.k rfl (by decide)
      refine z_xal zt84 9 rfl X f12 (by decide) (by decide) (by decide) (by omega) (by omega) (fun (a9 : Nat) h10 h11 => ?_) (fun h12 => absurd h12 (z_Gb (hG.go X (by decide)).2.1 h3 (by omega) (by omega)))
      obtain ⟨c13, w14l, w14u, k15⟩ : ∃ ci, 4 ≤ ci ∧ ci ≤ 11 ∧ T[a9]? = some (.inl (ci, 0, 0, 0, 0)) := h11
      have w14 := And.intro w14l w14u
      refine z_xra zt84 10 rfl zzr84 ?_
      show z_ev (d + 5) 112 12 [some (.ref 4), some (.int p1), some (.int p2), some (.int p3), some (.int p4), some (.int p5), some (.null), none, none] [.ref a9] M0 _
      refine z_xP zt112 4 32 [some (.ref 4), some (.int p1), some (.int p2), some (.int p3), some (.int p4), some (.int p5), some (.null), some (.ref a9), none] [] rfl rfl ?_
      refine z_xP zt112 9 33 [some (.ref 4), some (.int p1), some (.int p2), some (.int p3), some (.int p4), some (.int p5), some (.null), some (.ref a9), none] [.int (-1)] rfl rfl ?_
      have qm1 : (((-1) : Int32)).toInt = (-1) := rfl
      exact z_xri zt112 10 rfl zzr112 (kk (-1) M0 X)
    refine z_xP zt84 5 22 [some (.ref 4), some (.int p2)] [.null] rfl rfl ?_
    refine z_xrn zt84 10 rfl zzr84 ?_
    show z_ev (d + 5) 112 12 [some (.ref 4), some (.int p1), some (.int p2), some (.int p3), some (.int p4), some (.int p5), some (.null), none, none] [.null] M0 _
    refine z_xP zt112 4 32 [some (.ref 4), some (.int p1), some (.int p2), some (.int p3), some (.int p4), some (.int p5), some (.null), some (.null), none] [] rfl rfl ?_
    refine z_xP zt112 9 33 [some (.ref 4), some (.int p1), some (.int p2), some (.int p3), some (.int p4), some (.int p5), some (.null), some (.null), none] [.int (-1)] rfl rfl ?_
    have qm1 : (((-1) : Int32)).toInt = (-1) := rfl
    exact z_xri zt112 10 rfl zzr112 (kk (-1) M0 X)
  refine z_xP zt84 2 6 [some (.ref 4), some (.int p1)] [.ref 4, .int p1] rfl rfl ?_
  refine z_xgI zt84 3 rfl zo84 zzf0_188 X f4 (by decide) (by decide) rfl (fun (x17 : Int32) h16 (h18 : 0 ≤ x17.toInt) (h19 : x17.toInt ≤ 20) => ?_)
  have h20 := z_b32 p1
  refine z_xJ zt84 4 rfl rfl (fun (h21 : p1.toInt < x17.toInt) => ?_) (fun (h21 : x17.toInt ≤ p1.toInt) => ?_)
  · skip
    refine z_xP zt84 6 17 [some (.ref 4), some (.int p1)] [.ref 4] rfl rfl ?_
    refine z_xgX (b := 12) zt84 7 rfl zo84 zzf0_27 X f4 (by decide) (by decide) rfl ?_
    refine z_xP zt84 8 21 [some (.ref 4), some (.int p1)] [.int p1, .ref 12] rfl rfl ?_
    have f12 : T[12]? = some (.inr (12, 3, 20, 0, 0)) := X.1.k rfl (by decide)
    refine z_xal zt84 9 rfl X f12 (by decide) (by decide) (by decide) (by omega) (by omega) (fun (a22 : Nat) h23 h24 => ?_) (fun h25 => absurd h25 (z_Gb (hG.go X (by decide)).2.1 h16 (by omega) (by omega)))
    obtain ⟨c26, w27l, w27u, k28⟩ : ∃ ci, 4 ≤ ci ∧ ci ≤ 11 ∧ T[a22]? = some (.inl (ci, 0, 0, 0, 0)) := h24
    have w27 := And.intro w27l w27u
    refine z_xra zt84 10 rfl zzr84 ?_
    show z_ev (d + 5) 112 5 [some (.ref 4), some (.int p1), some (.int p2), some (.int p3), some (.int p4), some (.int p5), none, none, none] [.ref a22] M0 _
    refine z_xP zt112 2 9 [some (.ref 4), some (.int p1), some (.int p2), some (.int p3), some (.int p4), some (.int p5), some (.ref a22), none, none] [.int p2, .ref 4] rfl rfl ?_
    refine z_xcV (vs := [.ref 4, .int p2]) (r := []) (L2 := [some (.ref 4), some (.int p2)]) zt112 3 rfl zo112 zzcV0_221 (Or.inl rfl) rfl X f4 rfl rfl rfl (Nat.le_of_ble_eq_true rfl) zzm84 (Nat.le_of_ble_eq_true rfl) rfl ?_
    refine z_xP zt84 0 1 [some (.ref 4), some (.int p2)] [.int p2] rfl rfl ?_
    refine z_xZ zt84 1 rfl rfl (fun (h29 : p2.toInt < 0) => ?_) (fun (h29 : 0 ≤ p2.toInt) => ?_)
    · skip
      refine z_xP zt84 5 22 [some (.ref 4), some (.int p2)] [.null] rfl rfl ?_
      refine z_xrn zt84 10 rfl zzr84 ?_
      show z_ev (d + 5) 112 12 [some (.ref 4), some (.int p1), some (.int p2), some (.int p3), some (.int p4), some (.int p5), some (.ref a22), none, none] [.null] M0 _
      refine z_xP zt112 4 19 [some (.ref 4), some (.int p1), some (.int p2), some (.int p3), some (.int p4), some (.int p5), some (.ref a22), some (.null), none] [] rfl rfl ?_
      refine z_xP zt112 5 32 [some (.ref 4), some (.int p1), some (.int p2), some (.int p3), some (.int p4), some (.int p5), some (.ref a22), some (.null), none] [] rfl rfl ?_
      refine z_xP zt112 9 33 [some (.ref 4), some (.int p1), some (.int p2), some (.int p3), some (.int p4), some (.int p5), some (.ref a22), some (.null), none] [.int (-1)] rfl rfl ?_
      have qm1 : (((-1) : Int32)).toInt = (-1) := rfl
      exact z_xri zt112 10 rfl zzr112 (kk (-1) M0 X)
    refine z_xP zt84 2 6 [some (.ref 4), some (.int p2)] [.ref 4, .int p2] rfl rfl ?_
    refine z_xgv zt84 3 rfl zo84 zzf0_188 X f4 (by decide) h16 ?_
    have h30 := z_b32 p2
    refine z_xJ zt84 4 rfl rfl (fun (h31 : p2.toInt < x17.toInt) => ?_) (fun (h31 : x17.toInt ≤ p2.toInt) => ?_)
    · skip
      refine z_xP zt84 6 17 [some (.ref 4), some (.int p2)] [.ref 4] rfl rfl ?_
      refine z_xgX (b := 12) zt84 7 rfl zo84 zzf0_27 X f4 (by decide) (by decide) rfl ?_
      refine z_xP zt84 8 21 [some (.ref 4), some (.int p2)] [.int p2, .ref 12] rfl rfl ?_
      refine z_xal zt84 9 rfl X f12 (by decide) (by decide) (by decide) (by omega) (by omega) (fun (a32 : Nat) h33 h34 => ?_) (fun h35 => absurd h35 (z_Gb (hG.go X (by decide)).2.1 h16 (by omega) (by omega)))
      obtain ⟨c36, w37l, w37u, k38⟩ : ∃ ci, 4 ≤ ci ∧ ci ≤ 11 ∧ T[a32]? = some (.inl (ci, 0, 0, 0, 0)) := h34
      have w37 := And.intro w37l w37u
      refine z_xra zt84 10 rfl zzr84 ?_
      show z_ev (d + 5) 112 12 [some (.ref 4), some (.int p1), some (.int p2), some (.int p3), some (.int p4), some (.int p5), some (.ref a22), none, none] [.ref a32] M0 _
      refine z_xP zt112 4 19 [some (.ref 4), some (.int p1), some (.int p2), some (.int p3), some (.int p4), some (.int p5), some (.ref a22), some (.ref a32), none] [] rfl rfl ?_
      refine z_xP zt112 5 24 [some (.ref 4), some (.int p1), some (.int p2), some (.int p3), some (.int p4), some (.int p5), some (.ref a22), some (.ref a32), none] [] rfl rfl ?_
      refine z_xP zt112 6 26 [some (.ref 4), some (.int p1), some (.int p2), some (.int p3), some (.int p4), some (.int p5), some (.ref a22), some (.ref a32), none] [.int p5] rfl rfl ?_
      refine z_xcS (vs := [.int p5]) (r := []) (L2 := [some (.int p5)]) zt112 7 rfl zo112 zzcS0_172 (Or.inl rfl) (Nat.le_of_ble_eq_true rfl) rfl rfl (Nat.le_of_ble_eq_true rfl) zzm64 (Nat.le_of_ble_eq_true rfl) rfl ?_
      refine z_xP zt64 0 1 [some (.int p5)] [.int p5] rfl rfl ?_
      refine z_xZ zt64 1 rfl rfl (fun (h39 : p5.toInt = 0) => ?_) (fun (h39 : p5.toInt ≠ 0) => ?_)
      · skip
        refine z_xP zt64 4 14 [some (.int p5)] [.int 1] rfl rfl ?_
        refine z_xrz zt64 6 rfl zzr64 (by decide) (by decide) ?_
        show z_ev (d + 5) 112 29 [some (.ref 4), some (.int p1), some (.int p2), some (.int p3), some (.int p4), some (.int p5), some (.ref a22), some (.ref a32), none] [.int 1] M0 _
        refine z_xZ zt112 8 rfl rfl (fun (h40 : (1 : Int) ≠ 0) => ?_) (fun (h40 : (1 : Int) = 0) => absurd h40 (by omega))
        refine z_xP zt112 11 38 [some (.ref 4), some (.int p1), some (.int p2), some (.int p3), some (.int p4), some (.int p5), some (.ref a22), some (.ref a32), none] [.int p4, .int p3, .ref 4] rfl rfl ?_
        refine z_xcV (vs := [.ref 4, .int p3, .int p4]) (r := []) (L2 := [some (.ref 4), some (.int p3), some (.int p4), none]) zt112 12 rfl zo112 zzcV0_241 (Or.inl rfl) rfl X f4 rfl rfl rfl (Nat.le_of_ble_eq_true rfl) zzm103 (Nat.le_of_ble_eq_true rfl) rfl ?_
        refine z_xP zt103 0 2 [some (.ref 4), some (.int p3), some (.int p4), none] [.int p3, .ref 4] rfl rfl ?_
        refine z_xcV (vs := [.ref 4, .int p3]) (r := []) (L2 := [some (.ref 4), some (.int p3)]) zt103 1 rfl zo103 zzcV0_108 (Or.inl rfl) rfl X f4 rfl rfl rfl (Nat.le_of_ble_eq_true rfl) zzm37 (Nat.le_of_ble_eq_true rfl) rfl ?_
        refine z_xP zt37 0 1 [some (.ref 4), some (.int p3)] [.int p3] rfl rfl ?_
        refine z_xZ zt37 1 rfl rfl (fun (h41 : p3.toInt < 0) => ?_) (fun (h41 : 0 ≤ p3.toInt) => ?_)
        · skip
          refine z_xP zt37 5 25 [some (.ref 4), some (.int p3)] [.null] rfl rfl ?_
          refine z_xrn zt37 11 rfl zzr37 ?_
          show z_ev (d + 4) 103 5 [some (.ref 4), some (.int p3), some (.int p4), none] [.null] M0 _
          refine z_xP zt103 2 20 [some (.ref 4), some (.int p3), some (.int p4), some (.null)] [] rfl rfl ?_
          refine z_xP zt103 7 21 [some (.ref 4), some (.int p3), some (.int p4), some (.null)] [.int (-1)] rfl rfl ?_
          refine z_xri zt103 8 rfl zzr103 ?_
          show z_ev (d + 5) 112 41 [some (.ref 4), some (.int p1), some (.int p2), some (.int p3), some (.int p4), some (.int p5), some (.ref a22), some (.ref a32), none] [.int (-1)] M0 _
          refine z_xP zt112 13 45 [some (.ref 4), some (.int p1), some (.int p2), some (.int p3), some (.int p4), some (.int p5), some (.ref a22), some (.ref a32), some (.int (-1))] [.int (-1)] rfl rfl ?_
          refine z_xZ zt112 14 rfl rfl (fun (h42 : ((-1) : Int) = 0) => absurd h42 (by omega)) (fun (h42 : ((-1) : Int) ≠ 0) => ?_)
          refine z_xP zt112 15 50 [some (.ref 4), some (.int p1), some (.int p2), some (.int p3), some (.int p4), some (.int p5), some (.ref a22), some (.ref a32), some (.int (-1))] [.int (-1)] rfl rfl ?_
          have qm1 : (((-1) : Int32)).toInt = (-1) := rfl
          exact z_xri zt112 16 rfl zzr112 (kk (-1) M0 X)
        refine z_xP zt37 2 6 [some (.ref 4), some (.int p3)] [.ref 4, .int p3] rfl rfl ?_
        refine z_xgI zt37 3 rfl zo37 zzf0_59 X f4 (by decide) (by decide) rfl (fun (x44 : Int32) h43 (h45 : 0 ≤ x44.toInt) (h46 : x44.toInt ≤ 8) => ?_)
        have h47 := z_b32 p3
        refine z_xJ zt37 4 rfl rfl (fun (h48 : p3.toInt < x44.toInt) => ?_) (fun (h48 : x44.toInt ≤ p3.toInt) => ?_)
        · skip
          refine z_xP zt37 6 17 [some (.ref 4), some (.int p3)] [.ref 4] rfl rfl ?_
          refine z_xgX (b := 10) zt37 7 rfl zo37 zzf0_18 X f4 (by decide) (by decide) rfl ?_
          refine z_xP zt37 8 21 [some (.ref 4), some (.int p3)] [.int p3, .ref 10] rfl rfl ?_
          have f10 : T[10]? = some (.inr (10, 2, 8, 9, 0)) := X.1.k rfl (by decide)
          refine z_xal zt37 9 rfl X f10 (by decide) (by decide) (by decide) (by omega) (by omega) (fun (a49 : Nat) h50 h51 => ?_) (fun h52 => absurd h52 (z_Gs (hG.go X (by decide)).2.1 h43 (by omega) (by omega)))
          obtain ⟨q53, t54, m55, k56⟩ : ∃ q t m, T[a49]? = some (.inl (3, q, t, m, 9)) := h51
          have g57 := X.1.p3 k56
          refine z_xgR (κ := .inl (2, q53, t54, m55, 0)) zt37 10 rfl zo37 zzf0_89 X k56 (by decide) (by decide) rfl (fun (a59 : Nat) h58 k60 => ?_)
          have g61 := X.1.p2 k60
          refine z_xra zt37 11 rfl zzr37 ?_
          show z_ev (d + 4) 103 5 [some (.ref 4), some (.int p3), some (.int p4), none] [.ref a59] M0 _
          refine z_xP zt103 2 10 [some (.ref 4), some (.int p3), some (.int p4), some (.ref a59)] [] rfl rfl ?_
          refine z_xP zt103 3 12 [some (.ref 4), some (.int p3), some (.int p4), some (.ref a59)] [.int 1, .int p4] rfl rfl ?_
          refine z_xJ zt103 4 rfl rfl (fun (h62 : p4.toInt < 1) => ?_) (fun (h62 : 1 ≤ p4.toInt) => ?_)
          · skip
            refine z_xP zt103 7 21 [some (.ref 4), some (.int p3), some (.int p4), some (.ref a59)] [.int (-1)] rfl rfl ?_
            refine z_xri zt103 8 rfl zzr103 ?_
            show z_ev (d + 5) 112 41 [some (.ref 4), some (.int p1), some (.int p2), some (.int p3), some (.int p4), some (.int p5), some (.ref a22), some (.ref a32), none] [.int (-1)] M0 _
            refine z_xP zt112 13 45 [some (.ref 4), some (.int p1), some (.int p2), some (.int p3), some (.int p4), some (.int p5), some (.ref a22), some (.ref a32), some (.int (-1))] [.int (-1)] rfl rfl ?_
            refine z_xZ zt112 14 rfl rfl (fun (h63 : ((-1) : Int) = 0) => absurd h63 (by omega)) (fun (h63 : ((-1) : Int) ≠ 0) => ?_)
            refine z_xP zt112 15 50 [some (.ref 4), some (.int p1), some (.int p2), some (.int p3), some (.int p4), some (.int p5), some (.ref a22), some (.ref a32), some (.int (-1))] [.int (-1)] rfl rfl ?_
            have qm1 : (((-1) : Int32)).toInt = (-1) := rfl
            exact z_xri zt112 16 rfl zzr112 (kk (-1) M0 X)
          refine z_xP zt103 5 17 [some (.ref 4), some (.int p3), some (.int p4), some (.ref a59)] [.int 5, .int p4] rfl rfl ?_
          refine z_xJ zt103 6 rfl rfl (fun (h64 : p4.toInt ≤ 5) => ?_) (fun (h64 : 5 < p4.toInt) => ?_)
          · skip
            refine z_xP zt103 9 23 [some (.ref 4), some (.int p3), some (.int p4), some (.ref a59)] [.ref a59] rfl rfl ?_
            refine z_xgR (κ := .inr (102, 0, m55, 0, 1023)) zt103 10 rfl zo103 zzf0_74 X k60 (by decide) (by decide) rfl (fun (a66 : Nat) h65 k67 => ?_)
            refine z_xln zt103 11 rfl X k67 (by decide) (by omega) (fun (x68 : Int32) (h69 : x68.toInt = ((m55 : Nat) : Int)) => ?_)
            refine z_xP zt103 12 29 [some (.ref 4), some (.int p3), some (.int p4), some (.ref a59)] [.int 12, .int x68] rfl rfl ?_
            refine z_xJ zt103 13 rfl rfl (fun (h70 : x68.toInt ≤ 12) => ?_) (fun (h70 : 12 < x68.toInt) => ?_)
            · skip
              refine z_xP zt103 15 38 [some (.ref 4), some (.int p3), some (.int p4), some (.ref a59)] [.int 0] rfl rfl ?_
              refine z_xri zt103 16 rfl zzr103 ?_
              show z_ev (d + 5) 112 41 [some (.ref 4), some (.int p1), some (.int p2), some (.int p3), some (.int p4), some (.int p5), some (.ref a22), some (.ref a32), none] [.int 0] M0 _
              refine z_xP zt112 13 45 [some (.ref 4), some (.int p1), some (.int p2), some (.int p3), some (.int p4), some (.int p5), some (.ref a22), some (.ref a32), some (.int 0)] [.int 0] rfl rfl ?_
              refine z_xZ zt112 14 rfl rfl (fun (h71 : (0 : Int) = 0) => ?_) (fun (h71 : (0 : Int) ≠ 0) => absurd h71 (by omega))
              refine z_xP zt112 17 56 [some (.ref 4), some (.int p1), some (.int p2), some (.int p3), some (.int p4), some (.int p5), some (.ref a22), some (.ref a32), some (.int 0)] [.ref 4, .ref a32, .ref a22] rfl rfl ?_
              refine z_xgX (b := 11) zt112 18 rfl zo112 zzf0_22 X f4 (by decide) (by decide) rfl ?_
              refine z_xP zt112 19 60 [some (.ref 4), some (.int p1), some (.int p2), some (.int p3), some (.int p4), some (.int p5), some (.ref a22), some (.ref a32), some (.int 0)] [.int p3, .ref 11, .ref a32, .ref a22] rfl rfl ?_
              have f11 : T[11]? = some (.inr (11, 2, 8, 5, 0)) := X.1.k rfl (by decide)
              refine z_xal zt112 20 rfl X f11 (by decide) (by decide) (by decide) (by omega) (by omega) (fun (a72 : Nat) h73 h74 => ?_) (fun h75 => absurd h75 (z_Gt (hG.go X (by decide)).2.1 h43 (by omega) (by omega)))
              obtain ⟨q76, t77, m78, k79⟩ : ∃ q t m, T[a72]? = some (.inl (3, q, t, m, 5)) := h74
              have g80 := X.1.p3 k79
              have h81 := z_Gm (hG.go X (by decide)).2.2 X.1 (z_cll (n := 8) (by omega) (by decide)) h50 h73 k56 k79
              refine z_xP zt112 21 66 [some (.ref 4), some (.int p1), some (.int p2), some (.int p3), some (.int p4), some (.int p5), some (.ref a22), some (.ref a32), some (.int 0)] [.int 1, .int p5, .int p4, .ref a72, .ref a32, .ref a22] rfl rfl ?_
              refine z_xJ zt112 22 rfl rfl (fun (h82 : p5.toInt ≠ 1) => ?_) (fun (h82 : p5.toInt = 1) => absurd h82 (by omega))
              refine z_xP zt112 24 74 [some (.ref 4), some (.int p1), some (.int p2), some (.int p3), some (.int p4), some (.int p5), some (.ref a22), some (.ref a32), some (.int 0)] [.int 0, .int p4, .ref a72, .ref a32, .ref a22] rfl rfl ?_
              refine z_xcV (vs := [.ref a22, .ref a32, .ref a72, .int p4, .int 0]) (r := []) (L2 := [some (.ref a22), some (.ref a32), some (.ref a72), some (.int p4), some (.int 0), none, none, none]) zt112 25 rfl zo112 zzcV0_252 (Or.inr rfl) rfl X k28 (z_w8 (fun c => (([(4, 113), (10, 113), (7, 113), (5, 113), (11, 113), (8, 113), (6, 113), (9, 113)] : List (Nat × Nat)).find? fun t => t.1 == c) = some (c, 113)) rfl rfl rfl rfl rfl rfl rfl rfl w27) rfl rfl (Nat.le_of_ble_eq_true rfl) zzm113 (Nat.le_of_ble_eq_true rfl) rfl ?_
              have q0 : ((0 : Int32)).toInt = 0 := rfl
              have q0 : ((0 : Int32)).toInt = 0 := rfl
              refine zC113 X.1 w27 k28 w37 k38 k79 (by omega) (by decide) (fun x85 M83 X84  => ?_)
              have X86 := X.go X84 (z_sb (by decide))
              show z_ev (d + 5) 112 77 [some (.ref 4), some (.int p1), some (.int p2), some (.int p3), some (.int p4), some (.int p5), some (.ref a22), some (.ref a32), some (.int 0)] [.int x85] M83 _
              exact z_xri zt112 26 rfl zzr112 (kk x85 M83 X86)
            refine z_xP zt103 14 38 [some (.ref 4), some (.int p3), some (.int p4), some (.ref a59)] [.int (-4)] rfl rfl ?_
            refine z_xri zt103 16 rfl zzr103 ?_
            show z_ev (d + 5) 112 41 [some (.ref 4), some (.int p1), some (.int p2), some (.int p3), some (.int p4), some (.int p5), some (.ref a22), some (.ref a32), none] [.int (-4)] M0 _
            refine z_xP zt112 13 45 [some (.ref 4), some (.int p1), some (.int p2), some (.int p3), some (.int p4), some (.int p5), some (.ref a22), some (.ref a32), some (.int (-4))] [.int (-4)] rfl rfl ?_
            refine z_xZ zt112 14 rfl rfl (fun (h88 : ((-4) : Int) = 0) => absurd h88 (by omega)) (fun (h88 : ((-4) : Int) ≠ 0) => ?_)
            refine z_xP zt112 15 50 [some (.ref 4), some (.int p1), some (.int p2), some (.int p3), some (.int p4), some (.int p5), some (.ref a22), some (.ref a32), some (.int (-4))] [.int (-4)] rfl rfl ?_
            have qm4 : (((-4) : Int32)).toInt = (-4) := rfl
            exact z_xri zt112 16 rfl zzr112 (kk (-4) M0 X)
          refine z_xP zt103 7 21 [some (.ref 4), some (.int p3), some (.int p4), some (.ref a59)] [.int (-1)] rfl rfl ?_
          refine z_xri zt103 8 rfl zzr103 ?_
          show z_ev (d + 5) 112 41 [some (.ref 4), some (.int p1), some (.int p2), some (.int p3), some (.int p4), some (.int p5), some (.ref a22), some (.ref a32), none] [.int (-1)] M0 _
          refine z_xP zt112 13 45 [some (.ref 4), some (.int p1), some (.int p2), some (.int p3), some (.int p4), some (.int p5), some (.ref a22), some (.ref a32), some (.int (-1))] [.int (-1)] rfl rfl ?_
          refine z_xZ zt112 14 rfl rfl (fun (h89 : ((-1) : Int) = 0) => absurd h89 (by omega)) (fun (h89 : ((-1) : Int) ≠ 0) => ?_)
          refine z_xP zt112 15 50 [some (.ref 4), some (.int p1), some (.int p2), some (.int p3), some (.int p4), some (.int p5), some (.ref a22), some (.ref a32), some (.int (-1))] [.int (-1)] rfl rfl ?_
          have qm1 : (((-1) : Int32)).toInt = (-1) := rfl
          exact z_xri zt112 16 rfl zzr112 (kk (-1) M0 X)
        refine z_xP zt37 5 25 [some (.ref 4), some (.int p3)] [.null] rfl rfl ?_
        refine z_xrn zt37 11 rfl zzr37 ?_
        show z_ev (d + 4) 103 5 [some (.ref 4), some (.int p3), some (.int p4), none] [.null] M0 _
        refine z_xP zt103 2 20 [some (.ref 4), some (.int p3), some (.int p4), some (.null)] [] rfl rfl ?_
        refine z_xP zt103 7 21 [some (.ref 4), some (.int p3), some (.int p4), some (.null)] [.int (-1)] rfl rfl ?_
        refine z_xri zt103 8 rfl zzr103 ?_
        show z_ev (d + 5) 112 41 [some (.ref 4), some (.int p1), some (.int p2), some (.int p3), some (.int p4), some (.int p5), some (.ref a22), some (.ref a32), none] [.int (-1)] M0 _
        refine z_xP zt112 13 45 [some (.ref 4), some (.int p1), some (.int p2), some (.int p3), some (.int p4), some (.int p5), some (.ref a22), some (.ref a32), some (.int (-1))] [.int (-1)] rfl rfl ?_
        refine z_xZ zt112 14 rfl rfl (fun (h90 : ((-1) : Int) = 0) => absurd h90 (by omega)) (fun (h90 : ((-1) : Int) ≠ 0) => ?_)
        refine z_xP zt112 15 50 [some (.ref 4), some (.int p1), some (.int p2), some (.int p3), some (.int p4), some (.int p5), some (.ref a22), some (.ref a32), some (.int (-1))] [.int (-1)] rfl rfl ?_
        have qm1 : (((-1) : Int32)).toInt = (-1) := rfl
        exact z_xri zt112 16 rfl zzr112 (kk (-1) M0 X)
      refine z_xP zt64 2 6 [some (.int p5)] [.int 1, .int p5] rfl rfl ?_
      refine z_xJ zt64 3 rfl rfl (fun (h91 : p5.toInt ≠ 1) => ?_) (fun (h91 : p5.toInt = 1) => ?_)
      · skip
        refine z_xP zt64 5 14 [some (.int p5)] [.int 0] rfl rfl ?_
        refine z_xrz zt64 6 rfl zzr64 (by decide) (by decide) ?_
        show z_ev (d + 5) 112 29 [some (.ref 4), some (.int p1), some (.int p2), some (.int p3), some (.int p4), some (.int p5), some (.ref a22), some (.ref a32), none] [.int 0] M0 _
        refine z_xZ zt112 8 rfl rfl (fun (h92 : (0 : Int) ≠ 0) => absurd h92 (by omega)) (fun (h92 : (0 : Int) = 0) => ?_)
        refine z_xP zt112 9 33 [some (.ref 4), some (.int p1), some (.int p2), some (.int p3), some (.int p4), some (.int p5), some (.ref a22), some (.ref a32), none] [.int (-1)] rfl rfl ?_
        have qm1 : (((-1) : Int32)).toInt = (-1) := rfl
        exact z_xri zt112 10 rfl zzr112 (kk (-1) M0 X)
      refine z_xP zt64 4 14 [some (.int p5)] [.int 1] rfl rfl ?_
      refine z_xrz zt64 6 rfl zzr64 (by decide) (by decide) ?_
      show z_ev (d + 5) 112 29 [some (.ref 4), some (.int p1), some (.int p2), some (.int p3), some (.int p4), some (.int p5), some (.ref a22), some (.ref a32), none] [.int 1] M0 _
      refine z_xZ zt112 8 rfl rfl (fun (h93 : (1 : Int) ≠ 0) => ?_) (fun (h93 : (1 : Int) = 0) => absurd h93 (by omega))
      refine z_xP zt112 11 38 [some (.ref 4), some (.int p1), some (.int p2), some (.int p3), some (.int p4), some (.int p5), some (.ref a22), some (.ref a32), none] [.int p4, .int p3, .ref 4] rfl rfl ?_
      refine z_xcV (vs := [.ref 4, .int p3, .int p4]) (r := []) (L2 := [some (.ref 4), some (.int p3), some (.int p4), none]) zt112 12 rfl zo112 zzcV0_241 (Or.inl rfl) rfl X f4 rfl rfl rfl (Nat.le_of_ble_eq_true rfl) zzm103 (Nat.le_of_ble_eq_true rfl) rfl ?_
      refine z_xP zt103 0 2 [some (.ref 4), some (.int p3), some (.int p4), none] [.int p3, .ref 4] rfl rfl ?_
      refine z_xcV (vs := [.ref 4, .int p3]) (r := []) (L2 := [some (.ref 4), some (.int p3)]) zt103 1 rfl zo103 zzcV0_108 (Or.inl rfl) rfl X f4 rfl rfl rfl (Nat.le_of_ble_eq_true rfl) zzm37 (Nat.le_of_ble_eq_true rfl) rfl ?_
      refine z_xP zt37 0 1 [some (.ref 4), some (.int p3)] [.int p3] rfl rfl ?_
      refine z_xZ zt37 1 rfl rfl (fun (h94 : p3.toInt < 0) => ?_) (fun (h94 : 0 ≤ p3.toInt) => ?_)
      · skip
        refine z_xP zt37 5 25 [some (.ref 4), some (.int p3)] [.null] rfl rfl ?_
        refine z_xrn zt37 11 rfl zzr37 ?_
        show z_ev (d + 4) 103 5 [some (.ref 4), some (.int p3), some (.int p4), none] [.null] M0 _
        refine z_xP zt103 2 20 [some (.ref 4), some (.int p3), some (.int p4), some (.null)] [] rfl rfl ?_
        refine z_xP zt103 7 21 [some (.ref 4), some (.int p3), some (.int p4), some (.null)] [.int (-1)] rfl rfl ?_
        refine z_xri zt103 8 rfl zzr103 ?_
        show z_ev (d + 5) 112 41 [some (.ref 4), some (.int p1), some (.int p2), some (.int p3), some (.int p4), some (.int p5), some (.ref a22), some (.ref a32), none] [.int (-1)] M0 _
        refine z_xP zt112 13 45 [some (.ref 4), some (.int p1), some (.int p2), some (.int p3), some (.int p4), some (.int p5), some (.ref a22), some (.ref a32), some (.int (-1))] [.int (-1)] rfl rfl ?_
        refine z_xZ zt112 14 rfl rfl (fun (h95 : ((-1) : Int) = 0) => absurd h95 (by omega)) (fun (h95 : ((-1) : Int) ≠ 0) => ?_)
        refine z_xP zt112 15 50 [some (.ref 4), some (.int p1), some (.int p2), some (.int p3), some (.int p4), some (.int p5), some (.ref a22), some (.ref a32), some (.int (-1))] [.int (-1)] rfl rfl ?_
        have qm1 : (((-1) : Int32)).toInt = (-1) := rfl
        exact z_xri zt112 16 rfl zzr112 (kk (-1) M0 X)
      refine z_xP zt37 2 6 [some (.ref 4), some (.int p3)] [.ref 4, .int p3] rfl rfl ?_
      refine z_xgI zt37 3 rfl zo37 zzf0_59 X f4 (by decide) (by decide) rfl (fun (x97 : Int32) h96 (h98 : 0 ≤ x97.toInt) (h99 : x97.toInt ≤ 8) => ?_)
      have h100 := z_b32 p3
      refine z_xJ zt37 4 rfl rfl (fun (h101 : p3.toInt < x97.toInt) => ?_) (fun (h101 : x97.toInt ≤ p3.toInt) => ?_)
      · skip
        refine z_xP zt37 6 17 [some (.ref 4), some (.int p3)] [.ref 4] rfl rfl ?_
        refine z_xgX (b := 10) zt37 7 rfl zo37 zzf0_18 X f4 (by decide) (by decide) rfl ?_
        refine z_xP zt37 8 21 [some (.ref 4), some (.int p3)] [.int p3, .ref 10] rfl rfl ?_
        have f10 : T[10]? = some (.inr (10, 2, 8, 9, 0)) := X.1.k rfl (by decide)
        refine z_xal zt37 9 rfl X f10 (by decide) (by decide) (by decide) (by omega) (by omega) (fun (a102 : Nat) h103 h104 => ?_) (fun h105 => absurd h105 (z_Gs (hG.go X (by decide)).2.1 h96 (by omega) (by omega)))
        obtain ⟨q106, t107, m108, k109⟩ : ∃ q t m, T[a102]? = some (.inl (3, q, t, m, 9)) := h104
        have g110 := X.1.p3 k109
        refine z_xgR (κ := .inl (2, q106, t107, m108, 0)) zt37 10 rfl zo37 zzf0_89 X k109 (by decide) (by decide) rfl (fun (a112 : Nat) h111 k113 => ?_)
        have g114 := X.1.p2 k113
        refine z_xra zt37 11 rfl zzr37 ?_
        show z_ev (d + 4) 103 5 [some (.ref 4), some (.int p3), some (.int p4), none] [.ref a112] M0 _
        refine z_xP zt103 2 10 [some (.ref 4), some (.int p3), some (.int p4), some (.ref a112)] [] rfl rfl ?_
        refine z_xP zt103 3 12 [some (.ref 4), some (.int p3), some (.int p4), some (.ref a112)] [.int 1, .int p4] rfl rfl ?_
        refine z_xJ zt103 4 rfl rfl (fun (h115 : p4.toInt < 1) => ?_) (fun (h115 : 1 ≤ p4.toInt) => ?_)
        · skip
          refine z_xP zt103 7 21 [some (.ref 4), some (.int p3), some (.int p4), some (.ref a112)] [.int (-1)] rfl rfl ?_
          refine z_xri zt103 8 rfl zzr103 ?_
          show z_ev (d + 5) 112 41 [some (.ref 4), some (.int p1), some (.int p2), some (.int p3), some (.int p4), some (.int p5), some (.ref a22), some (.ref a32), none] [.int (-1)] M0 _
          refine z_xP zt112 13 45 [some (.ref 4), some (.int p1), some (.int p2), some (.int p3), some (.int p4), some (.int p5), some (.ref a22), some (.ref a32), some (.int (-1))] [.int (-1)] rfl rfl ?_
          refine z_xZ zt112 14 rfl rfl (fun (h116 : ((-1) : Int) = 0) => absurd h116 (by omega)) (fun (h116 : ((-1) : Int) ≠ 0) => ?_)
          refine z_xP zt112 15 50 [some (.ref 4), some (.int p1), some (.int p2), some (.int p3), some (.int p4), some (.int p5), some (.ref a22), some (.ref a32), some (.int (-1))] [.int (-1)] rfl rfl ?_
          have qm1 : (((-1) : Int32)).toInt = (-1) := rfl
          exact z_xri zt112 16 rfl zzr112 (kk (-1) M0 X)
        refine z_xP zt103 5 17 [some (.ref 4), some (.int p3), some (.int p4), some (.ref a112)] [.int 5, .int p4] rfl rfl ?_
        refine z_xJ zt103 6 rfl rfl (fun (h117 : p4.toInt ≤ 5) => ?_) (fun (h117 : 5 < p4.toInt) => ?_)
        · skip
          refine z_xP zt103 9 23 [some (.ref 4), some (.int p3), some (.int p4), some (.ref a112)] [.ref a112] rfl rfl ?_
          refine z_xgR (κ := .inr (102, 0, m108, 0, 1023)) zt103 10 rfl zo103 zzf0_74 X k113 (by decide) (by decide) rfl (fun (a119 : Nat) h118 k120 => ?_)
          refine z_xln zt103 11 rfl X k120 (by decide) (by omega) (fun (x121 : Int32) (h122 : x121.toInt = ((m108 : Nat) : Int)) => ?_)
          refine z_xP zt103 12 29 [some (.ref 4), some (.int p3), some (.int p4), some (.ref a112)] [.int 12, .int x121] rfl rfl ?_
          refine z_xJ zt103 13 rfl rfl (fun (h123 : x121.toInt ≤ 12) => ?_) (fun (h123 : 12 < x121.toInt) => ?_)
          · skip
            refine z_xP zt103 15 38 [some (.ref 4), some (.int p3), some (.int p4), some (.ref a112)] [.int 0] rfl rfl ?_
            refine z_xri zt103 16 rfl zzr103 ?_
            show z_ev (d + 5) 112 41 [some (.ref 4), some (.int p1), some (.int p2), some (.int p3), some (.int p4), some (.int p5), some (.ref a22), some (.ref a32), none] [.int 0] M0 _
            refine z_xP zt112 13 45 [some (.ref 4), some (.int p1), some (.int p2), some (.int p3), some (.int p4), some (.int p5), some (.ref a22), some (.ref a32), some (.int 0)] [.int 0] rfl rfl ?_
            refine z_xZ zt112 14 rfl rfl (fun (h124 : (0 : Int) = 0) => ?_) (fun (h124 : (0 : Int) ≠ 0) => absurd h124 (by omega))
            refine z_xP zt112 17 56 [some (.ref 4), some (.int p1), some (.int p2), some (.int p3), some (.int p4), some (.int p5), some (.ref a22), some (.ref a32), some (.int 0)] [.ref 4, .ref a32, .ref a22] rfl rfl ?_
            refine z_xgX (b := 11) zt112 18 rfl zo112 zzf0_22 X f4 (by decide) (by decide) rfl ?_
            refine z_xP zt112 19 60 [some (.ref 4), some (.int p1), some (.int p2), some (.int p3), some (.int p4), some (.int p5), some (.ref a22), some (.ref a32), some (.int 0)] [.int p3, .ref 11, .ref a32, .ref a22] rfl rfl ?_
            have f11 : T[11]? = some (.inr (11, 2, 8, 5, 0)) := X.1.k rfl (by decide)
            refine z_xal zt112 20 rfl X f11 (by decide) (by decide) (by decide) (by omega) (by omega) (fun (a125 : Nat) h126 h127 => ?_) (fun h128 => absurd h128 (z_Gt (hG.go X (by decide)).2.1 h96 (by omega) (by omega)))
            obtain ⟨q129, t130, m131, k132⟩ : ∃ q t m, T[a125]? = some (.inl (3, q, t, m, 5)) := h127
            have g133 := X.1.p3 k132
            have h134 := z_Gm (hG.go X (by decide)).2.2 X.1 (z_cll (n := 8) (by omega) (by decide)) h103 h126 k109 k132
            refine z_xP zt112 21 66 [some (.ref 4), some (.int p1), some (.int p2), some (.int p3), some (.int p4), some (.int p5), some (.ref a22), some (.ref a32), some (.int 0)] [.int 1, .int p5, .int p4, .ref a125, .ref a32, .ref a22] rfl rfl ?_
            refine z_xJ zt112 22 rfl rfl (fun (h135 : p5.toInt ≠ 1) => absurd h135 (by omega)) (fun (h135 : p5.toInt = 1) => ?_)
            refine z_xP zt112 23 74 [some (.ref 4), some (.int p1), some (.int p2), some (.int p3), some (.int p4), some (.int p5), some (.ref a22), some (.ref a32), some (.int 0)] [.int 1, .int p4, .ref a125, .ref a32, .ref a22] rfl rfl ?_
            refine z_xcV (vs := [.ref a22, .ref a32, .ref a125, .int p4, .int 1]) (r := []) (L2 := [some (.ref a22), some (.ref a32), some (.ref a125), some (.int p4), some (.int 1), none, none, none]) zt112 25 rfl zo112 zzcV0_252 (Or.inr rfl) rfl X k28 (z_w8 (fun c => (([(4, 113), (10, 113), (7, 113), (5, 113), (11, 113), (8, 113), (6, 113), (9, 113)] : List (Nat × Nat)).find? fun t => t.1 == c) = some (c, 113)) rfl rfl rfl rfl rfl rfl rfl rfl w27) rfl rfl (Nat.le_of_ble_eq_true rfl) zzm113 (Nat.le_of_ble_eq_true rfl) rfl ?_
            have q1 : ((1 : Int32)).toInt = 1 := rfl
            have q1 : ((1 : Int32)).toInt = 1 := rfl
            refine zC113 X.1 w27 k28 w37 k38 k132 (by omega) (by decide) (fun x138 M136 X137  => ?_)
            have X139 := X.go X137 (z_sb (by decide))
            show z_ev (d + 5) 112 77 [some (.ref 4), some (.int p1), some (.int p2), some (.int p3), some (.int p4), some (.int p5), some (.ref a22), some (.ref a32), some (.int 0)] [.int x138] M136 _
            exact z_xri zt112 26 rfl zzr112 (kk x138 M136 X139)
          refine z_xP zt103 14 38 [some (.ref 4), some (.int p3), some (.int p4), some (.ref a112)] [.int (-4)] rfl rfl ?_
          refine z_xri zt103 16 rfl zzr103 ?_
          show z_ev (d + 5) 112 41 [some (.ref 4), some (.int p1), some (.int p2), some (.int p3), some (.int p4), some (.int p5), some (.ref a22), some (.ref a32), none] [.int (-4)] M0 _
          refine z_xP zt112 13 45 [some (.ref 4), some (.int p1), some (.int p2), some (.int p3), some (.int p4), some (.int p5), some (.ref a22), some (.ref a32), some (.int (-4))] [.int (-4)] rfl rfl ?_
          refine z_xZ zt112 14 rfl rfl (fun (h141 : ((-4) : Int) = 0) => absurd h141 (by omega)) (fun (h141 : ((-4) : Int) ≠ 0) => ?_)
          refine z_xP zt112 15 50 [some (.ref 4), some (.int p1), some (.int p2), some (.int p3), some (.int p4), some (.int p5), some (.ref a22), some (.ref a32), some (.int (-4))] [.int (-4)] rfl rfl ?_
          have qm4 : (((-4) : Int32)).toInt = (-4) := rfl
          exact z_xri zt112 16 rfl zzr112 (kk (-4) M0 X)
        refine z_xP zt103 7 21 [some (.ref 4), some (.int p3), some (.int p4), some (.ref a112)] [.int (-1)] rfl rfl ?_
        refine z_xri zt103 8 rfl zzr103 ?_
        show z_ev (d + 5) 112 41 [some (.ref 4), some (.int p1), some (.int p2), some (.int p3), some (.int p4), some (.int p5), some (.ref a22), some (.ref a32), none] [.int (-1)] M0 _
        refine z_xP zt112 13 45 [some (.ref 4), some (.int p1), some (.int p2), some (.int p3), some (.int p4), some (.int p5), some (.ref a22), some (.ref a32), some (.int (-1))] [.int (-1)] rfl rfl ?_
        refine z_xZ zt112 14 rfl rfl (fun (h142 : ((-1) : Int) = 0) => absurd h142 (by omega)) (fun (h142 : ((-1) : Int) ≠ 0) => ?_)
        refine z_xP zt112 15 50 [some (.ref 4), some (.int p1), some (.int p2), some (.int p3), some (.int p4), some (.int p5), some (.ref a22), some (.ref a32), some (.int (-1))] [.int (-1)] rfl rfl ?_
        have qm1 : (((-1) : Int32)).toInt = (-1) := rfl
        exact z_xri zt112 16 rfl zzr112 (kk (-1) M0 X)
      refine z_xP zt37 5 25 [some (.ref 4), some (.int p3)] [.null] rfl rfl ?_
      refine z_xrn zt37 11 rfl zzr37 ?_
      show z_ev (d + 4) 103 5 [some (.ref 4), some (.int p3), some (.int p4), none] [.null] M0 _
      refine z_xP zt103 2 20 [some (.ref 4), some (.int p3), some (.int p4), some (.null)] [] rfl rfl ?_
      refine z_xP zt103 7 21 [some (.ref 4), some (.int p3), some (.int p4), some (.null)] [.int (-1)] rfl rfl ?_
      refine z_xri zt103 8 rfl zzr103 ?_
      show z_ev (d + 5) 112 41 [some (.ref 4), some (.int p1), some (.int p2), some (.int p3), some (.int p4), some (.int p5), some (.ref a22), some (.ref a32), none] [.int (-1)] M0 _
      refine z_xP zt112 13 45 [some (.ref 4), some (.int p1), some (.int p2), some (.int p3), some (.int p4), some (.int p5), some (.ref a22), some (.ref a32), some (.int (-1))] [.int (-1)] rfl rfl ?_
      refine z_xZ zt112 14 rfl rfl (fun (h143 : ((-1) : Int) = 0) => absurd h143 (by omega)) (fun (h143 : ((-1) : Int) ≠ 0) => ?_)
      refine z_xP zt112 15 50 [some (.ref 4), some (.int p1), some (.int p2), some (.int p3), some (.int p4), some (.int p5), some (.ref a22), some (.ref a32), some (.int (-1))] [.int (-1)] rfl rfl ?_
      have qm1 : (((-1) : Int32)).toInt = (-1) := rfl
      exact z_xri zt112 16 rfl zzr112 (kk (-1) M0 X)
    refine z_xP zt84 5 22 [some (.ref 4), some (.int p2)] [.null] rfl rfl ?_
    refine z_xrn zt84 10 rfl zzr84 ?_
    show z_ev (d + 5) 112 12 [some (.ref 4), some (.int p1), some (.int p2), some (.int p3), some (.int p4), some (.int p5), some (.ref a22), none, none] [.null] M0 _
    refine z_xP zt112 4 19 [some (.ref 4), some (.int p1), some (.int p2), some (.int p3), some (.int p4), some (.int p5), some (.ref a22), some (.null), none] [] rfl rfl ?_
    refine z_xP zt112 5 32 [some (.ref 4), some (.int p1), some (.int p2), some (.int p3), some (.int p4), some (.int p5), some (.ref a22), some (.null), none] [] rfl rfl ?_
    refine z_xP zt112 9 33 [some (.ref 4), some (.int p1), some (.int p2), some (.int p3), some (.int p4), some (.int p5), some (.ref a22), some (.null), none] [.int (-1)] rfl rfl ?_
    have qm1 : (((-1) : Int32)).toInt = (-1) := rfl
    exact z_xri zt112 10 rfl zzr112 (kk (-1) M0 X)
  refine z_xP zt84 5 22 [some (.ref 4), some (.int p1)] [.null] rfl rfl ?_
  refine z_xrn zt84 10 rfl zzr84 ?_
  show z_ev (d + 5) 112 5 [some (.ref 4), some (.int p1), some (.int p2), some (.int p3), some (.int p4), some (.int p5), none, none, none] [.null] M0 _
  refine z_xP zt112 2 9 [some (.ref 4), some (.int p1), some (.int p2), some (.int p3), some (.int p4), some (.int p5), some (.null), none, none] [.int p2, .ref 4] rfl rfl ?_
  refine z_xcV (vs := [.ref 4, .int p2]) (r := []) (L2 := [some (.ref 4), some (.int p2)]) zt112 3 rfl zo112 zzcV0_221 (Or.inl rfl) rfl X f4 rfl rfl rfl (Nat.le_of_ble_eq_true rfl) zzm84 (Nat.le_of_ble_eq_true rfl) rfl ?_
  refine z_xP zt84 0 1 [some (.ref 4), some (.int p2)] [.int p2] rfl rfl ?_
  refine z_xZ zt84 1 rfl rfl (fun (h144 : p2.toInt < 0) => ?_) (fun (h144 : 0 ≤ p2.toInt) => ?_)
  · skip
    refine z_xP zt84 5 22 [some (.ref 4), some (.int p2)] [.null] rfl rfl ?_
    refine z_xrn zt84 10 rfl zzr84 ?_
    show z_ev (d + 5) 112 12 [some (.ref 4), some (.int p1), some (.int p2), some (.int p3), some (.int p4), some (.int p5), some (.null), none, none] [.null] M0 _
    refine z_xP zt112 4 32 [some (.ref 4), some (.int p1), some (.int p2), some (.int p3), some (.int p4), some (.int p5), some (.null), some (.null), none] [] rfl rfl ?_
    refine z_xP zt112 9 33 [some (.ref 4), some (.int p1), some (.int p2), some (.int p3), some (.int p4), some (.int p5), some (.null), some (.null), none] [.int (-1)] rfl rfl ?_
    have qm1 : (((-1) : Int32)).toInt = (-1) := rfl
    exact z_xri zt112 10 rfl zzr112 (kk (-1) M0 X)
  refine z_xP zt84 2 6 [some (.ref 4), some (.int p2)] [.ref 4, .int p2] rfl rfl ?_
  refine z_xgv zt84 3 rfl zo84 zzf0_188 X f4 (by decide) h16 ?_
  have h145 := z_b32 p2
  refine z_xJ zt84 4 rfl rfl (fun (h146 : p2.toInt < x17.toInt) => ?_) (fun (h146 : x17.toInt ≤ p2.toInt) => ?_)
  · skip
    refine z_xP zt84 6 17 [some (.ref 4), some (.int p2)] [.ref 4] rfl rfl ?_
    refine z_xgX (b := 12) zt84 7 rfl zo84 zzf0_27 X f4 (by decide) (by decide) rfl ?_
    refine z_xP zt84 8 21 [some (.ref 4), some (.int p2)] [.int p2, .ref 12] rfl rfl ?_
    have f12 : T[12]? = some (.inr (12, 3, 20, 0, 0)) := X.1.k rfl (by decide)
    refine z_xal zt84 9 rfl X f12 (by decide) (by decide) (by decide) (by omega) (by omega) (fun (a147 : Nat) h148 h149 => ?_) (fun h150 => absurd h150 (z_Gb (hG.go X (by decide)).2.1 h16 (by omega) (by omega)))
    obtain ⟨c151, w152l, w152u, k153⟩ : ∃ ci, 4 ≤ ci ∧ ci ≤ 11 ∧ T[a147]? = some (.inl (ci, 0, 0, 0, 0)) := h149
    have w152 := And.intro w152l w152u
    refine z_xra zt84 10 rfl zzr84 ?_
    show z_ev (d + 5) 112 12 [some (.ref 4), some (.int p1), some (.int p2), some (.int p3), some (.int p4), some (.int p5), some (.null), none, none] [.ref a147] M0 _
    refine z_xP zt112 4 32 [some (.ref 4), some (.int p1), some (.int p2), some (.int p3), some (.int p4), some (.int p5), some (.null), some (.ref a147), none] [] rfl rfl ?_
    refine z_xP zt112 9 33 [some (.ref 4), some (.int p1), some (.int p2), some (.int p3), some (.int p4), some (.int p5), some (.null), some (.ref a147), none] [.int (-1)] rfl rfl ?_
    have qm1 : (((-1) : Int32)).toInt = (-1) := rfl
    exact z_xri zt112 10 rfl zzr112 (kk (-1) M0 X)
  refine z_xP zt84 5 22 [some (.ref 4), some (.int p2)] [.null] rfl rfl ?_
  refine z_xrn zt84 10 rfl zzr84 ?_
  show z_ev (d + 5) 112 12 [some (.ref 4), some (.int p1), some (.int p2), some (.int p3), some (.int p4), some (.int p5), some (.null), none, none] [.null] M0 _
  refine z_xP zt112 4 32 [some (.ref 4), some (.int p1), some (.int p2), some (.int p3), some (.int p4), some (.int p5), some (.null), some (.null), none] [] rfl rfl ?_
  refine z_xP zt112 9 33 [some (.ref 4), some (.int p1), some (.int p2), some (.int p3), some (.int p4), some (.int p5), some (.null), some (.null), none] [.int (-1)] rfl rfl ?_
  have qm1 : (((-1) : Int32)).toInt = (-1) := rfl
  exact z_xri zt112 10 rfl zzr112 (kk (-1) M0 X)
def zw115 : List Nat := [201, 202, 203, 205, 206, 207, 208, 209, 210, 1304]
theorem zB115 {T : List zK} {d : Nat} {K : Option Value → zH → Prop} {a0 : Nat} {ci : Nat} {a1 : Nat} {q1 : Nat} {t1 : Nat} {m1 : Nat} {p2 : Int32} {p3 : Int32} {M0 : zH} (w0 : 4 ≤ ci ∧ ci ≤ 11) (k0 : T[a0]? = some (.inl (ci, 0, 0, 0, 0))) (k1 : T[a1]? = some (.inl (3, q1, t1, m1, 5))) (u2 : 1 ≤ p2.toInt ∧ p2.toInt ≤ 5) (u3 : 0 ≤ p3.toInt ∧ p3.toInt ≤ 9) (kk : ∀ (x : Int32) (M1 : zH), z_X T zw115 M0 M1 → K (some (.int x)) M1) : ∀ n : Nat, (∀ (M : zH) (b4 : Int32) (b5 : Int32) (b6 : Int32), z_X T zw115 M0 M → 0 ≤ b5.toInt ∧ b5.toInt ≤ 4368 → 0 ≤ b6.toInt ∧ b6.toInt ≤ 8191 → ((0) * 2 + 0) * 8192 + (8191 - b6.toInt) < (n : Int) → z_ev (d + 4) 115 13 [some (.ref a0), some (.ref a1), some (.int p2), some (.int p3), some (.int b4), some (.int b5), some (.int b6)] [] M K) := by
  intro n
  induction n with
  | zero => exact by intros; exfalso; omega
  | succ n ih =>
    intro M b4 b5 b6 X hh0 hh1 hE
    have g1 := X.1.p3 k1
    refine z_xP zt115 3 17 [some (.ref a0), some (.ref a1), some (.int p2), some (.int p3), some (.int b4), some (.int b5), some (.int b6)] [.int b5, .int b6] rfl rfl ?_
    refine z_xJ zt115 4 rfl rfl (fun (h1 : b5.toInt ≤ b6.toInt) => ?_) (fun (h1 : b6.toInt < b5.toInt) => ?_)
    · skip
      refine z_xP zt115 16 46 [some (.ref a0), some (.ref a1), some (.int p2), some (.int p3), some (.int b4), some (.int b5), some (.int b6)] [.int b4] rfl rfl ?_
      exact z_xri zt115 17 rfl zzr115 (kk b4 M X)
    refine z_xP zt115 5 24 [some (.ref a0), some (.ref a1), some (.int p2), some (.int p3), some (.int b4), some (.int b5), some (.int b6)] [.ref a1, .ref a0, .int b4] rfl rfl ?_
    refine zVdecide zt115 6 rfl zo115 zzcV4_54 X k0 w0 (Nat.le_of_ble_eq_true rfl) k1 (fun x4 M2 X3  => ?_)
    have X5 := X.go X3 (z_sb (by decide))
    show z_ev (d + 4) 115 27 [some (.ref a0), some (.ref a1), some (.int p2), some (.int p3), some (.int b4), some (.int b5), some (.int b6)] [.int x4, .int b4] M2 _
    refine z_xP zt115 7 28 [some (.ref a0), some (.ref a1), some (.int p2), some (.int p3), some (.int b4), some (.int b5), some (.int b6)] [.int p3, .int x4, .int b4] rfl rfl ?_
    have h7 := z_b32 x4
    refine z_xI zt115 8 rfl rfl (P := fun _ => True) (fun (x8 : Int32) _ => ?_) trivial
    refine z_xP zt115 9 30 [some (.ref a0), some (.ref a1), some (.int p2), some (.int p3), some (.int b4), some (.int b5), some (.int b6)] [.int 1, .int x8, .int b4] rfl rfl ?_
    refine z_xI zt115 10 rfl rfl (fun (x10 : Int32) (h11 : 0 ≤ x10.toInt ∧ x10.toInt ≤ 1) => ?_) (z_pAnd rfl (by omega))
    have h12 := z_b32 b4
    refine z_xI zt115 11 rfl rfl (P := fun _ => True) (fun (x13 : Int32) _ => ?_) trivial
    refine z_xP zt115 12 35 [some (.ref a0), some (.ref a1), some (.int p2), some (.int p3), some (.int x13), some (.int b5), some (.int b6)] [.ref a1] rfl rfl ?_
    refine z_xcV (vs := [.ref a1]) (r := []) (L2 := [some (.ref a1), none, none, none, none]) zt115 13 rfl zo115 zzcV4_68 (Or.inl rfl) rfl X5 k1 rfl rfl rfl (Nat.le_of_ble_eq_true rfl) zzm110 (Nat.le_of_ble_eq_true rfl) rfl ?_
    refine zC110 X5.1 k1 (fun M15 X16  => ?_)
    have X17 := X5.go X16 (z_sb (by decide))
    show z_ev (d + 4) 115 38 [some (.ref a0), some (.ref a1), some (.int p2), some (.int p3), some (.int x13), some (.int b5), some (.int b6)] [] M15 _
    refine z_xN zt115 14 rfl rfl (fun (x19 : Int32) (h20 : x19.toInt = b6.toInt + 1) => ?_) (z_pAdd rfl rfl (by omega) (by omega))
    show z_ev (d + 4) 115 41 [some (.ref a0), some (.ref a1), some (.int p2), some (.int p3), some (.int x13), some (.int b5), some (.int x19)] [] M15 _
    refine z_xP zt115 15 13 [some (.ref a0), some (.ref a1), some (.int p2), some (.int p3), some (.int x13), some (.int b5), some (.int x19)] [] rfl rfl ?_
    exact ih M15 x13 b5 x19 X17 ⟨by omega, by omega⟩ ⟨by omega, by omega⟩ (by omega)
theorem zC115 {T : List zK} {d : Nat} {K : Option Value → zH → Prop} {a0 : Nat} {ci : Nat} {a1 : Nat} {q1 : Nat} {t1 : Nat} {m1 : Nat} {p2 : Int32} {p3 : Int32} {M0 : zH} (hW : z_W M0 T) (w0 : 4 ≤ ci ∧ ci ≤ 11) (k0 : T[a0]? = some (.inl (ci, 0, 0, 0, 0))) (k1 : T[a1]? = some (.inl (3, q1, t1, m1, 5))) (u2 : 1 ≤ p2.toInt ∧ p2.toInt ≤ 5) (u3 : 0 ≤ p3.toInt ∧ p3.toInt ≤ 9) (kk : ∀ (x : Int32) (M1 : zH), z_X T zw115 M0 M1 → K (some (.int x)) M1) : z_ev (d + 4) 115 0 [some (.ref a0), some (.ref a1), some (.int p2), some (.int p3), none, none, none] [] M0 K := by
  have X : z_X T zw115 M0 M0 := .refl hW
  have g1 := X.1.p3 k1
  refine z_xP zt115 0 5 [some (.ref a0), some (.ref a1), some (.int p2), some (.int p3), some (.int 0), none, none] [.int p2, .ref a1] rfl rfl ?_
  refine z_xcV (vs := [.ref a1, .int p2]) (r := []) (L2 := [some (.ref a1), some (.int p2), none]) zt115 1 rfl zo115 zzcV4_45 (Or.inl rfl) rfl X k1 rfl rfl rfl (Nat.le_of_ble_eq_true rfl) zzm108 (Nat.le_of_ble_eq_true rfl) rfl ?_
  obtain ⟨x1, h2, h3, h4⟩ := z_W.fi X.1 k1 (k := 4) (lo := 0) (hi := (5 : Int)) (by decide) rfl
  refine zC108 X.1 k1 (by omega) h2 ⟨by omega, by omega⟩ (fun x11 M5 X6 h12 h13 z7 h8 h9 h10 => ?_)
  have X14 := X.go X6 (z_sb (by decide))
  show z_ev (d + 4) 115 8 [some (.ref a0), some (.ref a1), some (.int p2), some (.int p3), some (.int 0), none, none] [.int x11] M5 _
  refine z_xP zt115 2 13 [some (.ref a0), some (.ref a1), some (.int p2), some (.int p3), some (.int 0), some (.int x11), some (.int 0)] [] rfl rfl ?_
  have q0 : ((0 : Int32)).toInt = 0 := rfl
  exact (zB115 w0 k0 k1 u2 u3 kk 16384) M5 (0) x11 (0) X14 ⟨by omega, by omega⟩ (by decide) (by omega)
def zw114 : List Nat := [201, 202, 203, 205, 206, 207, 208, 209, 210, 1304]
theorem zC114 {T : List zK} {d : Nat} {K : Option Value → zH → Prop} {p1 : Int32} {p2 : Int32} {p3 : Int32} {p4 : Int32} {M0 : zH} (hW : z_W M0 T)  (hG : z_GG T M0) (kk : ∀ (x : Int32) (M1 : zH), z_X T zw114 M0 M1 → K (some (.int x)) M1) : z_ev (d + 5) 114 0 [some (.ref 4), some (.int p1), some (.int p2), some (.int p3), some (.int p4), none, none, none] [] M0 K := by
  have X : z_X T zw114 M0 M0 := .refl hW
  refine z_xP zt114 0 2 [some (.ref 4), some (.int p1), some (.int p2), some (.int p3), some (.int p4), none, none, none] [.int p1, .ref 4] rfl rfl ?_
  have f4 : T[4]? = some (.inl (0, 0, 0, 0, 0)) := X.1.k rfl (by decide)
  refine z_xcV (vs := [.ref 4, .int p1]) (r := []) (L2 := [some (.ref 4), some (.int p1)]) zt114 1 rfl zo114 zzcV0_221 (Or.inl rfl) rfl X f4 rfl rfl rfl (Nat.le_of_ble_eq_true rfl) zzm84 (Nat.le_of_ble_eq_true rfl) rfl ?_
  refine z_xP zt84 0 1 [some (.ref 4), some (.int p1)] [.int p1] rfl rfl ?_
  refine z_xZ zt84 1 rfl rfl (fun (h1 : p1.toInt < 0) => ?_) (fun (h1 : 0 ≤ p1.toInt) => ?_)
  · skip
    refine z_xP zt84 5 22 [some (.ref 4), some (.int p1)] [.null] rfl rfl ?_
    refine z_xrn zt84 10 rfl zzr84 ?_
    show z_ev (d + 5) 114 5 [some (.ref 4), some (.int p1), some (.int p2), some (.int p3), some (.int p4), none, none, none] [.null] M0 _
    refine z_xP zt114 2 9 [some (.ref 4), some (.int p1), some (.int p2), some (.int p3), some (.int p4), some (.null), none, none] [.int p2, .ref 4] rfl rfl ?_
    refine z_xcV (vs := [.ref 4, .int p2]) (r := []) (L2 := [some (.ref 4), some (.int p2)]) zt114 3 rfl zo114 zzcV0_108 (Or.inl rfl) rfl X f4 rfl rfl rfl (Nat.le_of_ble_eq_true rfl) zzm37 (Nat.le_of_ble_eq_true rfl) rfl ?_
    refine z_xP zt37 0 1 [some (.ref 4), some (.int p2)] [.int p2] rfl rfl ?_
    refine z_xZ zt37 1 rfl rfl (fun (h2 : p2.toInt < 0) => ?_) (fun (h2 : 0 ≤ p2.toInt) => ?_)
    · skip
      refine z_xP zt37 5 25 [some (.ref 4), some (.int p2)] [.null] rfl rfl ?_
      refine z_xrn zt37 11 rfl zzr37 ?_
      show z_ev (d + 5) 114 12 [some (.ref 4), some (.int p1), some (.int p2), some (.int p3), some (.int p4), some (.null), none, none] [.null] M0 _
      refine z_xP zt114 4 34 [some (.ref 4), some (.int p1), some (.int p2), some (.int p3), some (.int p4), some (.null), some (.null), none] [] rfl rfl ?_
      refine z_xP zt114 9 35 [some (.ref 4), some (.int p1), some (.int p2), some (.int p3), some (.int p4), some (.null), some (.null), none] [.int (-1)] rfl rfl ?_
      have qm1 : (((-1) : Int32)).toInt = (-1) := rfl
      exact z_xri zt114 10 rfl zzr114 (kk (-1) M0 X)
    refine z_xP zt37 2 6 [some (.ref 4), some (.int p2)] [.ref 4, .int p2] rfl rfl ?_
    refine z_xgI zt37 3 rfl zo37 zzf0_59 X f4 (by decide) (by decide) rfl (fun (x4 : Int32) h3 (h5 : 0 ≤ x4.toInt) (h6 : x4.toInt ≤ 8) => ?_)
    have h7 := z_b32 p2
    refine z_xJ zt37 4 rfl rfl (fun (h8 : p2.toInt < x4.toInt) => ?_) (fun (h8 : x4.toInt ≤ p2.toInt) => ?_)
    · skip
      refine z_xP zt37 6 17 [some (.ref 4), some (.int p2)] [.ref 4] rfl rfl ?_
      refine z_xgX (b := 10) zt37 7 rfl zo37 zzf0_18 X f4 (by decide) (by decide) rfl ?_
      refine z_xP zt37 8 21 [some (.ref 4), some (.int p2)] [.int p2, .ref 10] rfl rfl ?_
      have f10 : T[10]? = some (.inr (10, 2, 8, 9, 0)) := X.1.k rfl (by decide)
      refine z_xal zt37 9 rfl X f10 (by decide) (by decide) (by decide) (by omega) (by omega) (fun (a9 : Nat) h10 h11 => ?_) (fun h12 => absurd h12 (z_Gs (hG.go X (by decide)).2.1 h3 (by omega) (by omega)))
      obtain ⟨q13, t14, m15, k16⟩ : ∃ q t m, T[a9]? = some (.inl (3, q, t, m, 9)) := h11
      have g17 := X.1.p3 k16
      refine z_xgR (κ := .inl (2, q13, t14, m15, 0)) zt37 10 rfl zo37 zzf0_89 X k16 (by decide) (by decide) rfl (fun (a19 : Nat) h18 k20 => ?_)
      have g21 := X.1.p2 k20
      refine z_xra zt37 11 rfl zzr37 ?_
      show z_ev (d + 5) 114 12 [some (.ref 4), some (.int p1), some (.int p2), some (.int p3), some (.int p4), some (.null), none, none] [.ref a19] M0 _
      refine z_xP zt114 4 34 [some (.ref 4), some (.int p1), some (.int p2), some (.int p3), some (.int p4), some (.null), some (.ref a19), none] [] rfl rfl ?_
      refine z_xP zt114 9 35 [some (.ref 4), some (.int p1), some (.int p2), some (.int p3), some (.int p4), some (.null), some (.ref a19), none] [.int (-1)] rfl rfl ?_
      have qm1 : (((-1) : Int32)).toInt = (-1) := rfl
      exact z_xri zt114 10 rfl zzr114 (kk (-1) M0 X)
    refine z_xP zt37 5 25 [some (.ref 4), some (.int p2)] [.null] rfl rfl ?_
    refine z_xrn zt37 11 rfl zzr37 ?_
    show z_ev (d + 5) 114 12 [some (.ref 4), some (.int p1), some (.int p2), some (.int p3), some (.int p4), some (.null), none, none] [.null] M0 _
    refine z_xP zt114 4 34 [some (.ref 4), some (.int p1), some (.int p2), some (.int p3), some (.int p4), some (.null), some (.null), none] [] rfl rfl ?_
    refine z_xP zt114 9 35 [some (.ref 4), some (.int p1), some (.int p2), some (.int p3), some (.int p4), some (.null), some (.null), none] [.int (-1)] rfl rfl ?_
    have qm1 : (((-1) : Int32)).toInt = (-1) := rfl
    exact z_xri zt114 10 rfl zzr114 (kk (-1) M0 X)
  refine z_xP zt84 2 6 [some (.ref 4), some (.int p1)] [.ref 4, .int p1] rfl rfl ?_
  refine z_xgI zt84 3 rfl zo84 zzf0_188 X f4 (by decide) (by decide) rfl (fun (x23 : Int32) h22 (h24 : 0 ≤ x23.toInt) (h25 : x23.toInt ≤ 20) => ?_)
  have h26 := z_b32 p1
  refine z_xJ zt84 4 rfl rfl (fun (h27 : p1.toInt < x23.toInt) => ?_) (fun (h27 : x23.toInt ≤ p1.toInt) => ?_)
  · skip
    refine z_xP zt84 6 17 [some (.ref 4), some (.int p1)] [.ref 4] rfl rfl ?_
    refine z_xgX (b := 12) zt84 7 rfl zo84 zzf0_27 X f4 (by decide) (by decide) rfl ?_
    refine z_xP zt84 8 21 [some (.ref 4), some (.int p1)] [.int p1, .ref 12] rfl rfl ?_
    have f12 : T[12]? = some (.inr (12, 3, 20, 0, 0)) := X.1.k rfl (by decide)
    refine z_xal zt84 9 rfl X f12 (by decide) (by decide) (by decide) (by omega) (by omega) (fun (a28 : Nat) h29 h30 => ?_) (fun h31 => absurd h31 (z_Gb (hG.go X (by decide)).2.1 h22 (by omega) (by omega)))
    obtain ⟨c32, w33l, w33u, k34⟩ : ∃ ci, 4 ≤ ci ∧ ci ≤ 11 ∧ T[a28]? = some (.inl (ci, 0, 0, 0, 0)) := h30
    have w33 := And.intro w33l w33u
    refine z_xra zt84 10 rfl zzr84 ?_
    show z_ev (d + 5) 114 5 [some (.ref 4), some (.int p1), some (.int p2), some (.int p3), some (.int p4), none, none, none] [.ref a28] M0 _
    refine z_xP zt114 2 9 [some (.ref 4), some (.int p1), some (.int p2), some (.int p3), some (.int p4), some (.ref a28), none, none] [.int p2, .ref 4] rfl rfl ?_
    refine z_xcV (vs := [.ref 4, .int p2]) (r := []) (L2 := [some (.ref 4), some (.int p2)]) zt114 3 rfl zo114 zzcV0_108 (Or.inl rfl) rfl X f4 rfl rfl rfl (Nat.le_of_ble_eq_true rfl) zzm37 (Nat.le_of_ble_eq_true rfl) rfl ?_
    refine z_xP zt37 0 1 [some (.ref 4), some (.int p2)] [.int p2] rfl rfl ?_
    refine z_xZ zt37 1 rfl rfl (fun (h35 : p2.toInt < 0) => ?_) (fun (h35 : 0 ≤ p2.toInt) => ?_)
    · skip
      refine z_xP zt37 5 25 [some (.ref 4), some (.int p2)] [.null] rfl rfl ?_
      refine z_xrn zt37 11 rfl zzr37 ?_
      show z_ev (d + 5) 114 12 [some (.ref 4), some (.int p1), some (.int p2), some (.int p3), some (.int p4), some (.ref a28), none, none] [.null] M0 _
      refine z_xP zt114 4 19 [some (.ref 4), some (.int p1), some (.int p2), some (.int p3), some (.int p4), some (.ref a28), some (.null), none] [] rfl rfl ?_
      refine z_xP zt114 5 34 [some (.ref 4), some (.int p1), some (.int p2), some (.int p3), some (.int p4), some (.ref a28), some (.null), none] [] rfl rfl ?_
      refine z_xP zt114 9 35 [some (.ref 4), some (.int p1), some (.int p2), some (.int p3), some (.int p4), some (.ref a28), some (.null), none] [.int (-1)] rfl rfl ?_
      have qm1 : (((-1) : Int32)).toInt = (-1) := rfl
      exact z_xri zt114 10 rfl zzr114 (kk (-1) M0 X)
    refine z_xP zt37 2 6 [some (.ref 4), some (.int p2)] [.ref 4, .int p2] rfl rfl ?_
    refine z_xgI zt37 3 rfl zo37 zzf0_59 X f4 (by decide) (by decide) rfl (fun (x37 : Int32) h36 (h38 : 0 ≤ x37.toInt) (h39 : x37.toInt ≤ 8) => ?_)
    have h40 := z_b32 p2
    refine z_xJ zt37 4 rfl rfl (fun (h41 : p2.toInt < x37.toInt) => ?_) (fun (h41 : x37.toInt ≤ p2.toInt) => ?_)
    · skip
      refine z_xP zt37 6 17 [some (.ref 4), some (.int p2)] [.ref 4] rfl rfl ?_
      refine z_xgX (b := 10) zt37 7 rfl zo37 zzf0_18 X f4 (by decide) (by decide) rfl ?_
      refine z_xP zt37 8 21 [some (.ref 4), some (.int p2)] [.int p2, .ref 10] rfl rfl ?_
      have f10 : T[10]? = some (.inr (10, 2, 8, 9, 0)) := X.1.k rfl (by decide)
      refine z_xal zt37 9 rfl X f10 (by decide) (by decide) (by decide) (by omega) (by omega) (fun (a42 : Nat) h43 h44 => ?_) (fun h45 => absurd h45 (z_Gs (hG.go X (by decide)).2.1 h36 (by omega) (by omega)))
      obtain ⟨q46, t47, m48, k49⟩ : ∃ q t m, T[a42]? = some (.inl (3, q, t, m, 9)) := h44
      have g50 := X.1.p3 k49
      refine z_xgR (κ := .inl (2, q46, t47, m48, 0)) zt37 10 rfl zo37 zzf0_89 X k49 (by decide) (by decide) rfl (fun (a52 : Nat) h51 k53 => ?_)
      have g54 := X.1.p2 k53
      refine z_xra zt37 11 rfl zzr37 ?_
      show z_ev (d + 5) 114 12 [some (.ref 4), some (.int p1), some (.int p2), some (.int p3), some (.int p4), some (.ref a28), none, none] [.ref a52] M0 _
      refine z_xP zt114 4 19 [some (.ref 4), some (.int p1), some (.int p2), some (.int p3), some (.int p4), some (.ref a28), some (.ref a52), none] [] rfl rfl ?_
      refine z_xP zt114 5 24 [some (.ref 4), some (.int p1), some (.int p2), some (.int p3), some (.int p4), some (.ref a28), some (.ref a52), none] [] rfl rfl ?_
      refine z_xP zt114 6 28 [some (.ref 4), some (.int p1), some (.int p2), some (.int p3), some (.int p4), some (.ref a28), some (.ref a52), none] [.int p4, .ref a52] rfl rfl ?_
      refine z_xcV (vs := [.ref a52, .int p4]) (r := []) (L2 := [some (.ref a52), some (.int p4)]) zt114 7 rfl zo114 zzcV0_129 (Or.inl rfl) rfl X k53 rfl rfl rfl (Nat.le_of_ble_eq_true rfl) zzm48 (Nat.le_of_ble_eq_true rfl) rfl ?_
      refine z_xP zt48 0 1 [some (.ref a52), some (.int p4)] [.int p4] rfl rfl ?_
      refine z_xZ zt48 1 rfl rfl (fun (h55 : p4.toInt < 0) => ?_) (fun (h55 : 0 ≤ p4.toInt) => ?_)
      · skip
        refine z_xP zt48 6 17 [some (.ref a52), some (.int p4)] [.int 0] rfl rfl ?_
        refine z_xrz zt48 7 rfl zzr48 (by decide) (by decide) ?_
        show z_ev (d + 5) 114 31 [some (.ref 4), some (.int p1), some (.int p2), some (.int p3), some (.int p4), some (.ref a28), some (.ref a52), none] [.int 0] M0 _
        refine z_xZ zt114 8 rfl rfl (fun (h56 : (0 : Int) ≠ 0) => absurd h56 (by omega)) (fun (h56 : (0 : Int) = 0) => ?_)
        refine z_xP zt114 9 35 [some (.ref 4), some (.int p1), some (.int p2), some (.int p3), some (.int p4), some (.ref a28), some (.ref a52), none] [.int (-1)] rfl rfl ?_
        have qm1 : (((-1) : Int32)).toInt = (-1) := rfl
        exact z_xri zt114 10 rfl zzr114 (kk (-1) M0 X)
      refine z_xP zt48 2 6 [some (.ref a52), some (.int p4)] [.ref a52, .int p4] rfl rfl ?_
      refine z_xgI zt48 3 rfl zo48 zzf2_15 X k53 (by decide) (by decide) rfl (fun (x58 : Int32) h57 (h59 : (q46 : Int) ≤ x58.toInt) (h60 : x58.toInt ≤ (q46 : Int)) => ?_)
      have h61 := z_b32 p4
      refine z_xJ zt48 4 rfl rfl (fun (h62 : x58.toInt ≤ p4.toInt) => ?_) (fun (h62 : p4.toInt < x58.toInt) => ?_)
      · skip
        refine z_xP zt48 6 17 [some (.ref a52), some (.int p4)] [.int 0] rfl rfl ?_
        refine z_xrz zt48 7 rfl zzr48 (by decide) (by decide) ?_
        show z_ev (d + 5) 114 31 [some (.ref 4), some (.int p1), some (.int p2), some (.int p3), some (.int p4), some (.ref a28), some (.ref a52), none] [.int 0] M0 _
        refine z_xZ zt114 8 rfl rfl (fun (h63 : (0 : Int) ≠ 0) => absurd h63 (by omega)) (fun (h63 : (0 : Int) = 0) => ?_)
        refine z_xP zt114 9 35 [some (.ref 4), some (.int p1), some (.int p2), some (.int p3), some (.int p4), some (.ref a28), some (.ref a52), none] [.int (-1)] rfl rfl ?_
        have qm1 : (((-1) : Int32)).toInt = (-1) := rfl
        exact z_xri zt114 10 rfl zzr114 (kk (-1) M0 X)
      refine z_xP zt48 5 17 [some (.ref a52), some (.int p4)] [.int 1] rfl rfl ?_
      refine z_xrz zt48 7 rfl zzr48 (by decide) (by decide) ?_
      show z_ev (d + 5) 114 31 [some (.ref 4), some (.int p1), some (.int p2), some (.int p3), some (.int p4), some (.ref a28), some (.ref a52), none] [.int 1] M0 _
      refine z_xZ zt114 8 rfl rfl (fun (h64 : (1 : Int) ≠ 0) => ?_) (fun (h64 : (1 : Int) = 0) => absurd h64 (by omega))
      refine z_xP zt114 11 39 [some (.ref 4), some (.int p1), some (.int p2), some (.int p3), some (.int p4), some (.ref a28), some (.ref a52), none] [.int p3, .int p2, .ref 4] rfl rfl ?_
      refine z_xcV (vs := [.ref 4, .int p2, .int p3]) (r := []) (L2 := [some (.ref 4), some (.int p2), some (.int p3), none]) zt114 12 rfl zo114 zzcV0_241 (Or.inl rfl) rfl X f4 rfl rfl rfl (Nat.le_of_ble_eq_true rfl) zzm103 (Nat.le_of_ble_eq_true rfl) rfl ?_
      refine z_xP zt103 0 2 [some (.ref 4), some (.int p2), some (.int p3), none] [.int p2, .ref 4] rfl rfl ?_
      refine z_xcV (vs := [.ref 4, .int p2]) (r := []) (L2 := [some (.ref 4), some (.int p2)]) zt103 1 rfl zo103 zzcV0_108 (Or.inl rfl) rfl X f4 rfl rfl rfl (Nat.le_of_ble_eq_true rfl) zzm37 (Nat.le_of_ble_eq_true rfl) rfl ?_
      refine z_xP zt37 0 1 [some (.ref 4), some (.int p2)] [.int p2] rfl rfl ?_
      refine z_xZ zt37 1 rfl rfl (fun (h65 : p2.toInt < 0) => absurd h65 (by omega)) (fun (h65 : 0 ≤ p2.toInt) => ?_)
      refine z_xP zt37 2 6 [some (.ref 4), some (.int p2)] [.ref 4, .int p2] rfl rfl ?_
      refine z_xgv zt37 3 rfl zo37 zzf0_59 X f4 (by decide) h36 ?_
      refine z_xJ zt37 4 rfl rfl (fun (h66 : p2.toInt < x37.toInt) => ?_) (fun (h66 : x37.toInt ≤ p2.toInt) => ?_)
      · skip
        refine z_xP zt37 6 17 [some (.ref 4), some (.int p2)] [.ref 4] rfl rfl ?_
        refine z_xgX (b := 10) zt37 7 rfl zo37 zzf0_18 X f4 (by decide) (by decide) rfl ?_
        refine z_xP zt37 8 21 [some (.ref 4), some (.int p2)] [.int p2, .ref 10] rfl rfl ?_
        refine z_xalv zt37 9 rfl X f10 (by decide) (by decide) (by decide) (by omega) (by omega) h43 ?_
        refine z_xgv zt37 10 rfl zo37 zzf0_89 X k49 (by decide) h51 ?_
        refine z_xra zt37 11 rfl zzr37 ?_
        show z_ev (d + 4) 103 5 [some (.ref 4), some (.int p2), some (.int p3), none] [.ref a52] M0 _
        refine z_xP zt103 2 10 [some (.ref 4), some (.int p2), some (.int p3), some (.ref a52)] [] rfl rfl ?_
        refine z_xP zt103 3 12 [some (.ref 4), some (.int p2), some (.int p3), some (.ref a52)] [.int 1, .int p3] rfl rfl ?_
        refine z_xJ zt103 4 rfl rfl (fun (h67 : p3.toInt < 1) => ?_) (fun (h67 : 1 ≤ p3.toInt) => ?_)
        · skip
          refine z_xP zt103 7 21 [some (.ref 4), some (.int p2), some (.int p3), some (.ref a52)] [.int (-1)] rfl rfl ?_
          refine z_xri zt103 8 rfl zzr103 ?_
          show z_ev (d + 5) 114 42 [some (.ref 4), some (.int p1), some (.int p2), some (.int p3), some (.int p4), some (.ref a28), some (.ref a52), none] [.int (-1)] M0 _
          refine z_xP zt114 13 46 [some (.ref 4), some (.int p1), some (.int p2), some (.int p3), some (.int p4), some (.ref a28), some (.ref a52), some (.int (-1))] [.int (-1)] rfl rfl ?_
          refine z_xZ zt114 14 rfl rfl (fun (h68 : ((-1) : Int) = 0) => absurd h68 (by omega)) (fun (h68 : ((-1) : Int) ≠ 0) => ?_)
          refine z_xP zt114 15 51 [some (.ref 4), some (.int p1), some (.int p2), some (.int p3), some (.int p4), some (.ref a28), some (.ref a52), some (.int (-1))] [.int (-1)] rfl rfl ?_
          have qm1 : (((-1) : Int32)).toInt = (-1) := rfl
          exact z_xri zt114 16 rfl zzr114 (kk (-1) M0 X)
        refine z_xP zt103 5 17 [some (.ref 4), some (.int p2), some (.int p3), some (.ref a52)] [.int 5, .int p3] rfl rfl ?_
        refine z_xJ zt103 6 rfl rfl (fun (h69 : p3.toInt ≤ 5) => ?_) (fun (h69 : 5 < p3.toInt) => ?_)
        · skip
          refine z_xP zt103 9 23 [some (.ref 4), some (.int p2), some (.int p3), some (.ref a52)] [.ref a52] rfl rfl ?_
          refine z_xgR (κ := .inr (102, 0, m48, 0, 1023)) zt103 10 rfl zo103 zzf0_74 X k53 (by decide) (by decide) rfl (fun (a71 : Nat) h70 k72 => ?_)
          refine z_xln zt103 11 rfl X k72 (by decide) (by omega) (fun (x73 : Int32) (h74 : x73.toInt = ((m48 : Nat) : Int)) => ?_)
          refine z_xP zt103 12 29 [some (.ref 4), some (.int p2), some (.int p3), some (.ref a52)] [.int 12, .int x73] rfl rfl ?_
          refine z_xJ zt103 13 rfl rfl (fun (h75 : x73.toInt ≤ 12) => ?_) (fun (h75 : 12 < x73.toInt) => ?_)
          · skip
            refine z_xP zt103 15 38 [some (.ref 4), some (.int p2), some (.int p3), some (.ref a52)] [.int 0] rfl rfl ?_
            refine z_xri zt103 16 rfl zzr103 ?_
            show z_ev (d + 5) 114 42 [some (.ref 4), some (.int p1), some (.int p2), some (.int p3), some (.int p4), some (.ref a28), some (.ref a52), none] [.int 0] M0 _
            refine z_xP zt114 13 46 [some (.ref 4), some (.int p1), some (.int p2), some (.int p3), some (.int p4), some (.ref a28), some (.ref a52), some (.int 0)] [.int 0] rfl rfl ?_
            refine z_xZ zt114 14 rfl rfl (fun (h76 : (0 : Int) = 0) => ?_) (fun (h76 : (0 : Int) ≠ 0) => absurd h76 (by omega))
            refine z_xP zt114 17 55 [some (.ref 4), some (.int p1), some (.int p2), some (.int p3), some (.int p4), some (.ref a28), some (.ref a52), some (.int 0)] [.ref 4, .ref a28] rfl rfl ?_
            refine z_xgX (b := 11) zt114 18 rfl zo114 zzf0_22 X f4 (by decide) (by decide) rfl ?_
            refine z_xP zt114 19 59 [some (.ref 4), some (.int p1), some (.int p2), some (.int p3), some (.int p4), some (.ref a28), some (.ref a52), some (.int 0)] [.int p2, .ref 11, .ref a28] rfl rfl ?_
            have f11 : T[11]? = some (.inr (11, 2, 8, 5, 0)) := X.1.k rfl (by decide)
            refine z_xal zt114 20 rfl X f11 (by decide) (by decide) (by decide) (by omega) (by omega) (fun (a77 : Nat) h78 h79 => ?_) (fun h80 => absurd h80 (z_Gt (hG.go X (by decide)).2.1 h36 (by omega) (by omega)))
            obtain ⟨q81, t82, m83, k84⟩ : ∃ q t m, T[a77]? = some (.inl (3, q, t, m, 5)) := h79
            have g85 := X.1.p3 k84
            have h86 := z_Gm (hG.go X (by decide)).2.2 X.1 (z_cll (n := 8) (by omega) (by decide)) h43 h78 k49 k84
            refine z_xP zt114 21 63 [some (.ref 4), some (.int p1), some (.int p2), some (.int p3), some (.int p4), some (.ref a28), some (.ref a52), some (.int 0)] [.int p4, .int p3, .ref a77, .ref a28] rfl rfl ?_
            refine z_xcV (vs := [.ref a28, .ref a77, .int p3, .int p4]) (r := []) (L2 := [some (.ref a28), some (.ref a77), some (.int p3), some (.int p4), none, none, none]) zt114 22 rfl zo114 zzcV0_256 (Or.inr rfl) rfl X k34 (z_w8 (fun c => (([(4, 115), (10, 115), (7, 115), (5, 115), (11, 115), (8, 115), (6, 115), (9, 115)] : List (Nat × Nat)).find? fun t => t.1 == c) = some (c, 115)) rfl rfl rfl rfl rfl rfl rfl rfl w33) rfl rfl (Nat.le_of_ble_eq_true rfl) zzm115 (Nat.le_of_ble_eq_true rfl) rfl ?_
            refine zC115 X.1 w33 k34 k84 (by omega) (by omega) (fun x89 M87 X88  => ?_)
            have X90 := X.go X88 (z_sb (by decide))
            show z_ev (d + 5) 114 66 [some (.ref 4), some (.int p1), some (.int p2), some (.int p3), some (.int p4), some (.ref a28), some (.ref a52), some (.int 0)] [.int x89] M87 _
            exact z_xri zt114 23 rfl zzr114 (kk x89 M87 X90)
          refine z_xP zt103 14 38 [some (.ref 4), some (.int p2), some (.int p3), some (.ref a52)] [.int (-4)] rfl rfl ?_
          refine z_xri zt103 16 rfl zzr103 ?_
          show z_ev (d + 5) 114 42 [some (.ref 4), some (.int p1), some (.int p2), some (.int p3), some (.int p4), some (.ref a28), some (.ref a52), none] [.int (-4)] M0 _
          refine z_xP zt114 13 46 [some (.ref 4), some (.int p1), some (.int p2), some (.int p3), some (.int p4), some (.ref a28), some (.ref a52), some (.int (-4))] [.int (-4)] rfl rfl ?_
          refine z_xZ zt114 14 rfl rfl (fun (h92 : ((-4) : Int) = 0) => absurd h92 (by omega)) (fun (h92 : ((-4) : Int) ≠ 0) => ?_)
          refine z_xP zt114 15 51 [some (.ref 4), some (.int p1), some (.int p2), some (.int p3), some (.int p4), some (.ref a28), some (.ref a52), some (.int (-4))] [.int (-4)] rfl rfl ?_
          have qm4 : (((-4) : Int32)).toInt = (-4) := rfl
          exact z_xri zt114 16 rfl zzr114 (kk (-4) M0 X)
        refine z_xP zt103 7 21 [some (.ref 4), some (.int p2), some (.int p3), some (.ref a52)] [.int (-1)] rfl rfl ?_
        refine z_xri zt103 8 rfl zzr103 ?_
        show z_ev (d + 5) 114 42 [some (.ref 4), some (.int p1), some (.int p2), some (.int p3), some (.int p4), some (.ref a28), some (.ref a52), none] [.int (-1)] M0 _
        refine z_xP zt114 13 46 [some (.ref 4), some (.int p1), some (.int p2), some (.int p3), some (.int p4), some (.ref a28), some (.ref a52), some (.int (-1))] [.int (-1)] rfl rfl ?_
        refine z_xZ zt114 14 rfl rfl (fun (h93 : ((-1) : Int) = 0) => absurd h93 (by omega)) (fun (h93 : ((-1) : Int) ≠ 0) => ?_)
        refine z_xP zt114 15 51 [some (.ref 4), some (.int p1), some (.int p2), some (.int p3), some (.int p4), some (.ref a28), some (.ref a52), some (.int (-1))] [.int (-1)] rfl rfl ?_
        have qm1 : (((-1) : Int32)).toInt = (-1) := rfl
        exact z_xri zt114 16 rfl zzr114 (kk (-1) M0 X)
      refine z_xP zt37 5 25 [some (.ref 4), some (.int p2)] [.null] rfl rfl ?_
      refine z_xrn zt37 11 rfl zzr37 ?_
      show z_ev (d + 4) 103 5 [some (.ref 4), some (.int p2), some (.int p3), none] [.null] M0 _
      refine z_xP zt103 2 20 [some (.ref 4), some (.int p2), some (.int p3), some (.null)] [] rfl rfl ?_
      refine z_xP zt103 7 21 [some (.ref 4), some (.int p2), some (.int p3), some (.null)] [.int (-1)] rfl rfl ?_
      refine z_xri zt103 8 rfl zzr103 ?_
      show z_ev (d + 5) 114 42 [some (.ref 4), some (.int p1), some (.int p2), some (.int p3), some (.int p4), some (.ref a28), some (.ref a52), none] [.int (-1)] M0 _
      refine z_xP zt114 13 46 [some (.ref 4), some (.int p1), some (.int p2), some (.int p3), some (.int p4), some (.ref a28), some (.ref a52), some (.int (-1))] [.int (-1)] rfl rfl ?_
      refine z_xZ zt114 14 rfl rfl (fun (h94 : ((-1) : Int) = 0) => absurd h94 (by omega)) (fun (h94 : ((-1) : Int) ≠ 0) => ?_)
      refine z_xP zt114 15 51 [some (.ref 4), some (.int p1), some (.int p2), some (.int p3), some (.int p4), some (.ref a28), some (.ref a52), some (.int (-1))] [.int (-1)] rfl rfl ?_
      have qm1 : (((-1) : Int32)).toInt = (-1) := rfl
      exact z_xri zt114 16 rfl zzr114 (kk (-1) M0 X)
    refine z_xP zt37 5 25 [some (.ref 4), some (.int p2)] [.null] rfl rfl ?_
    refine z_xrn zt37 11 rfl zzr37 ?_
    show z_ev (d + 5) 114 12 [some (.ref 4), some (.int p1), some (.int p2), some (.int p3), some (.int p4), some (.ref a28), none, none] [.null] M0 _
    refine z_xP zt114 4 19 [some (.ref 4), some (.int p1), some (.int p2), some (.int p3), some (.int p4), some (.ref a28), some (.null), none] [] rfl rfl ?_
    refine z_xP zt114 5 34 [some (.ref 4), some (.int p1), some (.int p2), some (.int p3), some (.int p4), some (.ref a28), some (.null), none] [] rfl rfl ?_
    refine z_xP zt114 9 35 [some (.ref 4), some (.int p1), some (.int p2), some (.int p3), some (.int p4), some (.ref a28), some (.null), none] [.int (-1)] rfl rfl ?_
    have qm1 : (((-1) : Int32)).toInt = (-1) := rfl
    exact z_xri zt114 10 rfl zzr114 (kk (-1) M0 X)
  refine z_xP zt84 5 22 [some (.ref 4), some (.int p1)] [.null] rfl rfl ?_
  refine z_xrn zt84 10 rfl zzr84 ?_
  show z_ev (d + 5) 114 5 [some (.ref 4), some (.int p1), some (.int p2), some (.int p3), some (.int p4), none, none, none] [.null] M0 _
  refine z_xP zt114 2 9 [some (.ref 4), some (.int p1), some (.int p2), some (.int p3), some (.int p4), some (.null), none, none] [.int p2, .ref 4] rfl rfl ?_
  refine z_xcV (vs := [.ref 4, .int p2]) (r := []) (L2 := [some (.ref 4), some (.int p2)]) zt114 3 rfl zo114 zzcV0_108 (Or.inl rfl) rfl X f4 rfl rfl rfl (Nat.le_of_ble_eq_true rfl) zzm37 (Nat.le_of_ble_eq_true rfl) rfl ?_
  refine z_xP zt37 0 1 [some (.ref 4), some (.int p2)] [.int p2] rfl rfl ?_
  refine z_xZ zt37 1 rfl rfl (fun (h95 : p2.toInt < 0) => ?_) (fun (h95 : 0 ≤ p2.toInt) => ?_)
  · skip
    refine z_xP zt37 5 25 [some (.ref 4), some (.int p2)] [.null] rfl rfl ?_
    refine z_xrn zt37 11 rfl zzr37 ?_
    show z_ev (d + 5) 114 12 [some (.ref 4), some (.int p1), some (.int p2), some (.int p3), some (.int p4), some (.null), none, none] [.null] M0 _
    refine z_xP zt114 4 34 [some (.ref 4), some (.int p1), some (.int p2), some (.int p3), some (.int p4), some (.null), some (.null), none] [] rfl rfl ?_
    refine z_xP zt114 9 35 [some (.ref 4), some (.int p1), some (.int p2), some (.int p3), some (.int p4), some (.null), some (.null), none] [.int (-1)] rfl rfl ?_
    have qm1 : (((-1) : Int32)).toInt = (-1) := rfl
    exact z_xri zt114 10 rfl zzr114 (kk (-1) M0 X)
  refine z_xP zt37 2 6 [some (.ref 4), some (.int p2)] [.ref 4, .int p2] rfl rfl ?_
  refine z_xgI zt37 3 rfl zo37 zzf0_59 X f4 (by decide) (by decide) rfl (fun (x97 : Int32) h96 (h98 : 0 ≤ x97.toInt) (h99 : x97.toInt ≤ 8) => ?_)
  have h100 := z_b32 p2
  refine z_xJ zt37 4 rfl rfl (fun (h101 : p2.toInt < x97.toInt) => ?_) (fun (h101 : x97.toInt ≤ p2.toInt) => ?_)
  · skip
    refine z_xP zt37 6 17 [some (.ref 4), some (.int p2)] [.ref 4] rfl rfl ?_
    refine z_xgX (b := 10) zt37 7 rfl zo37 zzf0_18 X f4 (by decide) (by decide) rfl ?_
    refine z_xP zt37 8 21 [some (.ref 4), some (.int p2)] [.int p2, .ref 10] rfl rfl ?_
    have f10 : T[10]? = some (.inr (10, 2, 8, 9, 0)) := X.1.k rfl (by decide)
    refine z_xal zt37 9 rfl X f10 (by decide) (by decide) (by decide) (by omega) (by omega) (fun (a102 : Nat) h103 h104 => ?_) (fun h105 => absurd h105 (z_Gs (hG.go X (by decide)).2.1 h96 (by omega) (by omega)))
    obtain ⟨q106, t107, m108, k109⟩ : ∃ q t m, T[a102]? = some (.inl (3, q, t, m, 9)) := h104
    have g110 := X.1.p3 k109
    refine z_xgR (κ := .inl (2, q106, t107, m108, 0)) zt37 10 rfl zo37 zzf0_89 X k109 (by decide) (by decide) rfl (fun (a112 : Nat) h111 k113 => ?_)
    have g114 := X.1.p2 k113
    refine z_xra zt37 11 rfl zzr37 ?_
    show z_ev (d + 5) 114 12 [some (.ref 4), some (.int p1), some (.int p2), some (.int p3), some (.int p4), some (.null), none, none] [.ref a112] M0 _
    refine z_xP zt114 4 34 [some (.ref 4), some (.int p1), some (.int p2), some (.int p3), some (.int p4), some (.null), some (.ref a112), none] [] rfl rfl ?_
    refine z_xP zt114 9 35 [some (.ref 4), some (.int p1), some (.int p2), some (.int p3), some (.int p4), some (.null), some (.ref a112), none] [.int (-1)] rfl rfl ?_
    have qm1 : (((-1) : Int32)).toInt = (-1) := rfl
    exact z_xri zt114 10 rfl zzr114 (kk (-1) M0 X)
  refine z_xP zt37 5 25 [some (.ref 4), some (.int p2)] [.null] rfl rfl ?_
  refine z_xrn zt37 11 rfl zzr37 ?_
  show z_ev (d + 5) 114 12 [some (.ref 4), some (.int p1), some (.int p2), some (.int p3), some (.int p4), some (.null), none, none] [.null] M0 _
  refine z_xP zt114 4 34 [some (.ref 4), some (.int p1), some (.int p2), some (.int p3), some (.int p4), some (.null), some (.null), none] [] rfl rfl ?_
  refine z_xP zt114 9 35 [some (.ref 4), some (.int p1), some (.int p2), some (.int p3), some (.int p4), some (.null), some (.null), none] [.int (-1)] rfl rfl ?_
  have qm1 : (((-1) : Int32)).toInt = (-1) := rfl
  exact z_xri zt114 10 rfl zzr114 (kk (-1) M0 X)
def zw118 : List Nat := [202, 203, 205, 206, 207, 208, 209]
theorem zB118 {T : List zK} {d : Nat} {K : Option Value → zH → Prop} {a0 : Nat} {ci : Nat} {a1 : Nat} {q1 : Nat} {t1 : Nat} {m1 : Nat} {J1 : Nat} {p2 : Int32} {M0 : zH} (w0 : 4 ≤ ci ∧ ci ≤ 11) (k0 : T[a0]? = some (.inl (ci, 0, 0, 0, 0))) (k1 : T[a1]? = some (.inl (3, q1, t1, m1, J1))) (u2 : 0 ≤ p2.toInt ∧ p2.toInt ≤ 8) (kk : ∀ (x : Int32) (M1 : zH), z_X T zw118 M0 M1 → (-2) ≤ x.toInt → x.toInt ≤ 1023 → K (some (.int x)) M1) : ∀ n : Nat, (∀ (M : zH) (r3 : Nat) (b4 : Int32) (b5 : Int32) (b6 : Int32) (b7 : Int32) (b8 : Int32) (o9 : Option Value) (o10 : Option Value), z_X T zw118 M0 M → T[r3]? = some (.inl (2, q1, t1, m1, 0)) → 0 ≤ b6.toInt ∧ b6.toInt ≤ 63 → (-2) ≤ b7.toInt ∧ b7.toInt ≤ 1023 → 0 ≤ b8.toInt ∧ b8.toInt ≤ 1024 → ((0) * 2 + 0) * 1025 + (1024 - b8.toInt) < (n : Int) → z_ev (d + 4) 118 41 [some (.ref a0), some (.ref a1), some (.int p2), some (.ref r3), some (.int b4), some (.int b5), some (.int b6), some (.int b7), some (.int b8), o9, o10] [] M K) := by
  intro n
  induction n with
  | zero => exact by intros; exfalso; omega
  | succ n ih =>
    intro M r3 b4 b5 b6 b7 b8 o9 o10 X hk3 hh1 hh2 hh3 hE
    have g1 := X.1.p3 k1
    have hg3 := X.1.p2 hk3
    refine z_xP zt118 14 44 [some (.ref a0), some (.ref a1), some (.int p2), some (.ref r3), some (.int b4), some (.int b5), some (.int b6), some (.int b7), some (.int b8), o9, o10] [.ref r3, .int b8] rfl rfl ?_
    refine z_xgR (κ := .inr (102, 0, m1, 0, 1023)) zt118 15 rfl zo118 zzf4_82 X hk3 (by decide) (by decide) rfl (fun (a2 : Nat) h1 k3 => ?_)
    refine z_xln zt118 16 rfl X k3 (by decide) (by omega) (fun (x4 : Int32) (h5 : x4.toInt = ((m1 : Nat) : Int)) => ?_)
    refine z_xJ zt118 17 rfl rfl (fun (h6 : x4.toInt ≤ b8.toInt) => ?_) (fun (h6 : b8.toInt < x4.toInt) => ?_)
    · skip
      refine z_xP zt118 41 124 [some (.ref a0), some (.ref a1), some (.int p2), some (.ref r3), some (.int b4), some (.int b5), some (.int b6), some (.int b7), some (.int b8), o9, o10] [.ref r3, .int b4, .int p2, .ref a1] rfl rfl ?_
      refine z_xgI zt118 42 rfl zo118 zzf4_88 X hk3 (by decide) (by decide) rfl (fun (x8 : Int32) h7 (h9 : ((z_po q1 : Nat) : Int) - 1 ≤ x8.toInt) (h10 : x8.toInt ≤ ((z_po q1 : Nat) : Int) - 1) => ?_)
      refine z_xP zt118 43 130 [some (.ref a0), some (.ref a1), some (.int p2), some (.ref r3), some (.int b4), some (.int b5), some (.int b6), some (.int b7), some (.int b8), o9, o10] [.int (-1), .int b4, .int x8, .int b4, .int p2, .ref a1] rfl rfl ?_
      refine z_xI zt118 44 rfl rfl (P := fun _ => True) (fun (x11 : Int32) _ => ?_) trivial
      refine z_xI zt118 45 rfl rfl (fun (x13 : Int32) (h14 : 0 ≤ x13.toInt ∧ x13.toInt ≤ x8.toInt) => ?_) (z_pAndL rfl (by omega))
      refine z_xcV (vs := [.ref a1, .int p2, .int b4, .int x13]) (r := []) (L2 := [some (.ref a1), some (.int p2), some (.int b4), some (.int x13), none, none, none, none]) zt118 46 rfl zo118 zzcV4_91 (Or.inl rfl) rfl X k1 rfl rfl rfl (Nat.le_of_ble_eq_true rfl) zzm54 (Nat.le_of_ble_eq_true rfl) rfl ?_
      refine zC54 X.1 k1 (by omega) (fun M15 X16  => ?_)
      have X17 := X.go X16 (z_sb (by decide))
      show z_ev (d + 4) 118 135 [some (.ref a0), some (.ref a1), some (.int p2), some (.ref r3), some (.int b4), some (.int b5), some (.int b6), some (.int b7), some (.int b8), o9, o10] [] M15 _
      refine z_xP zt118 47 137 [some (.ref a0), some (.ref a1), some (.int p2), some (.ref r3), some (.int b4), some (.int b5), some (.int b6), some (.int b7), some (.int b8), o9, o10] [.int b7] rfl rfl ?_
      exact z_xri zt118 48 rfl zzr118 (kk b7 M15 X17 (by omega) (by omega))
    refine z_xP zt118 18 54 [some (.ref a0), some (.ref a1), some (.int p2), some (.ref r3), some (.int b4), some (.int b5), some (.int b6), some (.int b7), some (.int b8), o9, o10] [.ref r3, .int b6] rfl rfl ?_
    refine z_xgI zt118 19 rfl zo118 zzf4_85 X hk3 (by decide) (by decide) rfl (fun (x20 : Int32) h19 (h21 : (q1 : Int) ≤ x20.toInt) (h22 : x20.toInt ≤ (q1 : Int)) => ?_)
    refine z_xJ zt118 20 rfl rfl (fun (h23 : x20.toInt ≤ b6.toInt) => ?_) (fun (h23 : b6.toInt < x20.toInt) => ?_)
    · skip
      refine z_xP zt118 41 124 [some (.ref a0), some (.ref a1), some (.int p2), some (.ref r3), some (.int b4), some (.int b5), some (.int b6), some (.int b7), some (.int b8), o9, o10] [.ref r3, .int b4, .int p2, .ref a1] rfl rfl ?_
      refine z_xgI zt118 42 rfl zo118 zzf4_88 X hk3 (by decide) (by decide) rfl (fun (x25 : Int32) h24 (h26 : ((z_po q1 : Nat) : Int) - 1 ≤ x25.toInt) (h27 : x25.toInt ≤ ((z_po q1 : Nat) : Int) - 1) => ?_)
      refine z_xP zt118 43 130 [some (.ref a0), some (.ref a1), some (.int p2), some (.ref r3), some (.int b4), some (.int b5), some (.int b6), some (.int b7), some (.int b8), o9, o10] [.int (-1), .int b4, .int x25, .int b4, .int p2, .ref a1] rfl rfl ?_
      refine z_xI zt118 44 rfl rfl (P := fun _ => True) (fun (x28 : Int32) _ => ?_) trivial
      refine z_xI zt118 45 rfl rfl (fun (x30 : Int32) (h31 : 0 ≤ x30.toInt ∧ x30.toInt ≤ x25.toInt) => ?_) (z_pAndL rfl (by omega))
      refine z_xcV (vs := [.ref a1, .int p2, .int b4, .int x30]) (r := []) (L2 := [some (.ref a1), some (.int p2), some (.int b4), some (.int x30), none, none, none, none]) zt118 46 rfl zo118 zzcV4_91 (Or.inl rfl) rfl X k1 rfl rfl rfl (Nat.le_of_ble_eq_true rfl) zzm54 (Nat.le_of_ble_eq_true rfl) rfl ?_
      refine zC54 X.1 k1 (by omega) (fun M32 X33  => ?_)
      have X34 := X.go X33 (z_sb (by decide))
      show z_ev (d + 4) 118 135 [some (.ref a0), some (.ref a1), some (.int p2), some (.ref r3), some (.int b4), some (.int b5), some (.int b6), some (.int b7), some (.int b8), o9, o10] [] M32 _
      refine z_xP zt118 47 137 [some (.ref a0), some (.ref a1), some (.int p2), some (.ref r3), some (.int b4), some (.int b5), some (.int b6), some (.int b7), some (.int b8), o9, o10] [.int b7] rfl rfl ?_
      exact z_xri zt118 48 rfl zzr118 (kk b7 M32 X34 (by omega) (by omega))
    refine z_xP zt118 21 61 [some (.ref a0), some (.ref a1), some (.int p2), some (.ref r3), some (.int b4), some (.int b5), some (.int b6), some (.int b7), some (.int b8), o9, o10] [.ref r3] rfl rfl ?_
    refine z_xgv zt118 22 rfl zo118 zzf4_82 X hk3 (by decide) h1 ?_
    refine z_xP zt118 23 66 [some (.ref a0), some (.ref a1), some (.int p2), some (.ref r3), some (.int b4), some (.int b5), some (.int b6), some (.int b7), some (.int b8), o9, o10] [.int b8, .ref a2] rfl rfl ?_
    refine z_xil zt118 24 rfl X k3 (by decide) (by omega) (by omega) (fun (x36 : Int32) h37 (h38 : 0 ≤ x36.toInt) (h39 : x36.toInt ≤ 1023) => ?_)
    refine z_xP zt118 25 74 [some (.ref a0), some (.ref a1), some (.int p2), some (.ref r3), some (.int b4), some (.int b5), some (.int b6), some (.int b7), some (.int b8), some (.int x36), o10] [.ref r3, .int x36, .int p2, .ref a1] rfl rfl ?_
    refine z_xgI zt118 26 rfl zo118 zzf4_88 X hk3 (by decide) (by decide) rfl (fun (x41 : Int32) h40 (h42 : ((z_po q1 : Nat) : Int) - 1 ≤ x41.toInt) (h43 : x41.toInt ≤ ((z_po q1 : Nat) : Int) - 1) => ?_)
    refine z_xP zt118 27 80 [some (.ref a0), some (.ref a1), some (.int p2), some (.ref r3), some (.int b4), some (.int b5), some (.int b6), some (.int b7), some (.int b8), some (.int x36), o10] [.int (-1), .int x36, .int x41, .int x36, .int p2, .ref a1] rfl rfl ?_
    refine z_xI zt118 28 rfl rfl (P := fun _ => True) (fun (x44 : Int32) _ => ?_) trivial
    refine z_xI zt118 29 rfl rfl (fun (x46 : Int32) (h47 : 0 ≤ x46.toInt ∧ x46.toInt ≤ x41.toInt) => ?_) (z_pAndL rfl (by omega))
    refine z_xcV (vs := [.ref a1, .int p2, .int x36, .int x46]) (r := []) (L2 := [some (.ref a1), some (.int p2), some (.int x36), some (.int x46), none, none, none, none]) zt118 30 rfl zo118 zzcV4_91 (Or.inl rfl) rfl X k1 rfl rfl rfl (Nat.le_of_ble_eq_true rfl) zzm54 (Nat.le_of_ble_eq_true rfl) rfl ?_
    refine zC54 X.1 k1 (by omega) (fun M48 X49  => ?_)
    have X50 := X.go X49 (z_sb (by decide))
    show z_ev (d + 4) 118 85 [some (.ref a0), some (.ref a1), some (.int p2), some (.ref r3), some (.int b4), some (.int b5), some (.int b6), some (.int b7), some (.int b8), some (.int x36), o10] [] M48 _
    refine z_xP zt118 31 87 [some (.ref a0), some (.ref a1), some (.int p2), some (.ref r3), some (.int b4), some (.int b5), some (.int b6), some (.int b7), some (.int b8), some (.int x36), o10] [.ref a1, .ref a0] rfl rfl ?_
    refine zVdecide zt118 32 rfl zo118 zzcV4_54 X50 k0 w0 (Nat.le_of_ble_eq_true rfl) k1 (fun x54 M52 X53  => ?_)
    have X55 := X50.go X53 (z_sb (by decide))
    show z_ev (d + 4) 118 90 [some (.ref a0), some (.ref a1), some (.int p2), some (.ref r3), some (.int b4), some (.int b5), some (.int b6), some (.int b7), some (.int b8), some (.int x36), o10] [.int x54] M52 _
    refine z_xP zt118 33 92 [some (.ref a0), some (.ref a1), some (.int p2), some (.ref r3), some (.int b4), some (.int b5), some (.int b6), some (.int b7), some (.int b8), some (.int x36), o10] [.int b5, .int x54] rfl rfl ?_
    refine z_xI zt118 34 rfl rfl (P := fun _ => True) (fun (x57 : Int32) _ => ?_) trivial
    refine z_xcS (vs := [.int x57]) (r := []) (L2 := [some (.int x57)]) zt118 35 rfl zo118 zzcS4_77 (Or.inl rfl) (Nat.le_of_ble_eq_true rfl) rfl rfl (Nat.le_of_ble_eq_true rfl) zzm31 (Nat.le_of_ble_eq_true rfl) rfl ?_
    refine zC31 X55.1 (fun x61 M59 X60 h62 h63 => ?_)
    have X64 := X55.go X60 (z_sb (by decide))
    show z_ev (d + 4) 118 96 [some (.ref a0), some (.ref a1), some (.int p2), some (.ref r3), some (.int b4), some (.int b5), some (.int b6), some (.int b7), some (.int b8), some (.int x36), o10] [.int x61] M59 _
    refine z_xP zt118 36 102 [some (.ref a0), some (.ref a1), some (.int p2), some (.ref r3), some (.int b4), some (.int b5), some (.int b6), some (.int b7), some (.int b8), some (.int x36), some (.int x61)] [.int b6, .int x61] rfl rfl ?_
    refine z_xJ zt118 37 rfl rfl (fun (h66 : x61.toInt ≤ b6.toInt) => ?_) (fun (h66 : b6.toInt < x61.toInt) => ?_)
    · skip
      refine z_xN zt118 39 rfl rfl (fun (x67 : Int32) (h68 : x67.toInt = b8.toInt + 1) => ?_) (z_pAdd rfl rfl (by omega) (by omega))
      show z_ev (d + 4) 118 116 [some (.ref a0), some (.ref a1), some (.int p2), some (.ref r3), some (.int b4), some (.int b5), some (.int b6), some (.int b7), some (.int x67), some (.int x36), some (.int x61)] [] M59 _
      refine z_xP zt118 40 41 [some (.ref a0), some (.ref a1), some (.int p2), some (.ref r3), some (.int b4), some (.int b5), some (.int b6), some (.int b7), some (.int x67), some (.int x36), some (.int x61)] [] rfl rfl ?_
      exact ih M59 r3 b4 b5 b6 b7 x67 (some (.int x36)) (some (.int x61)) X64 hk3 ⟨by omega, by omega⟩ ⟨by omega, by omega⟩ ⟨by omega, by omega⟩ (by omega)
    refine z_xP zt118 38 113 [some (.ref a0), some (.ref a1), some (.int p2), some (.ref r3), some (.int b4), some (.int b5), some (.int x61), some (.int x36), some (.int b8), some (.int x36), some (.int x61)] [] rfl rfl ?_
    refine z_xN zt118 39 rfl rfl (fun (x69 : Int32) (h70 : x69.toInt = b8.toInt + 1) => ?_) (z_pAdd rfl rfl (by omega) (by omega))
    show z_ev (d + 4) 118 116 [some (.ref a0), some (.ref a1), some (.int p2), some (.ref r3), some (.int b4), some (.int b5), some (.int x61), some (.int x36), some (.int x69), some (.int x36), some (.int x61)] [] M59 _
    refine z_xP zt118 40 41 [some (.ref a0), some (.ref a1), some (.int p2), some (.ref r3), some (.int b4), some (.int b5), some (.int x61), some (.int x36), some (.int x69), some (.int x36), some (.int x61)] [] rfl rfl ?_
    exact ih M59 r3 b4 b5 x61 x36 x69 (some (.int x36)) (some (.int x61)) X64 hk3 ⟨by omega, by omega⟩ ⟨by omega, by omega⟩ ⟨by omega, by omega⟩ (by omega)
theorem zC118 {T : List zK} {d : Nat} {K : Option Value → zH → Prop} {a0 : Nat} {ci : Nat} {a1 : Nat} {q1 : Nat} {t1 : Nat} {m1 : Nat} {J1 : Nat} {p2 : Int32} {M0 : zH} (hW : z_W M0 T) (w0 : 4 ≤ ci ∧ ci ≤ 11) (k0 : T[a0]? = some (.inl (ci, 0, 0, 0, 0))) (k1 : T[a1]? = some (.inl (3, q1, t1, m1, J1))) (u2 : 0 ≤ p2.toInt ∧ p2.toInt ≤ 8) (kk : ∀ (x : Int32) (M1 : zH), z_X T zw118 M0 M1 → (-2) ≤ x.toInt → x.toInt ≤ 1023 → K (some (.int x)) M1) : z_ev (d + 4) 118 0 [some (.ref a0), some (.ref a1), some (.int p2), none, none, none, none, none, none, none, none] [] M0 K := by
  have X : z_X T zw118 M0 M0 := .refl hW
  have g1 := X.1.p3 k1
  refine z_xP zt118 0 1 [some (.ref a0), some (.ref a1), some (.int p2), none, none, none, none, none, none, none, none] [.ref a1] rfl rfl ?_
  refine z_xgR (κ := .inl (2, q1, t1, m1, 0)) zt118 1 rfl zo118 zzf4_50 X k1 (by decide) (by decide) rfl (fun (a2 : Nat) h1 k3 => ?_)
  have g4 := X.1.p2 k3
  refine z_xP zt118 2 6 [some (.ref a0), some (.ref a1), some (.int p2), some (.ref a2), none, none, none, none, none, none, none] [.ref a1] rfl rfl ?_
  refine z_xgR (κ := .inr (202, 0, 9, (-2147483648), 2147483647)) zt118 3 rfl zo118 zzf4_71 X k1 (by decide) (by decide) rfl (fun (a6 : Nat) h5 k7 => ?_)
  refine z_xP zt118 4 10 [some (.ref a0), some (.ref a1), some (.int p2), some (.ref a2), none, none, none, none, none, none, none] [.int p2, .ref a6] rfl rfl ?_
  refine z_xil zt118 5 rfl X k7 (by decide) (by omega) (by omega) (fun (x8 : Int32) h9 (h10 : (-2147483648) ≤ x8.toInt) (h11 : x8.toInt ≤ 2147483647) => ?_)
  refine z_xP zt118 6 16 [some (.ref a0), some (.ref a1), some (.int p2), some (.ref a2), some (.int x8), none, none, none, none, none, none] [.int x8, .ref a2] rfl rfl ?_
  refine z_xcV (vs := [.ref a2, .int x8]) (r := []) (L2 := [some (.ref a2), some (.int x8)]) zt118 7 rfl zo118 zzcV4_74 (Or.inl rfl) rfl X k3 rfl rfl rfl (Nat.le_of_ble_eq_true rfl) zzm39 (Nat.le_of_ble_eq_true rfl) rfl ?_
  refine z_xP zt39 0 2 [some (.ref a2), some (.int x8)] [.ref a2, .int x8] rfl rfl ?_
  refine z_xgI zt39 1 rfl zo39 zzf2_32 X k3 (by decide) (by decide) rfl (fun (x13 : Int32) h12 (h14 : ((z_po q1 : Nat) : Int) - 1 ≤ x13.toInt) (h15 : x13.toInt ≤ ((z_po q1 : Nat) : Int) - 1) => ?_)
  refine z_xP zt39 2 7 [some (.ref a2), some (.int x8)] [.int (-1), .int x8, .int x13, .int x8] rfl rfl ?_
  refine z_xI zt39 3 rfl rfl (P := fun _ => True) (fun (x16 : Int32) _ => ?_) trivial
  refine z_xI zt39 4 rfl rfl (fun (x18 : Int32) (h19 : 0 ≤ x18.toInt ∧ x18.toInt ≤ x13.toInt) => ?_) (z_pAndL rfl (by omega))
  refine z_xP zt39 5 11 [some (.ref a2), some (.int x8)] [.int 10, .int x18, .int x8] rfl rfl ?_
  refine z_xI zt39 6 rfl rfl (fun (x20 : Int32) (h21 : x20.toInt = x18.toInt * 1024) => ?_) (z_pShl 10 rfl rfl (by decide) (by decide) (by omega) rfl (by omega))
  refine z_xI zt39 7 rfl rfl (P := fun _ => True) (fun (x22 : Int32) _ => ?_) trivial
  refine z_xri zt39 8 rfl zzr39 ?_
  show z_ev (d + 4) 118 19 [some (.ref a0), some (.ref a1), some (.int p2), some (.ref a2), some (.int x8), none, none, none, none, none, none] [.int x22] M0 _
  refine z_xP zt118 8 23 [some (.ref a0), some (.ref a1), some (.int p2), some (.ref a2), some (.int x8), some (.int x22), none, none, none, none, none] [.ref a1, .ref a0] rfl rfl ?_
  refine zVdecide zt118 9 rfl zo118 zzcV4_54 X k0 w0 (Nat.le_of_ble_eq_true rfl) k1 (fun x26 M24 X25  => ?_)
  have X27 := X.go X25 (z_sb (by decide))
  show z_ev (d + 4) 118 26 [some (.ref a0), some (.ref a1), some (.int p2), some (.ref a2), some (.int x8), some (.int x22), none, none, none, none, none] [.int x26] M24 _
  refine z_xP zt118 10 28 [some (.ref a0), some (.ref a1), some (.int p2), some (.ref a2), some (.int x8), some (.int x22), none, none, none, none, none] [.int x22, .int x26] rfl rfl ?_
  refine z_xI zt118 11 rfl rfl (P := fun _ => True) (fun (x29 : Int32) _ => ?_) trivial
  refine z_xcS (vs := [.int x29]) (r := []) (L2 := [some (.int x29)]) zt118 12 rfl zo118 zzcS4_77 (Or.inl rfl) (Nat.le_of_ble_eq_true rfl) rfl rfl (Nat.le_of_ble_eq_true rfl) zzm31 (Nat.le_of_ble_eq_true rfl) rfl ?_
  refine zC31 X27.1 (fun x33 M31 X32 h34 h35 => ?_)
  have X36 := X27.go X32 (z_sb (by decide))
  show z_ev (d + 4) 118 32 [some (.ref a0), some (.ref a1), some (.int p2), some (.ref a2), some (.int x8), some (.int x22), none, none, none, none, none] [.int x33] M31 _
  refine z_xP zt118 13 41 [some (.ref a0), some (.ref a1), some (.int p2), some (.ref a2), some (.int x8), some (.int x22), some (.int x33), some (.int (-2)), some (.int 0), none, none] [] rfl rfl ?_
  have qm2 : (((-2) : Int32)).toInt = (-2) := rfl
  have q0 : ((0 : Int32)).toInt = 0 := rfl
  exact (zB118 w0 k0 k1 u2 kk 2050) M31 a2 x8 x22 x33 ((-2)) (0) none none X36 k3 ⟨by omega, by omega⟩ (by decide) (by decide) (by omega)
def zw116 : List Nat := [202, 203, 205, 206, 207, 208, 209]
theorem zC116 {T : List zK} {d : Nat} {K : Option Value → zH → Prop} {p1 : Int32} {p2 : Int32} {p3 : Int32} {M0 : zH} (hW : z_W M0 T)  (hG : z_GG T M0) (kk : ∀ (x : Int32) (M1 : zH), z_X T zw116 M0 M1 → (-2) ≤ x.toInt → x.toInt ≤ 1023 → K (some (.int x)) M1) : z_ev (d + 5) 116 0 [some (.ref 4), some (.int p1), some (.int p2), some (.int p3), none, none] [] M0 K := by
  have X : z_X T zw116 M0 M0 := .refl hW
  refine z_xP zt116 0 2 [some (.ref 4), some (.int p1), some (.int p2), some (.int p3), none, none] [.int p1, .ref 4] rfl rfl ?_
  have f4 : T[4]? = some (.inl (0, 0, 0, 0, 0)) := X.1.k rfl (by decide)
  refine z_xcV (vs := [.ref 4, .int p1]) (r := []) (L2 := [some (.ref 4), some (.int p1)]) zt116 1 rfl zo116 zzcV0_221 (Or.inl rfl) rfl X f4 rfl rfl rfl (Nat.le_of_ble_eq_true rfl) zzm84 (Nat.le_of_ble_eq_true rfl) rfl ?_
  refine z_xP zt84 0 1 [some (.ref 4), some (.int p1)] [.int p1] rfl rfl ?_
  refine z_xZ zt84 1 rfl rfl (fun (h1 : p1.toInt < 0) => ?_) (fun (h1 : 0 ≤ p1.toInt) => ?_)
  · skip
    refine z_xP zt84 5 22 [some (.ref 4), some (.int p1)] [.null] rfl rfl ?_
    refine z_xrn zt84 10 rfl zzr84 ?_
    show z_ev (d + 5) 116 5 [some (.ref 4), some (.int p1), some (.int p2), some (.int p3), none, none] [.null] M0 _
    refine z_xP zt116 2 9 [some (.ref 4), some (.int p1), some (.int p2), some (.int p3), some (.null), none] [.int p2, .ref 4] rfl rfl ?_
    refine z_xcV (vs := [.ref 4, .int p2]) (r := []) (L2 := [some (.ref 4), some (.int p2)]) zt116 3 rfl zo116 zzcV0_85 (Or.inl rfl) rfl X f4 rfl rfl rfl (Nat.le_of_ble_eq_true rfl) zzm35 (Nat.le_of_ble_eq_true rfl) rfl ?_
    refine z_xP zt35 0 1 [some (.ref 4), some (.int p2)] [.int p2] rfl rfl ?_
    refine z_xZ zt35 1 rfl rfl (fun (h2 : p2.toInt < 0) => ?_) (fun (h2 : 0 ≤ p2.toInt) => ?_)
    · skip
      refine z_xP zt35 5 22 [some (.ref 4), some (.int p2)] [.null] rfl rfl ?_
      refine z_xrn zt35 10 rfl zzr35 ?_
      show z_ev (d + 5) 116 12 [some (.ref 4), some (.int p1), some (.int p2), some (.int p3), some (.null), none] [.null] M0 _
      refine z_xP zt116 4 42 [some (.ref 4), some (.int p1), some (.int p2), some (.int p3), some (.null), some (.null)] [] rfl rfl ?_
      refine z_xP zt116 12 43 [some (.ref 4), some (.int p1), some (.int p2), some (.int p3), some (.null), some (.null)] [.int (-1)] rfl rfl ?_
      have qm1 : (((-1) : Int32)).toInt = (-1) := rfl
      exact z_xri zt116 13 rfl zzr116 (kk (-1) M0 X (by omega) (by omega))
    refine z_xP zt35 2 6 [some (.ref 4), some (.int p2)] [.ref 4, .int p2] rfl rfl ?_
    refine z_xgI zt35 3 rfl zo35 zzf0_59 X f4 (by decide) (by decide) rfl (fun (x4 : Int32) h3 (h5 : 0 ≤ x4.toInt) (h6 : x4.toInt ≤ 8) => ?_)
    have h7 := z_b32 p2
    refine z_xJ zt35 4 rfl rfl (fun (h8 : p2.toInt < x4.toInt) => ?_) (fun (h8 : x4.toInt ≤ p2.toInt) => ?_)
    · skip
      refine z_xP zt35 6 17 [some (.ref 4), some (.int p2)] [.ref 4] rfl rfl ?_
      refine z_xgX (b := 10) zt35 7 rfl zo35 zzf0_18 X f4 (by decide) (by decide) rfl ?_
      refine z_xP zt35 8 21 [some (.ref 4), some (.int p2)] [.int p2, .ref 10] rfl rfl ?_
      have f10 : T[10]? = some (.inr (10, 2, 8, 9, 0)) := X.1.k rfl (by decide)
      refine z_xal zt35 9 rfl X f10 (by decide) (by decide) (by decide) (by omega) (by omega) (fun (a9 : Nat) h10 h11 => ?_) (fun h12 => absurd h12 (z_Gs (hG.go X (by decide)).2.1 h3 (by omega) (by omega)))
      obtain ⟨q13, t14, m15, k16⟩ : ∃ q t m, T[a9]? = some (.inl (3, q, t, m, 9)) := h11
      have g17 := X.1.p3 k16
      refine z_xra zt35 10 rfl zzr35 ?_
      show z_ev (d + 5) 116 12 [some (.ref 4), some (.int p1), some (.int p2), some (.int p3), some (.null), none] [.ref a9] M0 _
      refine z_xP zt116 4 42 [some (.ref 4), some (.int p1), some (.int p2), some (.int p3), some (.null), some (.ref a9)] [] rfl rfl ?_
      refine z_xP zt116 12 43 [some (.ref 4), some (.int p1), some (.int p2), some (.int p3), some (.null), some (.ref a9)] [.int (-1)] rfl rfl ?_
      have qm1 : (((-1) : Int32)).toInt = (-1) := rfl
      exact z_xri zt116 13 rfl zzr116 (kk (-1) M0 X (by omega) (by omega))
    refine z_xP zt35 5 22 [some (.ref 4), some (.int p2)] [.null] rfl rfl ?_
    refine z_xrn zt35 10 rfl zzr35 ?_
    show z_ev (d + 5) 116 12 [some (.ref 4), some (.int p1), some (.int p2), some (.int p3), some (.null), none] [.null] M0 _
    refine z_xP zt116 4 42 [some (.ref 4), some (.int p1), some (.int p2), some (.int p3), some (.null), some (.null)] [] rfl rfl ?_
    refine z_xP zt116 12 43 [some (.ref 4), some (.int p1), some (.int p2), some (.int p3), some (.null), some (.null)] [.int (-1)] rfl rfl ?_
    have qm1 : (((-1) : Int32)).toInt = (-1) := rfl
    exact z_xri zt116 13 rfl zzr116 (kk (-1) M0 X (by omega) (by omega))
  refine z_xP zt84 2 6 [some (.ref 4), some (.int p1)] [.ref 4, .int p1] rfl rfl ?_
  refine z_xgI zt84 3 rfl zo84 zzf0_188 X f4 (by decide) (by decide) rfl (fun (x19 : Int32) h18 (h20 : 0 ≤ x19.toInt) (h21 : x19.toInt ≤ 20) => ?_)
  have h22 := z_b32 p1
  refine z_xJ zt84 4 rfl rfl (fun (h23 : p1.toInt < x19.toInt) => ?_) (fun (h23 : x19.toInt ≤ p1.toInt) => ?_)
  · skip
    refine z_xP zt84 6 17 [some (.ref 4), some (.int p1)] [.ref 4] rfl rfl ?_
    refine z_xgX (b := 12) zt84 7 rfl zo84 zzf0_27 X f4 (by decide) (by decide) rfl ?_
    refine z_xP zt84 8 21 [some (.ref 4), some (.int p1)] [.int p1, .ref 12] rfl rfl ?_
    have f12 : T[12]? = some (.inr (12, 3, 20, 0, 0)) := X.1.k rfl (by decide)
    refine z_xal zt84 9 rfl X f12 (by decide) (by decide) (by decide) (by omega) (by omega) (fun (a24 : Nat) h25 h26 => ?_) (fun h27 => absurd h27 (z_Gb (hG.go X (by decide)).2.1 h18 (by omega) (by omega)))
    obtain ⟨c28, w29l, w29u, k30⟩ : ∃ ci, 4 ≤ ci ∧ ci ≤ 11 ∧ T[a24]? = some (.inl (ci, 0, 0, 0, 0)) := h26
    have w29 := And.intro w29l w29u
    refine z_xra zt84 10 rfl zzr84 ?_
    show z_ev (d + 5) 116 5 [some (.ref 4), some (.int p1), some (.int p2), some (.int p3), none, none] [.ref a24] M0 _
    refine z_xP zt116 2 9 [some (.ref 4), some (.int p1), some (.int p2), some (.int p3), some (.ref a24), none] [.int p2, .ref 4] rfl rfl ?_
    refine z_xcV (vs := [.ref 4, .int p2]) (r := []) (L2 := [some (.ref 4), some (.int p2)]) zt116 3 rfl zo116 zzcV0_85 (Or.inl rfl) rfl X f4 rfl rfl rfl (Nat.le_of_ble_eq_true rfl) zzm35 (Nat.le_of_ble_eq_true rfl) rfl ?_
    refine z_xP zt35 0 1 [some (.ref 4), some (.int p2)] [.int p2] rfl rfl ?_
    refine z_xZ zt35 1 rfl rfl (fun (h31 : p2.toInt < 0) => ?_) (fun (h31 : 0 ≤ p2.toInt) => ?_)
    · skip
      refine z_xP zt35 5 22 [some (.ref 4), some (.int p2)] [.null] rfl rfl ?_
      refine z_xrn zt35 10 rfl zzr35 ?_
      show z_ev (d + 5) 116 12 [some (.ref 4), some (.int p1), some (.int p2), some (.int p3), some (.ref a24), none] [.null] M0 _
      refine z_xP zt116 4 19 [some (.ref 4), some (.int p1), some (.int p2), some (.int p3), some (.ref a24), some (.null)] [] rfl rfl ?_
      refine z_xP zt116 5 42 [some (.ref 4), some (.int p1), some (.int p2), some (.int p3), some (.ref a24), some (.null)] [] rfl rfl ?_
      refine z_xP zt116 12 43 [some (.ref 4), some (.int p1), some (.int p2), some (.int p3), some (.ref a24), some (.null)] [.int (-1)] rfl rfl ?_
      have qm1 : (((-1) : Int32)).toInt = (-1) := rfl
      exact z_xri zt116 13 rfl zzr116 (kk (-1) M0 X (by omega) (by omega))
    refine z_xP zt35 2 6 [some (.ref 4), some (.int p2)] [.ref 4, .int p2] rfl rfl ?_
    refine z_xgI zt35 3 rfl zo35 zzf0_59 X f4 (by decide) (by decide) rfl (fun (x33 : Int32) h32 (h34 : 0 ≤ x33.toInt) (h35 : x33.toInt ≤ 8) => ?_)
    have h36 := z_b32 p2
    refine z_xJ zt35 4 rfl rfl (fun (h37 : p2.toInt < x33.toInt) => ?_) (fun (h37 : x33.toInt ≤ p2.toInt) => ?_)
    · skip
      refine z_xP zt35 6 17 [some (.ref 4), some (.int p2)] [.ref 4] rfl rfl ?_
      refine z_xgX (b := 10) zt35 7 rfl zo35 zzf0_18 X f4 (by decide) (by decide) rfl ?_
      refine z_xP zt35 8 21 [some (.ref 4), some (.int p2)] [.int p2, .ref 10] rfl rfl ?_
      have f10 : T[10]? = some (.inr (10, 2, 8, 9, 0)) := X.1.k rfl (by decide)
      refine z_xal zt35 9 rfl X f10 (by decide) (by decide) (by decide) (by omega) (by omega) (fun (a38 : Nat) h39 h40 => ?_) (fun h41 => absurd h41 (z_Gs (hG.go X (by decide)).2.1 h32 (by omega) (by omega)))
      obtain ⟨q42, t43, m44, k45⟩ : ∃ q t m, T[a38]? = some (.inl (3, q, t, m, 9)) := h40
      have g46 := X.1.p3 k45
      refine z_xra zt35 10 rfl zzr35 ?_
      show z_ev (d + 5) 116 12 [some (.ref 4), some (.int p1), some (.int p2), some (.int p3), some (.ref a24), none] [.ref a38] M0 _
      refine z_xP zt116 4 19 [some (.ref 4), some (.int p1), some (.int p2), some (.int p3), some (.ref a24), some (.ref a38)] [] rfl rfl ?_
      refine z_xP zt116 5 24 [some (.ref 4), some (.int p1), some (.int p2), some (.int p3), some (.ref a24), some (.ref a38)] [] rfl rfl ?_
      refine z_xP zt116 6 27 [some (.ref 4), some (.int p1), some (.int p2), some (.int p3), some (.ref a24), some (.ref a38)] [.int p3, .ref a38] rfl rfl ?_
      refine z_xcV (vs := [.ref a38, .int p3]) (r := []) (L2 := [some (.ref a38), some (.int p3)]) zt116 7 rfl zo116 zzcV0_142 (Or.inl rfl) rfl X k45 rfl rfl rfl (Nat.le_of_ble_eq_true rfl) zzm56 (Nat.le_of_ble_eq_true rfl) rfl ?_
      refine z_xP zt56 0 1 [some (.ref a38), some (.int p3)] [.int p3] rfl rfl ?_
      refine z_xZ zt56 1 rfl rfl (fun (h47 : p3.toInt < 0) => ?_) (fun (h47 : 0 ≤ p3.toInt) => ?_)
      · skip
        refine z_xP zt56 6 17 [some (.ref a38), some (.int p3)] [.int 0] rfl rfl ?_
        refine z_xrz zt56 7 rfl zzr56 (by decide) (by decide) ?_
        show z_ev (d + 5) 116 30 [some (.ref 4), some (.int p1), some (.int p2), some (.int p3), some (.ref a24), some (.ref a38)] [.int 0] M0 _
        refine z_xZ zt116 8 rfl rfl (fun (h48 : (0 : Int) = 0) => ?_) (fun (h48 : (0 : Int) ≠ 0) => absurd h48 (by omega))
        refine z_xP zt116 12 43 [some (.ref 4), some (.int p1), some (.int p2), some (.int p3), some (.ref a24), some (.ref a38)] [.int (-1)] rfl rfl ?_
        have qm1 : (((-1) : Int32)).toInt = (-1) := rfl
        exact z_xri zt116 13 rfl zzr116 (kk (-1) M0 X (by omega) (by omega))
      refine z_xP zt56 2 6 [some (.ref a38), some (.int p3)] [.ref a38, .int p3] rfl rfl ?_
      refine z_xgI zt56 3 rfl zo56 zzf3_53 X k45 (by decide) (by decide) rfl (fun (x50 : Int32) h49 (h51 : 0 ≤ x50.toInt) (h52 : x50.toInt ≤ (9 : Int)) => ?_)
      have h53 := z_b32 p3
      refine z_xJ zt56 4 rfl rfl (fun (h54 : x50.toInt ≤ p3.toInt) => ?_) (fun (h54 : p3.toInt < x50.toInt) => ?_)
      · skip
        refine z_xP zt56 6 17 [some (.ref a38), some (.int p3)] [.int 0] rfl rfl ?_
        refine z_xrz zt56 7 rfl zzr56 (by decide) (by decide) ?_
        show z_ev (d + 5) 116 30 [some (.ref 4), some (.int p1), some (.int p2), some (.int p3), some (.ref a24), some (.ref a38)] [.int 0] M0 _
        refine z_xZ zt116 8 rfl rfl (fun (h55 : (0 : Int) = 0) => ?_) (fun (h55 : (0 : Int) ≠ 0) => absurd h55 (by omega))
        refine z_xP zt116 12 43 [some (.ref 4), some (.int p1), some (.int p2), some (.int p3), some (.ref a24), some (.ref a38)] [.int (-1)] rfl rfl ?_
        have qm1 : (((-1) : Int32)).toInt = (-1) := rfl
        exact z_xri zt116 13 rfl zzr116 (kk (-1) M0 X (by omega) (by omega))
      refine z_xP zt56 5 17 [some (.ref a38), some (.int p3)] [.int 1] rfl rfl ?_
      refine z_xrz zt56 7 rfl zzr56 (by decide) (by decide) ?_
      show z_ev (d + 5) 116 30 [some (.ref 4), some (.int p1), some (.int p2), some (.int p3), some (.ref a24), some (.ref a38)] [.int 1] M0 _
      refine z_xZ zt116 8 rfl rfl (fun (h56 : (1 : Int) = 0) => absurd h56 (by omega)) (fun (h56 : (1 : Int) ≠ 0) => ?_)
      refine z_xP zt116 9 36 [some (.ref 4), some (.int p1), some (.int p2), some (.int p3), some (.ref a24), some (.ref a38)] [.int p3, .ref a38] rfl rfl ?_
      refine z_xcV (vs := [.ref a38, .int p3]) (r := []) (L2 := [some (.ref a38), some (.int p3)]) zt116 10 rfl zo116 zzcV0_260 (Or.inl rfl) rfl X k45 rfl rfl rfl (Nat.le_of_ble_eq_true rfl) zzm117 (Nat.le_of_ble_eq_true rfl) rfl ?_
      refine z_xP zt117 0 1 [some (.ref a38), some (.int p3)] [.ref a38] rfl rfl ?_
      refine z_xgR (κ := .inr (202, 0, 9, (-2147483648), 2147483647)) zt117 1 rfl zo117 zzf3_15 X k45 (by decide) (by decide) rfl (fun (a58 : Nat) h57 k59 => ?_)
      refine z_xP zt117 2 5 [some (.ref a38), some (.int p3)] [.int p3, .ref a58] rfl rfl ?_
      refine z_xil zt117 3 rfl X k59 (by decide) (by omega) (by omega) (fun (x60 : Int32) h61 (h62 : (-2147483648) ≤ x60.toInt) (h63 : x60.toInt ≤ 2147483647) => ?_)
      refine z_xP zt117 4 7 [some (.ref a38), some (.int p3)] [.ref a38, .int x60] rfl rfl ?_
      refine z_xgR (κ := .inr (203, 0, 9, (-2147483648), 2147483647)) zt117 5 rfl zo117 zzf3_18 X k45 (by decide) (by decide) rfl (fun (a65 : Nat) h64 k66 => ?_)
      refine z_xP zt117 6 11 [some (.ref a38), some (.int p3)] [.int p3, .ref a65, .int x60] rfl rfl ?_
      refine z_xil zt117 7 rfl X k66 (by decide) (by omega) (by omega) (fun (x67 : Int32) h68 (h69 : (-2147483648) ≤ x67.toInt) (h70 : x67.toInt ≤ 2147483647) => ?_)
      refine z_xI zt117 8 rfl rfl (P := fun _ => True) (fun (x71 : Int32) _ => ?_) trivial
      refine z_xP zt117 9 14 [some (.ref a38), some (.int p3)] [.ref a38, .int x71] rfl rfl ?_
      refine z_xgR (κ := .inl (2, q42, t43, m44, 0)) zt117 10 rfl zo117 zzf3_39 X k45 (by decide) (by decide) rfl (fun (a74 : Nat) h73 k75 => ?_)
      have g76 := X.1.p2 k75
      refine z_xgI zt117 11 rfl zo117 zzf3_56 X k75 (by decide) (by decide) rfl (fun (x78 : Int32) h77 (h79 : ((z_po q42 : Nat) : Int) - 1 ≤ x78.toInt) (h80 : x78.toInt ≤ ((z_po q42 : Nat) : Int) - 1) => ?_)
      have h81 := z_b32 x71
      refine z_xJ zt117 12 rfl rfl (fun (h82 : x71.toInt = x78.toInt) => ?_) (fun (h82 : x71.toInt ≠ x78.toInt) => ?_)
      · skip
        refine z_xP zt117 14 28 [some (.ref a38), some (.int p3)] [.int 0] rfl rfl ?_
        refine z_xrz zt117 15 rfl zzr117 (by decide) (by decide) ?_
        show z_ev (d + 5) 116 39 [some (.ref 4), some (.int p1), some (.int p2), some (.int p3), some (.ref a24), some (.ref a38)] [.int 0] M0 _
        refine z_xZ zt116 11 rfl rfl (fun (h83 : (0 : Int) = 0) => ?_) (fun (h83 : (0 : Int) ≠ 0) => absurd h83 (by omega))
        refine z_xP zt116 14 49 [some (.ref 4), some (.int p1), some (.int p2), some (.int p3), some (.ref a24), some (.ref a38)] [.int p3, .ref a38, .ref a24] rfl rfl ?_
        refine z_xcV (vs := [.ref a24, .ref a38, .int p3]) (r := []) (L2 := [some (.ref a24), some (.ref a38), some (.int p3), none, none, none, none, none, none, none, none]) zt116 15 rfl zo116 zzcV0_263 (Or.inr rfl) rfl X k30 (z_w8 (fun c => (([(4, 118), (10, 118), (7, 118), (5, 118), (11, 118), (8, 118), (6, 118), (9, 118)] : List (Nat × Nat)).find? fun t => t.1 == c) = some (c, 118)) rfl rfl rfl rfl rfl rfl rfl rfl w29) rfl rfl (Nat.le_of_ble_eq_true rfl) zzm118 (Nat.le_of_ble_eq_true rfl) rfl ?_
        refine zC118 X.1 w29 k30 k45 (by omega) (fun x86 M84 X85 h87 h88 => ?_)
        have X89 := X.go X85 (z_sb (by decide))
        show z_ev (d + 5) 116 52 [some (.ref 4), some (.int p1), some (.int p2), some (.int p3), some (.ref a24), some (.ref a38)] [.int x86] M84 _
        exact z_xri zt116 16 rfl zzr116 (kk x86 M84 X89 (by omega) (by omega))
      refine z_xP zt117 13 28 [some (.ref a38), some (.int p3)] [.int 1] rfl rfl ?_
      refine z_xrz zt117 15 rfl zzr117 (by decide) (by decide) ?_
      show z_ev (d + 5) 116 39 [some (.ref 4), some (.int p1), some (.int p2), some (.int p3), some (.ref a24), some (.ref a38)] [.int 1] M0 _
      refine z_xZ zt116 11 rfl rfl (fun (h91 : (1 : Int) = 0) => absurd h91 (by omega)) (fun (h91 : (1 : Int) ≠ 0) => ?_)
      refine z_xP zt116 12 43 [some (.ref 4), some (.int p1), some (.int p2), some (.int p3), some (.ref a24), some (.ref a38)] [.int (-1)] rfl rfl ?_
      have qm1 : (((-1) : Int32)).toInt = (-1) := rfl
      exact z_xri zt116 13 rfl zzr116 (kk (-1) M0 X (by omega) (by omega))
    refine z_xP zt35 5 22 [some (.ref 4), some (.int p2)] [.null] rfl rfl ?_
    refine z_xrn zt35 10 rfl zzr35 ?_
    show z_ev (d + 5) 116 12 [some (.ref 4), some (.int p1), some (.int p2), some (.int p3), some (.ref a24), none] [.null] M0 _
    refine z_xP zt116 4 19 [some (.ref 4), some (.int p1), some (.int p2), some (.int p3), some (.ref a24), some (.null)] [] rfl rfl ?_
    refine z_xP zt116 5 42 [some (.ref 4), some (.int p1), some (.int p2), some (.int p3), some (.ref a24), some (.null)] [] rfl rfl ?_
    refine z_xP zt116 12 43 [some (.ref 4), some (.int p1), some (.int p2), some (.int p3), some (.ref a24), some (.null)] [.int (-1)] rfl rfl ?_
    have qm1 : (((-1) : Int32)).toInt = (-1) := rfl
    exact z_xri zt116 13 rfl zzr116 (kk (-1) M0 X (by omega) (by omega))
  refine z_xP zt84 5 22 [some (.ref 4), some (.int p1)] [.null] rfl rfl ?_
  refine z_xrn zt84 10 rfl zzr84 ?_
  show z_ev (d + 5) 116 5 [some (.ref 4), some (.int p1), some (.int p2), some (.int p3), none, none] [.null] M0 _
  refine z_xP zt116 2 9 [some (.ref 4), some (.int p1), some (.int p2), some (.int p3), some (.null), none] [.int p2, .ref 4] rfl rfl ?_
  refine z_xcV (vs := [.ref 4, .int p2]) (r := []) (L2 := [some (.ref 4), some (.int p2)]) zt116 3 rfl zo116 zzcV0_85 (Or.inl rfl) rfl X f4 rfl rfl rfl (Nat.le_of_ble_eq_true rfl) zzm35 (Nat.le_of_ble_eq_true rfl) rfl ?_
  refine z_xP zt35 0 1 [some (.ref 4), some (.int p2)] [.int p2] rfl rfl ?_
  refine z_xZ zt35 1 rfl rfl (fun (h92 : p2.toInt < 0) => ?_) (fun (h92 : 0 ≤ p2.toInt) => ?_)
  · skip
    refine z_xP zt35 5 22 [some (.ref 4), some (.int p2)] [.null] rfl rfl ?_
    refine z_xrn zt35 10 rfl zzr35 ?_
    show z_ev (d + 5) 116 12 [some (.ref 4), some (.int p1), some (.int p2), some (.int p3), some (.null), none] [.null] M0 _
    refine z_xP zt116 4 42 [some (.ref 4), some (.int p1), some (.int p2), some (.int p3), some (.null), some (.null)] [] rfl rfl ?_
    refine z_xP zt116 12 43 [some (.ref 4), some (.int p1), some (.int p2), some (.int p3), some (.null), some (.null)] [.int (-1)] rfl rfl ?_
    have qm1 : (((-1) : Int32)).toInt = (-1) := rfl
    exact z_xri zt116 13 rfl zzr116 (kk (-1) M0 X (by omega) (by omega))
  refine z_xP zt35 2 6 [some (.ref 4), some (.int p2)] [.ref 4, .int p2] rfl rfl ?_
  refine z_xgI zt35 3 rfl zo35 zzf0_59 X f4 (by decide) (by decide) rfl (fun (x94 : Int32) h93 (h95 : 0 ≤ x94.toInt) (h96 : x94.toInt ≤ 8) => ?_)
  have h97 := z_b32 p2
  refine z_xJ zt35 4 rfl rfl (fun (h98 : p2.toInt < x94.toInt) => ?_) (fun (h98 : x94.toInt ≤ p2.toInt) => ?_)
  · skip
    refine z_xP zt35 6 17 [some (.ref 4), some (.int p2)] [.ref 4] rfl rfl ?_
    refine z_xgX (b := 10) zt35 7 rfl zo35 zzf0_18 X f4 (by decide) (by decide) rfl ?_
    refine z_xP zt35 8 21 [some (.ref 4), some (.int p2)] [.int p2, .ref 10] rfl rfl ?_
    have f10 : T[10]? = some (.inr (10, 2, 8, 9, 0)) := X.1.k rfl (by decide)
    refine z_xal zt35 9 rfl X f10 (by decide) (by decide) (by decide) (by omega) (by omega) (fun (a99 : Nat) h100 h101 => ?_) (fun h102 => absurd h102 (z_Gs (hG.go X (by decide)).2.1 h93 (by omega) (by omega)))
    obtain ⟨q103, t104, m105, k106⟩ : ∃ q t m, T[a99]? = some (.inl (3, q, t, m, 9)) := h101
    have g107 := X.1.p3 k106
    refine z_xra zt35 10 rfl zzr35 ?_
    show z_ev (d + 5) 116 12 [some (.ref 4), some (.int p1), some (.int p2), some (.int p3), some (.null), none] [.ref a99] M0 _
    refine z_xP zt116 4 42 [some (.ref 4), some (.int p1), some (.int p2), some (.int p3), some (.null), some (.ref a99)] [] rfl rfl ?_
    refine z_xP zt116 12 43 [some (.ref 4), some (.int p1), some (.int p2), some (.int p3), some (.null), some (.ref a99)] [.int (-1)] rfl rfl ?_
    have qm1 : (((-1) : Int32)).toInt = (-1) := rfl
    exact z_xri zt116 13 rfl zzr116 (kk (-1) M0 X (by omega) (by omega))
  refine z_xP zt35 5 22 [some (.ref 4), some (.int p2)] [.null] rfl rfl ?_
  refine z_xrn zt35 10 rfl zzr35 ?_
  show z_ev (d + 5) 116 12 [some (.ref 4), some (.int p1), some (.int p2), some (.int p3), some (.null), none] [.null] M0 _
  refine z_xP zt116 4 42 [some (.ref 4), some (.int p1), some (.int p2), some (.int p3), some (.null), some (.null)] [] rfl rfl ?_
  refine z_xP zt116 12 43 [some (.ref 4), some (.int p1), some (.int p2), some (.int p3), some (.null), some (.null)] [.int (-1)] rfl rfl ?_
  have qm1 : (((-1) : Int32)).toInt = (-1) := rfl
  exact z_xri zt116 13 rfl zzr116 (kk (-1) M0 X (by omega) (by omega))
def zw121 : List Nat := []
theorem zB121 {T : List zK} {d : Nat} {K : Option Value → zH → Prop} {a0 : Nat} {q : Nat} {t : Nat} {m : Nat} {M0 : zH} (k0 : T[a0]? = some (.inl (3, q, t, m, 5))) (kk : ∀ (x : Int32) (M1 : zH), z_X T zw121 M0 M1 → K (some (.int x)) M1) : ∀ n : Nat, (∀ (M : zH) (b1 : Int32) (b2 : Int32), z_X T zw121 M0 M → 0 ≤ b2.toInt ∧ b2.toInt ≤ 5 → ((0) * 2 + 0) * 6 + (5 - b2.toInt) < (n : Int) → z_ev (d + 1) 121 4 [some (.ref a0), some (.int b1), some (.int b2)] [] M K) := by
  intro n
  induction n with
  | zero => exact by intros; exfalso; omega
  | succ n ih =>
    intro M b1 b2 X hh0 hE
    have g0 := X.1.p3 k0
    refine z_xP zt121 1 6 [some (.ref a0), some (.int b1), some (.int b2)] [.ref a0, .int b2] rfl rfl ?_
    refine z_xgI zt121 2 rfl zo121 zzf3_53 X k0 (by decide) (by decide) rfl (fun (x2 : Int32) h1 (h3 : 0 ≤ x2.toInt) (h4 : x2.toInt ≤ (5 : Int)) => ?_)
    refine z_xJ zt121 3 rfl rfl (fun (h5 : x2.toInt ≤ b2.toInt) => ?_) (fun (h5 : b2.toInt < x2.toInt) => ?_)
    · skip
      refine z_xP zt121 17 36 [some (.ref a0), some (.int b1), some (.int b2)] [.int b1] rfl rfl ?_
      exact z_xri zt121 18 rfl zzr121 (kk b1 M X)
    refine z_xP zt121 4 14 [some (.ref a0), some (.int b1), some (.int b2)] [.ref a0, .int b1] rfl rfl ?_
    refine z_xgR (κ := .inr (210, 0, 5, 0, ((m : Nat) : Int) - 1)) zt121 5 rfl zo121 zzf3_33 X k0 (by decide) (by decide) rfl (fun (a7 : Nat) h6 k8 => ?_)
    refine z_xP zt121 6 18 [some (.ref a0), some (.int b1), some (.int b2)] [.int b2, .ref a7, .int b1] rfl rfl ?_
    refine z_xil zt121 7 rfl X k8 (by decide) (by omega) (by omega) (fun (x9 : Int32) h10 (h11 : 0 ≤ x9.toInt) (h12 : x9.toInt ≤ ((m : Nat) : Int) - 1) => ?_)
    refine z_xP zt121 8 20 [some (.ref a0), some (.int b1), some (.int b2)] [.int b2, .int x9, .int b1] rfl rfl ?_
    refine z_xI zt121 9 rfl rfl (fun (x13 : Int32) (h14 : x13.toInt = x9.toInt + b2.toInt) => ?_) (z_pAdd rfl rfl (by omega) (by omega))
    refine z_xP zt121 10 23 [some (.ref a0), some (.int b1), some (.int b2)] [.int 1, .int b2, .int x13, .int b1] rfl rfl ?_
    refine z_xI zt121 11 rfl rfl (fun (x15 : Int32) (h16 : x15.toInt = b2.toInt + 1) => ?_) (z_pAdd rfl rfl (by omega) (by omega))
    refine z_xcS (vs := [.int x13, .int x15]) (r := [.int b1]) (L2 := [some (.int x13), some (.int x15)]) zt121 12 rfl zo121 zzcS3_136 (Or.inr rfl) (Nat.le_of_ble_eq_true rfl) rfl rfl (Nat.le_of_ble_eq_true rfl) zzm105 (Nat.le_of_ble_eq_true rfl) rfl ?_
    refine z_xP zt105 0 1 [some (.int x13), some (.int x15)] [.int x13] rfl rfl ?_
    refine z_xZ zt105 1 rfl rfl (fun (h17 : x13.toInt < 0) => absurd h17 (by omega)) (fun (h17 : 0 ≤ x13.toInt) => ?_)
    refine z_xP zt105 2 5 [some (.int x13), some (.int x15)] [.int x15] rfl rfl ?_
    refine z_xZ zt105 3 rfl rfl (fun (h18 : x15.toInt < 0) => absurd h18 (by omega)) (fun (h18 : 0 ≤ x15.toInt) => ?_)
    refine z_xP zt105 4 10 [some (.int x13), some (.int x15)] [.int 5, .int x15] rfl rfl ?_
    refine z_xJ zt105 5 rfl rfl (fun (h19 : 5 < x15.toInt) => absurd h19 (by omega)) (fun (h19 : x15.toInt ≤ 5) => ?_)
    refine z_xP zt105 6 16 [some (.int x13), some (.int x15)] [.int x13, .int 6] rfl rfl ?_
    refine z_xI zt105 7 rfl rfl (fun (x20 : Int32) (h21 : x20.toInt = 6 * x13.toInt) => ?_) (z_pMul rfl rfl (by omega) (by omega))
    refine z_xP zt105 8 18 [some (.int x13), some (.int x15)] [.int x15, .int x20] rfl rfl ?_
    refine z_xI zt105 9 rfl rfl (fun (x22 : Int32) (h23 : x22.toInt = x20.toInt + x15.toInt) => ?_) (z_pAdd rfl rfl (by omega) (by omega))
    refine z_xgs zt105 10 rfl zo105 zg0_340 ?_
    have f1 : T[1]? = some (.inr (1, 0, 102, 0, 4368)) := X.1.k rfl (by decide)
    refine z_xln zt105 11 rfl X f1 (by decide) (by decide) (fun (x24 : Int32) (h25 : x24.toInt = ((102 : Nat) : Int)) => ?_)
    refine z_xJ zt105 12 rfl rfl (fun (h26 : x22.toInt < x24.toInt) => ?_) (fun (h26 : x24.toInt ≤ x22.toInt) => ?_)
    · skip
      refine z_xgs zt105 15 rfl zo105 zg0_340 ?_
      refine z_xP zt105 16 34 [some (.int x13), some (.int x15)] [.int x13, .int 6, .ref 1] rfl rfl ?_
      refine z_xI zt105 17 rfl rfl (fun (x27 : Int32) (h28 : x27.toInt = 6 * x13.toInt) => ?_) (z_pMul rfl rfl (by omega) (by omega))
      refine z_xP zt105 18 36 [some (.int x13), some (.int x15)] [.int x15, .int x27, .ref 1] rfl rfl ?_
      refine z_xI zt105 19 rfl rfl (fun (x29 : Int32) (h30 : x29.toInt = x27.toInt + x15.toInt) => ?_) (z_pAdd rfl rfl (by omega) (by omega))
      refine z_xil zt105 20 rfl X f1 (by decide) (by omega) (by omega) (fun (x31 : Int32) h32 (h33 : 0 ≤ x31.toInt) (h34 : x31.toInt ≤ 4368) => ?_)
      refine z_xri zt105 21 rfl zzr105 ?_
      show z_ev (d + 1) 121 27 [some (.ref a0), some (.int b1), some (.int b2)] [.int x31, .int b1] M _
      have h35 := z_b32 b1
      refine z_xI zt121 13 rfl rfl (P := fun _ => True) (fun (x36 : Int32) _ => ?_) trivial
      refine z_xP zt121 14 29 [some (.ref a0), some (.int x36), some (.int b2)] [] rfl rfl ?_
      refine z_xN zt121 15 rfl rfl (fun (x38 : Int32) (h39 : x38.toInt = b2.toInt + 1) => ?_) (z_pAdd rfl rfl (by omega) (by omega))
      show z_ev (d + 1) 121 32 [some (.ref a0), some (.int x36), some (.int x38)] [] M _
      refine z_xP zt121 16 4 [some (.ref a0), some (.int x36), some (.int x38)] [] rfl rfl ?_
      exact ih M x36 x38 X ⟨by omega, by omega⟩ (by omega)
    refine z_xP zt105 13 27 [some (.int x13), some (.int x15)] [.int 0] rfl rfl ?_
    refine z_xri zt105 14 rfl zzr105 ?_
    show z_ev (d + 1) 121 27 [some (.ref a0), some (.int b1), some (.int b2)] [.int 0, .int b1] M _
    have h40 := z_b32 b1
    refine z_xI zt121 13 rfl rfl (fun (x41 : Int32) (h42 : x41.toInt = b1.toInt + 0) => ?_) (z_pAdd rfl rfl (by omega) (by omega))
    refine z_xP zt121 14 29 [some (.ref a0), some (.int x41), some (.int b2)] [] rfl rfl ?_
    refine z_xN zt121 15 rfl rfl (fun (x43 : Int32) (h44 : x43.toInt = b2.toInt + 1) => ?_) (z_pAdd rfl rfl (by omega) (by omega))
    show z_ev (d + 1) 121 32 [some (.ref a0), some (.int x41), some (.int x43)] [] M _
    refine z_xP zt121 16 4 [some (.ref a0), some (.int x41), some (.int x43)] [] rfl rfl ?_
    exact ih M x41 x43 X ⟨by omega, by omega⟩ (by omega)
theorem zC121 {T : List zK} {d : Nat} {K : Option Value → zH → Prop} {a0 : Nat} {q : Nat} {t : Nat} {m : Nat} {M0 : zH} (hW : z_W M0 T) (k0 : T[a0]? = some (.inl (3, q, t, m, 5))) (kk : ∀ (x : Int32) (M1 : zH), z_X T zw121 M0 M1 → K (some (.int x)) M1) : z_ev (d + 1) 121 0 [some (.ref a0), none, none] [] M0 K := by
  have X : z_X T zw121 M0 M0 := .refl hW
  have g0 := X.1.p3 k0
  refine z_xP zt121 0 4 [some (.ref a0), some (.int 0), some (.int 0)] [] rfl rfl ?_
  have q0 : ((0 : Int32)).toInt = 0 := rfl
  exact (zB121 k0 kk 12) M0 (0) (0) X (by decide) (by omega)
def zw125 : List Nat := []
theorem zC125 {T : List zK} {d : Nat} {K : Option Value → zH → Prop} {a0 : Nat} {ci : Nat} {a1 : Nat} {q1 : Nat} {t1 : Nat} {m1 : Nat} {p2 : Int32} {M0 : zH} (hW : z_W M0 T) (w0 : 4 ≤ ci ∧ ci ≤ 11) (k0 : T[a0]? = some (.inl (ci, 0, 0, 0, 0))) (k1 : T[a1]? = some (.inl (3, q1, t1, m1, 5))) (kk : ∀ (x : Int32) (M1 : zH), z_X T zw125 M0 M1 → K (some (.int x)) M1) : z_ev d 125 0 [some (.ref a0), some (.ref a1), some (.int p2)] [] M0 K := by
  have X : z_X T zw125 M0 M0 := .refl hW
  have g1 := X.1.p3 k1
  refine z_xP zt125 0 1 [some (.ref a0), some (.ref a1), some (.int p2)] [.int p2] rfl rfl ?_
  exact z_xri zt125 1 rfl zzr125 (kk p2 M0 X)
def zw123 : List Nat := []
theorem zC123 {T : List zK} {d : Nat} {K : Option Value → zH → Prop} {a0 : Nat} {a1 : Nat} {q1 : Nat} {t1 : Nat} {m1 : Nat} {p2 : Int32} {M0 : zH} (hW : z_W M0 T) (k0 : T[a0]? = some (.inl (10, 0, 0, 0, 0))) (k1 : T[a1]? = some (.inl (3, q1, t1, m1, 5))) (kk : ∀ (x : Int32) (M1 : zH), z_X T zw123 M0 M1 → K (some (.int x)) M1) : z_ev d 123 0 [some (.ref a0), some (.ref a1), some (.int p2), none] [] M0 K := by
  have X : z_X T zw123 M0 M0 := .refl hW
  have g1 := X.1.p3 k1
  refine z_xP zt123 0 1 [some (.ref a0), some (.ref a1), some (.int p2), none] [.ref a0] rfl rfl ?_
  refine z_xgI zt123 1 rfl zo123 zzf10_7 X k0 (by decide) (by decide) rfl (fun (x2 : Int32) h1 (h3 : 0 ≤ x2.toInt) (h4 : x2.toInt ≤ 8) => ?_)
  refine z_xP zt123 2 5 [some (.ref a0), some (.ref a1), some (.int p2), none] [.ref a1, .int x2] rfl rfl ?_
  refine z_xgI zt123 3 rfl zo123 zzf10_23 X k1 (by decide) (by decide) rfl (fun (x6 : Int32) h5 (h7 : 0 ≤ x6.toInt) (h8 : x6.toInt ≤ (5 : Int)) => ?_)
  refine z_xJ zt123 4 rfl rfl (fun (h9 : x6.toInt ≤ x2.toInt) => ?_) (fun (h9 : x2.toInt < x6.toInt) => ?_)
  · skip
    refine z_xP zt123 17 37 [some (.ref a0), some (.ref a1), some (.int p2), none] [.int 0] rfl rfl ?_
    refine z_xP zt123 18 39 [some (.ref a0), some (.ref a1), some (.int p2), some (.int 0)] [.int 0] rfl rfl ?_
    refine z_xZ zt123 19 rfl rfl (fun (h10 : (0 : Int) = 0) => ?_) (fun (h10 : (0 : Int) ≠ 0) => absurd h10 (by omega))
    refine z_xP zt123 32 66 [some (.ref a0), some (.ref a1), some (.int p2), some (.int 0)] [.int p2] rfl rfl ?_
    exact z_xri zt123 33 rfl zzr123 (kk p2 M0 X)
  refine z_xP zt123 5 12 [some (.ref a0), some (.ref a1), some (.int p2), none] [.ref a0] rfl rfl ?_
  refine z_xgv zt123 6 rfl zo123 zzf10_7 X k0 (by decide) h1 ?_
  refine z_xP zt123 7 16 [some (.ref a0), some (.ref a1), some (.int p2), none] [.ref a1, .int x2] rfl rfl ?_
  refine z_xgR (κ := .inr (210, 0, 5, 0, ((m1 : Nat) : Int) - 1)) zt123 8 rfl zo123 zzf10_26 X k1 (by decide) (by decide) rfl (fun (a12 : Nat) h11 k13 => ?_)
  refine z_xln zt123 9 rfl X k13 (by decide) (by decide) (fun (x14 : Int32) (h15 : x14.toInt = ((5 : Nat) : Int)) => ?_)
  refine z_xJ zt123 10 rfl rfl (fun (h16 : x14.toInt ≤ x2.toInt) => absurd h16 (by omega)) (fun (h16 : x2.toInt < x14.toInt) => ?_)
  refine z_xP zt123 11 24 [some (.ref a0), some (.ref a1), some (.int p2), none] [.ref a1] rfl rfl ?_
  refine z_xgv zt123 12 rfl zo123 zzf10_23 X k1 (by decide) h5 ?_
  refine z_xP zt123 13 28 [some (.ref a0), some (.ref a1), some (.int p2), none] [.int 2, .int x6] rfl rfl ?_
  have q2 : ((2 : Int32)).toInt = 2 := rfl
  refine z_xM zt123 14 rfl (by omega) (fun (x17 : Int32) (h18 : 0 ≤ x17.toInt ∧ x17.toInt < 2 ∧ x17.toInt ≤ x6.toInt) => ?_) ((z_pRem rfl rfl (by omega) (by omega)).2)
  refine z_xZ zt123 15 rfl rfl (fun (h19 : x17.toInt ≠ 0) => ?_) (fun (h19 : x17.toInt = 0) => ?_)
  · skip
    refine z_xP zt123 17 37 [some (.ref a0), some (.ref a1), some (.int p2), none] [.int 0] rfl rfl ?_
    refine z_xP zt123 18 39 [some (.ref a0), some (.ref a1), some (.int p2), some (.int 0)] [.int 0] rfl rfl ?_
    refine z_xZ zt123 19 rfl rfl (fun (h20 : (0 : Int) = 0) => ?_) (fun (h20 : (0 : Int) ≠ 0) => absurd h20 (by omega))
    refine z_xP zt123 32 66 [some (.ref a0), some (.ref a1), some (.int p2), some (.int 0)] [.int p2] rfl rfl ?_
    exact z_xri zt123 33 rfl zzr123 (kk p2 M0 X)
  refine z_xP zt123 16 37 [some (.ref a0), some (.ref a1), some (.int p2), none] [.int 1] rfl rfl ?_
  refine z_xP zt123 18 39 [some (.ref a0), some (.ref a1), some (.int p2), some (.int 1)] [.int 1] rfl rfl ?_
  refine z_xZ zt123 19 rfl rfl (fun (h21 : (1 : Int) = 0) => absurd h21 (by omega)) (fun (h21 : (1 : Int) ≠ 0) => ?_)
  refine z_xP zt123 20 44 [some (.ref a0), some (.ref a1), some (.int p2), some (.int 1)] [.ref a1, .int p2] rfl rfl ?_
  refine z_xgR (κ := .inl (2, q1, t1, m1, 0)) zt123 21 rfl zo123 zzf10_29 X k1 (by decide) (by decide) rfl (fun (a23 : Nat) h22 k24 => ?_)
  have g25 := X.1.p2 k24
  refine z_xgR (κ := .inr (102, 0, m1, 0, 1023)) zt123 22 rfl zo123 zzf10_33 X k24 (by decide) (by decide) rfl (fun (a27 : Nat) h26 k28 => ?_)
  refine z_xln zt123 23 rfl X k28 (by decide) (by omega) (fun (x29 : Int32) (h30 : x29.toInt = ((m1 : Nat) : Int)) => ?_)
  have h31 := z_b32 p2
  refine z_xI zt123 24 rfl rfl (P := fun _ => True) (fun (x32 : Int32) _ => ?_) trivial
  refine z_xP zt123 25 53 [some (.ref a0), some (.ref a1), some (.int p2), some (.int 1)] [.ref a1, .int x32] rfl rfl ?_
  refine z_xgv zt123 26 rfl zo123 zzf10_26 X k1 (by decide) h11 ?_
  refine z_xP zt123 27 57 [some (.ref a0), some (.ref a1), some (.int p2), some (.int 1)] [.ref a0, .ref a12, .int x32] rfl rfl ?_
  refine z_xgv zt123 28 rfl zo123 zzf10_7 X k0 (by decide) h1 ?_
  refine z_xil zt123 29 rfl X k13 (by decide) (by omega) (by omega) (fun (x34 : Int32) h35 (h36 : 0 ≤ x34.toInt) (h37 : x34.toInt ≤ ((m1 : Nat) : Int) - 1) => ?_)
  have h38 := z_b32 x32
  refine z_xI zt123 30 rfl rfl (P := fun _ => True) (fun (x39 : Int32) _ => ?_) trivial
  refine z_xP zt123 31 66 [some (.ref a0), some (.ref a1), some (.int p2), some (.int 1)] [.int x39] rfl rfl ?_
  exact z_xri zt123 33 rfl zzr123 (kk x39 M0 X)
def zw124 : List Nat := []
theorem zC124 {T : List zK} {d : Nat} {K : Option Value → zH → Prop} {a0 : Nat} {a1 : Nat} {q1 : Nat} {t1 : Nat} {m1 : Nat} {p2 : Int32} {M0 : zH} (hW : z_W M0 T) (k0 : T[a0]? = some (.inl (11, 0, 0, 0, 0))) (k1 : T[a1]? = some (.inl (3, q1, t1, m1, 5))) (kk : ∀ (x : Int32) (M1 : zH), z_X T zw124 M0 M1 → 0 ≤ x.toInt → x.toInt ≤ 1023 → K (some (.int x)) M1) : z_ev d 124 0 [some (.ref a0), some (.ref a1), some (.int p2)] [] M0 K := by
  have X : z_X T zw124 M0 M0 := .refl hW
  have g1 := X.1.p3 k1
  refine z_xP zt124 0 1 [some (.ref a0), some (.ref a1), some (.int p2)] [.ref a0] rfl rfl ?_
  refine z_xgI zt124 1 rfl zo124 zzf11_9 X k0 (by decide) (by decide) rfl (fun (x2 : Int32) h1 (h3 : 0 ≤ x2.toInt) (h4 : x2.toInt ≤ 8) => ?_)
  refine z_xP zt124 2 5 [some (.ref a0), some (.ref a1), some (.int p2)] [.ref a1, .int x2] rfl rfl ?_
  refine z_xgI zt124 3 rfl zo124 zzf11_38 X k1 (by decide) (by decide) rfl (fun (x6 : Int32) h5 (h7 : 0 ≤ x6.toInt) (h8 : x6.toInt ≤ (5 : Int)) => ?_)
  refine z_xJ zt124 4 rfl rfl (fun (h9 : x6.toInt ≤ x2.toInt) => ?_) (fun (h9 : x2.toInt < x6.toInt) => ?_)
  · skip
    refine z_xP zt124 17 36 [some (.ref a0), some (.ref a1), some (.int p2)] [.int 0] rfl rfl ?_
    have q0 : ((0 : Int32)).toInt = 0 := rfl
    exact z_xri zt124 18 rfl zzr124 (kk 0 M0 X (by omega) (by omega))
  refine z_xP zt124 5 12 [some (.ref a0), some (.ref a1), some (.int p2)] [.ref a0] rfl rfl ?_
  refine z_xgv zt124 6 rfl zo124 zzf11_9 X k0 (by decide) h1 ?_
  refine z_xP zt124 7 16 [some (.ref a0), some (.ref a1), some (.int p2)] [.ref a1, .int x2] rfl rfl ?_
  refine z_xgR (κ := .inr (210, 0, 5, 0, ((m1 : Nat) : Int) - 1)) zt124 8 rfl zo124 zzf11_41 X k1 (by decide) (by decide) rfl (fun (a11 : Nat) h10 k12 => ?_)
  refine z_xln zt124 9 rfl X k12 (by decide) (by decide) (fun (x13 : Int32) (h14 : x13.toInt = ((5 : Nat) : Int)) => ?_)
  refine z_xJ zt124 10 rfl rfl (fun (h15 : x13.toInt ≤ x2.toInt) => absurd h15 (by omega)) (fun (h15 : x2.toInt < x13.toInt) => ?_)
  refine z_xP zt124 11 24 [some (.ref a0), some (.ref a1), some (.int p2)] [.ref a1] rfl rfl ?_
  refine z_xgv zt124 12 rfl zo124 zzf11_41 X k1 (by decide) h10 ?_
  refine z_xP zt124 13 28 [some (.ref a0), some (.ref a1), some (.int p2)] [.ref a0, .ref a11] rfl rfl ?_
  refine z_xgv zt124 14 rfl zo124 zzf11_9 X k0 (by decide) h1 ?_
  refine z_xil zt124 15 rfl X k12 (by decide) (by omega) (by omega) (fun (x16 : Int32) h17 (h18 : 0 ≤ x16.toInt) (h19 : x16.toInt ≤ ((m1 : Nat) : Int) - 1) => ?_)
  refine z_xP zt124 16 36 [some (.ref a0), some (.ref a1), some (.int p2)] [.int x16] rfl rfl ?_
  exact z_xri zt124 18 rfl zzr124 (kk x16 M0 X (by omega) (by omega))
def zwVplaceOf : List Nat := []
theorem zVplaceOf {j pc : Nat} {segs : List (List (Nat × Instr × Nat))} {idx : Nat} {d : Nat} {T : List zK} {rs : List Nat} {M0 M : zH} {L : zL} {r : zS} {K : Option Value → zH → Prop} {w c oc : Nat} {b0 q0 t0 m0 : Nat} {x1 : Int32} (ht : z_dcs j segs = true) (n : Nat) (hk : segs[n]? = some [(pc, .invokevirtual idx, 3)]) (ho : z_oc j = oc) (hq : (z_find z_cV oc idx).map (·.1) = some (2, 2, [(4, 125), (10, 123), (7, 125), (5, 125), (11, 124), (8, 125), (6, 125), (9, 125)])) (hX : z_X T rs M0 M) (hw : T[w]? = some (.inl (c, 0, 0, 0, 0))) (hc : 4 ≤ c ∧ c ≤ 11) (hr : z_ws r ≤ 8) (hb0 : T[b0]? = some (.inl (3, q0, t0, m0, 5))) (kk : ∀ (x : Int32) (M1 : zH), z_X T zwVplaceOf M M1 → z_ev (d + 1 + 0) j (pc + 3) L (.int x :: r) M1 K) : z_ev (d + 1 + 0) j pc L (.int x1 :: .ref b0 :: .ref w :: r) M K := by
  refine z_w8 (fun c => T[w]? = some (.inl (c, 0, 0, 0, 0)) → z_ev (d + 1 + 0) j pc L (.int x1 :: .ref b0 :: .ref w :: r) M K) ?_ ?_ ?_ ?_ ?_ ?_ ?_ ?_ hc hw
  · intro hw
    refine z_xcV (vs := [.ref w, .ref b0, .int x1]) (r := r) (L2 := [some (.ref w), some (.ref b0), some (.int x1)]) ht n hk ho hq (Or.inr rfl) rfl hX hw rfl rfl rfl hr zzm125 (Nat.le_of_ble_eq_true rfl) rfl ?_
    refine zC125 hX.1 (by decide) hw hb0 (fun x M1 X1  => ?_)
    exact kk x M1 ((z_X.refl hX.1).go X1 (z_sb (by decide)))
  · intro hw
    refine z_xcV (vs := [.ref w, .ref b0, .int x1]) (r := r) (L2 := [some (.ref w), some (.ref b0), some (.int x1)]) ht n hk ho hq (Or.inr rfl) rfl hX hw rfl rfl rfl hr zzm125 (Nat.le_of_ble_eq_true rfl) rfl ?_
    refine zC125 hX.1 (by decide) hw hb0 (fun x M1 X1  => ?_)
    exact kk x M1 ((z_X.refl hX.1).go X1 (z_sb (by decide)))
  · intro hw
    refine z_xcV (vs := [.ref w, .ref b0, .int x1]) (r := r) (L2 := [some (.ref w), some (.ref b0), some (.int x1)]) ht n hk ho hq (Or.inr rfl) rfl hX hw rfl rfl rfl hr zzm125 (Nat.le_of_ble_eq_true rfl) rfl ?_
    refine zC125 hX.1 (by decide) hw hb0 (fun x M1 X1  => ?_)
    exact kk x M1 ((z_X.refl hX.1).go X1 (z_sb (by decide)))
  · intro hw
    refine z_xcV (vs := [.ref w, .ref b0, .int x1]) (r := r) (L2 := [some (.ref w), some (.ref b0), some (.int x1)]) ht n hk ho hq (Or.inr rfl) rfl hX hw rfl rfl rfl hr zzm125 (Nat.le_of_ble_eq_true rfl) rfl ?_
    refine zC125 hX.1 (by decide) hw hb0 (fun x M1 X1  => ?_)
    exact kk x M1 ((z_X.refl hX.1).go X1 (z_sb (by decide)))
  · intro hw
    refine z_xcV (vs := [.ref w, .ref b0, .int x1]) (r := r) (L2 := [some (.ref w), some (.ref b0), some (.int x1)]) ht n hk ho hq (Or.inr rfl) rfl hX hw rfl rfl rfl hr zzm125 (Nat.le_of_ble_eq_true rfl) rfl ?_
    refine zC125 hX.1 (by decide) hw hb0 (fun x M1 X1  => ?_)
    exact kk x M1 ((z_X.refl hX.1).go X1 (z_sb (by decide)))
  · intro hw
    refine z_xcV (vs := [.ref w, .ref b0, .int x1]) (r := r) (L2 := [some (.ref w), some (.ref b0), some (.int x1)]) ht n hk ho hq (Or.inr rfl) rfl hX hw rfl rfl rfl hr zzm125 (Nat.le_of_ble_eq_true rfl) rfl ?_
    refine zC125 hX.1 (by decide) hw hb0 (fun x M1 X1  => ?_)
    exact kk x M1 ((z_X.refl hX.1).go X1 (z_sb (by decide)))
  · intro hw
    refine z_xcV (vs := [.ref w, .ref b0, .int x1]) (r := r) (L2 := [some (.ref w), some (.ref b0), some (.int x1), none]) ht n hk ho hq (Or.inr rfl) rfl hX hw rfl rfl rfl hr zzm123 (Nat.le_of_ble_eq_true rfl) rfl ?_
    refine zC123 hX.1 hw hb0 (fun x M1 X1  => ?_)
    exact kk x M1 ((z_X.refl hX.1).go X1 (z_sb (by decide)))
  · intro hw
    refine z_xcV (vs := [.ref w, .ref b0, .int x1]) (r := r) (L2 := [some (.ref w), some (.ref b0), some (.int x1)]) ht n hk ho hq (Or.inr rfl) rfl hX hw rfl rfl rfl hr zzm124 (Nat.le_of_ble_eq_true rfl) rfl ?_
    refine zC124 hX.1 hw hb0 (fun x M1 X1 h1 h2 => ?_)
    exact kk x M1 ((z_X.refl hX.1).go X1 (z_sb (by decide)))
def zw127 : List Nat := []
theorem zB127 {T : List zK} {d : Nat} {K : Option Value → zH → Prop} {a0 : Nat} {q : Nat} {t : Nat} {m : Nat} {p1 : Int32} {M0 : zH} (k0 : T[a0]? = some (.inl (3, q, t, m, 5))) (u1 : 0 ≤ p1.toInt ∧ p1.toInt ≤ 4) (kk : ∀ (x : Int32) (M1 : zH), z_X T zw127 M0 M1 → K (some (.int x)) M1) : ∀ n : Nat, (∀ (M : zH) (b2 : Int32) (b3 : Int32), z_X T zw127 M0 M → 0 ≤ b3.toInt ∧ b3.toInt ≤ 4 → ((0) * 2 + 0) * 5 + (4 - b3.toInt) < (n : Int) → z_ev (d + 1) 127 4 [some (.ref a0), some (.int p1), some (.int b2), some (.int b3)] [] M K) := by
  intro n
  induction n with
  | zero => exact by intros; exfalso; omega
  | succ n ih =>
    intro M b2 b3 X hh0 hE
    have g0 := X.1.p3 k0
    refine z_xP zt127 1 6 [some (.ref a0), some (.int p1), some (.int b2), some (.int b3)] [.ref a0, .int b3] rfl rfl ?_
    refine z_xgI zt127 2 rfl zo127 zzf3_53 X k0 (by decide) (by decide) rfl (fun (x2 : Int32) h1 (h3 : 0 ≤ x2.toInt) (h4 : x2.toInt ≤ (5 : Int)) => ?_)
    refine z_xP zt127 3 10 [some (.ref a0), some (.int p1), some (.int b2), some (.int b3)] [.int 1, .int x2, .int b3] rfl rfl ?_
    refine z_xI zt127 4 rfl rfl (fun (x5 : Int32) (h6 : x5.toInt = x2.toInt - 1) => ?_) (z_pSub rfl rfl (by omega) (by omega))
    refine z_xJ zt127 5 rfl rfl (fun (h7 : x5.toInt ≤ b3.toInt) => ?_) (fun (h7 : b3.toInt < x5.toInt) => ?_)
    · skip
      refine z_xP zt127 19 40 [some (.ref a0), some (.int p1), some (.int b2), some (.int b3)] [.int b2] rfl rfl ?_
      exact z_xri zt127 20 rfl zzr127 (kk b2 M X)
    refine z_xP zt127 6 18 [some (.ref a0), some (.int p1), some (.int b2), some (.int b3)] [.int b3, .int p1, .ref a0, .int b2] rfl rfl ?_
    refine z_xcV (vs := [.ref a0, .int p1, .int b3]) (r := [.int b2]) (L2 := [some (.ref a0), some (.int p1), some (.int b3)]) zt127 7 rfl zo127 zzcV3_151 (Or.inl rfl) rfl X k0 rfl rfl rfl (Nat.le_of_ble_eq_true rfl) zzm128 (Nat.le_of_ble_eq_true rfl) rfl ?_
    refine z_xP zt128 0 1 [some (.ref a0), some (.int p1), some (.int b3)] [.ref a0] rfl rfl ?_
    refine z_xgR (κ := .inr (210, 0, 5, 0, ((m : Nat) : Int) - 1)) zt128 1 rfl zo128 zzf3_33 X k0 (by decide) (by decide) rfl (fun (a9 : Nat) h8 k10 => ?_)
    refine z_xP zt128 2 6 [some (.ref a0), some (.int p1), some (.int b3)] [.int p1, .int b3, .ref a9] rfl rfl ?_
    refine z_xJ zt128 3 rfl rfl (fun (h11 : p1.toInt ≤ b3.toInt) => ?_) (fun (h11 : b3.toInt < p1.toInt) => ?_)
    · skip
      refine z_xP zt128 5 15 [some (.ref a0), some (.int p1), some (.int b3)] [.int 1, .int b3, .ref a9] rfl rfl ?_
      refine z_xI zt128 6 rfl rfl (fun (x12 : Int32) (h13 : x12.toInt = b3.toInt + 1) => ?_) (z_pAdd rfl rfl (by omega) (by omega))
      refine z_xil zt128 7 rfl X k10 (by decide) (by omega) (by omega) (fun (x14 : Int32) h15 (h16 : 0 ≤ x14.toInt) (h17 : x14.toInt ≤ ((m : Nat) : Int) - 1) => ?_)
      refine z_xri zt128 8 rfl zzr128 ?_
      show z_ev (d + 1) 127 21 [some (.ref a0), some (.int p1), some (.int b2), some (.int b3)] [.int x14, .int b2] M _
      refine z_xP zt127 8 22 [some (.ref a0), some (.int p1), some (.int b2), some (.int b3)] [.int b3, .int x14, .int b2] rfl rfl ?_
      refine z_xI zt127 9 rfl rfl (fun (x18 : Int32) (h19 : x18.toInt = x14.toInt + b3.toInt) => ?_) (z_pAdd rfl rfl (by omega) (by omega))
      refine z_xP zt127 10 24 [some (.ref a0), some (.int p1), some (.int b2), some (.int b3)] [.int 1, .int x18, .int b2] rfl rfl ?_
      refine z_xI zt127 11 rfl rfl (fun (x20 : Int32) (h21 : x20.toInt = x18.toInt + 1) => ?_) (z_pAdd rfl rfl (by omega) (by omega))
      refine z_xP zt127 12 27 [some (.ref a0), some (.int p1), some (.int b2), some (.int b3)] [.int 2, .int b3, .int x20, .int b2] rfl rfl ?_
      refine z_xI zt127 13 rfl rfl (fun (x22 : Int32) (h23 : x22.toInt = b3.toInt + 2) => ?_) (z_pAdd rfl rfl (by omega) (by omega))
      refine z_xcS (vs := [.int x20, .int x22]) (r := [.int b2]) (L2 := [some (.int x20), some (.int x22)]) zt127 14 rfl zo127 zzcS3_136 (Or.inr rfl) (Nat.le_of_ble_eq_true rfl) rfl rfl (Nat.le_of_ble_eq_true rfl) zzm105 (Nat.le_of_ble_eq_true rfl) rfl ?_
      refine z_xP zt105 0 1 [some (.int x20), some (.int x22)] [.int x20] rfl rfl ?_
      refine z_xZ zt105 1 rfl rfl (fun (h24 : x20.toInt < 0) => absurd h24 (by omega)) (fun (h24 : 0 ≤ x20.toInt) => ?_)
      refine z_xP zt105 2 5 [some (.int x20), some (.int x22)] [.int x22] rfl rfl ?_
      refine z_xZ zt105 3 rfl rfl (fun (h25 : x22.toInt < 0) => absurd h25 (by omega)) (fun (h25 : 0 ≤ x22.toInt) => ?_)
      refine z_xP zt105 4 10 [some (.int x20), some (.int x22)] [.int 5, .int x22] rfl rfl ?_
      refine z_xJ zt105 5 rfl rfl (fun (h26 : 5 < x22.toInt) => absurd h26 (by omega)) (fun (h26 : x22.toInt ≤ 5) => ?_)
      refine z_xP zt105 6 16 [some (.int x20), some (.int x22)] [.int x20, .int 6] rfl rfl ?_
      refine z_xI zt105 7 rfl rfl (fun (x27 : Int32) (h28 : x27.toInt = 6 * x20.toInt) => ?_) (z_pMul rfl rfl (by omega) (by omega))
      refine z_xP zt105 8 18 [some (.int x20), some (.int x22)] [.int x22, .int x27] rfl rfl ?_
      refine z_xI zt105 9 rfl rfl (fun (x29 : Int32) (h30 : x29.toInt = x27.toInt + x22.toInt) => ?_) (z_pAdd rfl rfl (by omega) (by omega))
      refine z_xgs zt105 10 rfl zo105 zg0_340 ?_
      have f1 : T[1]? = some (.inr (1, 0, 102, 0, 4368)) := X.1.k rfl (by decide)
      refine z_xln zt105 11 rfl X f1 (by decide) (by decide) (fun (x31 : Int32) (h32 : x31.toInt = ((102 : Nat) : Int)) => ?_)
      refine z_xJ zt105 12 rfl rfl (fun (h33 : x29.toInt < x31.toInt) => ?_) (fun (h33 : x31.toInt ≤ x29.toInt) => ?_)
      · skip
        refine z_xgs zt105 15 rfl zo105 zg0_340 ?_
        refine z_xP zt105 16 34 [some (.int x20), some (.int x22)] [.int x20, .int 6, .ref 1] rfl rfl ?_
        refine z_xI zt105 17 rfl rfl (fun (x34 : Int32) (h35 : x34.toInt = 6 * x20.toInt) => ?_) (z_pMul rfl rfl (by omega) (by omega))
        refine z_xP zt105 18 36 [some (.int x20), some (.int x22)] [.int x22, .int x34, .ref 1] rfl rfl ?_
        refine z_xI zt105 19 rfl rfl (fun (x36 : Int32) (h37 : x36.toInt = x34.toInt + x22.toInt) => ?_) (z_pAdd rfl rfl (by omega) (by omega))
        refine z_xil zt105 20 rfl X f1 (by decide) (by omega) (by omega) (fun (x38 : Int32) h39 (h40 : 0 ≤ x38.toInt) (h41 : x38.toInt ≤ 4368) => ?_)
        refine z_xri zt105 21 rfl zzr105 ?_
        show z_ev (d + 1) 127 31 [some (.ref a0), some (.int p1), some (.int b2), some (.int b3)] [.int x38, .int b2] M _
        have h42 := z_b32 b2
        refine z_xI zt127 15 rfl rfl (P := fun _ => True) (fun (x43 : Int32) _ => ?_) trivial
        refine z_xP zt127 16 33 [some (.ref a0), some (.int p1), some (.int x43), some (.int b3)] [] rfl rfl ?_
        refine z_xN zt127 17 rfl rfl (fun (x45 : Int32) (h46 : x45.toInt = b3.toInt + 1) => ?_) (z_pAdd rfl rfl (by omega) (by omega))
        show z_ev (d + 1) 127 36 [some (.ref a0), some (.int p1), some (.int x43), some (.int x45)] [] M _
        refine z_xP zt127 18 4 [some (.ref a0), some (.int p1), some (.int x43), some (.int x45)] [] rfl rfl ?_
        exact ih M x43 x45 X ⟨by omega, by omega⟩ (by omega)
      refine z_xP zt105 13 27 [some (.int x20), some (.int x22)] [.int 0] rfl rfl ?_
      refine z_xri zt105 14 rfl zzr105 ?_
      show z_ev (d + 1) 127 31 [some (.ref a0), some (.int p1), some (.int b2), some (.int b3)] [.int 0, .int b2] M _
      have h47 := z_b32 b2
      refine z_xI zt127 15 rfl rfl (fun (x48 : Int32) (h49 : x48.toInt = b2.toInt + 0) => ?_) (z_pAdd rfl rfl (by omega) (by omega))
      refine z_xP zt127 16 33 [some (.ref a0), some (.int p1), some (.int x48), some (.int b3)] [] rfl rfl ?_
      refine z_xN zt127 17 rfl rfl (fun (x50 : Int32) (h51 : x50.toInt = b3.toInt + 1) => ?_) (z_pAdd rfl rfl (by omega) (by omega))
      show z_ev (d + 1) 127 36 [some (.ref a0), some (.int p1), some (.int x48), some (.int x50)] [] M _
      refine z_xP zt127 18 4 [some (.ref a0), some (.int p1), some (.int x48), some (.int x50)] [] rfl rfl ?_
      exact ih M x48 x50 X ⟨by omega, by omega⟩ (by omega)
    refine z_xP zt128 4 16 [some (.ref a0), some (.int p1), some (.int b3)] [.int b3, .ref a9] rfl rfl ?_
    refine z_xil zt128 7 rfl X k10 (by decide) (by omega) (by omega) (fun (x52 : Int32) h53 (h54 : 0 ≤ x52.toInt) (h55 : x52.toInt ≤ ((m : Nat) : Int) - 1) => ?_)
    refine z_xri zt128 8 rfl zzr128 ?_
    show z_ev (d + 1) 127 21 [some (.ref a0), some (.int p1), some (.int b2), some (.int b3)] [.int x52, .int b2] M _
    refine z_xP zt127 8 22 [some (.ref a0), some (.int p1), some (.int b2), some (.int b3)] [.int b3, .int x52, .int b2] rfl rfl ?_
    refine z_xI zt127 9 rfl rfl (fun (x56 : Int32) (h57 : x56.toInt = x52.toInt + b3.toInt) => ?_) (z_pAdd rfl rfl (by omega) (by omega))
    refine z_xP zt127 10 24 [some (.ref a0), some (.int p1), some (.int b2), some (.int b3)] [.int 1, .int x56, .int b2] rfl rfl ?_
    refine z_xI zt127 11 rfl rfl (fun (x58 : Int32) (h59 : x58.toInt = x56.toInt + 1) => ?_) (z_pAdd rfl rfl (by omega) (by omega))
    refine z_xP zt127 12 27 [some (.ref a0), some (.int p1), some (.int b2), some (.int b3)] [.int 2, .int b3, .int x58, .int b2] rfl rfl ?_
    refine z_xI zt127 13 rfl rfl (fun (x60 : Int32) (h61 : x60.toInt = b3.toInt + 2) => ?_) (z_pAdd rfl rfl (by omega) (by omega))
    refine z_xcS (vs := [.int x58, .int x60]) (r := [.int b2]) (L2 := [some (.int x58), some (.int x60)]) zt127 14 rfl zo127 zzcS3_136 (Or.inr rfl) (Nat.le_of_ble_eq_true rfl) rfl rfl (Nat.le_of_ble_eq_true rfl) zzm105 (Nat.le_of_ble_eq_true rfl) rfl ?_
    refine z_xP zt105 0 1 [some (.int x58), some (.int x60)] [.int x58] rfl rfl ?_
    refine z_xZ zt105 1 rfl rfl (fun (h62 : x58.toInt < 0) => absurd h62 (by omega)) (fun (h62 : 0 ≤ x58.toInt) => ?_)
    refine z_xP zt105 2 5 [some (.int x58), some (.int x60)] [.int x60] rfl rfl ?_
    refine z_xZ zt105 3 rfl rfl (fun (h63 : x60.toInt < 0) => absurd h63 (by omega)) (fun (h63 : 0 ≤ x60.toInt) => ?_)
    refine z_xP zt105 4 10 [some (.int x58), some (.int x60)] [.int 5, .int x60] rfl rfl ?_
    refine z_xJ zt105 5 rfl rfl (fun (h64 : 5 < x60.toInt) => absurd h64 (by omega)) (fun (h64 : x60.toInt ≤ 5) => ?_)
    refine z_xP zt105 6 16 [some (.int x58), some (.int x60)] [.int x58, .int 6] rfl rfl ?_
    refine z_xI zt105 7 rfl rfl (fun (x65 : Int32) (h66 : x65.toInt = 6 * x58.toInt) => ?_) (z_pMul rfl rfl (by omega) (by omega))
    refine z_xP zt105 8 18 [some (.int x58), some (.int x60)] [.int x60, .int x65] rfl rfl ?_
    refine z_xI zt105 9 rfl rfl (fun (x67 : Int32) (h68 : x67.toInt = x65.toInt + x60.toInt) => ?_) (z_pAdd rfl rfl (by omega) (by omega))
    refine z_xgs zt105 10 rfl zo105 zg0_340 ?_
    have f1 : T[1]? = some (.inr (1, 0, 102, 0, 4368)) := X.1.k rfl (by decide)
    refine z_xln zt105 11 rfl X f1 (by decide) (by decide) (fun (x69 : Int32) (h70 : x69.toInt = ((102 : Nat) : Int)) => ?_)
    refine z_xJ zt105 12 rfl rfl (fun (h71 : x67.toInt < x69.toInt) => ?_) (fun (h71 : x69.toInt ≤ x67.toInt) => ?_)
    · skip
      refine z_xgs zt105 15 rfl zo105 zg0_340 ?_
      refine z_xP zt105 16 34 [some (.int x58), some (.int x60)] [.int x58, .int 6, .ref 1] rfl rfl ?_
      refine z_xI zt105 17 rfl rfl (fun (x72 : Int32) (h73 : x72.toInt = 6 * x58.toInt) => ?_) (z_pMul rfl rfl (by omega) (by omega))
      refine z_xP zt105 18 36 [some (.int x58), some (.int x60)] [.int x60, .int x72, .ref 1] rfl rfl ?_
      refine z_xI zt105 19 rfl rfl (fun (x74 : Int32) (h75 : x74.toInt = x72.toInt + x60.toInt) => ?_) (z_pAdd rfl rfl (by omega) (by omega))
      refine z_xil zt105 20 rfl X f1 (by decide) (by omega) (by omega) (fun (x76 : Int32) h77 (h78 : 0 ≤ x76.toInt) (h79 : x76.toInt ≤ 4368) => ?_)
      refine z_xri zt105 21 rfl zzr105 ?_
      show z_ev (d + 1) 127 31 [some (.ref a0), some (.int p1), some (.int b2), some (.int b3)] [.int x76, .int b2] M _
      have h80 := z_b32 b2
      refine z_xI zt127 15 rfl rfl (P := fun _ => True) (fun (x81 : Int32) _ => ?_) trivial
      refine z_xP zt127 16 33 [some (.ref a0), some (.int p1), some (.int x81), some (.int b3)] [] rfl rfl ?_
      refine z_xN zt127 17 rfl rfl (fun (x83 : Int32) (h84 : x83.toInt = b3.toInt + 1) => ?_) (z_pAdd rfl rfl (by omega) (by omega))
      show z_ev (d + 1) 127 36 [some (.ref a0), some (.int p1), some (.int x81), some (.int x83)] [] M _
      refine z_xP zt127 18 4 [some (.ref a0), some (.int p1), some (.int x81), some (.int x83)] [] rfl rfl ?_
      exact ih M x81 x83 X ⟨by omega, by omega⟩ (by omega)
    refine z_xP zt105 13 27 [some (.int x58), some (.int x60)] [.int 0] rfl rfl ?_
    refine z_xri zt105 14 rfl zzr105 ?_
    show z_ev (d + 1) 127 31 [some (.ref a0), some (.int p1), some (.int b2), some (.int b3)] [.int 0, .int b2] M _
    have h85 := z_b32 b2
    refine z_xI zt127 15 rfl rfl (fun (x86 : Int32) (h87 : x86.toInt = b2.toInt + 0) => ?_) (z_pAdd rfl rfl (by omega) (by omega))
    refine z_xP zt127 16 33 [some (.ref a0), some (.int p1), some (.int x86), some (.int b3)] [] rfl rfl ?_
    refine z_xN zt127 17 rfl rfl (fun (x88 : Int32) (h89 : x88.toInt = b3.toInt + 1) => ?_) (z_pAdd rfl rfl (by omega) (by omega))
    show z_ev (d + 1) 127 36 [some (.ref a0), some (.int p1), some (.int x86), some (.int x88)] [] M _
    refine z_xP zt127 18 4 [some (.ref a0), some (.int p1), some (.int x86), some (.int x88)] [] rfl rfl ?_
    exact ih M x86 x88 X ⟨by omega, by omega⟩ (by omega)
theorem zC127 {T : List zK} {d : Nat} {K : Option Value → zH → Prop} {a0 : Nat} {q : Nat} {t : Nat} {m : Nat} {p1 : Int32} {M0 : zH} (hW : z_W M0 T) (k0 : T[a0]? = some (.inl (3, q, t, m, 5))) (u1 : 0 ≤ p1.toInt ∧ p1.toInt ≤ 4) (kk : ∀ (x : Int32) (M1 : zH), z_X T zw127 M0 M1 → K (some (.int x)) M1) : z_ev (d + 1) 127 0 [some (.ref a0), some (.int p1), none, none] [] M0 K := by
  have X : z_X T zw127 M0 M0 := .refl hW
  have g0 := X.1.p3 k0
  refine z_xP zt127 0 4 [some (.ref a0), some (.int p1), some (.int 0), some (.int 0)] [] rfl rfl ?_
  have q0 : ((0 : Int32)).toInt = 0 := rfl
  exact (zB127 k0 u1 kk 10) M0 (0) (0) X (by decide) (by omega)
def zw126 : List Nat := [202, 203, 205, 206, 207, 208, 209, 210, 300]
theorem zB126 {T : List zK} {d : Nat} {K : Option Value → zH → Prop} {a0 : Nat} {ci : Nat} {a1 : Nat} {q1 : Nat} {t1 : Nat} {m1 : Nat} {p2 : Int32} {p3 : Int32} {a4 : Nat} {M0 : zH} (w0 : 4 ≤ ci ∧ ci ≤ 11) (k0 : T[a0]? = some (.inl (ci, 0, 0, 0, 0))) (k1 : T[a1]? = some (.inl (3, q1, t1, m1, 5))) (u2 : 0 ≤ p2.toInt ∧ p2.toInt ≤ 4) (k4 : T[a4]? = some (.inr (300, 0, 16380, (-2147483648), 2147483647))) (kk : ∀ (x : Int32) (M1 : zH), z_X T zw126 M0 M1 → 0 ≤ x.toInt → x.toInt ≤ 1 → K (some (.int x)) M1) : ∀ n : Nat, (∀ (M : zH) (b5 : Int32) (b6 : Int32) (b7 : Int32) (b8 : Int32) (b9 : Int32) (b10 : Int32) (b11 : Int32) (o12 : Option Value), z_X T zw126 M0 M → 0 ≤ b5.toInt ∧ b5.toInt ≤ 1023 → 0 ≤ b6.toInt ∧ b6.toInt ≤ 1048575 → 0 ≤ b7.toInt ∧ b7.toInt ≤ 63 → 0 ≤ b8.toInt ∧ b8.toInt ≤ 4 → 0 ≤ b10.toInt ∧ b10.toInt ≤ 1 → 0 ≤ b11.toInt ∧ b11.toInt ≤ 1024 → b5.toInt < ((m1 : Nat) : Int) → ((((0) * 3 + 1) * 1025 + (1024 - b11.toInt)) * 3 + 2) * 5 + (0) < (n : Int) → z_ev (d + 5) 126 66 [some (.ref a0), some (.ref a1), some (.int p2), some (.int p3), some (.ref a4), some (.int b5), some (.int b6), some (.int b7), some (.int b8), some (.int b9), some (.int b10), some (.int b11), o12] [] M K) ∧ (∀ (M : zH) (b5 : Int32) (b6 : Int32) (b7 : Int32) (b8 : Int32) (b9 : Int32) (b10 : Int32) (b11 : Int32) (o12 : Option Value), z_X T zw126 M0 M → 0 ≤ b5.toInt ∧ b5.toInt ≤ 1023 → 0 ≤ b6.toInt ∧ b6.toInt ≤ 1048575 → 0 ≤ b7.toInt ∧ b7.toInt ≤ 63 → 0 ≤ b8.toInt ∧ b8.toInt ≤ 4 → 0 ≤ b10.toInt ∧ b10.toInt ≤ 0 → 0 ≤ b11.toInt ∧ b11.toInt ≤ 1023 → b5.toInt < ((m1 : Nat) : Int) → b11.toInt < ((m1 : Nat) : Int) → ((((0) * 3 + 1) * 1025 + (1024 - b11.toInt)) * 3 + 0) * 5 + (4 - b8.toInt) < (n : Int) → z_ev (d + 5) 126 84 [some (.ref a0), some (.ref a1), some (.int p2), some (.int p3), some (.ref a4), some (.int b5), some (.int b6), some (.int b7), some (.int b8), some (.int b9), some (.int b10), some (.int b11), o12] [] M K) := by
  intro n
  induction n with
  | zero => exact ⟨(by intros; exfalso; omega), (by intros; exfalso; omega)⟩
  | succ n ih =>
    refine ⟨?_, ?_⟩
    · skip
      intro M b5 b6 b7 b8 b9 b10 b11 o12 X hh0 hh1 hh2 hh3 hh4 hh5 hh6 hE
      have g1 := X.1.p3 k1
      refine z_xP zt126 24 69 [some (.ref a0), some (.ref a1), some (.int p2), some (.int p3), some (.ref a4), some (.int b5), some (.int b6), some (.int b7), some (.int b8), some (.int b9), some (.int b10), some (.int b11), o12] [.ref a1, .int b11] rfl rfl ?_
      refine z_xgR (κ := .inl (2, q1, t1, m1, 0)) zt126 25 rfl zo126 zzf4_50 X k1 (by decide) (by decide) rfl (fun (a2 : Nat) h1 k3 => ?_)
      have g4 := X.1.p2 k3
      refine z_xgR (κ := .inr (102, 0, m1, 0, 1023)) zt126 26 rfl zo126 zzf4_82 X k3 (by decide) (by decide) rfl (fun (a6 : Nat) h5 k7 => ?_)
      refine z_xln zt126 27 rfl X k7 (by decide) (by omega) (fun (x8 : Int32) (h9 : x8.toInt = ((m1 : Nat) : Int)) => ?_)
      refine z_xJ zt126 28 rfl rfl (fun (h10 : x8.toInt ≤ b11.toInt) => ?_) (fun (h10 : b11.toInt < x8.toInt) => ?_)
      · skip
        refine z_xP zt126 73 194 [some (.ref a0), some (.ref a1), some (.int p2), some (.int p3), some (.ref a4), some (.int b5), some (.int b6), some (.int b7), some (.int b8), some (.int b9), some (.int b10), some (.int b11), o12] [.ref a1] rfl rfl ?_
        refine z_xgR (κ := .inr (210, 0, 5, 0, ((m1 : Nat) : Int) - 1)) zt126 74 rfl zo126 zzf4_115 X k1 (by decide) (by decide) rfl (fun (a12 : Nat) h11 k13 => ?_)
        refine z_xP zt126 75 200 [some (.ref a0), some (.ref a1), some (.int p2), some (.int p3), some (.ref a4), some (.int b5), some (.int b6), some (.int b7), some (.int b8), some (.int b9), some (.int b10), some (.int b11), o12] [.int b5, .int p2, .ref a12] rfl rfl ?_
        refine z_xis zt126 76 rfl X k13 (by decide) (X.1.g4 k13 (by decide)) (by omega) (by omega) (by omega) (by omega) (by decide) (fun M14 X15 e16 h17 => ?_)
        refine z_xP zt126 77 203 [some (.ref a0), some (.ref a1), some (.int p2), some (.int p3), some (.ref a4), some (.int b5), some (.int b6), some (.int b7), some (.int b8), some (.int b9), some (.int b10), some (.int b11), o12] [.int b10] rfl rfl ?_
        exact z_xrz zt126 78 rfl zzr126 (by omega) (by omega) (kk b10 M14 X15 (by omega) (by omega))
      refine z_xP zt126 29 81 [some (.ref a0), some (.ref a1), some (.int p2), some (.int p3), some (.ref a4), some (.int b5), some (.int b6), some (.int b7), some (.int b8), some (.int b9), some (.int b10), some (.int b11), o12] [.int b10] rfl rfl ?_
      refine z_xZ zt126 30 rfl rfl (fun (h18 : b10.toInt ≠ 0) => ?_) (fun (h18 : b10.toInt = 0) => ?_)
      · skip
        refine z_xP zt126 73 194 [some (.ref a0), some (.ref a1), some (.int p2), some (.int p3), some (.ref a4), some (.int b5), some (.int b6), some (.int b7), some (.int b8), some (.int b9), some (.int b10), some (.int b11), o12] [.ref a1] rfl rfl ?_
        refine z_xgR (κ := .inr (210, 0, 5, 0, ((m1 : Nat) : Int) - 1)) zt126 74 rfl zo126 zzf4_115 X k1 (by decide) (by decide) rfl (fun (a20 : Nat) h19 k21 => ?_)
        refine z_xP zt126 75 200 [some (.ref a0), some (.ref a1), some (.int p2), some (.int p3), some (.ref a4), some (.int b5), some (.int b6), some (.int b7), some (.int b8), some (.int b9), some (.int b10), some (.int b11), o12] [.int b5, .int p2, .ref a20] rfl rfl ?_
        refine z_xis zt126 76 rfl X k21 (by decide) (X.1.g4 k21 (by decide)) (by omega) (by omega) (by omega) (by omega) (by decide) (fun M22 X23 e24 h25 => ?_)
        refine z_xP zt126 77 203 [some (.ref a0), some (.ref a1), some (.int p2), some (.int p3), some (.ref a4), some (.int b5), some (.int b6), some (.int b7), some (.int b8), some (.int b9), some (.int b10), some (.int b11), o12] [.int b10] rfl rfl ?_
        exact z_xrz zt126 78 rfl zzr126 (by omega) (by omega) (kk b10 M22 X23 (by omega) (by omega))
      exact ih.2 M b5 b6 b7 b8 b9 b10 b11 (o12) X ⟨by omega, by omega⟩ ⟨by omega, by omega⟩ ⟨by omega, by omega⟩ ⟨by omega, by omega⟩ ⟨by omega, by omega⟩ ⟨by omega, by omega⟩ (by omega) (by omega) (by omega)
    · skip
      intro M b5 b6 b7 b8 b9 b10 b11 o12 X hh0 hh1 hh2 hh3 hh4 hh5 hh6 hh7 hE
      have g1 := X.1.p3 k1
      refine z_xP zt126 31 87 [some (.ref a0), some (.ref a1), some (.int p2), some (.int p3), some (.ref a4), some (.int b5), some (.int b6), some (.int b7), some (.int b8), some (.int b9), some (.int b10), some (.int b11), o12] [.ref a1, .int b8] rfl rfl ?_
      refine z_xgI zt126 32 rfl zo126 zzf4_108 X k1 (by decide) (by decide) rfl (fun (x2 : Int32) h1 (h3 : 0 ≤ x2.toInt) (h4 : x2.toInt ≤ (5 : Int)) => ?_)
      refine z_xP zt126 33 91 [some (.ref a0), some (.ref a1), some (.int p2), some (.int p3), some (.ref a4), some (.int b5), some (.int b6), some (.int b7), some (.int b8), some (.int b9), some (.int b10), some (.int b11), o12] [.int 1, .int x2, .int b8] rfl rfl ?_
      refine z_xI zt126 34 rfl rfl (fun (x5 : Int32) (h6 : x5.toInt = x2.toInt - 1) => ?_) (z_pSub rfl rfl (by omega) (by omega))
      refine z_xJ zt126 35 rfl rfl (fun (h7 : x5.toInt ≤ b8.toInt) => ?_) (fun (h7 : b8.toInt < x5.toInt) => ?_)
      · skip
        refine z_xP zt126 51 136 [some (.ref a0), some (.ref a1), some (.int p2), some (.int p3), some (.ref a4), some (.int b5), some (.int b6), some (.int b7), some (.int b8), some (.int b9), some (.int b10), some (.int b11), o12] [.ref a1] rfl rfl ?_
        refine z_xgR (κ := .inr (210, 0, 5, 0, ((m1 : Nat) : Int) - 1)) zt126 52 rfl zo126 zzf4_115 X k1 (by decide) (by decide) rfl (fun (a9 : Nat) h8 k10 => ?_)
        refine z_xP zt126 53 142 [some (.ref a0), some (.ref a1), some (.int p2), some (.int p3), some (.ref a4), some (.int b5), some (.int b6), some (.int b7), some (.int b8), some (.int b9), some (.int b10), some (.int b11), o12] [.int b11, .int p2, .ref a9] rfl rfl ?_
        refine z_xis zt126 54 rfl X k10 (by decide) (X.1.g4 k10 (by decide)) (by omega) (by omega) (by omega) (by omega) (by decide) (fun M11 X12 e13 h14 => ?_)
        refine z_xP zt126 55 151 [some (.ref a0), some (.ref a1), some (.int p2), some (.int p3), some (.ref a4), some (.int b5), some (.int b6), some (.int b7), some (.int b8), some (.int b9), some (.int b10), some (.int b11), o12] [.int b8, .int b11, .int b9, .ref a1, .ref a0] rfl rfl ?_
        refine z_xI zt126 56 rfl rfl (fun (x15 : Int32) (h16 : x15.toInt = b11.toInt + b8.toInt) => ?_) (z_pAdd rfl rfl (by omega) (by omega))
        refine z_xP zt126 57 155 [some (.ref a0), some (.ref a1), some (.int p2), some (.int p3), some (.ref a4), some (.int b5), some (.int b6), some (.int b7), some (.int b8), some (.int b9), some (.int b10), some (.int b11), o12] [.int 1, .int b8, .int x15, .int b9, .ref a1, .ref a0] rfl rfl ?_
        refine z_xI zt126 58 rfl rfl (fun (x17 : Int32) (h18 : x17.toInt = b8.toInt + 1) => ?_) (z_pAdd rfl rfl (by omega) (by omega))
        refine z_xcS (vs := [.int x15, .int x17]) (r := [.int b9, .ref a1, .ref a0]) (L2 := [some (.int x15), some (.int x17)]) zt126 59 rfl zo126 zzcS4_125 (Or.inr rfl) (Nat.le_of_ble_eq_true rfl) rfl rfl (Nat.le_of_ble_eq_true rfl) zzm105 (Nat.le_of_ble_eq_true rfl) rfl ?_
        refine z_xP zt105 0 1 [some (.int x15), some (.int x17)] [.int x15] rfl rfl ?_
        refine z_xZ zt105 1 rfl rfl (fun (h19 : x15.toInt < 0) => absurd h19 (by omega)) (fun (h19 : 0 ≤ x15.toInt) => ?_)
        refine z_xP zt105 2 5 [some (.int x15), some (.int x17)] [.int x17] rfl rfl ?_
        refine z_xZ zt105 3 rfl rfl (fun (h20 : x17.toInt < 0) => absurd h20 (by omega)) (fun (h20 : 0 ≤ x17.toInt) => ?_)
        refine z_xP zt105 4 10 [some (.int x15), some (.int x17)] [.int 5, .int x17] rfl rfl ?_
        refine z_xJ zt105 5 rfl rfl (fun (h21 : 5 < x17.toInt) => absurd h21 (by omega)) (fun (h21 : x17.toInt ≤ 5) => ?_)
        refine z_xP zt105 6 16 [some (.int x15), some (.int x17)] [.int x15, .int 6] rfl rfl ?_
        refine z_xI zt105 7 rfl rfl (fun (x22 : Int32) (h23 : x22.toInt = 6 * x15.toInt) => ?_) (z_pMul rfl rfl (by omega) (by omega))
        refine z_xP zt105 8 18 [some (.int x15), some (.int x17)] [.int x17, .int x22] rfl rfl ?_
        refine z_xI zt105 9 rfl rfl (fun (x24 : Int32) (h25 : x24.toInt = x22.toInt + x17.toInt) => ?_) (z_pAdd rfl rfl (by omega) (by omega))
        refine z_xgs zt105 10 rfl zo105 zg0_340 ?_
        have f1 : T[1]? = some (.inr (1, 0, 102, 0, 4368)) := X12.1.k rfl (by decide)
        refine z_xln zt105 11 rfl X12 f1 (by decide) (by decide) (fun (x26 : Int32) (h27 : x26.toInt = ((102 : Nat) : Int)) => ?_)
        refine z_xJ zt105 12 rfl rfl (fun (h28 : x24.toInt < x26.toInt) => ?_) (fun (h28 : x26.toInt ≤ x24.toInt) => ?_)
        · skip
          refine z_xgs zt105 15 rfl zo105 zg0_340 ?_
          refine z_xP zt105 16 34 [some (.int x15), some (.int x17)] [.int x15, .int 6, .ref 1] rfl rfl ?_
          refine z_xI zt105 17 rfl rfl (fun (x29 : Int32) (h30 : x29.toInt = 6 * x15.toInt) => ?_) (z_pMul rfl rfl (by omega) (by omega))
          refine z_xP zt105 18 36 [some (.int x15), some (.int x17)] [.int x17, .int x29, .ref 1] rfl rfl ?_
          refine z_xI zt105 19 rfl rfl (fun (x31 : Int32) (h32 : x31.toInt = x29.toInt + x17.toInt) => ?_) (z_pAdd rfl rfl (by omega) (by omega))
          refine z_xil zt105 20 rfl X12 f1 (by decide) (by omega) (by omega) (fun (x33 : Int32) h34 (h35 : 0 ≤ x33.toInt) (h36 : x33.toInt ≤ 4368) => ?_)
          refine z_xri zt105 21 rfl zzr105 ?_
          show z_ev (d + 5) 126 159 [some (.ref a0), some (.ref a1), some (.int p2), some (.int p3), some (.ref a4), some (.int b5), some (.int b6), some (.int b7), some (.int b8), some (.int b9), some (.int b10), some (.int b11), o12] [.int x33, .int b9, .ref a1, .ref a0] M11 _
          have h37 := z_b32 b9
          refine z_xI zt126 60 rfl rfl (P := fun _ => True) (fun (x38 : Int32) _ => ?_) trivial
          refine z_xP zt126 61 162 [some (.ref a0), some (.ref a1), some (.int p2), some (.int p3), some (.ref a4), some (.int b5), some (.int b6), some (.int b7), some (.int b8), some (.int b9), some (.int b10), some (.int b11), o12] [.ref a4, .int x38, .ref a1, .ref a0] rfl rfl ?_
          refine z_xcV (vs := [.ref a0, .ref a1, .int x38, .ref a4]) (r := []) (L2 := [some (.ref a0), some (.ref a1), some (.int x38), some (.ref a4), none]) zt126 62 rfl zo126 zzcV4_104 (Or.inr rfl) rfl X12 k0 (z_w8 (fun c => (([(4, 122), (5, 122), (6, 122), (7, 122), (8, 122), (9, 122), (10, 122), (11, 122)] : List (Nat × Nat)).find? fun t => t.1 == c) = some (c, 122)) rfl rfl rfl rfl rfl rfl rfl rfl w0) rfl rfl (Nat.le_of_ble_eq_true rfl) zzm122 (Nat.le_of_ble_eq_true rfl) rfl ?_
          refine z_xP zt122 0 3 [some (.ref a0), some (.ref a1), some (.int x38), some (.ref a4), none] [.int x38, .ref a1, .ref a0] rfl rfl ?_
          refine zVplaceOf zt122 1 rfl zo122 zzcV4_128 X12 k0 w0 (Nat.le_of_ble_eq_true rfl) k1 (fun x42 M40 X41  => ?_)
          have X43 := X12.go X41 (z_sb (by decide))
          show z_ev (d + 4) 122 6 [some (.ref a0), some (.ref a1), some (.int x38), some (.ref a4), none] [.int x42] M40 _
          refine z_xP zt122 2 10 [some (.ref a0), some (.ref a1), some (.int x38), some (.ref a4), some (.int x42)] [.int x42] rfl rfl ?_
          refine z_xZ zt122 3 rfl rfl (fun (h45 : x42.toInt < 0) => ?_) (fun (h45 : 0 ≤ x42.toInt) => ?_)
          · skip
            refine z_xP zt122 7 21 [some (.ref a0), some (.ref a1), some (.int x38), some (.ref a4), some (.int x42)] [.ref a1] rfl rfl ?_
            refine z_xcV (vs := [.ref a1]) (r := []) (L2 := [some (.ref a1), none, none]) zt122 8 rfl zo122 zzcV4_132 (Or.inl rfl) rfl X43 k1 rfl rfl rfl (Nat.le_of_ble_eq_true rfl) zzm111 (Nat.le_of_ble_eq_true rfl) rfl ?_
            refine zC111 X43.1 k1 (fun M46 X47  => ?_)
            have X48 := X43.go X47 (z_sb (by decide))
            show z_ev (d + 4) 122 24 [some (.ref a0), some (.ref a1), some (.int x38), some (.ref a4), some (.int x42)] [] M46 _
            refine z_xP zt122 9 26 [some (.ref a0), some (.ref a1), some (.int x38), some (.ref a4), some (.int x42)] [.ref a1, .ref a0] rfl rfl ?_
            refine zVdecide zt122 10 rfl zo122 zzcV4_54 X48 k0 w0 (Nat.le_of_ble_eq_true rfl) k1 (fun x52 M50 X51  => ?_)
            have X53 := X48.go X51 (z_sb (by decide))
            show z_ev (d + 4) 122 29 [some (.ref a0), some (.ref a1), some (.int x38), some (.ref a4), some (.int x42)] [.int x52] M50 _
            refine z_xri zt122 11 rfl zzr122 ?_
            show z_ev (d + 5) 126 165 [some (.ref a0), some (.ref a1), some (.int p2), some (.int p3), some (.ref a4), some (.int b5), some (.int b6), some (.int b7), some (.int b8), some (.int b9), some (.int b10), some (.int b11), o12] [.int x52] M50 _
            refine z_xP zt126 63 171 [some (.ref a0), some (.ref a1), some (.int p2), some (.int p3), some (.ref a4), some (.int b5), some (.int b6), some (.int b7), some (.int b8), some (.int b9), some (.int b10), some (.int b11), some (.int x52)] [.int b6, .int x52] rfl rfl ?_
            refine z_xI zt126 64 rfl rfl (fun (x55 : Int32) (h56 : 0 ≤ x55.toInt ∧ x55.toInt ≤ b6.toInt) => ?_) (z_pAnd rfl (by omega))
            refine z_xcS (vs := [.int x55]) (r := []) (L2 := [some (.int x55)]) zt126 65 rfl zo126 zzcS4_77 (Or.inl rfl) (Nat.le_of_ble_eq_true rfl) rfl rfl (Nat.le_of_ble_eq_true rfl) zzm31 (Nat.le_of_ble_eq_true rfl) rfl ?_
            refine zC31 X53.1 (fun x59 M57 X58 h60 h61 => ?_)
            have X62 := X53.go X58 (z_sb (by decide))
            show z_ev (d + 5) 126 175 [some (.ref a0), some (.ref a1), some (.int p2), some (.int p3), some (.ref a4), some (.int b5), some (.int b6), some (.int b7), some (.int b8), some (.int b9), some (.int b10), some (.int b11), some (.int x52)] [.int x59] M57 _
            refine z_xP zt126 66 177 [some (.ref a0), some (.ref a1), some (.int p2), some (.int p3), some (.ref a4), some (.int b5), some (.int b6), some (.int b7), some (.int b8), some (.int b9), some (.int b10), some (.int b11), some (.int x52)] [.int b7, .int x59] rfl rfl ?_
            refine z_xJ zt126 67 rfl rfl (fun (h64 : x59.toInt ≤ b7.toInt) => ?_) (fun (h64 : b7.toInt < x59.toInt) => ?_)
            · skip
              refine z_xP zt126 69 185 [some (.ref a0), some (.ref a1), some (.int p2), some (.int p3), some (.ref a4), some (.int b5), some (.int b6), some (.int b7), some (.int b8), some (.int b9), some (.int b10), some (.int b11), some (.int x52)] [.int 0] rfl rfl ?_
              refine z_xP zt126 70 187 [some (.ref a0), some (.ref a1), some (.int p2), some (.int p3), some (.ref a4), some (.int b5), some (.int b6), some (.int b7), some (.int b8), some (.int b9), some (.int 0), some (.int b11), some (.int x52)] [] rfl rfl ?_
              refine z_xN zt126 71 rfl rfl (fun (x65 : Int32) (h66 : x65.toInt = b11.toInt + 1) => ?_) (z_pAdd rfl rfl (by omega) (by omega))
              show z_ev (d + 5) 126 190 [some (.ref a0), some (.ref a1), some (.int p2), some (.int p3), some (.ref a4), some (.int b5), some (.int b6), some (.int b7), some (.int b8), some (.int b9), some (.int 0), some (.int x65), some (.int x52)] [] M57 _
              refine z_xP zt126 72 66 [some (.ref a0), some (.ref a1), some (.int p2), some (.int p3), some (.ref a4), some (.int b5), some (.int b6), some (.int b7), some (.int b8), some (.int b9), some (.int 0), some (.int x65), some (.int x52)] [] rfl rfl ?_
              have q0 : ((0 : Int32)).toInt = 0 := rfl
              exact ih.1 M57 b5 b6 b7 b8 b9 (0) x65 (some (.int x52)) X62 ⟨by omega, by omega⟩ ⟨by omega, by omega⟩ ⟨by omega, by omega⟩ ⟨by omega, by omega⟩ (by decide) ⟨by omega, by omega⟩ (by omega) (by omega)
            refine z_xP zt126 68 185 [some (.ref a0), some (.ref a1), some (.int p2), some (.int p3), some (.ref a4), some (.int b5), some (.int b6), some (.int b7), some (.int b8), some (.int b9), some (.int b10), some (.int b11), some (.int x52)] [.int 1] rfl rfl ?_
            refine z_xP zt126 70 187 [some (.ref a0), some (.ref a1), some (.int p2), some (.int p3), some (.ref a4), some (.int b5), some (.int b6), some (.int b7), some (.int b8), some (.int b9), some (.int 1), some (.int b11), some (.int x52)] [] rfl rfl ?_
            refine z_xN zt126 71 rfl rfl (fun (x67 : Int32) (h68 : x67.toInt = b11.toInt + 1) => ?_) (z_pAdd rfl rfl (by omega) (by omega))
            show z_ev (d + 5) 126 190 [some (.ref a0), some (.ref a1), some (.int p2), some (.int p3), some (.ref a4), some (.int b5), some (.int b6), some (.int b7), some (.int b8), some (.int b9), some (.int 1), some (.int x67), some (.int x52)] [] M57 _
            refine z_xP zt126 72 66 [some (.ref a0), some (.ref a1), some (.int p2), some (.int p3), some (.ref a4), some (.int b5), some (.int b6), some (.int b7), some (.int b8), some (.int b9), some (.int 1), some (.int x67), some (.int x52)] [] rfl rfl ?_
            have q1 : ((1 : Int32)).toInt = 1 := rfl
            exact ih.1 M57 b5 b6 b7 b8 b9 (1) x67 (some (.int x52)) X62 ⟨by omega, by omega⟩ ⟨by omega, by omega⟩ ⟨by omega, by omega⟩ ⟨by omega, by omega⟩ (by decide) ⟨by omega, by omega⟩ (by omega) (by omega)
          refine z_xP zt122 4 16 [some (.ref a0), some (.ref a1), some (.int x38), some (.ref a4), some (.int x42)] [.ref a4, .int x42] rfl rfl ?_
          refine z_xln zt122 5 rfl X43 k4 (by decide) (by decide) (fun (x69 : Int32) (h70 : x69.toInt = ((16380 : Nat) : Int)) => ?_)
          have h71 := z_b32 x42
          refine z_xJ zt122 6 rfl rfl (fun (h72 : x42.toInt < x69.toInt) => ?_) (fun (h72 : x69.toInt ≤ x42.toInt) => ?_)
          · skip
            refine z_xP zt122 12 33 [some (.ref a0), some (.ref a1), some (.int x38), some (.ref a4), some (.int x42)] [.int x42, .ref a4] rfl rfl ?_
            refine z_xil zt122 13 rfl X43 k4 (by decide) (by omega) (by omega) (fun (x73 : Int32) h74 (h75 : (-2147483648) ≤ x73.toInt) (h76 : x73.toInt ≤ 2147483647) => ?_)
            refine z_xZ zt122 14 rfl rfl (fun (h77 : 0 ≤ x73.toInt) => ?_) (fun (h77 : x73.toInt < 0) => ?_)
            · skip
              refine z_xP zt122 20 53 [some (.ref a0), some (.ref a1), some (.int x38), some (.ref a4), some (.int x42)] [.int x42, .ref a4] rfl rfl ?_
              refine z_xil zt122 21 rfl X43 k4 (by decide) (by omega) (by omega) (fun (x78 : Int32) h79 (h80 : (-2147483648) ≤ x78.toInt) (h81 : x78.toInt ≤ 2147483647) => ?_)
              have h82 := congrArg Int32.toInt (h79.symm.trans h74)
              refine z_xri zt122 22 rfl zzr122 ?_
              show z_ev (d + 5) 126 165 [some (.ref a0), some (.ref a1), some (.int p2), some (.int p3), some (.ref a4), some (.int b5), some (.int b6), some (.int b7), some (.int b8), some (.int b9), some (.int b10), some (.int b11), o12] [.int x78] M40 _
              refine z_xP zt126 63 171 [some (.ref a0), some (.ref a1), some (.int p2), some (.int p3), some (.ref a4), some (.int b5), some (.int b6), some (.int b7), some (.int b8), some (.int b9), some (.int b10), some (.int b11), some (.int x78)] [.int b6, .int x78] rfl rfl ?_
              refine z_xI zt126 64 rfl rfl (fun (x83 : Int32) (h84 : 0 ≤ x83.toInt ∧ x83.toInt ≤ x78.toInt ∧ x83.toInt ≤ b6.toInt) => ?_) (z_pAnd2 rfl rfl (by omega) (by omega))
              refine z_xcS (vs := [.int x83]) (r := []) (L2 := [some (.int x83)]) zt126 65 rfl zo126 zzcS4_77 (Or.inl rfl) (Nat.le_of_ble_eq_true rfl) rfl rfl (Nat.le_of_ble_eq_true rfl) zzm31 (Nat.le_of_ble_eq_true rfl) rfl ?_
              refine zC31 X43.1 (fun x87 M85 X86 h88 h89 => ?_)
              have X90 := X43.go X86 (z_sb (by decide))
              show z_ev (d + 5) 126 175 [some (.ref a0), some (.ref a1), some (.int p2), some (.int p3), some (.ref a4), some (.int b5), some (.int b6), some (.int b7), some (.int b8), some (.int b9), some (.int b10), some (.int b11), some (.int x78)] [.int x87] M85 _
              refine z_xP zt126 66 177 [some (.ref a0), some (.ref a1), some (.int p2), some (.int p3), some (.ref a4), some (.int b5), some (.int b6), some (.int b7), some (.int b8), some (.int b9), some (.int b10), some (.int b11), some (.int x78)] [.int b7, .int x87] rfl rfl ?_
              refine z_xJ zt126 67 rfl rfl (fun (h92 : x87.toInt ≤ b7.toInt) => ?_) (fun (h92 : b7.toInt < x87.toInt) => ?_)
              · skip
                refine z_xP zt126 69 185 [some (.ref a0), some (.ref a1), some (.int p2), some (.int p3), some (.ref a4), some (.int b5), some (.int b6), some (.int b7), some (.int b8), some (.int b9), some (.int b10), some (.int b11), some (.int x78)] [.int 0] rfl rfl ?_
                refine z_xP zt126 70 187 [some (.ref a0), some (.ref a1), some (.int p2), some (.int p3), some (.ref a4), some (.int b5), some (.int b6), some (.int b7), some (.int b8), some (.int b9), some (.int 0), some (.int b11), some (.int x78)] [] rfl rfl ?_
                refine z_xN zt126 71 rfl rfl (fun (x93 : Int32) (h94 : x93.toInt = b11.toInt + 1) => ?_) (z_pAdd rfl rfl (by omega) (by omega))
                show z_ev (d + 5) 126 190 [some (.ref a0), some (.ref a1), some (.int p2), some (.int p3), some (.ref a4), some (.int b5), some (.int b6), some (.int b7), some (.int b8), some (.int b9), some (.int 0), some (.int x93), some (.int x78)] [] M85 _
                refine z_xP zt126 72 66 [some (.ref a0), some (.ref a1), some (.int p2), some (.int p3), some (.ref a4), some (.int b5), some (.int b6), some (.int b7), some (.int b8), some (.int b9), some (.int 0), some (.int x93), some (.int x78)] [] rfl rfl ?_
                have q0 : ((0 : Int32)).toInt = 0 := rfl
                exact ih.1 M85 b5 b6 b7 b8 b9 (0) x93 (some (.int x78)) X90 ⟨by omega, by omega⟩ ⟨by omega, by omega⟩ ⟨by omega, by omega⟩ ⟨by omega, by omega⟩ (by decide) ⟨by omega, by omega⟩ (by omega) (by omega)
              refine z_xP zt126 68 185 [some (.ref a0), some (.ref a1), some (.int p2), some (.int p3), some (.ref a4), some (.int b5), some (.int b6), some (.int b7), some (.int b8), some (.int b9), some (.int b10), some (.int b11), some (.int x78)] [.int 1] rfl rfl ?_
              refine z_xP zt126 70 187 [some (.ref a0), some (.ref a1), some (.int p2), some (.int p3), some (.ref a4), some (.int b5), some (.int b6), some (.int b7), some (.int b8), some (.int b9), some (.int 1), some (.int b11), some (.int x78)] [] rfl rfl ?_
              refine z_xN zt126 71 rfl rfl (fun (x95 : Int32) (h96 : x95.toInt = b11.toInt + 1) => ?_) (z_pAdd rfl rfl (by omega) (by omega))
              show z_ev (d + 5) 126 190 [some (.ref a0), some (.ref a1), some (.int p2), some (.int p3), some (.ref a4), some (.int b5), some (.int b6), some (.int b7), some (.int b8), some (.int b9), some (.int 1), some (.int x95), some (.int x78)] [] M85 _
              refine z_xP zt126 72 66 [some (.ref a0), some (.ref a1), some (.int p2), some (.int p3), some (.ref a4), some (.int b5), some (.int b6), some (.int b7), some (.int b8), some (.int b9), some (.int 1), some (.int x95), some (.int x78)] [] rfl rfl ?_
              have q1 : ((1 : Int32)).toInt = 1 := rfl
              exact ih.1 M85 b5 b6 b7 b8 b9 (1) x95 (some (.int x78)) X90 ⟨by omega, by omega⟩ ⟨by omega, by omega⟩ ⟨by omega, by omega⟩ ⟨by omega, by omega⟩ (by decide) ⟨by omega, by omega⟩ (by omega) (by omega)
            refine z_xP zt122 15 38 [some (.ref a0), some (.ref a1), some (.int x38), some (.ref a4), some (.int x42)] [.ref a1] rfl rfl ?_
            refine z_xcV (vs := [.ref a1]) (r := []) (L2 := [some (.ref a1), none, none]) zt122 16 rfl zo122 zzcV4_132 (Or.inl rfl) rfl X43 k1 rfl rfl rfl (Nat.le_of_ble_eq_true rfl) zzm111 (Nat.le_of_ble_eq_true rfl) rfl ?_
            refine zC111 X43.1 k1 (fun M97 X98  => ?_)
            have X99 := X43.go X98 (z_sb (by decide))
            show z_ev (d + 4) 122 41 [some (.ref a0), some (.ref a1), some (.int x38), some (.ref a4), some (.int x42)] [] M97 _
            refine z_xP zt122 17 46 [some (.ref a0), some (.ref a1), some (.int x38), some (.ref a4), some (.int x42)] [.ref a1, .ref a0, .int x42, .ref a4] rfl rfl ?_
            refine zVdecide zt122 18 rfl zo122 zzcV4_54 X99 k0 w0 (Nat.le_of_ble_eq_true rfl) k1 (fun x103 M101 X102  => ?_)
            have X104 := X99.go X102 (z_sb (by decide))
            show z_ev (d + 4) 122 49 [some (.ref a0), some (.ref a1), some (.int x38), some (.ref a4), some (.int x42)] [.int x103, .int x42, .ref a4] M101 _
            refine z_xis zt122 19 rfl X104 k4 (by decide) (X104.1.g4 k4 (by decide)) (by omega) (by omega) (Int32.le_toInt _) (Int32.toInt_le _) (by decide) (fun M106 X107 e108 h109 => ?_)
            refine z_xP zt122 20 53 [some (.ref a0), some (.ref a1), some (.int x38), some (.ref a4), some (.int x42)] [.int x42, .ref a4] rfl rfl ?_
            refine z_xil zt122 21 rfl X107 k4 (by decide) (by omega) (by omega) (fun (x110 : Int32) h111 (h112 : (-2147483648) ≤ x110.toInt) (h113 : x110.toInt ≤ 2147483647) => ?_)
            have h114 := congrArg Int32.toInt (h111.symm.trans (z_upe h109))
            refine z_xri zt122 22 rfl zzr122 ?_
            show z_ev (d + 5) 126 165 [some (.ref a0), some (.ref a1), some (.int p2), some (.int p3), some (.ref a4), some (.int b5), some (.int b6), some (.int b7), some (.int b8), some (.int b9), some (.int b10), some (.int b11), o12] [.int x110] M106 _
            refine z_xP zt126 63 171 [some (.ref a0), some (.ref a1), some (.int p2), some (.int p3), some (.ref a4), some (.int b5), some (.int b6), some (.int b7), some (.int b8), some (.int b9), some (.int b10), some (.int b11), some (.int x110)] [.int b6, .int x110] rfl rfl ?_
            refine z_xI zt126 64 rfl rfl (fun (x115 : Int32) (h116 : 0 ≤ x115.toInt ∧ x115.toInt ≤ b6.toInt) => ?_) (z_pAnd rfl (by omega))
            refine z_xcS (vs := [.int x115]) (r := []) (L2 := [some (.int x115)]) zt126 65 rfl zo126 zzcS4_77 (Or.inl rfl) (Nat.le_of_ble_eq_true rfl) rfl rfl (Nat.le_of_ble_eq_true rfl) zzm31 (Nat.le_of_ble_eq_true rfl) rfl ?_
            refine zC31 X107.1 (fun x119 M117 X118 h120 h121 => ?_)
            have X122 := X107.go X118 (z_sb (by decide))
            show z_ev (d + 5) 126 175 [some (.ref a0), some (.ref a1), some (.int p2), some (.int p3), some (.ref a4), some (.int b5), some (.int b6), some (.int b7), some (.int b8), some (.int b9), some (.int b10), some (.int b11), some (.int x110)] [.int x119] M117 _
            refine z_xP zt126 66 177 [some (.ref a0), some (.ref a1), some (.int p2), some (.int p3), some (.ref a4), some (.int b5), some (.int b6), some (.int b7), some (.int b8), some (.int b9), some (.int b10), some (.int b11), some (.int x110)] [.int b7, .int x119] rfl rfl ?_
            refine z_xJ zt126 67 rfl rfl (fun (h124 : x119.toInt ≤ b7.toInt) => ?_) (fun (h124 : b7.toInt < x119.toInt) => ?_)
            · skip
              refine z_xP zt126 69 185 [some (.ref a0), some (.ref a1), some (.int p2), some (.int p3), some (.ref a4), some (.int b5), some (.int b6), some (.int b7), some (.int b8), some (.int b9), some (.int b10), some (.int b11), some (.int x110)] [.int 0] rfl rfl ?_
              refine z_xP zt126 70 187 [some (.ref a0), some (.ref a1), some (.int p2), some (.int p3), some (.ref a4), some (.int b5), some (.int b6), some (.int b7), some (.int b8), some (.int b9), some (.int 0), some (.int b11), some (.int x110)] [] rfl rfl ?_
              refine z_xN zt126 71 rfl rfl (fun (x125 : Int32) (h126 : x125.toInt = b11.toInt + 1) => ?_) (z_pAdd rfl rfl (by omega) (by omega))
              show z_ev (d + 5) 126 190 [some (.ref a0), some (.ref a1), some (.int p2), some (.int p3), some (.ref a4), some (.int b5), some (.int b6), some (.int b7), some (.int b8), some (.int b9), some (.int 0), some (.int x125), some (.int x110)] [] M117 _
              refine z_xP zt126 72 66 [some (.ref a0), some (.ref a1), some (.int p2), some (.int p3), some (.ref a4), some (.int b5), some (.int b6), some (.int b7), some (.int b8), some (.int b9), some (.int 0), some (.int x125), some (.int x110)] [] rfl rfl ?_
              have q0 : ((0 : Int32)).toInt = 0 := rfl
              exact ih.1 M117 b5 b6 b7 b8 b9 (0) x125 (some (.int x110)) X122 ⟨by omega, by omega⟩ ⟨by omega, by omega⟩ ⟨by omega, by omega⟩ ⟨by omega, by omega⟩ (by decide) ⟨by omega, by omega⟩ (by omega) (by omega)
            refine z_xP zt126 68 185 [some (.ref a0), some (.ref a1), some (.int p2), some (.int p3), some (.ref a4), some (.int b5), some (.int b6), some (.int b7), some (.int b8), some (.int b9), some (.int b10), some (.int b11), some (.int x110)] [.int 1] rfl rfl ?_
            refine z_xP zt126 70 187 [some (.ref a0), some (.ref a1), some (.int p2), some (.int p3), some (.ref a4), some (.int b5), some (.int b6), some (.int b7), some (.int b8), some (.int b9), some (.int 1), some (.int b11), some (.int x110)] [] rfl rfl ?_
            refine z_xN zt126 71 rfl rfl (fun (x127 : Int32) (h128 : x127.toInt = b11.toInt + 1) => ?_) (z_pAdd rfl rfl (by omega) (by omega))
            show z_ev (d + 5) 126 190 [some (.ref a0), some (.ref a1), some (.int p2), some (.int p3), some (.ref a4), some (.int b5), some (.int b6), some (.int b7), some (.int b8), some (.int b9), some (.int 1), some (.int x127), some (.int x110)] [] M117 _
            refine z_xP zt126 72 66 [some (.ref a0), some (.ref a1), some (.int p2), some (.int p3), some (.ref a4), some (.int b5), some (.int b6), some (.int b7), some (.int b8), some (.int b9), some (.int 1), some (.int x127), some (.int x110)] [] rfl rfl ?_
            have q1 : ((1 : Int32)).toInt = 1 := rfl
            exact ih.1 M117 b5 b6 b7 b8 b9 (1) x127 (some (.int x110)) X122 ⟨by omega, by omega⟩ ⟨by omega, by omega⟩ ⟨by omega, by omega⟩ ⟨by omega, by omega⟩ (by decide) ⟨by omega, by omega⟩ (by omega) (by omega)
          refine z_xP zt122 7 21 [some (.ref a0), some (.ref a1), some (.int x38), some (.ref a4), some (.int x42)] [.ref a1] rfl rfl ?_
          refine z_xcV (vs := [.ref a1]) (r := []) (L2 := [some (.ref a1), none, none]) zt122 8 rfl zo122 zzcV4_132 (Or.inl rfl) rfl X43 k1 rfl rfl rfl (Nat.le_of_ble_eq_true rfl) zzm111 (Nat.le_of_ble_eq_true rfl) rfl ?_
          refine zC111 X43.1 k1 (fun M129 X130  => ?_)
          have X131 := X43.go X130 (z_sb (by decide))
          show z_ev (d + 4) 122 24 [some (.ref a0), some (.ref a1), some (.int x38), some (.ref a4), some (.int x42)] [] M129 _
          refine z_xP zt122 9 26 [some (.ref a0), some (.ref a1), some (.int x38), some (.ref a4), some (.int x42)] [.ref a1, .ref a0] rfl rfl ?_
          refine zVdecide zt122 10 rfl zo122 zzcV4_54 X131 k0 w0 (Nat.le_of_ble_eq_true rfl) k1 (fun x135 M133 X134  => ?_)
          have X136 := X131.go X134 (z_sb (by decide))
          show z_ev (d + 4) 122 29 [some (.ref a0), some (.ref a1), some (.int x38), some (.ref a4), some (.int x42)] [.int x135] M133 _
          refine z_xri zt122 11 rfl zzr122 ?_
          show z_ev (d + 5) 126 165 [some (.ref a0), some (.ref a1), some (.int p2), some (.int p3), some (.ref a4), some (.int b5), some (.int b6), some (.int b7), some (.int b8), some (.int b9), some (.int b10), some (.int b11), o12] [.int x135] M133 _
          refine z_xP zt126 63 171 [some (.ref a0), some (.ref a1), some (.int p2), some (.int p3), some (.ref a4), some (.int b5), some (.int b6), some (.int b7), some (.int b8), some (.int b9), some (.int b10), some (.int b11), some (.int x135)] [.int b6, .int x135] rfl rfl ?_
          refine z_xI zt126 64 rfl rfl (fun (x138 : Int32) (h139 : 0 ≤ x138.toInt ∧ x138.toInt ≤ b6.toInt) => ?_) (z_pAnd rfl (by omega))
          refine z_xcS (vs := [.int x138]) (r := []) (L2 := [some (.int x138)]) zt126 65 rfl zo126 zzcS4_77 (Or.inl rfl) (Nat.le_of_ble_eq_true rfl) rfl rfl (Nat.le_of_ble_eq_true rfl) zzm31 (Nat.le_of_ble_eq_true rfl) rfl ?_
          refine zC31 X136.1 (fun x142 M140 X141 h143 h144 => ?_)
          have X145 := X136.go X141 (z_sb (by decide))
          show z_ev (d + 5) 126 175 [some (.ref a0), some (.ref a1), some (.int p2), some (.int p3), some (.ref a4), some (.int b5), some (.int b6), some (.int b7), some (.int b8), some (.int b9), some (.int b10), some (.int b11), some (.int x135)] [.int x142] M140 _
          refine z_xP zt126 66 177 [some (.ref a0), some (.ref a1), some (.int p2), some (.int p3), some (.ref a4), some (.int b5), some (.int b6), some (.int b7), some (.int b8), some (.int b9), some (.int b10), some (.int b11), some (.int x135)] [.int b7, .int x142] rfl rfl ?_
          refine z_xJ zt126 67 rfl rfl (fun (h147 : x142.toInt ≤ b7.toInt) => ?_) (fun (h147 : b7.toInt < x142.toInt) => ?_)
          · skip
            refine z_xP zt126 69 185 [some (.ref a0), some (.ref a1), some (.int p2), some (.int p3), some (.ref a4), some (.int b5), some (.int b6), some (.int b7), some (.int b8), some (.int b9), some (.int b10), some (.int b11), some (.int x135)] [.int 0] rfl rfl ?_
            refine z_xP zt126 70 187 [some (.ref a0), some (.ref a1), some (.int p2), some (.int p3), some (.ref a4), some (.int b5), some (.int b6), some (.int b7), some (.int b8), some (.int b9), some (.int 0), some (.int b11), some (.int x135)] [] rfl rfl ?_
            refine z_xN zt126 71 rfl rfl (fun (x148 : Int32) (h149 : x148.toInt = b11.toInt + 1) => ?_) (z_pAdd rfl rfl (by omega) (by omega))
            show z_ev (d + 5) 126 190 [some (.ref a0), some (.ref a1), some (.int p2), some (.int p3), some (.ref a4), some (.int b5), some (.int b6), some (.int b7), some (.int b8), some (.int b9), some (.int 0), some (.int x148), some (.int x135)] [] M140 _
            refine z_xP zt126 72 66 [some (.ref a0), some (.ref a1), some (.int p2), some (.int p3), some (.ref a4), some (.int b5), some (.int b6), some (.int b7), some (.int b8), some (.int b9), some (.int 0), some (.int x148), some (.int x135)] [] rfl rfl ?_
            have q0 : ((0 : Int32)).toInt = 0 := rfl
            exact ih.1 M140 b5 b6 b7 b8 b9 (0) x148 (some (.int x135)) X145 ⟨by omega, by omega⟩ ⟨by omega, by omega⟩ ⟨by omega, by omega⟩ ⟨by omega, by omega⟩ (by decide) ⟨by omega, by omega⟩ (by omega) (by omega)
          refine z_xP zt126 68 185 [some (.ref a0), some (.ref a1), some (.int p2), some (.int p3), some (.ref a4), some (.int b5), some (.int b6), some (.int b7), some (.int b8), some (.int b9), some (.int b10), some (.int b11), some (.int x135)] [.int 1] rfl rfl ?_
          refine z_xP zt126 70 187 [some (.ref a0), some (.ref a1), some (.int p2), some (.int p3), some (.ref a4), some (.int b5), some (.int b6), some (.int b7), some (.int b8), some (.int b9), some (.int 1), some (.int b11), some (.int x135)] [] rfl rfl ?_
          refine z_xN zt126 71 rfl rfl (fun (x150 : Int32) (h151 : x150.toInt = b11.toInt + 1) => ?_) (z_pAdd rfl rfl (by omega) (by omega))
          show z_ev (d + 5) 126 190 [some (.ref a0), some (.ref a1), some (.int p2), some (.int p3), some (.ref a4), some (.int b5), some (.int b6), some (.int b7), some (.int b8), some (.int b9), some (.int 1), some (.int x150), some (.int x135)] [] M140 _
          refine z_xP zt126 72 66 [some (.ref a0), some (.ref a1), some (.int p2), some (.int p3), some (.ref a4), some (.int b5), some (.int b6), some (.int b7), some (.int b8), some (.int b9), some (.int 1), some (.int x150), some (.int x135)] [] rfl rfl ?_
          have q1 : ((1 : Int32)).toInt = 1 := rfl
          exact ih.1 M140 b5 b6 b7 b8 b9 (1) x150 (some (.int x135)) X145 ⟨by omega, by omega⟩ ⟨by omega, by omega⟩ ⟨by omega, by omega⟩ ⟨by omega, by omega⟩ (by decide) ⟨by omega, by omega⟩ (by omega) (by omega)
        refine z_xP zt105 13 27 [some (.int x15), some (.int x17)] [.int 0] rfl rfl ?_
        refine z_xri zt105 14 rfl zzr105 ?_
        show z_ev (d + 5) 126 159 [some (.ref a0), some (.ref a1), some (.int p2), some (.int p3), some (.ref a4), some (.int b5), some (.int b6), some (.int b7), some (.int b8), some (.int b9), some (.int b10), some (.int b11), o12] [.int 0, .int b9, .ref a1, .ref a0] M11 _
        have h152 := z_b32 b9
        refine z_xI zt126 60 rfl rfl (fun (x153 : Int32) (h154 : x153.toInt = b9.toInt + 0) => ?_) (z_pAdd rfl rfl (by omega) (by omega))
        refine z_xP zt126 61 162 [some (.ref a0), some (.ref a1), some (.int p2), some (.int p3), some (.ref a4), some (.int b5), some (.int b6), some (.int b7), some (.int b8), some (.int b9), some (.int b10), some (.int b11), o12] [.ref a4, .int x153, .ref a1, .ref a0] rfl rfl ?_
        refine z_xcV (vs := [.ref a0, .ref a1, .int x153, .ref a4]) (r := []) (L2 := [some (.ref a0), some (.ref a1), some (.int x153), some (.ref a4), none]) zt126 62 rfl zo126 zzcV4_104 (Or.inr rfl) rfl X12 k0 (z_w8 (fun c => (([(4, 122), (5, 122), (6, 122), (7, 122), (8, 122), (9, 122), (10, 122), (11, 122)] : List (Nat × Nat)).find? fun t => t.1 == c) = some (c, 122)) rfl rfl rfl rfl rfl rfl rfl rfl w0) rfl rfl (Nat.le_of_ble_eq_true rfl) zzm122 (Nat.le_of_ble_eq_true rfl) rfl ?_
        refine z_xP zt122 0 3 [some (.ref a0), some (.ref a1), some (.int x153), some (.ref a4), none] [.int x153, .ref a1, .ref a0] rfl rfl ?_
        refine zVplaceOf zt122 1 rfl zo122 zzcV4_128 X12 k0 w0 (Nat.le_of_ble_eq_true rfl) k1 (fun x157 M155 X156  => ?_)
        have X158 := X12.go X156 (z_sb (by decide))
        show z_ev (d + 4) 122 6 [some (.ref a0), some (.ref a1), some (.int x153), some (.ref a4), none] [.int x157] M155 _
        refine z_xP zt122 2 10 [some (.ref a0), some (.ref a1), some (.int x153), some (.ref a4), some (.int x157)] [.int x157] rfl rfl ?_
        refine z_xZ zt122 3 rfl rfl (fun (h160 : x157.toInt < 0) => ?_) (fun (h160 : 0 ≤ x157.toInt) => ?_)
        · skip
          refine z_xP zt122 7 21 [some (.ref a0), some (.ref a1), some (.int x153), some (.ref a4), some (.int x157)] [.ref a1] rfl rfl ?_
          refine z_xcV (vs := [.ref a1]) (r := []) (L2 := [some (.ref a1), none, none]) zt122 8 rfl zo122 zzcV4_132 (Or.inl rfl) rfl X158 k1 rfl rfl rfl (Nat.le_of_ble_eq_true rfl) zzm111 (Nat.le_of_ble_eq_true rfl) rfl ?_
          refine zC111 X158.1 k1 (fun M161 X162  => ?_)
          have X163 := X158.go X162 (z_sb (by decide))
          show z_ev (d + 4) 122 24 [some (.ref a0), some (.ref a1), some (.int x153), some (.ref a4), some (.int x157)] [] M161 _
          refine z_xP zt122 9 26 [some (.ref a0), some (.ref a1), some (.int x153), some (.ref a4), some (.int x157)] [.ref a1, .ref a0] rfl rfl ?_
          refine zVdecide zt122 10 rfl zo122 zzcV4_54 X163 k0 w0 (Nat.le_of_ble_eq_true rfl) k1 (fun x167 M165 X166  => ?_)
          have X168 := X163.go X166 (z_sb (by decide))
          show z_ev (d + 4) 122 29 [some (.ref a0), some (.ref a1), some (.int x153), some (.ref a4), some (.int x157)] [.int x167] M165 _
          refine z_xri zt122 11 rfl zzr122 ?_
          show z_ev (d + 5) 126 165 [some (.ref a0), some (.ref a1), some (.int p2), some (.int p3), some (.ref a4), some (.int b5), some (.int b6), some (.int b7), some (.int b8), some (.int b9), some (.int b10), some (.int b11), o12] [.int x167] M165 _
          refine z_xP zt126 63 171 [some (.ref a0), some (.ref a1), some (.int p2), some (.int p3), some (.ref a4), some (.int b5), some (.int b6), some (.int b7), some (.int b8), some (.int b9), some (.int b10), some (.int b11), some (.int x167)] [.int b6, .int x167] rfl rfl ?_
          refine z_xI zt126 64 rfl rfl (fun (x170 : Int32) (h171 : 0 ≤ x170.toInt ∧ x170.toInt ≤ b6.toInt) => ?_) (z_pAnd rfl (by omega))
          refine z_xcS (vs := [.int x170]) (r := []) (L2 := [some (.int x170)]) zt126 65 rfl zo126 zzcS4_77 (Or.inl rfl) (Nat.le_of_ble_eq_true rfl) rfl rfl (Nat.le_of_ble_eq_true rfl) zzm31 (Nat.le_of_ble_eq_true rfl) rfl ?_
          refine zC31 X168.1 (fun x174 M172 X173 h175 h176 => ?_)
          have X177 := X168.go X173 (z_sb (by decide))
          show z_ev (d + 5) 126 175 [some (.ref a0), some (.ref a1), some (.int p2), some (.int p3), some (.ref a4), some (.int b5), some (.int b6), some (.int b7), some (.int b8), some (.int b9), some (.int b10), some (.int b11), some (.int x167)] [.int x174] M172 _
          refine z_xP zt126 66 177 [some (.ref a0), some (.ref a1), some (.int p2), some (.int p3), some (.ref a4), some (.int b5), some (.int b6), some (.int b7), some (.int b8), some (.int b9), some (.int b10), some (.int b11), some (.int x167)] [.int b7, .int x174] rfl rfl ?_
          refine z_xJ zt126 67 rfl rfl (fun (h179 : x174.toInt ≤ b7.toInt) => ?_) (fun (h179 : b7.toInt < x174.toInt) => ?_)
          · skip
            refine z_xP zt126 69 185 [some (.ref a0), some (.ref a1), some (.int p2), some (.int p3), some (.ref a4), some (.int b5), some (.int b6), some (.int b7), some (.int b8), some (.int b9), some (.int b10), some (.int b11), some (.int x167)] [.int 0] rfl rfl ?_
            refine z_xP zt126 70 187 [some (.ref a0), some (.ref a1), some (.int p2), some (.int p3), some (.ref a4), some (.int b5), some (.int b6), some (.int b7), some (.int b8), some (.int b9), some (.int 0), some (.int b11), some (.int x167)] [] rfl rfl ?_
            refine z_xN zt126 71 rfl rfl (fun (x180 : Int32) (h181 : x180.toInt = b11.toInt + 1) => ?_) (z_pAdd rfl rfl (by omega) (by omega))
            show z_ev (d + 5) 126 190 [some (.ref a0), some (.ref a1), some (.int p2), some (.int p3), some (.ref a4), some (.int b5), some (.int b6), some (.int b7), some (.int b8), some (.int b9), some (.int 0), some (.int x180), some (.int x167)] [] M172 _
            refine z_xP zt126 72 66 [some (.ref a0), some (.ref a1), some (.int p2), some (.int p3), some (.ref a4), some (.int b5), some (.int b6), some (.int b7), some (.int b8), some (.int b9), some (.int 0), some (.int x180), some (.int x167)] [] rfl rfl ?_
            have q0 : ((0 : Int32)).toInt = 0 := rfl
            exact ih.1 M172 b5 b6 b7 b8 b9 (0) x180 (some (.int x167)) X177 ⟨by omega, by omega⟩ ⟨by omega, by omega⟩ ⟨by omega, by omega⟩ ⟨by omega, by omega⟩ (by decide) ⟨by omega, by omega⟩ (by omega) (by omega)
          refine z_xP zt126 68 185 [some (.ref a0), some (.ref a1), some (.int p2), some (.int p3), some (.ref a4), some (.int b5), some (.int b6), some (.int b7), some (.int b8), some (.int b9), some (.int b10), some (.int b11), some (.int x167)] [.int 1] rfl rfl ?_
          refine z_xP zt126 70 187 [some (.ref a0), some (.ref a1), some (.int p2), some (.int p3), some (.ref a4), some (.int b5), some (.int b6), some (.int b7), some (.int b8), some (.int b9), some (.int 1), some (.int b11), some (.int x167)] [] rfl rfl ?_
          refine z_xN zt126 71 rfl rfl (fun (x182 : Int32) (h183 : x182.toInt = b11.toInt + 1) => ?_) (z_pAdd rfl rfl (by omega) (by omega))
          show z_ev (d + 5) 126 190 [some (.ref a0), some (.ref a1), some (.int p2), some (.int p3), some (.ref a4), some (.int b5), some (.int b6), some (.int b7), some (.int b8), some (.int b9), some (.int 1), some (.int x182), some (.int x167)] [] M172 _
          refine z_xP zt126 72 66 [some (.ref a0), some (.ref a1), some (.int p2), some (.int p3), some (.ref a4), some (.int b5), some (.int b6), some (.int b7), some (.int b8), some (.int b9), some (.int 1), some (.int x182), some (.int x167)] [] rfl rfl ?_
          have q1 : ((1 : Int32)).toInt = 1 := rfl
          exact ih.1 M172 b5 b6 b7 b8 b9 (1) x182 (some (.int x167)) X177 ⟨by omega, by omega⟩ ⟨by omega, by omega⟩ ⟨by omega, by omega⟩ ⟨by omega, by omega⟩ (by decide) ⟨by omega, by omega⟩ (by omega) (by omega)
        refine z_xP zt122 4 16 [some (.ref a0), some (.ref a1), some (.int x153), some (.ref a4), some (.int x157)] [.ref a4, .int x157] rfl rfl ?_
        refine z_xln zt122 5 rfl X158 k4 (by decide) (by decide) (fun (x184 : Int32) (h185 : x184.toInt = ((16380 : Nat) : Int)) => ?_)
        have h186 := z_b32 x157
        refine z_xJ zt122 6 rfl rfl (fun (h187 : x157.toInt < x184.toInt) => ?_) (fun (h187 : x184.toInt ≤ x157.toInt) => ?_)
        · skip
          refine z_xP zt122 12 33 [some (.ref a0), some (.ref a1), some (.int x153), some (.ref a4), some (.int x157)] [.int x157, .ref a4] rfl rfl ?_
          refine z_xil zt122 13 rfl X158 k4 (by decide) (by omega) (by omega) (fun (x188 : Int32) h189 (h190 : (-2147483648) ≤ x188.toInt) (h191 : x188.toInt ≤ 2147483647) => ?_)
          refine z_xZ zt122 14 rfl rfl (fun (h192 : 0 ≤ x188.toInt) => ?_) (fun (h192 : x188.toInt < 0) => ?_)
          · skip
            refine z_xP zt122 20 53 [some (.ref a0), some (.ref a1), some (.int x153), some (.ref a4), some (.int x157)] [.int x157, .ref a4] rfl rfl ?_
            refine z_xil zt122 21 rfl X158 k4 (by decide) (by omega) (by omega) (fun (x193 : Int32) h194 (h195 : (-2147483648) ≤ x193.toInt) (h196 : x193.toInt ≤ 2147483647) => ?_)
            have h197 := congrArg Int32.toInt (h194.symm.trans h189)
            refine z_xri zt122 22 rfl zzr122 ?_
            show z_ev (d + 5) 126 165 [some (.ref a0), some (.ref a1), some (.int p2), some (.int p3), some (.ref a4), some (.int b5), some (.int b6), some (.int b7), some (.int b8), some (.int b9), some (.int b10), some (.int b11), o12] [.int x193] M155 _
            refine z_xP zt126 63 171 [some (.ref a0), some (.ref a1), some (.int p2), some (.int p3), some (.ref a4), some (.int b5), some (.int b6), some (.int b7), some (.int b8), some (.int b9), some (.int b10), some (.int b11), some (.int x193)] [.int b6, .int x193] rfl rfl ?_
            refine z_xI zt126 64 rfl rfl (fun (x198 : Int32) (h199 : 0 ≤ x198.toInt ∧ x198.toInt ≤ x193.toInt ∧ x198.toInt ≤ b6.toInt) => ?_) (z_pAnd2 rfl rfl (by omega) (by omega))
            refine z_xcS (vs := [.int x198]) (r := []) (L2 := [some (.int x198)]) zt126 65 rfl zo126 zzcS4_77 (Or.inl rfl) (Nat.le_of_ble_eq_true rfl) rfl rfl (Nat.le_of_ble_eq_true rfl) zzm31 (Nat.le_of_ble_eq_true rfl) rfl ?_
            refine zC31 X158.1 (fun x202 M200 X201 h203 h204 => ?_)
            have X205 := X158.go X201 (z_sb (by decide))
            show z_ev (d + 5) 126 175 [some (.ref a0), some (.ref a1), some (.int p2), some (.int p3), some (.ref a4), some (.int b5), some (.int b6), some (.int b7), some (.int b8), some (.int b9), some (.int b10), some (.int b11), some (.int x193)] [.int x202] M200 _
            refine z_xP zt126 66 177 [some (.ref a0), some (.ref a1), some (.int p2), some (.int p3), some (.ref a4), some (.int b5), some (.int b6), some (.int b7), some (.int b8), some (.int b9), some (.int b10), some (.int b11), some (.int x193)] [.int b7, .int x202] rfl rfl ?_
            refine z_xJ zt126 67 rfl rfl (fun (h207 : x202.toInt ≤ b7.toInt) => ?_) (fun (h207 : b7.toInt < x202.toInt) => ?_)
            · skip
              refine z_xP zt126 69 185 [some (.ref a0), some (.ref a1), some (.int p2), some (.int p3), some (.ref a4), some (.int b5), some (.int b6), some (.int b7), some (.int b8), some (.int b9), some (.int b10), some (.int b11), some (.int x193)] [.int 0] rfl rfl ?_
              refine z_xP zt126 70 187 [some (.ref a0), some (.ref a1), some (.int p2), some (.int p3), some (.ref a4), some (.int b5), some (.int b6), some (.int b7), some (.int b8), some (.int b9), some (.int 0), some (.int b11), some (.int x193)] [] rfl rfl ?_
              refine z_xN zt126 71 rfl rfl (fun (x208 : Int32) (h209 : x208.toInt = b11.toInt + 1) => ?_) (z_pAdd rfl rfl (by omega) (by omega))
              show z_ev (d + 5) 126 190 [some (.ref a0), some (.ref a1), some (.int p2), some (.int p3), some (.ref a4), some (.int b5), some (.int b6), some (.int b7), some (.int b8), some (.int b9), some (.int 0), some (.int x208), some (.int x193)] [] M200 _
              refine z_xP zt126 72 66 [some (.ref a0), some (.ref a1), some (.int p2), some (.int p3), some (.ref a4), some (.int b5), some (.int b6), some (.int b7), some (.int b8), some (.int b9), some (.int 0), some (.int x208), some (.int x193)] [] rfl rfl ?_
              have q0 : ((0 : Int32)).toInt = 0 := rfl
              exact ih.1 M200 b5 b6 b7 b8 b9 (0) x208 (some (.int x193)) X205 ⟨by omega, by omega⟩ ⟨by omega, by omega⟩ ⟨by omega, by omega⟩ ⟨by omega, by omega⟩ (by decide) ⟨by omega, by omega⟩ (by omega) (by omega)
            refine z_xP zt126 68 185 [some (.ref a0), some (.ref a1), some (.int p2), some (.int p3), some (.ref a4), some (.int b5), some (.int b6), some (.int b7), some (.int b8), some (.int b9), some (.int b10), some (.int b11), some (.int x193)] [.int 1] rfl rfl ?_
            refine z_xP zt126 70 187 [some (.ref a0), some (.ref a1), some (.int p2), some (.int p3), some (.ref a4), some (.int b5), some (.int b6), some (.int b7), some (.int b8), some (.int b9), some (.int 1), some (.int b11), some (.int x193)] [] rfl rfl ?_
            refine z_xN zt126 71 rfl rfl (fun (x210 : Int32) (h211 : x210.toInt = b11.toInt + 1) => ?_) (z_pAdd rfl rfl (by omega) (by omega))
            show z_ev (d + 5) 126 190 [some (.ref a0), some (.ref a1), some (.int p2), some (.int p3), some (.ref a4), some (.int b5), some (.int b6), some (.int b7), some (.int b8), some (.int b9), some (.int 1), some (.int x210), some (.int x193)] [] M200 _
            refine z_xP zt126 72 66 [some (.ref a0), some (.ref a1), some (.int p2), some (.int p3), some (.ref a4), some (.int b5), some (.int b6), some (.int b7), some (.int b8), some (.int b9), some (.int 1), some (.int x210), some (.int x193)] [] rfl rfl ?_
            have q1 : ((1 : Int32)).toInt = 1 := rfl
            exact ih.1 M200 b5 b6 b7 b8 b9 (1) x210 (some (.int x193)) X205 ⟨by omega, by omega⟩ ⟨by omega, by omega⟩ ⟨by omega, by omega⟩ ⟨by omega, by omega⟩ (by decide) ⟨by omega, by omega⟩ (by omega) (by omega)
          refine z_xP zt122 15 38 [some (.ref a0), some (.ref a1), some (.int x153), some (.ref a4), some (.int x157)] [.ref a1] rfl rfl ?_
          refine z_xcV (vs := [.ref a1]) (r := []) (L2 := [some (.ref a1), none, none]) zt122 16 rfl zo122 zzcV4_132 (Or.inl rfl) rfl X158 k1 rfl rfl rfl (Nat.le_of_ble_eq_true rfl) zzm111 (Nat.le_of_ble_eq_true rfl) rfl ?_
          refine zC111 X158.1 k1 (fun M212 X213  => ?_)
          have X214 := X158.go X213 (z_sb (by decide))
          show z_ev (d + 4) 122 41 [some (.ref a0), some (.ref a1), some (.int x153), some (.ref a4), some (.int x157)] [] M212 _
          refine z_xP zt122 17 46 [some (.ref a0), some (.ref a1), some (.int x153), some (.ref a4), some (.int x157)] [.ref a1, .ref a0, .int x157, .ref a4] rfl rfl ?_
          refine zVdecide zt122 18 rfl zo122 zzcV4_54 X214 k0 w0 (Nat.le_of_ble_eq_true rfl) k1 (fun x218 M216 X217  => ?_)
          have X219 := X214.go X217 (z_sb (by decide))
          show z_ev (d + 4) 122 49 [some (.ref a0), some (.ref a1), some (.int x153), some (.ref a4), some (.int x157)] [.int x218, .int x157, .ref a4] M216 _
          refine z_xis zt122 19 rfl X219 k4 (by decide) (X219.1.g4 k4 (by decide)) (by omega) (by omega) (Int32.le_toInt _) (Int32.toInt_le _) (by decide) (fun M221 X222 e223 h224 => ?_)
          refine z_xP zt122 20 53 [some (.ref a0), some (.ref a1), some (.int x153), some (.ref a4), some (.int x157)] [.int x157, .ref a4] rfl rfl ?_
          refine z_xil zt122 21 rfl X222 k4 (by decide) (by omega) (by omega) (fun (x225 : Int32) h226 (h227 : (-2147483648) ≤ x225.toInt) (h228 : x225.toInt ≤ 2147483647) => ?_)
          have h229 := congrArg Int32.toInt (h226.symm.trans (z_upe h224))
          refine z_xri zt122 22 rfl zzr122 ?_
          show z_ev (d + 5) 126 165 [some (.ref a0), some (.ref a1), some (.int p2), some (.int p3), some (.ref a4), some (.int b5), some (.int b6), some (.int b7), some (.int b8), some (.int b9), some (.int b10), some (.int b11), o12] [.int x225] M221 _
          refine z_xP zt126 63 171 [some (.ref a0), some (.ref a1), some (.int p2), some (.int p3), some (.ref a4), some (.int b5), some (.int b6), some (.int b7), some (.int b8), some (.int b9), some (.int b10), some (.int b11), some (.int x225)] [.int b6, .int x225] rfl rfl ?_
          refine z_xI zt126 64 rfl rfl (fun (x230 : Int32) (h231 : 0 ≤ x230.toInt ∧ x230.toInt ≤ b6.toInt) => ?_) (z_pAnd rfl (by omega))
          refine z_xcS (vs := [.int x230]) (r := []) (L2 := [some (.int x230)]) zt126 65 rfl zo126 zzcS4_77 (Or.inl rfl) (Nat.le_of_ble_eq_true rfl) rfl rfl (Nat.le_of_ble_eq_true rfl) zzm31 (Nat.le_of_ble_eq_true rfl) rfl ?_
          refine zC31 X222.1 (fun x234 M232 X233 h235 h236 => ?_)
          have X237 := X222.go X233 (z_sb (by decide))
          show z_ev (d + 5) 126 175 [some (.ref a0), some (.ref a1), some (.int p2), some (.int p3), some (.ref a4), some (.int b5), some (.int b6), some (.int b7), some (.int b8), some (.int b9), some (.int b10), some (.int b11), some (.int x225)] [.int x234] M232 _
          refine z_xP zt126 66 177 [some (.ref a0), some (.ref a1), some (.int p2), some (.int p3), some (.ref a4), some (.int b5), some (.int b6), some (.int b7), some (.int b8), some (.int b9), some (.int b10), some (.int b11), some (.int x225)] [.int b7, .int x234] rfl rfl ?_
          refine z_xJ zt126 67 rfl rfl (fun (h239 : x234.toInt ≤ b7.toInt) => ?_) (fun (h239 : b7.toInt < x234.toInt) => ?_)
          · skip
            refine z_xP zt126 69 185 [some (.ref a0), some (.ref a1), some (.int p2), some (.int p3), some (.ref a4), some (.int b5), some (.int b6), some (.int b7), some (.int b8), some (.int b9), some (.int b10), some (.int b11), some (.int x225)] [.int 0] rfl rfl ?_
            refine z_xP zt126 70 187 [some (.ref a0), some (.ref a1), some (.int p2), some (.int p3), some (.ref a4), some (.int b5), some (.int b6), some (.int b7), some (.int b8), some (.int b9), some (.int 0), some (.int b11), some (.int x225)] [] rfl rfl ?_
            refine z_xN zt126 71 rfl rfl (fun (x240 : Int32) (h241 : x240.toInt = b11.toInt + 1) => ?_) (z_pAdd rfl rfl (by omega) (by omega))
            show z_ev (d + 5) 126 190 [some (.ref a0), some (.ref a1), some (.int p2), some (.int p3), some (.ref a4), some (.int b5), some (.int b6), some (.int b7), some (.int b8), some (.int b9), some (.int 0), some (.int x240), some (.int x225)] [] M232 _
            refine z_xP zt126 72 66 [some (.ref a0), some (.ref a1), some (.int p2), some (.int p3), some (.ref a4), some (.int b5), some (.int b6), some (.int b7), some (.int b8), some (.int b9), some (.int 0), some (.int x240), some (.int x225)] [] rfl rfl ?_
            have q0 : ((0 : Int32)).toInt = 0 := rfl
            exact ih.1 M232 b5 b6 b7 b8 b9 (0) x240 (some (.int x225)) X237 ⟨by omega, by omega⟩ ⟨by omega, by omega⟩ ⟨by omega, by omega⟩ ⟨by omega, by omega⟩ (by decide) ⟨by omega, by omega⟩ (by omega) (by omega)
          refine z_xP zt126 68 185 [some (.ref a0), some (.ref a1), some (.int p2), some (.int p3), some (.ref a4), some (.int b5), some (.int b6), some (.int b7), some (.int b8), some (.int b9), some (.int b10), some (.int b11), some (.int x225)] [.int 1] rfl rfl ?_
          refine z_xP zt126 70 187 [some (.ref a0), some (.ref a1), some (.int p2), some (.int p3), some (.ref a4), some (.int b5), some (.int b6), some (.int b7), some (.int b8), some (.int b9), some (.int 1), some (.int b11), some (.int x225)] [] rfl rfl ?_
          refine z_xN zt126 71 rfl rfl (fun (x242 : Int32) (h243 : x242.toInt = b11.toInt + 1) => ?_) (z_pAdd rfl rfl (by omega) (by omega))
          show z_ev (d + 5) 126 190 [some (.ref a0), some (.ref a1), some (.int p2), some (.int p3), some (.ref a4), some (.int b5), some (.int b6), some (.int b7), some (.int b8), some (.int b9), some (.int 1), some (.int x242), some (.int x225)] [] M232 _
          refine z_xP zt126 72 66 [some (.ref a0), some (.ref a1), some (.int p2), some (.int p3), some (.ref a4), some (.int b5), some (.int b6), some (.int b7), some (.int b8), some (.int b9), some (.int 1), some (.int x242), some (.int x225)] [] rfl rfl ?_
          have q1 : ((1 : Int32)).toInt = 1 := rfl
          exact ih.1 M232 b5 b6 b7 b8 b9 (1) x242 (some (.int x225)) X237 ⟨by omega, by omega⟩ ⟨by omega, by omega⟩ ⟨by omega, by omega⟩ ⟨by omega, by omega⟩ (by decide) ⟨by omega, by omega⟩ (by omega) (by omega)
        refine z_xP zt122 7 21 [some (.ref a0), some (.ref a1), some (.int x153), some (.ref a4), some (.int x157)] [.ref a1] rfl rfl ?_
        refine z_xcV (vs := [.ref a1]) (r := []) (L2 := [some (.ref a1), none, none]) zt122 8 rfl zo122 zzcV4_132 (Or.inl rfl) rfl X158 k1 rfl rfl rfl (Nat.le_of_ble_eq_true rfl) zzm111 (Nat.le_of_ble_eq_true rfl) rfl ?_
        refine zC111 X158.1 k1 (fun M244 X245  => ?_)
        have X246 := X158.go X245 (z_sb (by decide))
        show z_ev (d + 4) 122 24 [some (.ref a0), some (.ref a1), some (.int x153), some (.ref a4), some (.int x157)] [] M244 _
        refine z_xP zt122 9 26 [some (.ref a0), some (.ref a1), some (.int x153), some (.ref a4), some (.int x157)] [.ref a1, .ref a0] rfl rfl ?_
        refine zVdecide zt122 10 rfl zo122 zzcV4_54 X246 k0 w0 (Nat.le_of_ble_eq_true rfl) k1 (fun x250 M248 X249  => ?_)
        have X251 := X246.go X249 (z_sb (by decide))
        show z_ev (d + 4) 122 29 [some (.ref a0), some (.ref a1), some (.int x153), some (.ref a4), some (.int x157)] [.int x250] M248 _
        refine z_xri zt122 11 rfl zzr122 ?_
        show z_ev (d + 5) 126 165 [some (.ref a0), some (.ref a1), some (.int p2), some (.int p3), some (.ref a4), some (.int b5), some (.int b6), some (.int b7), some (.int b8), some (.int b9), some (.int b10), some (.int b11), o12] [.int x250] M248 _
        refine z_xP zt126 63 171 [some (.ref a0), some (.ref a1), some (.int p2), some (.int p3), some (.ref a4), some (.int b5), some (.int b6), some (.int b7), some (.int b8), some (.int b9), some (.int b10), some (.int b11), some (.int x250)] [.int b6, .int x250] rfl rfl ?_
        refine z_xI zt126 64 rfl rfl (fun (x253 : Int32) (h254 : 0 ≤ x253.toInt ∧ x253.toInt ≤ b6.toInt) => ?_) (z_pAnd rfl (by omega))
        refine z_xcS (vs := [.int x253]) (r := []) (L2 := [some (.int x253)]) zt126 65 rfl zo126 zzcS4_77 (Or.inl rfl) (Nat.le_of_ble_eq_true rfl) rfl rfl (Nat.le_of_ble_eq_true rfl) zzm31 (Nat.le_of_ble_eq_true rfl) rfl ?_
        refine zC31 X251.1 (fun x257 M255 X256 h258 h259 => ?_)
        have X260 := X251.go X256 (z_sb (by decide))
        show z_ev (d + 5) 126 175 [some (.ref a0), some (.ref a1), some (.int p2), some (.int p3), some (.ref a4), some (.int b5), some (.int b6), some (.int b7), some (.int b8), some (.int b9), some (.int b10), some (.int b11), some (.int x250)] [.int x257] M255 _
        refine z_xP zt126 66 177 [some (.ref a0), some (.ref a1), some (.int p2), some (.int p3), some (.ref a4), some (.int b5), some (.int b6), some (.int b7), some (.int b8), some (.int b9), some (.int b10), some (.int b11), some (.int x250)] [.int b7, .int x257] rfl rfl ?_
        refine z_xJ zt126 67 rfl rfl (fun (h262 : x257.toInt ≤ b7.toInt) => ?_) (fun (h262 : b7.toInt < x257.toInt) => ?_)
        · skip
          refine z_xP zt126 69 185 [some (.ref a0), some (.ref a1), some (.int p2), some (.int p3), some (.ref a4), some (.int b5), some (.int b6), some (.int b7), some (.int b8), some (.int b9), some (.int b10), some (.int b11), some (.int x250)] [.int 0] rfl rfl ?_
          refine z_xP zt126 70 187 [some (.ref a0), some (.ref a1), some (.int p2), some (.int p3), some (.ref a4), some (.int b5), some (.int b6), some (.int b7), some (.int b8), some (.int b9), some (.int 0), some (.int b11), some (.int x250)] [] rfl rfl ?_
          refine z_xN zt126 71 rfl rfl (fun (x263 : Int32) (h264 : x263.toInt = b11.toInt + 1) => ?_) (z_pAdd rfl rfl (by omega) (by omega))
          show z_ev (d + 5) 126 190 [some (.ref a0), some (.ref a1), some (.int p2), some (.int p3), some (.ref a4), some (.int b5), some (.int b6), some (.int b7), some (.int b8), some (.int b9), some (.int 0), some (.int x263), some (.int x250)] [] M255 _
          refine z_xP zt126 72 66 [some (.ref a0), some (.ref a1), some (.int p2), some (.int p3), some (.ref a4), some (.int b5), some (.int b6), some (.int b7), some (.int b8), some (.int b9), some (.int 0), some (.int x263), some (.int x250)] [] rfl rfl ?_
          have q0 : ((0 : Int32)).toInt = 0 := rfl
          exact ih.1 M255 b5 b6 b7 b8 b9 (0) x263 (some (.int x250)) X260 ⟨by omega, by omega⟩ ⟨by omega, by omega⟩ ⟨by omega, by omega⟩ ⟨by omega, by omega⟩ (by decide) ⟨by omega, by omega⟩ (by omega) (by omega)
        refine z_xP zt126 68 185 [some (.ref a0), some (.ref a1), some (.int p2), some (.int p3), some (.ref a4), some (.int b5), some (.int b6), some (.int b7), some (.int b8), some (.int b9), some (.int b10), some (.int b11), some (.int x250)] [.int 1] rfl rfl ?_
        refine z_xP zt126 70 187 [some (.ref a0), some (.ref a1), some (.int p2), some (.int p3), some (.ref a4), some (.int b5), some (.int b6), some (.int b7), some (.int b8), some (.int b9), some (.int 1), some (.int b11), some (.int x250)] [] rfl rfl ?_
        refine z_xN zt126 71 rfl rfl (fun (x265 : Int32) (h266 : x265.toInt = b11.toInt + 1) => ?_) (z_pAdd rfl rfl (by omega) (by omega))
        show z_ev (d + 5) 126 190 [some (.ref a0), some (.ref a1), some (.int p2), some (.int p3), some (.ref a4), some (.int b5), some (.int b6), some (.int b7), some (.int b8), some (.int b9), some (.int 1), some (.int x265), some (.int x250)] [] M255 _
        refine z_xP zt126 72 66 [some (.ref a0), some (.ref a1), some (.int p2), some (.int p3), some (.ref a4), some (.int b5), some (.int b6), some (.int b7), some (.int b8), some (.int b9), some (.int 1), some (.int x265), some (.int x250)] [] rfl rfl ?_
        have q1 : ((1 : Int32)).toInt = 1 := rfl
        exact ih.1 M255 b5 b6 b7 b8 b9 (1) x265 (some (.int x250)) X260 ⟨by omega, by omega⟩ ⟨by omega, by omega⟩ ⟨by omega, by omega⟩ ⟨by omega, by omega⟩ (by decide) ⟨by omega, by omega⟩ (by omega) (by omega)
      refine z_xP zt126 36 99 [some (.ref a0), some (.ref a1), some (.int p2), some (.int p3), some (.ref a4), some (.int b5), some (.int b6), some (.int b7), some (.int b8), some (.int b9), some (.int b10), some (.int b11), o12] [.int b8, .int p2, .ref a1] rfl rfl ?_
      refine z_xcV (vs := [.ref a1, .int p2, .int b8]) (r := []) (L2 := [some (.ref a1), some (.int p2), some (.int b8)]) zt126 37 rfl zo126 zzcV4_121 (Or.inl rfl) rfl X k1 rfl rfl rfl (Nat.le_of_ble_eq_true rfl) zzm128 (Nat.le_of_ble_eq_true rfl) rfl ?_
      refine z_xP zt128 0 1 [some (.ref a1), some (.int p2), some (.int b8)] [.ref a1] rfl rfl ?_
      refine z_xgR (κ := .inr (210, 0, 5, 0, ((m1 : Nat) : Int) - 1)) zt128 1 rfl zo128 zzf3_33 X k1 (by decide) (by decide) rfl (fun (a268 : Nat) h267 k269 => ?_)
      refine z_xP zt128 2 6 [some (.ref a1), some (.int p2), some (.int b8)] [.int p2, .int b8, .ref a268] rfl rfl ?_
      refine z_xJ zt128 3 rfl rfl (fun (h270 : p2.toInt ≤ b8.toInt) => ?_) (fun (h270 : b8.toInt < p2.toInt) => ?_)
      · skip
        refine z_xP zt128 5 15 [some (.ref a1), some (.int p2), some (.int b8)] [.int 1, .int b8, .ref a268] rfl rfl ?_
        refine z_xI zt128 6 rfl rfl (fun (x271 : Int32) (h272 : x271.toInt = b8.toInt + 1) => ?_) (z_pAdd rfl rfl (by omega) (by omega))
        refine z_xil zt128 7 rfl X k269 (by decide) (by omega) (by omega) (fun (x273 : Int32) h274 (h275 : 0 ≤ x273.toInt) (h276 : x273.toInt ≤ ((m1 : Nat) : Int) - 1) => ?_)
        refine z_xri zt128 8 rfl zzr128 ?_
        show z_ev (d + 5) 126 102 [some (.ref a0), some (.ref a1), some (.int p2), some (.int p3), some (.ref a4), some (.int b5), some (.int b6), some (.int b7), some (.int b8), some (.int b9), some (.int b10), some (.int b11), o12] [.int x273] M _
        refine z_xP zt126 38 104 [some (.ref a0), some (.ref a1), some (.int p2), some (.int p3), some (.ref a4), some (.int b5), some (.int b6), some (.int b7), some (.int b8), some (.int b9), some (.int b10), some (.int b11), o12] [.int b11, .int x273] rfl rfl ?_
        refine z_xJ zt126 39 rfl rfl (fun (h277 : b11.toInt ≤ x273.toInt) => ?_) (fun (h277 : x273.toInt < b11.toInt) => ?_)
        · skip
          refine z_xP zt126 51 136 [some (.ref a0), some (.ref a1), some (.int p2), some (.int p3), some (.ref a4), some (.int b5), some (.int b6), some (.int b7), some (.int b8), some (.int b9), some (.int b10), some (.int b11), o12] [.ref a1] rfl rfl ?_
          refine z_xgv zt126 52 rfl zo126 zzf4_115 X k1 (by decide) h267 ?_
          refine z_xP zt126 53 142 [some (.ref a0), some (.ref a1), some (.int p2), some (.int p3), some (.ref a4), some (.int b5), some (.int b6), some (.int b7), some (.int b8), some (.int b9), some (.int b10), some (.int b11), o12] [.int b11, .int p2, .ref a268] rfl rfl ?_
          refine z_xis zt126 54 rfl X k269 (by decide) (X.1.g4 k269 (by decide)) (by omega) (by omega) (by omega) (by omega) (by decide) (fun M278 X279 e280 h281 => ?_)
          refine z_xP zt126 55 151 [some (.ref a0), some (.ref a1), some (.int p2), some (.int p3), some (.ref a4), some (.int b5), some (.int b6), some (.int b7), some (.int b8), some (.int b9), some (.int b10), some (.int b11), o12] [.int b8, .int b11, .int b9, .ref a1, .ref a0] rfl rfl ?_
          refine z_xI zt126 56 rfl rfl (fun (x282 : Int32) (h283 : x282.toInt = b11.toInt + b8.toInt) => ?_) (z_pAdd rfl rfl (by omega) (by omega))
          refine z_xP zt126 57 155 [some (.ref a0), some (.ref a1), some (.int p2), some (.int p3), some (.ref a4), some (.int b5), some (.int b6), some (.int b7), some (.int b8), some (.int b9), some (.int b10), some (.int b11), o12] [.int 1, .int b8, .int x282, .int b9, .ref a1, .ref a0] rfl rfl ?_
          refine z_xI zt126 58 rfl rfl (fun (x284 : Int32) (h285 : x284.toInt = b8.toInt + 1) => ?_) (z_pAdd rfl rfl (by omega) (by omega))
          refine z_xcS (vs := [.int x282, .int x284]) (r := [.int b9, .ref a1, .ref a0]) (L2 := [some (.int x282), some (.int x284)]) zt126 59 rfl zo126 zzcS4_125 (Or.inr rfl) (Nat.le_of_ble_eq_true rfl) rfl rfl (Nat.le_of_ble_eq_true rfl) zzm105 (Nat.le_of_ble_eq_true rfl) rfl ?_
          refine z_xP zt105 0 1 [some (.int x282), some (.int x284)] [.int x282] rfl rfl ?_
          refine z_xZ zt105 1 rfl rfl (fun (h286 : x282.toInt < 0) => absurd h286 (by omega)) (fun (h286 : 0 ≤ x282.toInt) => ?_)
          refine z_xP zt105 2 5 [some (.int x282), some (.int x284)] [.int x284] rfl rfl ?_
          refine z_xZ zt105 3 rfl rfl (fun (h287 : x284.toInt < 0) => absurd h287 (by omega)) (fun (h287 : 0 ≤ x284.toInt) => ?_)
          refine z_xP zt105 4 10 [some (.int x282), some (.int x284)] [.int 5, .int x284] rfl rfl ?_
          refine z_xJ zt105 5 rfl rfl (fun (h288 : 5 < x284.toInt) => absurd h288 (by omega)) (fun (h288 : x284.toInt ≤ 5) => ?_)
          refine z_xP zt105 6 16 [some (.int x282), some (.int x284)] [.int x282, .int 6] rfl rfl ?_
          refine z_xI zt105 7 rfl rfl (fun (x289 : Int32) (h290 : x289.toInt = 6 * x282.toInt) => ?_) (z_pMul rfl rfl (by omega) (by omega))
          refine z_xP zt105 8 18 [some (.int x282), some (.int x284)] [.int x284, .int x289] rfl rfl ?_
          refine z_xI zt105 9 rfl rfl (fun (x291 : Int32) (h292 : x291.toInt = x289.toInt + x284.toInt) => ?_) (z_pAdd rfl rfl (by omega) (by omega))
          refine z_xgs zt105 10 rfl zo105 zg0_340 ?_
          have f1 : T[1]? = some (.inr (1, 0, 102, 0, 4368)) := X279.1.k rfl (by decide)
          refine z_xln zt105 11 rfl X279 f1 (by decide) (by decide) (fun (x293 : Int32) (h294 : x293.toInt = ((102 : Nat) : Int)) => ?_)
          refine z_xJ zt105 12 rfl rfl (fun (h295 : x291.toInt < x293.toInt) => ?_) (fun (h295 : x293.toInt ≤ x291.toInt) => ?_)
          · skip
            refine z_xgs zt105 15 rfl zo105 zg0_340 ?_
            refine z_xP zt105 16 34 [some (.int x282), some (.int x284)] [.int x282, .int 6, .ref 1] rfl rfl ?_
            refine z_xI zt105 17 rfl rfl (fun (x296 : Int32) (h297 : x296.toInt = 6 * x282.toInt) => ?_) (z_pMul rfl rfl (by omega) (by omega))
            refine z_xP zt105 18 36 [some (.int x282), some (.int x284)] [.int x284, .int x296, .ref 1] rfl rfl ?_
            refine z_xI zt105 19 rfl rfl (fun (x298 : Int32) (h299 : x298.toInt = x296.toInt + x284.toInt) => ?_) (z_pAdd rfl rfl (by omega) (by omega))
            refine z_xil zt105 20 rfl X279 f1 (by decide) (by omega) (by omega) (fun (x300 : Int32) h301 (h302 : 0 ≤ x300.toInt) (h303 : x300.toInt ≤ 4368) => ?_)
            refine z_xri zt105 21 rfl zzr105 ?_
            show z_ev (d + 5) 126 159 [some (.ref a0), some (.ref a1), some (.int p2), some (.int p3), some (.ref a4), some (.int b5), some (.int b6), some (.int b7), some (.int b8), some (.int b9), some (.int b10), some (.int b11), o12] [.int x300, .int b9, .ref a1, .ref a0] M278 _
            have h304 := z_b32 b9
            refine z_xI zt126 60 rfl rfl (P := fun _ => True) (fun (x305 : Int32) _ => ?_) trivial
            refine z_xP zt126 61 162 [some (.ref a0), some (.ref a1), some (.int p2), some (.int p3), some (.ref a4), some (.int b5), some (.int b6), some (.int b7), some (.int b8), some (.int b9), some (.int b10), some (.int b11), o12] [.ref a4, .int x305, .ref a1, .ref a0] rfl rfl ?_
            refine z_xcV (vs := [.ref a0, .ref a1, .int x305, .ref a4]) (r := []) (L2 := [some (.ref a0), some (.ref a1), some (.int x305), some (.ref a4), none]) zt126 62 rfl zo126 zzcV4_104 (Or.inr rfl) rfl X279 k0 (z_w8 (fun c => (([(4, 122), (5, 122), (6, 122), (7, 122), (8, 122), (9, 122), (10, 122), (11, 122)] : List (Nat × Nat)).find? fun t => t.1 == c) = some (c, 122)) rfl rfl rfl rfl rfl rfl rfl rfl w0) rfl rfl (Nat.le_of_ble_eq_true rfl) zzm122 (Nat.le_of_ble_eq_true rfl) rfl ?_
            refine z_xP zt122 0 3 [some (.ref a0), some (.ref a1), some (.int x305), some (.ref a4), none] [.int x305, .ref a1, .ref a0] rfl rfl ?_
            refine zVplaceOf zt122 1 rfl zo122 zzcV4_128 X279 k0 w0 (Nat.le_of_ble_eq_true rfl) k1 (fun x309 M307 X308  => ?_)
            have X310 := X279.go X308 (z_sb (by decide))
            show z_ev (d + 4) 122 6 [some (.ref a0), some (.ref a1), some (.int x305), some (.ref a4), none] [.int x309] M307 _
            refine z_xP zt122 2 10 [some (.ref a0), some (.ref a1), some (.int x305), some (.ref a4), some (.int x309)] [.int x309] rfl rfl ?_
            refine z_xZ zt122 3 rfl rfl (fun (h312 : x309.toInt < 0) => ?_) (fun (h312 : 0 ≤ x309.toInt) => ?_)
            · skip
              refine z_xP zt122 7 21 [some (.ref a0), some (.ref a1), some (.int x305), some (.ref a4), some (.int x309)] [.ref a1] rfl rfl ?_
              refine z_xcV (vs := [.ref a1]) (r := []) (L2 := [some (.ref a1), none, none]) zt122 8 rfl zo122 zzcV4_132 (Or.inl rfl) rfl X310 k1 rfl rfl rfl (Nat.le_of_ble_eq_true rfl) zzm111 (Nat.le_of_ble_eq_true rfl) rfl ?_
              refine zC111 X310.1 k1 (fun M313 X314  => ?_)
              have X315 := X310.go X314 (z_sb (by decide))
              show z_ev (d + 4) 122 24 [some (.ref a0), some (.ref a1), some (.int x305), some (.ref a4), some (.int x309)] [] M313 _
              refine z_xP zt122 9 26 [some (.ref a0), some (.ref a1), some (.int x305), some (.ref a4), some (.int x309)] [.ref a1, .ref a0] rfl rfl ?_
              refine zVdecide zt122 10 rfl zo122 zzcV4_54 X315 k0 w0 (Nat.le_of_ble_eq_true rfl) k1 (fun x319 M317 X318  => ?_)
              have X320 := X315.go X318 (z_sb (by decide))
              show z_ev (d + 4) 122 29 [some (.ref a0), some (.ref a1), some (.int x305), some (.ref a4), some (.int x309)] [.int x319] M317 _
              refine z_xri zt122 11 rfl zzr122 ?_
              show z_ev (d + 5) 126 165 [some (.ref a0), some (.ref a1), some (.int p2), some (.int p3), some (.ref a4), some (.int b5), some (.int b6), some (.int b7), some (.int b8), some (.int b9), some (.int b10), some (.int b11), o12] [.int x319] M317 _
              refine z_xP zt126 63 171 [some (.ref a0), some (.ref a1), some (.int p2), some (.int p3), some (.ref a4), some (.int b5), some (.int b6), some (.int b7), some (.int b8), some (.int b9), some (.int b10), some (.int b11), some (.int x319)] [.int b6, .int x319] rfl rfl ?_
              refine z_xI zt126 64 rfl rfl (fun (x322 : Int32) (h323 : 0 ≤ x322.toInt ∧ x322.toInt ≤ b6.toInt) => ?_) (z_pAnd rfl (by omega))
              refine z_xcS (vs := [.int x322]) (r := []) (L2 := [some (.int x322)]) zt126 65 rfl zo126 zzcS4_77 (Or.inl rfl) (Nat.le_of_ble_eq_true rfl) rfl rfl (Nat.le_of_ble_eq_true rfl) zzm31 (Nat.le_of_ble_eq_true rfl) rfl ?_
              refine zC31 X320.1 (fun x326 M324 X325 h327 h328 => ?_)
              have X329 := X320.go X325 (z_sb (by decide))
              show z_ev (d + 5) 126 175 [some (.ref a0), some (.ref a1), some (.int p2), some (.int p3), some (.ref a4), some (.int b5), some (.int b6), some (.int b7), some (.int b8), some (.int b9), some (.int b10), some (.int b11), some (.int x319)] [.int x326] M324 _
              refine z_xP zt126 66 177 [some (.ref a0), some (.ref a1), some (.int p2), some (.int p3), some (.ref a4), some (.int b5), some (.int b6), some (.int b7), some (.int b8), some (.int b9), some (.int b10), some (.int b11), some (.int x319)] [.int b7, .int x326] rfl rfl ?_
              refine z_xJ zt126 67 rfl rfl (fun (h331 : x326.toInt ≤ b7.toInt) => ?_) (fun (h331 : b7.toInt < x326.toInt) => ?_)
              · skip
                refine z_xP zt126 69 185 [some (.ref a0), some (.ref a1), some (.int p2), some (.int p3), some (.ref a4), some (.int b5), some (.int b6), some (.int b7), some (.int b8), some (.int b9), some (.int b10), some (.int b11), some (.int x319)] [.int 0] rfl rfl ?_
                refine z_xP zt126 70 187 [some (.ref a0), some (.ref a1), some (.int p2), some (.int p3), some (.ref a4), some (.int b5), some (.int b6), some (.int b7), some (.int b8), some (.int b9), some (.int 0), some (.int b11), some (.int x319)] [] rfl rfl ?_
                refine z_xN zt126 71 rfl rfl (fun (x332 : Int32) (h333 : x332.toInt = b11.toInt + 1) => ?_) (z_pAdd rfl rfl (by omega) (by omega))
                show z_ev (d + 5) 126 190 [some (.ref a0), some (.ref a1), some (.int p2), some (.int p3), some (.ref a4), some (.int b5), some (.int b6), some (.int b7), some (.int b8), some (.int b9), some (.int 0), some (.int x332), some (.int x319)] [] M324 _
                refine z_xP zt126 72 66 [some (.ref a0), some (.ref a1), some (.int p2), some (.int p3), some (.ref a4), some (.int b5), some (.int b6), some (.int b7), some (.int b8), some (.int b9), some (.int 0), some (.int x332), some (.int x319)] [] rfl rfl ?_
                have q0 : ((0 : Int32)).toInt = 0 := rfl
                exact ih.1 M324 b5 b6 b7 b8 b9 (0) x332 (some (.int x319)) X329 ⟨by omega, by omega⟩ ⟨by omega, by omega⟩ ⟨by omega, by omega⟩ ⟨by omega, by omega⟩ (by decide) ⟨by omega, by omega⟩ (by omega) (by omega)
              refine z_xP zt126 68 185 [some (.ref a0), some (.ref a1), some (.int p2), some (.int p3), some (.ref a4), some (.int b5), some (.int b6), some (.int b7), some (.int b8), some (.int b9), some (.int b10), some (.int b11), some (.int x319)] [.int 1] rfl rfl ?_
              refine z_xP zt126 70 187 [some (.ref a0), some (.ref a1), some (.int p2), some (.int p3), some (.ref a4), some (.int b5), some (.int b6), some (.int b7), some (.int b8), some (.int b9), some (.int 1), some (.int b11), some (.int x319)] [] rfl rfl ?_
              refine z_xN zt126 71 rfl rfl (fun (x334 : Int32) (h335 : x334.toInt = b11.toInt + 1) => ?_) (z_pAdd rfl rfl (by omega) (by omega))
              show z_ev (d + 5) 126 190 [some (.ref a0), some (.ref a1), some (.int p2), some (.int p3), some (.ref a4), some (.int b5), some (.int b6), some (.int b7), some (.int b8), some (.int b9), some (.int 1), some (.int x334), some (.int x319)] [] M324 _
              refine z_xP zt126 72 66 [some (.ref a0), some (.ref a1), some (.int p2), some (.int p3), some (.ref a4), some (.int b5), some (.int b6), some (.int b7), some (.int b8), some (.int b9), some (.int 1), some (.int x334), some (.int x319)] [] rfl rfl ?_
              have q1 : ((1 : Int32)).toInt = 1 := rfl
              exact ih.1 M324 b5 b6 b7 b8 b9 (1) x334 (some (.int x319)) X329 ⟨by omega, by omega⟩ ⟨by omega, by omega⟩ ⟨by omega, by omega⟩ ⟨by omega, by omega⟩ (by decide) ⟨by omega, by omega⟩ (by omega) (by omega)
            refine z_xP zt122 4 16 [some (.ref a0), some (.ref a1), some (.int x305), some (.ref a4), some (.int x309)] [.ref a4, .int x309] rfl rfl ?_
            refine z_xln zt122 5 rfl X310 k4 (by decide) (by decide) (fun (x336 : Int32) (h337 : x336.toInt = ((16380 : Nat) : Int)) => ?_)
            have h338 := z_b32 x309
            refine z_xJ zt122 6 rfl rfl (fun (h339 : x309.toInt < x336.toInt) => ?_) (fun (h339 : x336.toInt ≤ x309.toInt) => ?_)
            · skip
              refine z_xP zt122 12 33 [some (.ref a0), some (.ref a1), some (.int x305), some (.ref a4), some (.int x309)] [.int x309, .ref a4] rfl rfl ?_
              refine z_xil zt122 13 rfl X310 k4 (by decide) (by omega) (by omega) (fun (x340 : Int32) h341 (h342 : (-2147483648) ≤ x340.toInt) (h343 : x340.toInt ≤ 2147483647) => ?_)
              refine z_xZ zt122 14 rfl rfl (fun (h344 : 0 ≤ x340.toInt) => ?_) (fun (h344 : x340.toInt < 0) => ?_)
              · skip
                refine z_xP zt122 20 53 [some (.ref a0), some (.ref a1), some (.int x305), some (.ref a4), some (.int x309)] [.int x309, .ref a4] rfl rfl ?_
                refine z_xil zt122 21 rfl X310 k4 (by decide) (by omega) (by omega) (fun (x345 : Int32) h346 (h347 : (-2147483648) ≤ x345.toInt) (h348 : x345.toInt ≤ 2147483647) => ?_)
                have h349 := congrArg Int32.toInt (h346.symm.trans h341)
                refine z_xri zt122 22 rfl zzr122 ?_
                show z_ev (d + 5) 126 165 [some (.ref a0), some (.ref a1), some (.int p2), some (.int p3), some (.ref a4), some (.int b5), some (.int b6), some (.int b7), some (.int b8), some (.int b9), some (.int b10), some (.int b11), o12] [.int x345] M307 _
                refine z_xP zt126 63 171 [some (.ref a0), some (.ref a1), some (.int p2), some (.int p3), some (.ref a4), some (.int b5), some (.int b6), some (.int b7), some (.int b8), some (.int b9), some (.int b10), some (.int b11), some (.int x345)] [.int b6, .int x345] rfl rfl ?_
                refine z_xI zt126 64 rfl rfl (fun (x350 : Int32) (h351 : 0 ≤ x350.toInt ∧ x350.toInt ≤ x345.toInt ∧ x350.toInt ≤ b6.toInt) => ?_) (z_pAnd2 rfl rfl (by omega) (by omega))
                refine z_xcS (vs := [.int x350]) (r := []) (L2 := [some (.int x350)]) zt126 65 rfl zo126 zzcS4_77 (Or.inl rfl) (Nat.le_of_ble_eq_true rfl) rfl rfl (Nat.le_of_ble_eq_true rfl) zzm31 (Nat.le_of_ble_eq_true rfl) rfl ?_
                refine zC31 X310.1 (fun x354 M352 X353 h355 h356 => ?_)
                have X357 := X310.go X353 (z_sb (by decide))
                show z_ev (d + 5) 126 175 [some (.ref a0), some (.ref a1), some (.int p2), some (.int p3), some (.ref a4), some (.int b5), some (.int b6), some (.int b7), some (.int b8), some (.int b9), some (.int b10), some (.int b11), some (.int x345)] [.int x354] M352 _
                refine z_xP zt126 66 177 [some (.ref a0), some (.ref a1), some (.int p2), some (.int p3), some (.ref a4), some (.int b5), some (.int b6), some (.int b7), some (.int b8), some (.int b9), some (.int b10), some (.int b11), some (.int x345)] [.int b7, .int x354] rfl rfl ?_
                refine z_xJ zt126 67 rfl rfl (fun (h359 : x354.toInt ≤ b7.toInt) => ?_) (fun (h359 : b7.toInt < x354.toInt) => ?_)
                · skip
                  refine z_xP zt126 69 185 [some (.ref a0), some (.ref a1), some (.int p2), some (.int p3), some (.ref a4), some (.int b5), some (.int b6), some (.int b7), some (.int b8), some (.int b9), some (.int b10), some (.int b11), some (.int x345)] [.int 0] rfl rfl ?_
                  refine z_xP zt126 70 187 [some (.ref a0), some (.ref a1), some (.int p2), some (.int p3), some (.ref a4), some (.int b5), some (.int b6), some (.int b7), some (.int b8), some (.int b9), some (.int 0), some (.int b11), some (.int x345)] [] rfl rfl ?_
                  refine z_xN zt126 71 rfl rfl (fun (x360 : Int32) (h361 : x360.toInt = b11.toInt + 1) => ?_) (z_pAdd rfl rfl (by omega) (by omega))
                  show z_ev (d + 5) 126 190 [some (.ref a0), some (.ref a1), some (.int p2), some (.int p3), some (.ref a4), some (.int b5), some (.int b6), some (.int b7), some (.int b8), some (.int b9), some (.int 0), some (.int x360), some (.int x345)] [] M352 _
                  refine z_xP zt126 72 66 [some (.ref a0), some (.ref a1), some (.int p2), some (.int p3), some (.ref a4), some (.int b5), some (.int b6), some (.int b7), some (.int b8), some (.int b9), some (.int 0), some (.int x360), some (.int x345)] [] rfl rfl ?_
                  have q0 : ((0 : Int32)).toInt = 0 := rfl
                  exact ih.1 M352 b5 b6 b7 b8 b9 (0) x360 (some (.int x345)) X357 ⟨by omega, by omega⟩ ⟨by omega, by omega⟩ ⟨by omega, by omega⟩ ⟨by omega, by omega⟩ (by decide) ⟨by omega, by omega⟩ (by omega) (by omega)
                refine z_xP zt126 68 185 [some (.ref a0), some (.ref a1), some (.int p2), some (.int p3), some (.ref a4), some (.int b5), some (.int b6), some (.int b7), some (.int b8), some (.int b9), some (.int b10), some (.int b11), some (.int x345)] [.int 1] rfl rfl ?_
                refine z_xP zt126 70 187 [some (.ref a0), some (.ref a1), some (.int p2), some (.int p3), some (.ref a4), some (.int b5), some (.int b6), some (.int b7), some (.int b8), some (.int b9), some (.int 1), some (.int b11), some (.int x345)] [] rfl rfl ?_
                refine z_xN zt126 71 rfl rfl (fun (x362 : Int32) (h363 : x362.toInt = b11.toInt + 1) => ?_) (z_pAdd rfl rfl (by omega) (by omega))
                show z_ev (d + 5) 126 190 [some (.ref a0), some (.ref a1), some (.int p2), some (.int p3), some (.ref a4), some (.int b5), some (.int b6), some (.int b7), some (.int b8), some (.int b9), some (.int 1), some (.int x362), some (.int x345)] [] M352 _
                refine z_xP zt126 72 66 [some (.ref a0), some (.ref a1), some (.int p2), some (.int p3), some (.ref a4), some (.int b5), some (.int b6), some (.int b7), some (.int b8), some (.int b9), some (.int 1), some (.int x362), some (.int x345)] [] rfl rfl ?_
                have q1 : ((1 : Int32)).toInt = 1 := rfl
                exact ih.1 M352 b5 b6 b7 b8 b9 (1) x362 (some (.int x345)) X357 ⟨by omega, by omega⟩ ⟨by omega, by omega⟩ ⟨by omega, by omega⟩ ⟨by omega, by omega⟩ (by decide) ⟨by omega, by omega⟩ (by omega) (by omega)
              refine z_xP zt122 15 38 [some (.ref a0), some (.ref a1), some (.int x305), some (.ref a4), some (.int x309)] [.ref a1] rfl rfl ?_
              refine z_xcV (vs := [.ref a1]) (r := []) (L2 := [some (.ref a1), none, none]) zt122 16 rfl zo122 zzcV4_132 (Or.inl rfl) rfl X310 k1 rfl rfl rfl (Nat.le_of_ble_eq_true rfl) zzm111 (Nat.le_of_ble_eq_true rfl) rfl ?_
              refine zC111 X310.1 k1 (fun M364 X365  => ?_)
              have X366 := X310.go X365 (z_sb (by decide))
              show z_ev (d + 4) 122 41 [some (.ref a0), some (.ref a1), some (.int x305), some (.ref a4), some (.int x309)] [] M364 _
              refine z_xP zt122 17 46 [some (.ref a0), some (.ref a1), some (.int x305), some (.ref a4), some (.int x309)] [.ref a1, .ref a0, .int x309, .ref a4] rfl rfl ?_
              refine zVdecide zt122 18 rfl zo122 zzcV4_54 X366 k0 w0 (Nat.le_of_ble_eq_true rfl) k1 (fun x370 M368 X369  => ?_)
              have X371 := X366.go X369 (z_sb (by decide))
              show z_ev (d + 4) 122 49 [some (.ref a0), some (.ref a1), some (.int x305), some (.ref a4), some (.int x309)] [.int x370, .int x309, .ref a4] M368 _
              refine z_xis zt122 19 rfl X371 k4 (by decide) (X371.1.g4 k4 (by decide)) (by omega) (by omega) (Int32.le_toInt _) (Int32.toInt_le _) (by decide) (fun M373 X374 e375 h376 => ?_)
              refine z_xP zt122 20 53 [some (.ref a0), some (.ref a1), some (.int x305), some (.ref a4), some (.int x309)] [.int x309, .ref a4] rfl rfl ?_
              refine z_xil zt122 21 rfl X374 k4 (by decide) (by omega) (by omega) (fun (x377 : Int32) h378 (h379 : (-2147483648) ≤ x377.toInt) (h380 : x377.toInt ≤ 2147483647) => ?_)
              have h381 := congrArg Int32.toInt (h378.symm.trans (z_upe h376))
              refine z_xri zt122 22 rfl zzr122 ?_
              show z_ev (d + 5) 126 165 [some (.ref a0), some (.ref a1), some (.int p2), some (.int p3), some (.ref a4), some (.int b5), some (.int b6), some (.int b7), some (.int b8), some (.int b9), some (.int b10), some (.int b11), o12] [.int x377] M373 _
              refine z_xP zt126 63 171 [some (.ref a0), some (.ref a1), some (.int p2), some (.int p3), some (.ref a4), some (.int b5), some (.int b6), some (.int b7), some (.int b8), some (.int b9), some (.int b10), some (.int b11), some (.int x377)] [.int b6, .int x377] rfl rfl ?_
              refine z_xI zt126 64 rfl rfl (fun (x382 : Int32) (h383 : 0 ≤ x382.toInt ∧ x382.toInt ≤ b6.toInt) => ?_) (z_pAnd rfl (by omega))
              refine z_xcS (vs := [.int x382]) (r := []) (L2 := [some (.int x382)]) zt126 65 rfl zo126 zzcS4_77 (Or.inl rfl) (Nat.le_of_ble_eq_true rfl) rfl rfl (Nat.le_of_ble_eq_true rfl) zzm31 (Nat.le_of_ble_eq_true rfl) rfl ?_
              refine zC31 X374.1 (fun x386 M384 X385 h387 h388 => ?_)
              have X389 := X374.go X385 (z_sb (by decide))
              show z_ev (d + 5) 126 175 [some (.ref a0), some (.ref a1), some (.int p2), some (.int p3), some (.ref a4), some (.int b5), some (.int b6), some (.int b7), some (.int b8), some (.int b9), some (.int b10), some (.int b11), some (.int x377)] [.int x386] M384 _
              refine z_xP zt126 66 177 [some (.ref a0), some (.ref a1), some (.int p2), some (.int p3), some (.ref a4), some (.int b5), some (.int b6), some (.int b7), some (.int b8), some (.int b9), some (.int b10), some (.int b11), some (.int x377)] [.int b7, .int x386] rfl rfl ?_
              refine z_xJ zt126 67 rfl rfl (fun (h391 : x386.toInt ≤ b7.toInt) => ?_) (fun (h391 : b7.toInt < x386.toInt) => ?_)
              · skip
                refine z_xP zt126 69 185 [some (.ref a0), some (.ref a1), some (.int p2), some (.int p3), some (.ref a4), some (.int b5), some (.int b6), some (.int b7), some (.int b8), some (.int b9), some (.int b10), some (.int b11), some (.int x377)] [.int 0] rfl rfl ?_
                refine z_xP zt126 70 187 [some (.ref a0), some (.ref a1), some (.int p2), some (.int p3), some (.ref a4), some (.int b5), some (.int b6), some (.int b7), some (.int b8), some (.int b9), some (.int 0), some (.int b11), some (.int x377)] [] rfl rfl ?_
                refine z_xN zt126 71 rfl rfl (fun (x392 : Int32) (h393 : x392.toInt = b11.toInt + 1) => ?_) (z_pAdd rfl rfl (by omega) (by omega))
                show z_ev (d + 5) 126 190 [some (.ref a0), some (.ref a1), some (.int p2), some (.int p3), some (.ref a4), some (.int b5), some (.int b6), some (.int b7), some (.int b8), some (.int b9), some (.int 0), some (.int x392), some (.int x377)] [] M384 _
                refine z_xP zt126 72 66 [some (.ref a0), some (.ref a1), some (.int p2), some (.int p3), some (.ref a4), some (.int b5), some (.int b6), some (.int b7), some (.int b8), some (.int b9), some (.int 0), some (.int x392), some (.int x377)] [] rfl rfl ?_
                have q0 : ((0 : Int32)).toInt = 0 := rfl
                exact ih.1 M384 b5 b6 b7 b8 b9 (0) x392 (some (.int x377)) X389 ⟨by omega, by omega⟩ ⟨by omega, by omega⟩ ⟨by omega, by omega⟩ ⟨by omega, by omega⟩ (by decide) ⟨by omega, by omega⟩ (by omega) (by omega)
              refine z_xP zt126 68 185 [some (.ref a0), some (.ref a1), some (.int p2), some (.int p3), some (.ref a4), some (.int b5), some (.int b6), some (.int b7), some (.int b8), some (.int b9), some (.int b10), some (.int b11), some (.int x377)] [.int 1] rfl rfl ?_
              refine z_xP zt126 70 187 [some (.ref a0), some (.ref a1), some (.int p2), some (.int p3), some (.ref a4), some (.int b5), some (.int b6), some (.int b7), some (.int b8), some (.int b9), some (.int 1), some (.int b11), some (.int x377)] [] rfl rfl ?_
              refine z_xN zt126 71 rfl rfl (fun (x394 : Int32) (h395 : x394.toInt = b11.toInt + 1) => ?_) (z_pAdd rfl rfl (by omega) (by omega))
              show z_ev (d + 5) 126 190 [some (.ref a0), some (.ref a1), some (.int p2), some (.int p3), some (.ref a4), some (.int b5), some (.int b6), some (.int b7), some (.int b8), some (.int b9), some (.int 1), some (.int x394), some (.int x377)] [] M384 _
              refine z_xP zt126 72 66 [some (.ref a0), some (.ref a1), some (.int p2), some (.int p3), some (.ref a4), some (.int b5), some (.int b6), some (.int b7), some (.int b8), some (.int b9), some (.int 1), some (.int x394), some (.int x377)] [] rfl rfl ?_
              have q1 : ((1 : Int32)).toInt = 1 := rfl
              exact ih.1 M384 b5 b6 b7 b8 b9 (1) x394 (some (.int x377)) X389 ⟨by omega, by omega⟩ ⟨by omega, by omega⟩ ⟨by omega, by omega⟩ ⟨by omega, by omega⟩ (by decide) ⟨by omega, by omega⟩ (by omega) (by omega)
            refine z_xP zt122 7 21 [some (.ref a0), some (.ref a1), some (.int x305), some (.ref a4), some (.int x309)] [.ref a1] rfl rfl ?_
            refine z_xcV (vs := [.ref a1]) (r := []) (L2 := [some (.ref a1), none, none]) zt122 8 rfl zo122 zzcV4_132 (Or.inl rfl) rfl X310 k1 rfl rfl rfl (Nat.le_of_ble_eq_true rfl) zzm111 (Nat.le_of_ble_eq_true rfl) rfl ?_
            refine zC111 X310.1 k1 (fun M396 X397  => ?_)
            have X398 := X310.go X397 (z_sb (by decide))
            show z_ev (d + 4) 122 24 [some (.ref a0), some (.ref a1), some (.int x305), some (.ref a4), some (.int x309)] [] M396 _
            refine z_xP zt122 9 26 [some (.ref a0), some (.ref a1), some (.int x305), some (.ref a4), some (.int x309)] [.ref a1, .ref a0] rfl rfl ?_
            refine zVdecide zt122 10 rfl zo122 zzcV4_54 X398 k0 w0 (Nat.le_of_ble_eq_true rfl) k1 (fun x402 M400 X401  => ?_)
            have X403 := X398.go X401 (z_sb (by decide))
            show z_ev (d + 4) 122 29 [some (.ref a0), some (.ref a1), some (.int x305), some (.ref a4), some (.int x309)] [.int x402] M400 _
            refine z_xri zt122 11 rfl zzr122 ?_
            show z_ev (d + 5) 126 165 [some (.ref a0), some (.ref a1), some (.int p2), some (.int p3), some (.ref a4), some (.int b5), some (.int b6), some (.int b7), some (.int b8), some (.int b9), some (.int b10), some (.int b11), o12] [.int x402] M400 _
            refine z_xP zt126 63 171 [some (.ref a0), some (.ref a1), some (.int p2), some (.int p3), some (.ref a4), some (.int b5), some (.int b6), some (.int b7), some (.int b8), some (.int b9), some (.int b10), some (.int b11), some (.int x402)] [.int b6, .int x402] rfl rfl ?_
            refine z_xI zt126 64 rfl rfl (fun (x405 : Int32) (h406 : 0 ≤ x405.toInt ∧ x405.toInt ≤ b6.toInt) => ?_) (z_pAnd rfl (by omega))
            refine z_xcS (vs := [.int x405]) (r := []) (L2 := [some (.int x405)]) zt126 65 rfl zo126 zzcS4_77 (Or.inl rfl) (Nat.le_of_ble_eq_true rfl) rfl rfl (Nat.le_of_ble_eq_true rfl) zzm31 (Nat.le_of_ble_eq_true rfl) rfl ?_
            refine zC31 X403.1 (fun x409 M407 X408 h410 h411 => ?_)
            have X412 := X403.go X408 (z_sb (by decide))
            show z_ev (d + 5) 126 175 [some (.ref a0), some (.ref a1), some (.int p2), some (.int p3), some (.ref a4), some (.int b5), some (.int b6), some (.int b7), some (.int b8), some (.int b9), some (.int b10), some (.int b11), some (.int x402)] [.int x409] M407 _
            refine z_xP zt126 66 177 [some (.ref a0), some (.ref a1), some (.int p2), some (.int p3), some (.ref a4), some (.int b5), some (.int b6), some (.int b7), some (.int b8), some (.int b9), some (.int b10), some (.int b11), some (.int x402)] [.int b7, .int x409] rfl rfl ?_
            refine z_xJ zt126 67 rfl rfl (fun (h414 : x409.toInt ≤ b7.toInt) => ?_) (fun (h414 : b7.toInt < x409.toInt) => ?_)
            · skip
              refine z_xP zt126 69 185 [some (.ref a0), some (.ref a1), some (.int p2), some (.int p3), some (.ref a4), some (.int b5), some (.int b6), some (.int b7), some (.int b8), some (.int b9), some (.int b10), some (.int b11), some (.int x402)] [.int 0] rfl rfl ?_
              refine z_xP zt126 70 187 [some (.ref a0), some (.ref a1), some (.int p2), some (.int p3), some (.ref a4), some (.int b5), some (.int b6), some (.int b7), some (.int b8), some (.int b9), some (.int 0), some (.int b11), some (.int x402)] [] rfl rfl ?_
              refine z_xN zt126 71 rfl rfl (fun (x415 : Int32) (h416 : x415.toInt = b11.toInt + 1) => ?_) (z_pAdd rfl rfl (by omega) (by omega))
              show z_ev (d + 5) 126 190 [some (.ref a0), some (.ref a1), some (.int p2), some (.int p3), some (.ref a4), some (.int b5), some (.int b6), some (.int b7), some (.int b8), some (.int b9), some (.int 0), some (.int x415), some (.int x402)] [] M407 _
              refine z_xP zt126 72 66 [some (.ref a0), some (.ref a1), some (.int p2), some (.int p3), some (.ref a4), some (.int b5), some (.int b6), some (.int b7), some (.int b8), some (.int b9), some (.int 0), some (.int x415), some (.int x402)] [] rfl rfl ?_
              have q0 : ((0 : Int32)).toInt = 0 := rfl
              exact ih.1 M407 b5 b6 b7 b8 b9 (0) x415 (some (.int x402)) X412 ⟨by omega, by omega⟩ ⟨by omega, by omega⟩ ⟨by omega, by omega⟩ ⟨by omega, by omega⟩ (by decide) ⟨by omega, by omega⟩ (by omega) (by omega)
            refine z_xP zt126 68 185 [some (.ref a0), some (.ref a1), some (.int p2), some (.int p3), some (.ref a4), some (.int b5), some (.int b6), some (.int b7), some (.int b8), some (.int b9), some (.int b10), some (.int b11), some (.int x402)] [.int 1] rfl rfl ?_
            refine z_xP zt126 70 187 [some (.ref a0), some (.ref a1), some (.int p2), some (.int p3), some (.ref a4), some (.int b5), some (.int b6), some (.int b7), some (.int b8), some (.int b9), some (.int 1), some (.int b11), some (.int x402)] [] rfl rfl ?_
            refine z_xN zt126 71 rfl rfl (fun (x417 : Int32) (h418 : x417.toInt = b11.toInt + 1) => ?_) (z_pAdd rfl rfl (by omega) (by omega))
            show z_ev (d + 5) 126 190 [some (.ref a0), some (.ref a1), some (.int p2), some (.int p3), some (.ref a4), some (.int b5), some (.int b6), some (.int b7), some (.int b8), some (.int b9), some (.int 1), some (.int x417), some (.int x402)] [] M407 _
            refine z_xP zt126 72 66 [some (.ref a0), some (.ref a1), some (.int p2), some (.int p3), some (.ref a4), some (.int b5), some (.int b6), some (.int b7), some (.int b8), some (.int b9), some (.int 1), some (.int x417), some (.int x402)] [] rfl rfl ?_
            have q1 : ((1 : Int32)).toInt = 1 := rfl
            exact ih.1 M407 b5 b6 b7 b8 b9 (1) x417 (some (.int x402)) X412 ⟨by omega, by omega⟩ ⟨by omega, by omega⟩ ⟨by omega, by omega⟩ ⟨by omega, by omega⟩ (by decide) ⟨by omega, by omega⟩ (by omega) (by omega)
          refine z_xP zt105 13 27 [some (.int x282), some (.int x284)] [.int 0] rfl rfl ?_
          refine z_xri zt105 14 rfl zzr105 ?_
          show z_ev (d + 5) 126 159 [some (.ref a0), some (.ref a1), some (.int p2), some (.int p3), some (.ref a4), some (.int b5), some (.int b6), some (.int b7), some (.int b8), some (.int b9), some (.int b10), some (.int b11), o12] [.int 0, .int b9, .ref a1, .ref a0] M278 _
          have h419 := z_b32 b9
          refine z_xI zt126 60 rfl rfl (fun (x420 : Int32) (h421 : x420.toInt = b9.toInt + 0) => ?_) (z_pAdd rfl rfl (by omega) (by omega))
          refine z_xP zt126 61 162 [some (.ref a0), some (.ref a1), some (.int p2), some (.int p3), some (.ref a4), some (.int b5), some (.int b6), some (.int b7), some (.int b8), some (.int b9), some (.int b10), some (.int b11), o12] [.ref a4, .int x420, .ref a1, .ref a0] rfl rfl ?_
          refine z_xcV (vs := [.ref a0, .ref a1, .int x420, .ref a4]) (r := []) (L2 := [some (.ref a0), some (.ref a1), some (.int x420), some (.ref a4), none]) zt126 62 rfl zo126 zzcV4_104 (Or.inr rfl) rfl X279 k0 (z_w8 (fun c => (([(4, 122), (5, 122), (6, 122), (7, 122), (8, 122), (9, 122), (10, 122), (11, 122)] : List (Nat × Nat)).find? fun t => t.1 == c) = some (c, 122)) rfl rfl rfl rfl rfl rfl rfl rfl w0) rfl rfl (Nat.le_of_ble_eq_true rfl) zzm122 (Nat.le_of_ble_eq_true rfl) rfl ?_
          refine z_xP zt122 0 3 [some (.ref a0), some (.ref a1), some (.int x420), some (.ref a4), none] [.int x420, .ref a1, .ref a0] rfl rfl ?_
          refine zVplaceOf zt122 1 rfl zo122 zzcV4_128 X279 k0 w0 (Nat.le_of_ble_eq_true rfl) k1 (fun x424 M422 X423  => ?_)
          have X425 := X279.go X423 (z_sb (by decide))
          show z_ev (d + 4) 122 6 [some (.ref a0), some (.ref a1), some (.int x420), some (.ref a4), none] [.int x424] M422 _
          refine z_xP zt122 2 10 [some (.ref a0), some (.ref a1), some (.int x420), some (.ref a4), some (.int x424)] [.int x424] rfl rfl ?_
          refine z_xZ zt122 3 rfl rfl (fun (h427 : x424.toInt < 0) => ?_) (fun (h427 : 0 ≤ x424.toInt) => ?_)
          · skip
            refine z_xP zt122 7 21 [some (.ref a0), some (.ref a1), some (.int x420), some (.ref a4), some (.int x424)] [.ref a1] rfl rfl ?_
            refine z_xcV (vs := [.ref a1]) (r := []) (L2 := [some (.ref a1), none, none]) zt122 8 rfl zo122 zzcV4_132 (Or.inl rfl) rfl X425 k1 rfl rfl rfl (Nat.le_of_ble_eq_true rfl) zzm111 (Nat.le_of_ble_eq_true rfl) rfl ?_
            refine zC111 X425.1 k1 (fun M428 X429  => ?_)
            have X430 := X425.go X429 (z_sb (by decide))
            show z_ev (d + 4) 122 24 [some (.ref a0), some (.ref a1), some (.int x420), some (.ref a4), some (.int x424)] [] M428 _
            refine z_xP zt122 9 26 [some (.ref a0), some (.ref a1), some (.int x420), some (.ref a4), some (.int x424)] [.ref a1, .ref a0] rfl rfl ?_
            refine zVdecide zt122 10 rfl zo122 zzcV4_54 X430 k0 w0 (Nat.le_of_ble_eq_true rfl) k1 (fun x434 M432 X433  => ?_)
            have X435 := X430.go X433 (z_sb (by decide))
            show z_ev (d + 4) 122 29 [some (.ref a0), some (.ref a1), some (.int x420), some (.ref a4), some (.int x424)] [.int x434] M432 _
            refine z_xri zt122 11 rfl zzr122 ?_
            show z_ev (d + 5) 126 165 [some (.ref a0), some (.ref a1), some (.int p2), some (.int p3), some (.ref a4), some (.int b5), some (.int b6), some (.int b7), some (.int b8), some (.int b9), some (.int b10), some (.int b11), o12] [.int x434] M432 _
            refine z_xP zt126 63 171 [some (.ref a0), some (.ref a1), some (.int p2), some (.int p3), some (.ref a4), some (.int b5), some (.int b6), some (.int b7), some (.int b8), some (.int b9), some (.int b10), some (.int b11), some (.int x434)] [.int b6, .int x434] rfl rfl ?_
            refine z_xI zt126 64 rfl rfl (fun (x437 : Int32) (h438 : 0 ≤ x437.toInt ∧ x437.toInt ≤ b6.toInt) => ?_) (z_pAnd rfl (by omega))
            refine z_xcS (vs := [.int x437]) (r := []) (L2 := [some (.int x437)]) zt126 65 rfl zo126 zzcS4_77 (Or.inl rfl) (Nat.le_of_ble_eq_true rfl) rfl rfl (Nat.le_of_ble_eq_true rfl) zzm31 (Nat.le_of_ble_eq_true rfl) rfl ?_
            refine zC31 X435.1 (fun x441 M439 X440 h442 h443 => ?_)
            have X444 := X435.go X440 (z_sb (by decide))
            show z_ev (d + 5) 126 175 [some (.ref a0), some (.ref a1), some (.int p2), some (.int p3), some (.ref a4), some (.int b5), some (.int b6), some (.int b7), some (.int b8), some (.int b9), some (.int b10), some (.int b11), some (.int x434)] [.int x441] M439 _
            refine z_xP zt126 66 177 [some (.ref a0), some (.ref a1), some (.int p2), some (.int p3), some (.ref a4), some (.int b5), some (.int b6), some (.int b7), some (.int b8), some (.int b9), some (.int b10), some (.int b11), some (.int x434)] [.int b7, .int x441] rfl rfl ?_
            refine z_xJ zt126 67 rfl rfl (fun (h446 : x441.toInt ≤ b7.toInt) => ?_) (fun (h446 : b7.toInt < x441.toInt) => ?_)
            · skip
              refine z_xP zt126 69 185 [some (.ref a0), some (.ref a1), some (.int p2), some (.int p3), some (.ref a4), some (.int b5), some (.int b6), some (.int b7), some (.int b8), some (.int b9), some (.int b10), some (.int b11), some (.int x434)] [.int 0] rfl rfl ?_
              refine z_xP zt126 70 187 [some (.ref a0), some (.ref a1), some (.int p2), some (.int p3), some (.ref a4), some (.int b5), some (.int b6), some (.int b7), some (.int b8), some (.int b9), some (.int 0), some (.int b11), some (.int x434)] [] rfl rfl ?_
              refine z_xN zt126 71 rfl rfl (fun (x447 : Int32) (h448 : x447.toInt = b11.toInt + 1) => ?_) (z_pAdd rfl rfl (by omega) (by omega))
              show z_ev (d + 5) 126 190 [some (.ref a0), some (.ref a1), some (.int p2), some (.int p3), some (.ref a4), some (.int b5), some (.int b6), some (.int b7), some (.int b8), some (.int b9), some (.int 0), some (.int x447), some (.int x434)] [] M439 _
              refine z_xP zt126 72 66 [some (.ref a0), some (.ref a1), some (.int p2), some (.int p3), some (.ref a4), some (.int b5), some (.int b6), some (.int b7), some (.int b8), some (.int b9), some (.int 0), some (.int x447), some (.int x434)] [] rfl rfl ?_
              have q0 : ((0 : Int32)).toInt = 0 := rfl
              exact ih.1 M439 b5 b6 b7 b8 b9 (0) x447 (some (.int x434)) X444 ⟨by omega, by omega⟩ ⟨by omega, by omega⟩ ⟨by omega, by omega⟩ ⟨by omega, by omega⟩ (by decide) ⟨by omega, by omega⟩ (by omega) (by omega)
            refine z_xP zt126 68 185 [some (.ref a0), some (.ref a1), some (.int p2), some (.int p3), some (.ref a4), some (.int b5), some (.int b6), some (.int b7), some (.int b8), some (.int b9), some (.int b10), some (.int b11), some (.int x434)] [.int 1] rfl rfl ?_
            refine z_xP zt126 70 187 [some (.ref a0), some (.ref a1), some (.int p2), some (.int p3), some (.ref a4), some (.int b5), some (.int b6), some (.int b7), some (.int b8), some (.int b9), some (.int 1), some (.int b11), some (.int x434)] [] rfl rfl ?_
            refine z_xN zt126 71 rfl rfl (fun (x449 : Int32) (h450 : x449.toInt = b11.toInt + 1) => ?_) (z_pAdd rfl rfl (by omega) (by omega))
            show z_ev (d + 5) 126 190 [some (.ref a0), some (.ref a1), some (.int p2), some (.int p3), some (.ref a4), some (.int b5), some (.int b6), some (.int b7), some (.int b8), some (.int b9), some (.int 1), some (.int x449), some (.int x434)] [] M439 _
            refine z_xP zt126 72 66 [some (.ref a0), some (.ref a1), some (.int p2), some (.int p3), some (.ref a4), some (.int b5), some (.int b6), some (.int b7), some (.int b8), some (.int b9), some (.int 1), some (.int x449), some (.int x434)] [] rfl rfl ?_
            have q1 : ((1 : Int32)).toInt = 1 := rfl
            exact ih.1 M439 b5 b6 b7 b8 b9 (1) x449 (some (.int x434)) X444 ⟨by omega, by omega⟩ ⟨by omega, by omega⟩ ⟨by omega, by omega⟩ ⟨by omega, by omega⟩ (by decide) ⟨by omega, by omega⟩ (by omega) (by omega)
          refine z_xP zt122 4 16 [some (.ref a0), some (.ref a1), some (.int x420), some (.ref a4), some (.int x424)] [.ref a4, .int x424] rfl rfl ?_
          refine z_xln zt122 5 rfl X425 k4 (by decide) (by decide) (fun (x451 : Int32) (h452 : x451.toInt = ((16380 : Nat) : Int)) => ?_)
          have h453 := z_b32 x424
          refine z_xJ zt122 6 rfl rfl (fun (h454 : x424.toInt < x451.toInt) => ?_) (fun (h454 : x451.toInt ≤ x424.toInt) => ?_)
          · skip
            refine z_xP zt122 12 33 [some (.ref a0), some (.ref a1), some (.int x420), some (.ref a4), some (.int x424)] [.int x424, .ref a4] rfl rfl ?_
            refine z_xil zt122 13 rfl X425 k4 (by decide) (by omega) (by omega) (fun (x455 : Int32) h456 (h457 : (-2147483648) ≤ x455.toInt) (h458 : x455.toInt ≤ 2147483647) => ?_)
            refine z_xZ zt122 14 rfl rfl (fun (h459 : 0 ≤ x455.toInt) => ?_) (fun (h459 : x455.toInt < 0) => ?_)
            · skip
              refine z_xP zt122 20 53 [some (.ref a0), some (.ref a1), some (.int x420), some (.ref a4), some (.int x424)] [.int x424, .ref a4] rfl rfl ?_
              refine z_xil zt122 21 rfl X425 k4 (by decide) (by omega) (by omega) (fun (x460 : Int32) h461 (h462 : (-2147483648) ≤ x460.toInt) (h463 : x460.toInt ≤ 2147483647) => ?_)
              have h464 := congrArg Int32.toInt (h461.symm.trans h456)
              refine z_xri zt122 22 rfl zzr122 ?_
              show z_ev (d + 5) 126 165 [some (.ref a0), some (.ref a1), some (.int p2), some (.int p3), some (.ref a4), some (.int b5), some (.int b6), some (.int b7), some (.int b8), some (.int b9), some (.int b10), some (.int b11), o12] [.int x460] M422 _
              refine z_xP zt126 63 171 [some (.ref a0), some (.ref a1), some (.int p2), some (.int p3), some (.ref a4), some (.int b5), some (.int b6), some (.int b7), some (.int b8), some (.int b9), some (.int b10), some (.int b11), some (.int x460)] [.int b6, .int x460] rfl rfl ?_
              refine z_xI zt126 64 rfl rfl (fun (x465 : Int32) (h466 : 0 ≤ x465.toInt ∧ x465.toInt ≤ x460.toInt ∧ x465.toInt ≤ b6.toInt) => ?_) (z_pAnd2 rfl rfl (by omega) (by omega))
              refine z_xcS (vs := [.int x465]) (r := []) (L2 := [some (.int x465)]) zt126 65 rfl zo126 zzcS4_77 (Or.inl rfl) (Nat.le_of_ble_eq_true rfl) rfl rfl (Nat.le_of_ble_eq_true rfl) zzm31 (Nat.le_of_ble_eq_true rfl) rfl ?_
              refine zC31 X425.1 (fun x469 M467 X468 h470 h471 => ?_)
              have X472 := X425.go X468 (z_sb (by decide))
              show z_ev (d + 5) 126 175 [some (.ref a0), some (.ref a1), some (.int p2), some (.int p3), some (.ref a4), some (.int b5), some (.int b6), some (.int b7), some (.int b8), some (.int b9), some (.int b10), some (.int b11), some (.int x460)] [.int x469] M467 _
              refine z_xP zt126 66 177 [some (.ref a0), some (.ref a1), some (.int p2), some (.int p3), some (.ref a4), some (.int b5), some (.int b6), some (.int b7), some (.int b8), some (.int b9), some (.int b10), some (.int b11), some (.int x460)] [.int b7, .int x469] rfl rfl ?_
              refine z_xJ zt126 67 rfl rfl (fun (h474 : x469.toInt ≤ b7.toInt) => ?_) (fun (h474 : b7.toInt < x469.toInt) => ?_)
              · skip
                refine z_xP zt126 69 185 [some (.ref a0), some (.ref a1), some (.int p2), some (.int p3), some (.ref a4), some (.int b5), some (.int b6), some (.int b7), some (.int b8), some (.int b9), some (.int b10), some (.int b11), some (.int x460)] [.int 0] rfl rfl ?_
                refine z_xP zt126 70 187 [some (.ref a0), some (.ref a1), some (.int p2), some (.int p3), some (.ref a4), some (.int b5), some (.int b6), some (.int b7), some (.int b8), some (.int b9), some (.int 0), some (.int b11), some (.int x460)] [] rfl rfl ?_
                refine z_xN zt126 71 rfl rfl (fun (x475 : Int32) (h476 : x475.toInt = b11.toInt + 1) => ?_) (z_pAdd rfl rfl (by omega) (by omega))
                show z_ev (d + 5) 126 190 [some (.ref a0), some (.ref a1), some (.int p2), some (.int p3), some (.ref a4), some (.int b5), some (.int b6), some (.int b7), some (.int b8), some (.int b9), some (.int 0), some (.int x475), some (.int x460)] [] M467 _
                refine z_xP zt126 72 66 [some (.ref a0), some (.ref a1), some (.int p2), some (.int p3), some (.ref a4), some (.int b5), some (.int b6), some (.int b7), some (.int b8), some (.int b9), some (.int 0), some (.int x475), some (.int x460)] [] rfl rfl ?_
                have q0 : ((0 : Int32)).toInt = 0 := rfl
                exact ih.1 M467 b5 b6 b7 b8 b9 (0) x475 (some (.int x460)) X472 ⟨by omega, by omega⟩ ⟨by omega, by omega⟩ ⟨by omega, by omega⟩ ⟨by omega, by omega⟩ (by decide) ⟨by omega, by omega⟩ (by omega) (by omega)
              refine z_xP zt126 68 185 [some (.ref a0), some (.ref a1), some (.int p2), some (.int p3), some (.ref a4), some (.int b5), some (.int b6), some (.int b7), some (.int b8), some (.int b9), some (.int b10), some (.int b11), some (.int x460)] [.int 1] rfl rfl ?_
              refine z_xP zt126 70 187 [some (.ref a0), some (.ref a1), some (.int p2), some (.int p3), some (.ref a4), some (.int b5), some (.int b6), some (.int b7), some (.int b8), some (.int b9), some (.int 1), some (.int b11), some (.int x460)] [] rfl rfl ?_
              refine z_xN zt126 71 rfl rfl (fun (x477 : Int32) (h478 : x477.toInt = b11.toInt + 1) => ?_) (z_pAdd rfl rfl (by omega) (by omega))
              show z_ev (d + 5) 126 190 [some (.ref a0), some (.ref a1), some (.int p2), some (.int p3), some (.ref a4), some (.int b5), some (.int b6), some (.int b7), some (.int b8), some (.int b9), some (.int 1), some (.int x477), some (.int x460)] [] M467 _
              refine z_xP zt126 72 66 [some (.ref a0), some (.ref a1), some (.int p2), some (.int p3), some (.ref a4), some (.int b5), some (.int b6), some (.int b7), some (.int b8), some (.int b9), some (.int 1), some (.int x477), some (.int x460)] [] rfl rfl ?_
              have q1 : ((1 : Int32)).toInt = 1 := rfl
              exact ih.1 M467 b5 b6 b7 b8 b9 (1) x477 (some (.int x460)) X472 ⟨by omega, by omega⟩ ⟨by omega, by omega⟩ ⟨by omega, by omega⟩ ⟨by omega, by omega⟩ (by decide) ⟨by omega, by omega⟩ (by omega) (by omega)
            refine z_xP zt122 15 38 [some (.ref a0), some (.ref a1), some (.int x420), some (.ref a4), some (.int x424)] [.ref a1] rfl rfl ?_
            refine z_xcV (vs := [.ref a1]) (r := []) (L2 := [some (.ref a1), none, none]) zt122 16 rfl zo122 zzcV4_132 (Or.inl rfl) rfl X425 k1 rfl rfl rfl (Nat.le_of_ble_eq_true rfl) zzm111 (Nat.le_of_ble_eq_true rfl) rfl ?_
            refine zC111 X425.1 k1 (fun M479 X480  => ?_)
            have X481 := X425.go X480 (z_sb (by decide))
            show z_ev (d + 4) 122 41 [some (.ref a0), some (.ref a1), some (.int x420), some (.ref a4), some (.int x424)] [] M479 _
            refine z_xP zt122 17 46 [some (.ref a0), some (.ref a1), some (.int x420), some (.ref a4), some (.int x424)] [.ref a1, .ref a0, .int x424, .ref a4] rfl rfl ?_
            refine zVdecide zt122 18 rfl zo122 zzcV4_54 X481 k0 w0 (Nat.le_of_ble_eq_true rfl) k1 (fun x485 M483 X484  => ?_)
            have X486 := X481.go X484 (z_sb (by decide))
            show z_ev (d + 4) 122 49 [some (.ref a0), some (.ref a1), some (.int x420), some (.ref a4), some (.int x424)] [.int x485, .int x424, .ref a4] M483 _
            refine z_xis zt122 19 rfl X486 k4 (by decide) (X486.1.g4 k4 (by decide)) (by omega) (by omega) (Int32.le_toInt _) (Int32.toInt_le _) (by decide) (fun M488 X489 e490 h491 => ?_)
            refine z_xP zt122 20 53 [some (.ref a0), some (.ref a1), some (.int x420), some (.ref a4), some (.int x424)] [.int x424, .ref a4] rfl rfl ?_
            refine z_xil zt122 21 rfl X489 k4 (by decide) (by omega) (by omega) (fun (x492 : Int32) h493 (h494 : (-2147483648) ≤ x492.toInt) (h495 : x492.toInt ≤ 2147483647) => ?_)
            have h496 := congrArg Int32.toInt (h493.symm.trans (z_upe h491))
            refine z_xri zt122 22 rfl zzr122 ?_
            show z_ev (d + 5) 126 165 [some (.ref a0), some (.ref a1), some (.int p2), some (.int p3), some (.ref a4), some (.int b5), some (.int b6), some (.int b7), some (.int b8), some (.int b9), some (.int b10), some (.int b11), o12] [.int x492] M488 _
            refine z_xP zt126 63 171 [some (.ref a0), some (.ref a1), some (.int p2), some (.int p3), some (.ref a4), some (.int b5), some (.int b6), some (.int b7), some (.int b8), some (.int b9), some (.int b10), some (.int b11), some (.int x492)] [.int b6, .int x492] rfl rfl ?_
            refine z_xI zt126 64 rfl rfl (fun (x497 : Int32) (h498 : 0 ≤ x497.toInt ∧ x497.toInt ≤ b6.toInt) => ?_) (z_pAnd rfl (by omega))
            refine z_xcS (vs := [.int x497]) (r := []) (L2 := [some (.int x497)]) zt126 65 rfl zo126 zzcS4_77 (Or.inl rfl) (Nat.le_of_ble_eq_true rfl) rfl rfl (Nat.le_of_ble_eq_true rfl) zzm31 (Nat.le_of_ble_eq_true rfl) rfl ?_
            refine zC31 X489.1 (fun x501 M499 X500 h502 h503 => ?_)
            have X504 := X489.go X500 (z_sb (by decide))
            show z_ev (d + 5) 126 175 [some (.ref a0), some (.ref a1), some (.int p2), some (.int p3), some (.ref a4), some (.int b5), some (.int b6), some (.int b7), some (.int b8), some (.int b9), some (.int b10), some (.int b11), some (.int x492)] [.int x501] M499 _
            refine z_xP zt126 66 177 [some (.ref a0), some (.ref a1), some (.int p2), some (.int p3), some (.ref a4), some (.int b5), some (.int b6), some (.int b7), some (.int b8), some (.int b9), some (.int b10), some (.int b11), some (.int x492)] [.int b7, .int x501] rfl rfl ?_
            refine z_xJ zt126 67 rfl rfl (fun (h506 : x501.toInt ≤ b7.toInt) => ?_) (fun (h506 : b7.toInt < x501.toInt) => ?_)
            · skip
              refine z_xP zt126 69 185 [some (.ref a0), some (.ref a1), some (.int p2), some (.int p3), some (.ref a4), some (.int b5), some (.int b6), some (.int b7), some (.int b8), some (.int b9), some (.int b10), some (.int b11), some (.int x492)] [.int 0] rfl rfl ?_
              refine z_xP zt126 70 187 [some (.ref a0), some (.ref a1), some (.int p2), some (.int p3), some (.ref a4), some (.int b5), some (.int b6), some (.int b7), some (.int b8), some (.int b9), some (.int 0), some (.int b11), some (.int x492)] [] rfl rfl ?_
              refine z_xN zt126 71 rfl rfl (fun (x507 : Int32) (h508 : x507.toInt = b11.toInt + 1) => ?_) (z_pAdd rfl rfl (by omega) (by omega))
              show z_ev (d + 5) 126 190 [some (.ref a0), some (.ref a1), some (.int p2), some (.int p3), some (.ref a4), some (.int b5), some (.int b6), some (.int b7), some (.int b8), some (.int b9), some (.int 0), some (.int x507), some (.int x492)] [] M499 _
              refine z_xP zt126 72 66 [some (.ref a0), some (.ref a1), some (.int p2), some (.int p3), some (.ref a4), some (.int b5), some (.int b6), some (.int b7), some (.int b8), some (.int b9), some (.int 0), some (.int x507), some (.int x492)] [] rfl rfl ?_
              have q0 : ((0 : Int32)).toInt = 0 := rfl
              exact ih.1 M499 b5 b6 b7 b8 b9 (0) x507 (some (.int x492)) X504 ⟨by omega, by omega⟩ ⟨by omega, by omega⟩ ⟨by omega, by omega⟩ ⟨by omega, by omega⟩ (by decide) ⟨by omega, by omega⟩ (by omega) (by omega)
            refine z_xP zt126 68 185 [some (.ref a0), some (.ref a1), some (.int p2), some (.int p3), some (.ref a4), some (.int b5), some (.int b6), some (.int b7), some (.int b8), some (.int b9), some (.int b10), some (.int b11), some (.int x492)] [.int 1] rfl rfl ?_
            refine z_xP zt126 70 187 [some (.ref a0), some (.ref a1), some (.int p2), some (.int p3), some (.ref a4), some (.int b5), some (.int b6), some (.int b7), some (.int b8), some (.int b9), some (.int 1), some (.int b11), some (.int x492)] [] rfl rfl ?_
            refine z_xN zt126 71 rfl rfl (fun (x509 : Int32) (h510 : x509.toInt = b11.toInt + 1) => ?_) (z_pAdd rfl rfl (by omega) (by omega))
            show z_ev (d + 5) 126 190 [some (.ref a0), some (.ref a1), some (.int p2), some (.int p3), some (.ref a4), some (.int b5), some (.int b6), some (.int b7), some (.int b8), some (.int b9), some (.int 1), some (.int x509), some (.int x492)] [] M499 _
            refine z_xP zt126 72 66 [some (.ref a0), some (.ref a1), some (.int p2), some (.int p3), some (.ref a4), some (.int b5), some (.int b6), some (.int b7), some (.int b8), some (.int b9), some (.int 1), some (.int x509), some (.int x492)] [] rfl rfl ?_
            have q1 : ((1 : Int32)).toInt = 1 := rfl
            exact ih.1 M499 b5 b6 b7 b8 b9 (1) x509 (some (.int x492)) X504 ⟨by omega, by omega⟩ ⟨by omega, by omega⟩ ⟨by omega, by omega⟩ ⟨by omega, by omega⟩ (by decide) ⟨by omega, by omega⟩ (by omega) (by omega)
          refine z_xP zt122 7 21 [some (.ref a0), some (.ref a1), some (.int x420), some (.ref a4), some (.int x424)] [.ref a1] rfl rfl ?_
          refine z_xcV (vs := [.ref a1]) (r := []) (L2 := [some (.ref a1), none, none]) zt122 8 rfl zo122 zzcV4_132 (Or.inl rfl) rfl X425 k1 rfl rfl rfl (Nat.le_of_ble_eq_true rfl) zzm111 (Nat.le_of_ble_eq_true rfl) rfl ?_
          refine zC111 X425.1 k1 (fun M511 X512  => ?_)
          have X513 := X425.go X512 (z_sb (by decide))
          show z_ev (d + 4) 122 24 [some (.ref a0), some (.ref a1), some (.int x420), some (.ref a4), some (.int x424)] [] M511 _
          refine z_xP zt122 9 26 [some (.ref a0), some (.ref a1), some (.int x420), some (.ref a4), some (.int x424)] [.ref a1, .ref a0] rfl rfl ?_
          refine zVdecide zt122 10 rfl zo122 zzcV4_54 X513 k0 w0 (Nat.le_of_ble_eq_true rfl) k1 (fun x517 M515 X516  => ?_)
          have X518 := X513.go X516 (z_sb (by decide))
          show z_ev (d + 4) 122 29 [some (.ref a0), some (.ref a1), some (.int x420), some (.ref a4), some (.int x424)] [.int x517] M515 _
          refine z_xri zt122 11 rfl zzr122 ?_
          show z_ev (d + 5) 126 165 [some (.ref a0), some (.ref a1), some (.int p2), some (.int p3), some (.ref a4), some (.int b5), some (.int b6), some (.int b7), some (.int b8), some (.int b9), some (.int b10), some (.int b11), o12] [.int x517] M515 _
          refine z_xP zt126 63 171 [some (.ref a0), some (.ref a1), some (.int p2), some (.int p3), some (.ref a4), some (.int b5), some (.int b6), some (.int b7), some (.int b8), some (.int b9), some (.int b10), some (.int b11), some (.int x517)] [.int b6, .int x517] rfl rfl ?_
          refine z_xI zt126 64 rfl rfl (fun (x520 : Int32) (h521 : 0 ≤ x520.toInt ∧ x520.toInt ≤ b6.toInt) => ?_) (z_pAnd rfl (by omega))
          refine z_xcS (vs := [.int x520]) (r := []) (L2 := [some (.int x520)]) zt126 65 rfl zo126 zzcS4_77 (Or.inl rfl) (Nat.le_of_ble_eq_true rfl) rfl rfl (Nat.le_of_ble_eq_true rfl) zzm31 (Nat.le_of_ble_eq_true rfl) rfl ?_
          refine zC31 X518.1 (fun x524 M522 X523 h525 h526 => ?_)
          have X527 := X518.go X523 (z_sb (by decide))
          show z_ev (d + 5) 126 175 [some (.ref a0), some (.ref a1), some (.int p2), some (.int p3), some (.ref a4), some (.int b5), some (.int b6), some (.int b7), some (.int b8), some (.int b9), some (.int b10), some (.int b11), some (.int x517)] [.int x524] M522 _
          refine z_xP zt126 66 177 [some (.ref a0), some (.ref a1), some (.int p2), some (.int p3), some (.ref a4), some (.int b5), some (.int b6), some (.int b7), some (.int b8), some (.int b9), some (.int b10), some (.int b11), some (.int x517)] [.int b7, .int x524] rfl rfl ?_
          refine z_xJ zt126 67 rfl rfl (fun (h529 : x524.toInt ≤ b7.toInt) => ?_) (fun (h529 : b7.toInt < x524.toInt) => ?_)
          · skip
            refine z_xP zt126 69 185 [some (.ref a0), some (.ref a1), some (.int p2), some (.int p3), some (.ref a4), some (.int b5), some (.int b6), some (.int b7), some (.int b8), some (.int b9), some (.int b10), some (.int b11), some (.int x517)] [.int 0] rfl rfl ?_
            refine z_xP zt126 70 187 [some (.ref a0), some (.ref a1), some (.int p2), some (.int p3), some (.ref a4), some (.int b5), some (.int b6), some (.int b7), some (.int b8), some (.int b9), some (.int 0), some (.int b11), some (.int x517)] [] rfl rfl ?_
            refine z_xN zt126 71 rfl rfl (fun (x530 : Int32) (h531 : x530.toInt = b11.toInt + 1) => ?_) (z_pAdd rfl rfl (by omega) (by omega))
            show z_ev (d + 5) 126 190 [some (.ref a0), some (.ref a1), some (.int p2), some (.int p3), some (.ref a4), some (.int b5), some (.int b6), some (.int b7), some (.int b8), some (.int b9), some (.int 0), some (.int x530), some (.int x517)] [] M522 _
            refine z_xP zt126 72 66 [some (.ref a0), some (.ref a1), some (.int p2), some (.int p3), some (.ref a4), some (.int b5), some (.int b6), some (.int b7), some (.int b8), some (.int b9), some (.int 0), some (.int x530), some (.int x517)] [] rfl rfl ?_
            have q0 : ((0 : Int32)).toInt = 0 := rfl
            exact ih.1 M522 b5 b6 b7 b8 b9 (0) x530 (some (.int x517)) X527 ⟨by omega, by omega⟩ ⟨by omega, by omega⟩ ⟨by omega, by omega⟩ ⟨by omega, by omega⟩ (by decide) ⟨by omega, by omega⟩ (by omega) (by omega)
          refine z_xP zt126 68 185 [some (.ref a0), some (.ref a1), some (.int p2), some (.int p3), some (.ref a4), some (.int b5), some (.int b6), some (.int b7), some (.int b8), some (.int b9), some (.int b10), some (.int b11), some (.int x517)] [.int 1] rfl rfl ?_
          refine z_xP zt126 70 187 [some (.ref a0), some (.ref a1), some (.int p2), some (.int p3), some (.ref a4), some (.int b5), some (.int b6), some (.int b7), some (.int b8), some (.int b9), some (.int 1), some (.int b11), some (.int x517)] [] rfl rfl ?_
          refine z_xN zt126 71 rfl rfl (fun (x532 : Int32) (h533 : x532.toInt = b11.toInt + 1) => ?_) (z_pAdd rfl rfl (by omega) (by omega))
          show z_ev (d + 5) 126 190 [some (.ref a0), some (.ref a1), some (.int p2), some (.int p3), some (.ref a4), some (.int b5), some (.int b6), some (.int b7), some (.int b8), some (.int b9), some (.int 1), some (.int x532), some (.int x517)] [] M522 _
          refine z_xP zt126 72 66 [some (.ref a0), some (.ref a1), some (.int p2), some (.int p3), some (.ref a4), some (.int b5), some (.int b6), some (.int b7), some (.int b8), some (.int b9), some (.int 1), some (.int x532), some (.int x517)] [] rfl rfl ?_
          have q1 : ((1 : Int32)).toInt = 1 := rfl
          exact ih.1 M522 b5 b6 b7 b8 b9 (1) x532 (some (.int x517)) X527 ⟨by omega, by omega⟩ ⟨by omega, by omega⟩ ⟨by omega, by omega⟩ ⟨by omega, by omega⟩ (by decide) ⟨by omega, by omega⟩ (by omega) (by omega)
        refine z_xP zt126 40 113 [some (.ref a0), some (.ref a1), some (.int p2), some (.int p3), some (.ref a4), some (.int b5), some (.int b6), some (.int b7), some (.int b8), some (.int b9), some (.int b10), some (.int b11), o12] [.int b8, .int p2, .ref a1, .int b9] rfl rfl ?_
        refine z_xcV (vs := [.ref a1, .int p2, .int b8]) (r := [.int b9]) (L2 := [some (.ref a1), some (.int p2), some (.int b8)]) zt126 41 rfl zo126 zzcV4_121 (Or.inl rfl) rfl X k1 rfl rfl rfl (Nat.le_of_ble_eq_true rfl) zzm128 (Nat.le_of_ble_eq_true rfl) rfl ?_
        refine z_xP zt128 0 1 [some (.ref a1), some (.int p2), some (.int b8)] [.ref a1] rfl rfl ?_
        refine z_xgv zt128 1 rfl zo128 zzf3_33 X k1 (by decide) h267 ?_
        refine z_xP zt128 2 6 [some (.ref a1), some (.int p2), some (.int b8)] [.int p2, .int b8, .ref a268] rfl rfl ?_
        refine z_xJ zt128 3 rfl rfl (fun (h534 : p2.toInt ≤ b8.toInt) => ?_) (fun (h534 : b8.toInt < p2.toInt) => ?_)
        · skip
          refine z_xP zt128 5 15 [some (.ref a1), some (.int p2), some (.int b8)] [.int 1, .int b8, .ref a268] rfl rfl ?_
          refine z_xI zt128 6 rfl rfl (fun (x535 : Int32) (h536 : x535.toInt = b8.toInt + 1) => ?_) (z_pAdd rfl rfl (by omega) (by omega))
          refine z_xil zt128 7 rfl X k269 (by decide) (by omega) (by omega) (fun (x537 : Int32) h538 (h539 : 0 ≤ x537.toInt) (h540 : x537.toInt ≤ ((m1 : Nat) : Int) - 1) => ?_)
          refine z_xri zt128 8 rfl zzr128 ?_
          show z_ev (d + 5) 126 116 [some (.ref a0), some (.ref a1), some (.int p2), some (.int p3), some (.ref a4), some (.int b5), some (.int b6), some (.int b7), some (.int b8), some (.int b9), some (.int b10), some (.int b11), o12] [.int x537, .int b9] M _
          refine z_xP zt126 42 118 [some (.ref a0), some (.ref a1), some (.int p2), some (.int p3), some (.ref a4), some (.int b5), some (.int b6), some (.int b7), some (.int b8), some (.int b9), some (.int b10), some (.int b11), o12] [.int b8, .int x537, .int b9] rfl rfl ?_
          refine z_xI zt126 43 rfl rfl (fun (x541 : Int32) (h542 : x541.toInt = x537.toInt + b8.toInt) => ?_) (z_pAdd rfl rfl (by omega) (by omega))
          refine z_xP zt126 44 122 [some (.ref a0), some (.ref a1), some (.int p2), some (.int p3), some (.ref a4), some (.int b5), some (.int b6), some (.int b7), some (.int b8), some (.int b9), some (.int b10), some (.int b11), o12] [.int 2, .int b8, .int x541, .int b9] rfl rfl ?_
          refine z_xI zt126 45 rfl rfl (fun (x543 : Int32) (h544 : x543.toInt = b8.toInt + 2) => ?_) (z_pAdd rfl rfl (by omega) (by omega))
          refine z_xcS (vs := [.int x541, .int x543]) (r := [.int b9]) (L2 := [some (.int x541), some (.int x543)]) zt126 46 rfl zo126 zzcS4_125 (Or.inr rfl) (Nat.le_of_ble_eq_true rfl) rfl rfl (Nat.le_of_ble_eq_true rfl) zzm105 (Nat.le_of_ble_eq_true rfl) rfl ?_
          refine z_xP zt105 0 1 [some (.int x541), some (.int x543)] [.int x541] rfl rfl ?_
          refine z_xZ zt105 1 rfl rfl (fun (h545 : x541.toInt < 0) => absurd h545 (by omega)) (fun (h545 : 0 ≤ x541.toInt) => ?_)
          refine z_xP zt105 2 5 [some (.int x541), some (.int x543)] [.int x543] rfl rfl ?_
          refine z_xZ zt105 3 rfl rfl (fun (h546 : x543.toInt < 0) => absurd h546 (by omega)) (fun (h546 : 0 ≤ x543.toInt) => ?_)
          refine z_xP zt105 4 10 [some (.int x541), some (.int x543)] [.int 5, .int x543] rfl rfl ?_
          refine z_xJ zt105 5 rfl rfl (fun (h547 : 5 < x543.toInt) => absurd h547 (by omega)) (fun (h547 : x543.toInt ≤ 5) => ?_)
          refine z_xP zt105 6 16 [some (.int x541), some (.int x543)] [.int x541, .int 6] rfl rfl ?_
          refine z_xI zt105 7 rfl rfl (fun (x548 : Int32) (h549 : x548.toInt = 6 * x541.toInt) => ?_) (z_pMul rfl rfl (by omega) (by omega))
          refine z_xP zt105 8 18 [some (.int x541), some (.int x543)] [.int x543, .int x548] rfl rfl ?_
          refine z_xI zt105 9 rfl rfl (fun (x550 : Int32) (h551 : x550.toInt = x548.toInt + x543.toInt) => ?_) (z_pAdd rfl rfl (by omega) (by omega))
          refine z_xgs zt105 10 rfl zo105 zg0_340 ?_
          have f1 : T[1]? = some (.inr (1, 0, 102, 0, 4368)) := X.1.k rfl (by decide)
          refine z_xln zt105 11 rfl X f1 (by decide) (by decide) (fun (x552 : Int32) (h553 : x552.toInt = ((102 : Nat) : Int)) => ?_)
          refine z_xJ zt105 12 rfl rfl (fun (h554 : x550.toInt < x552.toInt) => ?_) (fun (h554 : x552.toInt ≤ x550.toInt) => ?_)
          · skip
            refine z_xgs zt105 15 rfl zo105 zg0_340 ?_
            refine z_xP zt105 16 34 [some (.int x541), some (.int x543)] [.int x541, .int 6, .ref 1] rfl rfl ?_
            refine z_xI zt105 17 rfl rfl (fun (x555 : Int32) (h556 : x555.toInt = 6 * x541.toInt) => ?_) (z_pMul rfl rfl (by omega) (by omega))
            refine z_xP zt105 18 36 [some (.int x541), some (.int x543)] [.int x543, .int x555, .ref 1] rfl rfl ?_
            refine z_xI zt105 19 rfl rfl (fun (x557 : Int32) (h558 : x557.toInt = x555.toInt + x543.toInt) => ?_) (z_pAdd rfl rfl (by omega) (by omega))
            refine z_xil zt105 20 rfl X f1 (by decide) (by omega) (by omega) (fun (x559 : Int32) h560 (h561 : 0 ≤ x559.toInt) (h562 : x559.toInt ≤ 4368) => ?_)
            refine z_xri zt105 21 rfl zzr105 ?_
            show z_ev (d + 5) 126 126 [some (.ref a0), some (.ref a1), some (.int p2), some (.int p3), some (.ref a4), some (.int b5), some (.int b6), some (.int b7), some (.int b8), some (.int b9), some (.int b10), some (.int b11), o12] [.int x559, .int b9] M _
            have h563 := z_b32 b9
            refine z_xI zt126 47 rfl rfl (P := fun _ => True) (fun (x564 : Int32) _ => ?_) trivial
            refine z_xP zt126 48 129 [some (.ref a0), some (.ref a1), some (.int p2), some (.int p3), some (.ref a4), some (.int b5), some (.int b6), some (.int b7), some (.int b8), some (.int x564), some (.int b10), some (.int b11), o12] [] rfl rfl ?_
            refine z_xN zt126 49 rfl rfl (fun (x566 : Int32) (h567 : x566.toInt = b8.toInt + 1) => ?_) (z_pAdd rfl rfl (by omega) (by omega))
            show z_ev (d + 5) 126 132 [some (.ref a0), some (.ref a1), some (.int p2), some (.int p3), some (.ref a4), some (.int b5), some (.int b6), some (.int b7), some (.int x566), some (.int x564), some (.int b10), some (.int b11), o12] [] M _
            refine z_xP zt126 50 84 [some (.ref a0), some (.ref a1), some (.int p2), some (.int p3), some (.ref a4), some (.int b5), some (.int b6), some (.int b7), some (.int x566), some (.int x564), some (.int b10), some (.int b11), o12] [] rfl rfl ?_
            exact ih.2 M b5 b6 b7 x566 x564 b10 b11 (o12) X ⟨by omega, by omega⟩ ⟨by omega, by omega⟩ ⟨by omega, by omega⟩ ⟨by omega, by omega⟩ ⟨by omega, by omega⟩ ⟨by omega, by omega⟩ (by omega) (by omega) (by omega)
          refine z_xP zt105 13 27 [some (.int x541), some (.int x543)] [.int 0] rfl rfl ?_
          refine z_xri zt105 14 rfl zzr105 ?_
          show z_ev (d + 5) 126 126 [some (.ref a0), some (.ref a1), some (.int p2), some (.int p3), some (.ref a4), some (.int b5), some (.int b6), some (.int b7), some (.int b8), some (.int b9), some (.int b10), some (.int b11), o12] [.int 0, .int b9] M _
          have h568 := z_b32 b9
          refine z_xI zt126 47 rfl rfl (fun (x569 : Int32) (h570 : x569.toInt = b9.toInt - 0) => ?_) (z_pSub rfl rfl (by omega) (by omega))
          refine z_xP zt126 48 129 [some (.ref a0), some (.ref a1), some (.int p2), some (.int p3), some (.ref a4), some (.int b5), some (.int b6), some (.int b7), some (.int b8), some (.int x569), some (.int b10), some (.int b11), o12] [] rfl rfl ?_
          refine z_xN zt126 49 rfl rfl (fun (x571 : Int32) (h572 : x571.toInt = b8.toInt + 1) => ?_) (z_pAdd rfl rfl (by omega) (by omega))
          show z_ev (d + 5) 126 132 [some (.ref a0), some (.ref a1), some (.int p2), some (.int p3), some (.ref a4), some (.int b5), some (.int b6), some (.int b7), some (.int x571), some (.int x569), some (.int b10), some (.int b11), o12] [] M _
          refine z_xP zt126 50 84 [some (.ref a0), some (.ref a1), some (.int p2), some (.int p3), some (.ref a4), some (.int b5), some (.int b6), some (.int b7), some (.int x571), some (.int x569), some (.int b10), some (.int b11), o12] [] rfl rfl ?_
          exact ih.2 M b5 b6 b7 x571 x569 b10 b11 (o12) X ⟨by omega, by omega⟩ ⟨by omega, by omega⟩ ⟨by omega, by omega⟩ ⟨by omega, by omega⟩ ⟨by omega, by omega⟩ ⟨by omega, by omega⟩ (by omega) (by omega) (by omega)
        refine z_xP zt128 4 16 [some (.ref a1), some (.int p2), some (.int b8)] [.int b8, .ref a268] rfl rfl ?_
        refine z_xil zt128 7 rfl X k269 (by decide) (by omega) (by omega) (fun (x573 : Int32) h574 (h575 : 0 ≤ x573.toInt) (h576 : x573.toInt ≤ ((m1 : Nat) : Int) - 1) => ?_)
        refine z_xri zt128 8 rfl zzr128 ?_
        show z_ev (d + 5) 126 116 [some (.ref a0), some (.ref a1), some (.int p2), some (.int p3), some (.ref a4), some (.int b5), some (.int b6), some (.int b7), some (.int b8), some (.int b9), some (.int b10), some (.int b11), o12] [.int x573, .int b9] M _
        refine z_xP zt126 42 118 [some (.ref a0), some (.ref a1), some (.int p2), some (.int p3), some (.ref a4), some (.int b5), some (.int b6), some (.int b7), some (.int b8), some (.int b9), some (.int b10), some (.int b11), o12] [.int b8, .int x573, .int b9] rfl rfl ?_
        refine z_xI zt126 43 rfl rfl (fun (x577 : Int32) (h578 : x577.toInt = x573.toInt + b8.toInt) => ?_) (z_pAdd rfl rfl (by omega) (by omega))
        refine z_xP zt126 44 122 [some (.ref a0), some (.ref a1), some (.int p2), some (.int p3), some (.ref a4), some (.int b5), some (.int b6), some (.int b7), some (.int b8), some (.int b9), some (.int b10), some (.int b11), o12] [.int 2, .int b8, .int x577, .int b9] rfl rfl ?_
        refine z_xI zt126 45 rfl rfl (fun (x579 : Int32) (h580 : x579.toInt = b8.toInt + 2) => ?_) (z_pAdd rfl rfl (by omega) (by omega))
        refine z_xcS (vs := [.int x577, .int x579]) (r := [.int b9]) (L2 := [some (.int x577), some (.int x579)]) zt126 46 rfl zo126 zzcS4_125 (Or.inr rfl) (Nat.le_of_ble_eq_true rfl) rfl rfl (Nat.le_of_ble_eq_true rfl) zzm105 (Nat.le_of_ble_eq_true rfl) rfl ?_
        refine z_xP zt105 0 1 [some (.int x577), some (.int x579)] [.int x577] rfl rfl ?_
        refine z_xZ zt105 1 rfl rfl (fun (h581 : x577.toInt < 0) => absurd h581 (by omega)) (fun (h581 : 0 ≤ x577.toInt) => ?_)
        refine z_xP zt105 2 5 [some (.int x577), some (.int x579)] [.int x579] rfl rfl ?_
        refine z_xZ zt105 3 rfl rfl (fun (h582 : x579.toInt < 0) => absurd h582 (by omega)) (fun (h582 : 0 ≤ x579.toInt) => ?_)
        refine z_xP zt105 4 10 [some (.int x577), some (.int x579)] [.int 5, .int x579] rfl rfl ?_
        refine z_xJ zt105 5 rfl rfl (fun (h583 : 5 < x579.toInt) => absurd h583 (by omega)) (fun (h583 : x579.toInt ≤ 5) => ?_)
        refine z_xP zt105 6 16 [some (.int x577), some (.int x579)] [.int x577, .int 6] rfl rfl ?_
        refine z_xI zt105 7 rfl rfl (fun (x584 : Int32) (h585 : x584.toInt = 6 * x577.toInt) => ?_) (z_pMul rfl rfl (by omega) (by omega))
        refine z_xP zt105 8 18 [some (.int x577), some (.int x579)] [.int x579, .int x584] rfl rfl ?_
        refine z_xI zt105 9 rfl rfl (fun (x586 : Int32) (h587 : x586.toInt = x584.toInt + x579.toInt) => ?_) (z_pAdd rfl rfl (by omega) (by omega))
        refine z_xgs zt105 10 rfl zo105 zg0_340 ?_
        have f1 : T[1]? = some (.inr (1, 0, 102, 0, 4368)) := X.1.k rfl (by decide)
        refine z_xln zt105 11 rfl X f1 (by decide) (by decide) (fun (x588 : Int32) (h589 : x588.toInt = ((102 : Nat) : Int)) => ?_)
        refine z_xJ zt105 12 rfl rfl (fun (h590 : x586.toInt < x588.toInt) => ?_) (fun (h590 : x588.toInt ≤ x586.toInt) => ?_)
        · skip
          refine z_xgs zt105 15 rfl zo105 zg0_340 ?_
          refine z_xP zt105 16 34 [some (.int x577), some (.int x579)] [.int x577, .int 6, .ref 1] rfl rfl ?_
          refine z_xI zt105 17 rfl rfl (fun (x591 : Int32) (h592 : x591.toInt = 6 * x577.toInt) => ?_) (z_pMul rfl rfl (by omega) (by omega))
          refine z_xP zt105 18 36 [some (.int x577), some (.int x579)] [.int x579, .int x591, .ref 1] rfl rfl ?_
          refine z_xI zt105 19 rfl rfl (fun (x593 : Int32) (h594 : x593.toInt = x591.toInt + x579.toInt) => ?_) (z_pAdd rfl rfl (by omega) (by omega))
          refine z_xil zt105 20 rfl X f1 (by decide) (by omega) (by omega) (fun (x595 : Int32) h596 (h597 : 0 ≤ x595.toInt) (h598 : x595.toInt ≤ 4368) => ?_)
          refine z_xri zt105 21 rfl zzr105 ?_
          show z_ev (d + 5) 126 126 [some (.ref a0), some (.ref a1), some (.int p2), some (.int p3), some (.ref a4), some (.int b5), some (.int b6), some (.int b7), some (.int b8), some (.int b9), some (.int b10), some (.int b11), o12] [.int x595, .int b9] M _
          have h599 := z_b32 b9
          refine z_xI zt126 47 rfl rfl (P := fun _ => True) (fun (x600 : Int32) _ => ?_) trivial
          refine z_xP zt126 48 129 [some (.ref a0), some (.ref a1), some (.int p2), some (.int p3), some (.ref a4), some (.int b5), some (.int b6), some (.int b7), some (.int b8), some (.int x600), some (.int b10), some (.int b11), o12] [] rfl rfl ?_
          refine z_xN zt126 49 rfl rfl (fun (x602 : Int32) (h603 : x602.toInt = b8.toInt + 1) => ?_) (z_pAdd rfl rfl (by omega) (by omega))
          show z_ev (d + 5) 126 132 [some (.ref a0), some (.ref a1), some (.int p2), some (.int p3), some (.ref a4), some (.int b5), some (.int b6), some (.int b7), some (.int x602), some (.int x600), some (.int b10), some (.int b11), o12] [] M _
          refine z_xP zt126 50 84 [some (.ref a0), some (.ref a1), some (.int p2), some (.int p3), some (.ref a4), some (.int b5), some (.int b6), some (.int b7), some (.int x602), some (.int x600), some (.int b10), some (.int b11), o12] [] rfl rfl ?_
          exact ih.2 M b5 b6 b7 x602 x600 b10 b11 (o12) X ⟨by omega, by omega⟩ ⟨by omega, by omega⟩ ⟨by omega, by omega⟩ ⟨by omega, by omega⟩ ⟨by omega, by omega⟩ ⟨by omega, by omega⟩ (by omega) (by omega) (by omega)
        refine z_xP zt105 13 27 [some (.int x577), some (.int x579)] [.int 0] rfl rfl ?_
        refine z_xri zt105 14 rfl zzr105 ?_
        show z_ev (d + 5) 126 126 [some (.ref a0), some (.ref a1), some (.int p2), some (.int p3), some (.ref a4), some (.int b5), some (.int b6), some (.int b7), some (.int b8), some (.int b9), some (.int b10), some (.int b11), o12] [.int 0, .int b9] M _
        have h604 := z_b32 b9
        refine z_xI zt126 47 rfl rfl (fun (x605 : Int32) (h606 : x605.toInt = b9.toInt - 0) => ?_) (z_pSub rfl rfl (by omega) (by omega))
        refine z_xP zt126 48 129 [some (.ref a0), some (.ref a1), some (.int p2), some (.int p3), some (.ref a4), some (.int b5), some (.int b6), some (.int b7), some (.int b8), some (.int x605), some (.int b10), some (.int b11), o12] [] rfl rfl ?_
        refine z_xN zt126 49 rfl rfl (fun (x607 : Int32) (h608 : x607.toInt = b8.toInt + 1) => ?_) (z_pAdd rfl rfl (by omega) (by omega))
        show z_ev (d + 5) 126 132 [some (.ref a0), some (.ref a1), some (.int p2), some (.int p3), some (.ref a4), some (.int b5), some (.int b6), some (.int b7), some (.int x607), some (.int x605), some (.int b10), some (.int b11), o12] [] M _
        refine z_xP zt126 50 84 [some (.ref a0), some (.ref a1), some (.int p2), some (.int p3), some (.ref a4), some (.int b5), some (.int b6), some (.int b7), some (.int x607), some (.int x605), some (.int b10), some (.int b11), o12] [] rfl rfl ?_
        exact ih.2 M b5 b6 b7 x607 x605 b10 b11 (o12) X ⟨by omega, by omega⟩ ⟨by omega, by omega⟩ ⟨by omega, by omega⟩ ⟨by omega, by omega⟩ ⟨by omega, by omega⟩ ⟨by omega, by omega⟩ (by omega) (by omega) (by omega)
      refine z_xP zt128 4 16 [some (.ref a1), some (.int p2), some (.int b8)] [.int b8, .ref a268] rfl rfl ?_
      refine z_xil zt128 7 rfl X k269 (by decide) (by omega) (by omega) (fun (x609 : Int32) h610 (h611 : 0 ≤ x609.toInt) (h612 : x609.toInt ≤ ((m1 : Nat) : Int) - 1) => ?_)
      refine z_xri zt128 8 rfl zzr128 ?_
      show z_ev (d + 5) 126 102 [some (.ref a0), some (.ref a1), some (.int p2), some (.int p3), some (.ref a4), some (.int b5), some (.int b6), some (.int b7), some (.int b8), some (.int b9), some (.int b10), some (.int b11), o12] [.int x609] M _
      refine z_xP zt126 38 104 [some (.ref a0), some (.ref a1), some (.int p2), some (.int p3), some (.ref a4), some (.int b5), some (.int b6), some (.int b7), some (.int b8), some (.int b9), some (.int b10), some (.int b11), o12] [.int b11, .int x609] rfl rfl ?_
      refine z_xJ zt126 39 rfl rfl (fun (h613 : b11.toInt ≤ x609.toInt) => ?_) (fun (h613 : x609.toInt < b11.toInt) => ?_)
      · skip
        refine z_xP zt126 51 136 [some (.ref a0), some (.ref a1), some (.int p2), some (.int p3), some (.ref a4), some (.int b5), some (.int b6), some (.int b7), some (.int b8), some (.int b9), some (.int b10), some (.int b11), o12] [.ref a1] rfl rfl ?_
        refine z_xgv zt126 52 rfl zo126 zzf4_115 X k1 (by decide) h267 ?_
        refine z_xP zt126 53 142 [some (.ref a0), some (.ref a1), some (.int p2), some (.int p3), some (.ref a4), some (.int b5), some (.int b6), some (.int b7), some (.int b8), some (.int b9), some (.int b10), some (.int b11), o12] [.int b11, .int p2, .ref a268] rfl rfl ?_
        refine z_xis zt126 54 rfl X k269 (by decide) (X.1.g4 k269 (by decide)) (by omega) (by omega) (by omega) (by omega) (by decide) (fun M614 X615 e616 h617 => ?_)
        refine z_xP zt126 55 151 [some (.ref a0), some (.ref a1), some (.int p2), some (.int p3), some (.ref a4), some (.int b5), some (.int b6), some (.int b7), some (.int b8), some (.int b9), some (.int b10), some (.int b11), o12] [.int b8, .int b11, .int b9, .ref a1, .ref a0] rfl rfl ?_
        refine z_xI zt126 56 rfl rfl (fun (x618 : Int32) (h619 : x618.toInt = b11.toInt + b8.toInt) => ?_) (z_pAdd rfl rfl (by omega) (by omega))
        refine z_xP zt126 57 155 [some (.ref a0), some (.ref a1), some (.int p2), some (.int p3), some (.ref a4), some (.int b5), some (.int b6), some (.int b7), some (.int b8), some (.int b9), some (.int b10), some (.int b11), o12] [.int 1, .int b8, .int x618, .int b9, .ref a1, .ref a0] rfl rfl ?_
        refine z_xI zt126 58 rfl rfl (fun (x620 : Int32) (h621 : x620.toInt = b8.toInt + 1) => ?_) (z_pAdd rfl rfl (by omega) (by omega))
        refine z_xcS (vs := [.int x618, .int x620]) (r := [.int b9, .ref a1, .ref a0]) (L2 := [some (.int x618), some (.int x620)]) zt126 59 rfl zo126 zzcS4_125 (Or.inr rfl) (Nat.le_of_ble_eq_true rfl) rfl rfl (Nat.le_of_ble_eq_true rfl) zzm105 (Nat.le_of_ble_eq_true rfl) rfl ?_
        refine z_xP zt105 0 1 [some (.int x618), some (.int x620)] [.int x618] rfl rfl ?_
        refine z_xZ zt105 1 rfl rfl (fun (h622 : x618.toInt < 0) => absurd h622 (by omega)) (fun (h622 : 0 ≤ x618.toInt) => ?_)
        refine z_xP zt105 2 5 [some (.int x618), some (.int x620)] [.int x620] rfl rfl ?_
        refine z_xZ zt105 3 rfl rfl (fun (h623 : x620.toInt < 0) => absurd h623 (by omega)) (fun (h623 : 0 ≤ x620.toInt) => ?_)
        refine z_xP zt105 4 10 [some (.int x618), some (.int x620)] [.int 5, .int x620] rfl rfl ?_
        refine z_xJ zt105 5 rfl rfl (fun (h624 : 5 < x620.toInt) => absurd h624 (by omega)) (fun (h624 : x620.toInt ≤ 5) => ?_)
        refine z_xP zt105 6 16 [some (.int x618), some (.int x620)] [.int x618, .int 6] rfl rfl ?_
        refine z_xI zt105 7 rfl rfl (fun (x625 : Int32) (h626 : x625.toInt = 6 * x618.toInt) => ?_) (z_pMul rfl rfl (by omega) (by omega))
        refine z_xP zt105 8 18 [some (.int x618), some (.int x620)] [.int x620, .int x625] rfl rfl ?_
        refine z_xI zt105 9 rfl rfl (fun (x627 : Int32) (h628 : x627.toInt = x625.toInt + x620.toInt) => ?_) (z_pAdd rfl rfl (by omega) (by omega))
        refine z_xgs zt105 10 rfl zo105 zg0_340 ?_
        have f1 : T[1]? = some (.inr (1, 0, 102, 0, 4368)) := X615.1.k rfl (by decide)
        refine z_xln zt105 11 rfl X615 f1 (by decide) (by decide) (fun (x629 : Int32) (h630 : x629.toInt = ((102 : Nat) : Int)) => ?_)
        refine z_xJ zt105 12 rfl rfl (fun (h631 : x627.toInt < x629.toInt) => ?_) (fun (h631 : x629.toInt ≤ x627.toInt) => ?_)
        · skip
          refine z_xgs zt105 15 rfl zo105 zg0_340 ?_
          refine z_xP zt105 16 34 [some (.int x618), some (.int x620)] [.int x618, .int 6, .ref 1] rfl rfl ?_
          refine z_xI zt105 17 rfl rfl (fun (x632 : Int32) (h633 : x632.toInt = 6 * x618.toInt) => ?_) (z_pMul rfl rfl (by omega) (by omega))
          refine z_xP zt105 18 36 [some (.int x618), some (.int x620)] [.int x620, .int x632, .ref 1] rfl rfl ?_
          refine z_xI zt105 19 rfl rfl (fun (x634 : Int32) (h635 : x634.toInt = x632.toInt + x620.toInt) => ?_) (z_pAdd rfl rfl (by omega) (by omega))
          refine z_xil zt105 20 rfl X615 f1 (by decide) (by omega) (by omega) (fun (x636 : Int32) h637 (h638 : 0 ≤ x636.toInt) (h639 : x636.toInt ≤ 4368) => ?_)
          refine z_xri zt105 21 rfl zzr105 ?_
          show z_ev (d + 5) 126 159 [some (.ref a0), some (.ref a1), some (.int p2), some (.int p3), some (.ref a4), some (.int b5), some (.int b6), some (.int b7), some (.int b8), some (.int b9), some (.int b10), some (.int b11), o12] [.int x636, .int b9, .ref a1, .ref a0] M614 _
          have h640 := z_b32 b9
          refine z_xI zt126 60 rfl rfl (P := fun _ => True) (fun (x641 : Int32) _ => ?_) trivial
          refine z_xP zt126 61 162 [some (.ref a0), some (.ref a1), some (.int p2), some (.int p3), some (.ref a4), some (.int b5), some (.int b6), some (.int b7), some (.int b8), some (.int b9), some (.int b10), some (.int b11), o12] [.ref a4, .int x641, .ref a1, .ref a0] rfl rfl ?_
          refine z_xcV (vs := [.ref a0, .ref a1, .int x641, .ref a4]) (r := []) (L2 := [some (.ref a0), some (.ref a1), some (.int x641), some (.ref a4), none]) zt126 62 rfl zo126 zzcV4_104 (Or.inr rfl) rfl X615 k0 (z_w8 (fun c => (([(4, 122), (5, 122), (6, 122), (7, 122), (8, 122), (9, 122), (10, 122), (11, 122)] : List (Nat × Nat)).find? fun t => t.1 == c) = some (c, 122)) rfl rfl rfl rfl rfl rfl rfl rfl w0) rfl rfl (Nat.le_of_ble_eq_true rfl) zzm122 (Nat.le_of_ble_eq_true rfl) rfl ?_
          refine z_xP zt122 0 3 [some (.ref a0), some (.ref a1), some (.int x641), some (.ref a4), none] [.int x641, .ref a1, .ref a0] rfl rfl ?_
          refine zVplaceOf zt122 1 rfl zo122 zzcV4_128 X615 k0 w0 (Nat.le_of_ble_eq_true rfl) k1 (fun x645 M643 X644  => ?_)
          have X646 := X615.go X644 (z_sb (by decide))
          show z_ev (d + 4) 122 6 [some (.ref a0), some (.ref a1), some (.int x641), some (.ref a4), none] [.int x645] M643 _
          refine z_xP zt122 2 10 [some (.ref a0), some (.ref a1), some (.int x641), some (.ref a4), some (.int x645)] [.int x645] rfl rfl ?_
          refine z_xZ zt122 3 rfl rfl (fun (h648 : x645.toInt < 0) => ?_) (fun (h648 : 0 ≤ x645.toInt) => ?_)
          · skip
            refine z_xP zt122 7 21 [some (.ref a0), some (.ref a1), some (.int x641), some (.ref a4), some (.int x645)] [.ref a1] rfl rfl ?_
            refine z_xcV (vs := [.ref a1]) (r := []) (L2 := [some (.ref a1), none, none]) zt122 8 rfl zo122 zzcV4_132 (Or.inl rfl) rfl X646 k1 rfl rfl rfl (Nat.le_of_ble_eq_true rfl) zzm111 (Nat.le_of_ble_eq_true rfl) rfl ?_
            refine zC111 X646.1 k1 (fun M649 X650  => ?_)
            have X651 := X646.go X650 (z_sb (by decide))
            show z_ev (d + 4) 122 24 [some (.ref a0), some (.ref a1), some (.int x641), some (.ref a4), some (.int x645)] [] M649 _
            refine z_xP zt122 9 26 [some (.ref a0), some (.ref a1), some (.int x641), some (.ref a4), some (.int x645)] [.ref a1, .ref a0] rfl rfl ?_
            refine zVdecide zt122 10 rfl zo122 zzcV4_54 X651 k0 w0 (Nat.le_of_ble_eq_true rfl) k1 (fun x655 M653 X654  => ?_)
            have X656 := X651.go X654 (z_sb (by decide))
            show z_ev (d + 4) 122 29 [some (.ref a0), some (.ref a1), some (.int x641), some (.ref a4), some (.int x645)] [.int x655] M653 _
            refine z_xri zt122 11 rfl zzr122 ?_
            show z_ev (d + 5) 126 165 [some (.ref a0), some (.ref a1), some (.int p2), some (.int p3), some (.ref a4), some (.int b5), some (.int b6), some (.int b7), some (.int b8), some (.int b9), some (.int b10), some (.int b11), o12] [.int x655] M653 _
            refine z_xP zt126 63 171 [some (.ref a0), some (.ref a1), some (.int p2), some (.int p3), some (.ref a4), some (.int b5), some (.int b6), some (.int b7), some (.int b8), some (.int b9), some (.int b10), some (.int b11), some (.int x655)] [.int b6, .int x655] rfl rfl ?_
            refine z_xI zt126 64 rfl rfl (fun (x658 : Int32) (h659 : 0 ≤ x658.toInt ∧ x658.toInt ≤ b6.toInt) => ?_) (z_pAnd rfl (by omega))
            refine z_xcS (vs := [.int x658]) (r := []) (L2 := [some (.int x658)]) zt126 65 rfl zo126 zzcS4_77 (Or.inl rfl) (Nat.le_of_ble_eq_true rfl) rfl rfl (Nat.le_of_ble_eq_true rfl) zzm31 (Nat.le_of_ble_eq_true rfl) rfl ?_
            refine zC31 X656.1 (fun x662 M660 X661 h663 h664 => ?_)
            have X665 := X656.go X661 (z_sb (by decide))
            show z_ev (d + 5) 126 175 [some (.ref a0), some (.ref a1), some (.int p2), some (.int p3), some (.ref a4), some (.int b5), some (.int b6), some (.int b7), some (.int b8), some (.int b9), some (.int b10), some (.int b11), some (.int x655)] [.int x662] M660 _
            refine z_xP zt126 66 177 [some (.ref a0), some (.ref a1), some (.int p2), some (.int p3), some (.ref a4), some (.int b5), some (.int b6), some (.int b7), some (.int b8), some (.int b9), some (.int b10), some (.int b11), some (.int x655)] [.int b7, .int x662] rfl rfl ?_
            refine z_xJ zt126 67 rfl rfl (fun (h667 : x662.toInt ≤ b7.toInt) => ?_) (fun (h667 : b7.toInt < x662.toInt) => ?_)
            · skip
              refine z_xP zt126 69 185 [some (.ref a0), some (.ref a1), some (.int p2), some (.int p3), some (.ref a4), some (.int b5), some (.int b6), some (.int b7), some (.int b8), some (.int b9), some (.int b10), some (.int b11), some (.int x655)] [.int 0] rfl rfl ?_
              refine z_xP zt126 70 187 [some (.ref a0), some (.ref a1), some (.int p2), some (.int p3), some (.ref a4), some (.int b5), some (.int b6), some (.int b7), some (.int b8), some (.int b9), some (.int 0), some (.int b11), some (.int x655)] [] rfl rfl ?_
              refine z_xN zt126 71 rfl rfl (fun (x668 : Int32) (h669 : x668.toInt = b11.toInt + 1) => ?_) (z_pAdd rfl rfl (by omega) (by omega))
              show z_ev (d + 5) 126 190 [some (.ref a0), some (.ref a1), some (.int p2), some (.int p3), some (.ref a4), some (.int b5), some (.int b6), some (.int b7), some (.int b8), some (.int b9), some (.int 0), some (.int x668), some (.int x655)] [] M660 _
              refine z_xP zt126 72 66 [some (.ref a0), some (.ref a1), some (.int p2), some (.int p3), some (.ref a4), some (.int b5), some (.int b6), some (.int b7), some (.int b8), some (.int b9), some (.int 0), some (.int x668), some (.int x655)] [] rfl rfl ?_
              have q0 : ((0 : Int32)).toInt = 0 := rfl
              exact ih.1 M660 b5 b6 b7 b8 b9 (0) x668 (some (.int x655)) X665 ⟨by omega, by omega⟩ ⟨by omega, by omega⟩ ⟨by omega, by omega⟩ ⟨by omega, by omega⟩ (by decide) ⟨by omega, by omega⟩ (by omega) (by omega)
            refine z_xP zt126 68 185 [some (.ref a0), some (.ref a1), some (.int p2), some (.int p3), some (.ref a4), some (.int b5), some (.int b6), some (.int b7), some (.int b8), some (.int b9), some (.int b10), some (.int b11), some (.int x655)] [.int 1] rfl rfl ?_
            refine z_xP zt126 70 187 [some (.ref a0), some (.ref a1), some (.int p2), some (.int p3), some (.ref a4), some (.int b5), some (.int b6), some (.int b7), some (.int b8), some (.int b9), some (.int 1), some (.int b11), some (.int x655)] [] rfl rfl ?_
            refine z_xN zt126 71 rfl rfl (fun (x670 : Int32) (h671 : x670.toInt = b11.toInt + 1) => ?_) (z_pAdd rfl rfl (by omega) (by omega))
            show z_ev (d + 5) 126 190 [some (.ref a0), some (.ref a1), some (.int p2), some (.int p3), some (.ref a4), some (.int b5), some (.int b6), some (.int b7), some (.int b8), some (.int b9), some (.int 1), some (.int x670), some (.int x655)] [] M660 _
            refine z_xP zt126 72 66 [some (.ref a0), some (.ref a1), some (.int p2), some (.int p3), some (.ref a4), some (.int b5), some (.int b6), some (.int b7), some (.int b8), some (.int b9), some (.int 1), some (.int x670), some (.int x655)] [] rfl rfl ?_
            have q1 : ((1 : Int32)).toInt = 1 := rfl
            exact ih.1 M660 b5 b6 b7 b8 b9 (1) x670 (some (.int x655)) X665 ⟨by omega, by omega⟩ ⟨by omega, by omega⟩ ⟨by omega, by omega⟩ ⟨by omega, by omega⟩ (by decide) ⟨by omega, by omega⟩ (by omega) (by omega)
          refine z_xP zt122 4 16 [some (.ref a0), some (.ref a1), some (.int x641), some (.ref a4), some (.int x645)] [.ref a4, .int x645] rfl rfl ?_
          refine z_xln zt122 5 rfl X646 k4 (by decide) (by decide) (fun (x672 : Int32) (h673 : x672.toInt = ((16380 : Nat) : Int)) => ?_)
          have h674 := z_b32 x645
          refine z_xJ zt122 6 rfl rfl (fun (h675 : x645.toInt < x672.toInt) => ?_) (fun (h675 : x672.toInt ≤ x645.toInt) => ?_)
          · skip
            refine z_xP zt122 12 33 [some (.ref a0), some (.ref a1), some (.int x641), some (.ref a4), some (.int x645)] [.int x645, .ref a4] rfl rfl ?_
            refine z_xil zt122 13 rfl X646 k4 (by decide) (by omega) (by omega) (fun (x676 : Int32) h677 (h678 : (-2147483648) ≤ x676.toInt) (h679 : x676.toInt ≤ 2147483647) => ?_)
            refine z_xZ zt122 14 rfl rfl (fun (h680 : 0 ≤ x676.toInt) => ?_) (fun (h680 : x676.toInt < 0) => ?_)
            · skip
              refine z_xP zt122 20 53 [some (.ref a0), some (.ref a1), some (.int x641), some (.ref a4), some (.int x645)] [.int x645, .ref a4] rfl rfl ?_
              refine z_xil zt122 21 rfl X646 k4 (by decide) (by omega) (by omega) (fun (x681 : Int32) h682 (h683 : (-2147483648) ≤ x681.toInt) (h684 : x681.toInt ≤ 2147483647) => ?_)
              have h685 := congrArg Int32.toInt (h682.symm.trans h677)
              refine z_xri zt122 22 rfl zzr122 ?_
              show z_ev (d + 5) 126 165 [some (.ref a0), some (.ref a1), some (.int p2), some (.int p3), some (.ref a4), some (.int b5), some (.int b6), some (.int b7), some (.int b8), some (.int b9), some (.int b10), some (.int b11), o12] [.int x681] M643 _
              refine z_xP zt126 63 171 [some (.ref a0), some (.ref a1), some (.int p2), some (.int p3), some (.ref a4), some (.int b5), some (.int b6), some (.int b7), some (.int b8), some (.int b9), some (.int b10), some (.int b11), some (.int x681)] [.int b6, .int x681] rfl rfl ?_
              refine z_xI zt126 64 rfl rfl (fun (x686 : Int32) (h687 : 0 ≤ x686.toInt ∧ x686.toInt ≤ x681.toInt ∧ x686.toInt ≤ b6.toInt) => ?_) (z_pAnd2 rfl rfl (by omega) (by omega))
              refine z_xcS (vs := [.int x686]) (r := []) (L2 := [some (.int x686)]) zt126 65 rfl zo126 zzcS4_77 (Or.inl rfl) (Nat.le_of_ble_eq_true rfl) rfl rfl (Nat.le_of_ble_eq_true rfl) zzm31 (Nat.le_of_ble_eq_true rfl) rfl ?_
              refine zC31 X646.1 (fun x690 M688 X689 h691 h692 => ?_)
              have X693 := X646.go X689 (z_sb (by decide))
              show z_ev (d + 5) 126 175 [some (.ref a0), some (.ref a1), some (.int p2), some (.int p3), some (.ref a4), some (.int b5), some (.int b6), some (.int b7), some (.int b8), some (.int b9), some (.int b10), some (.int b11), some (.int x681)] [.int x690] M688 _
              refine z_xP zt126 66 177 [some (.ref a0), some (.ref a1), some (.int p2), some (.int p3), some (.ref a4), some (.int b5), some (.int b6), some (.int b7), some (.int b8), some (.int b9), some (.int b10), some (.int b11), some (.int x681)] [.int b7, .int x690] rfl rfl ?_
              refine z_xJ zt126 67 rfl rfl (fun (h695 : x690.toInt ≤ b7.toInt) => ?_) (fun (h695 : b7.toInt < x690.toInt) => ?_)
              · skip
                refine z_xP zt126 69 185 [some (.ref a0), some (.ref a1), some (.int p2), some (.int p3), some (.ref a4), some (.int b5), some (.int b6), some (.int b7), some (.int b8), some (.int b9), some (.int b10), some (.int b11), some (.int x681)] [.int 0] rfl rfl ?_
                refine z_xP zt126 70 187 [some (.ref a0), some (.ref a1), some (.int p2), some (.int p3), some (.ref a4), some (.int b5), some (.int b6), some (.int b7), some (.int b8), some (.int b9), some (.int 0), some (.int b11), some (.int x681)] [] rfl rfl ?_
                refine z_xN zt126 71 rfl rfl (fun (x696 : Int32) (h697 : x696.toInt = b11.toInt + 1) => ?_) (z_pAdd rfl rfl (by omega) (by omega))
                show z_ev (d + 5) 126 190 [some (.ref a0), some (.ref a1), some (.int p2), some (.int p3), some (.ref a4), some (.int b5), some (.int b6), some (.int b7), some (.int b8), some (.int b9), some (.int 0), some (.int x696), some (.int x681)] [] M688 _
                refine z_xP zt126 72 66 [some (.ref a0), some (.ref a1), some (.int p2), some (.int p3), some (.ref a4), some (.int b5), some (.int b6), some (.int b7), some (.int b8), some (.int b9), some (.int 0), some (.int x696), some (.int x681)] [] rfl rfl ?_
                have q0 : ((0 : Int32)).toInt = 0 := rfl
                exact ih.1 M688 b5 b6 b7 b8 b9 (0) x696 (some (.int x681)) X693 ⟨by omega, by omega⟩ ⟨by omega, by omega⟩ ⟨by omega, by omega⟩ ⟨by omega, by omega⟩ (by decide) ⟨by omega, by omega⟩ (by omega) (by omega)
              refine z_xP zt126 68 185 [some (.ref a0), some (.ref a1), some (.int p2), some (.int p3), some (.ref a4), some (.int b5), some (.int b6), some (.int b7), some (.int b8), some (.int b9), some (.int b10), some (.int b11), some (.int x681)] [.int 1] rfl rfl ?_
              refine z_xP zt126 70 187 [some (.ref a0), some (.ref a1), some (.int p2), some (.int p3), some (.ref a4), some (.int b5), some (.int b6), some (.int b7), some (.int b8), some (.int b9), some (.int 1), some (.int b11), some (.int x681)] [] rfl rfl ?_
              refine z_xN zt126 71 rfl rfl (fun (x698 : Int32) (h699 : x698.toInt = b11.toInt + 1) => ?_) (z_pAdd rfl rfl (by omega) (by omega))
              show z_ev (d + 5) 126 190 [some (.ref a0), some (.ref a1), some (.int p2), some (.int p3), some (.ref a4), some (.int b5), some (.int b6), some (.int b7), some (.int b8), some (.int b9), some (.int 1), some (.int x698), some (.int x681)] [] M688 _
              refine z_xP zt126 72 66 [some (.ref a0), some (.ref a1), some (.int p2), some (.int p3), some (.ref a4), some (.int b5), some (.int b6), some (.int b7), some (.int b8), some (.int b9), some (.int 1), some (.int x698), some (.int x681)] [] rfl rfl ?_
              have q1 : ((1 : Int32)).toInt = 1 := rfl
              exact ih.1 M688 b5 b6 b7 b8 b9 (1) x698 (some (.int x681)) X693 ⟨by omega, by omega⟩ ⟨by omega, by omega⟩ ⟨by omega, by omega⟩ ⟨by omega, by omega⟩ (by decide) ⟨by omega, by omega⟩ (by omega) (by omega)
            refine z_xP zt122 15 38 [some (.ref a0), some (.ref a1), some (.int x641), some (.ref a4), some (.int x645)] [.ref a1] rfl rfl ?_
            refine z_xcV (vs := [.ref a1]) (r := []) (L2 := [some (.ref a1), none, none]) zt122 16 rfl zo122 zzcV4_132 (Or.inl rfl) rfl X646 k1 rfl rfl rfl (Nat.le_of_ble_eq_true rfl) zzm111 (Nat.le_of_ble_eq_true rfl) rfl ?_
            refine zC111 X646.1 k1 (fun M700 X701  => ?_)
            have X702 := X646.go X701 (z_sb (by decide))
            show z_ev (d + 4) 122 41 [some (.ref a0), some (.ref a1), some (.int x641), some (.ref a4), some (.int x645)] [] M700 _
            refine z_xP zt122 17 46 [some (.ref a0), some (.ref a1), some (.int x641), some (.ref a4), some (.int x645)] [.ref a1, .ref a0, .int x645, .ref a4] rfl rfl ?_
            refine zVdecide zt122 18 rfl zo122 zzcV4_54 X702 k0 w0 (Nat.le_of_ble_eq_true rfl) k1 (fun x706 M704 X705  => ?_)
            have X707 := X702.go X705 (z_sb (by decide))
            show z_ev (d + 4) 122 49 [some (.ref a0), some (.ref a1), some (.int x641), some (.ref a4), some (.int x645)] [.int x706, .int x645, .ref a4] M704 _
            refine z_xis zt122 19 rfl X707 k4 (by decide) (X707.1.g4 k4 (by decide)) (by omega) (by omega) (Int32.le_toInt _) (Int32.toInt_le _) (by decide) (fun M709 X710 e711 h712 => ?_)
            refine z_xP zt122 20 53 [some (.ref a0), some (.ref a1), some (.int x641), some (.ref a4), some (.int x645)] [.int x645, .ref a4] rfl rfl ?_
            refine z_xil zt122 21 rfl X710 k4 (by decide) (by omega) (by omega) (fun (x713 : Int32) h714 (h715 : (-2147483648) ≤ x713.toInt) (h716 : x713.toInt ≤ 2147483647) => ?_)
            have h717 := congrArg Int32.toInt (h714.symm.trans (z_upe h712))
            refine z_xri zt122 22 rfl zzr122 ?_
            show z_ev (d + 5) 126 165 [some (.ref a0), some (.ref a1), some (.int p2), some (.int p3), some (.ref a4), some (.int b5), some (.int b6), some (.int b7), some (.int b8), some (.int b9), some (.int b10), some (.int b11), o12] [.int x713] M709 _
            refine z_xP zt126 63 171 [some (.ref a0), some (.ref a1), some (.int p2), some (.int p3), some (.ref a4), some (.int b5), some (.int b6), some (.int b7), some (.int b8), some (.int b9), some (.int b10), some (.int b11), some (.int x713)] [.int b6, .int x713] rfl rfl ?_
            refine z_xI zt126 64 rfl rfl (fun (x718 : Int32) (h719 : 0 ≤ x718.toInt ∧ x718.toInt ≤ b6.toInt) => ?_) (z_pAnd rfl (by omega))
            refine z_xcS (vs := [.int x718]) (r := []) (L2 := [some (.int x718)]) zt126 65 rfl zo126 zzcS4_77 (Or.inl rfl) (Nat.le_of_ble_eq_true rfl) rfl rfl (Nat.le_of_ble_eq_true rfl) zzm31 (Nat.le_of_ble_eq_true rfl) rfl ?_
            refine zC31 X710.1 (fun x722 M720 X721 h723 h724 => ?_)
            have X725 := X710.go X721 (z_sb (by decide))
            show z_ev (d + 5) 126 175 [some (.ref a0), some (.ref a1), some (.int p2), some (.int p3), some (.ref a4), some (.int b5), some (.int b6), some (.int b7), some (.int b8), some (.int b9), some (.int b10), some (.int b11), some (.int x713)] [.int x722] M720 _
            refine z_xP zt126 66 177 [some (.ref a0), some (.ref a1), some (.int p2), some (.int p3), some (.ref a4), some (.int b5), some (.int b6), some (.int b7), some (.int b8), some (.int b9), some (.int b10), some (.int b11), some (.int x713)] [.int b7, .int x722] rfl rfl ?_
            refine z_xJ zt126 67 rfl rfl (fun (h727 : x722.toInt ≤ b7.toInt) => ?_) (fun (h727 : b7.toInt < x722.toInt) => ?_)
            · skip
              refine z_xP zt126 69 185 [some (.ref a0), some (.ref a1), some (.int p2), some (.int p3), some (.ref a4), some (.int b5), some (.int b6), some (.int b7), some (.int b8), some (.int b9), some (.int b10), some (.int b11), some (.int x713)] [.int 0] rfl rfl ?_
              refine z_xP zt126 70 187 [some (.ref a0), some (.ref a1), some (.int p2), some (.int p3), some (.ref a4), some (.int b5), some (.int b6), some (.int b7), some (.int b8), some (.int b9), some (.int 0), some (.int b11), some (.int x713)] [] rfl rfl ?_
              refine z_xN zt126 71 rfl rfl (fun (x728 : Int32) (h729 : x728.toInt = b11.toInt + 1) => ?_) (z_pAdd rfl rfl (by omega) (by omega))
              show z_ev (d + 5) 126 190 [some (.ref a0), some (.ref a1), some (.int p2), some (.int p3), some (.ref a4), some (.int b5), some (.int b6), some (.int b7), some (.int b8), some (.int b9), some (.int 0), some (.int x728), some (.int x713)] [] M720 _
              refine z_xP zt126 72 66 [some (.ref a0), some (.ref a1), some (.int p2), some (.int p3), some (.ref a4), some (.int b5), some (.int b6), some (.int b7), some (.int b8), some (.int b9), some (.int 0), some (.int x728), some (.int x713)] [] rfl rfl ?_
              have q0 : ((0 : Int32)).toInt = 0 := rfl
              exact ih.1 M720 b5 b6 b7 b8 b9 (0) x728 (some (.int x713)) X725 ⟨by omega, by omega⟩ ⟨by omega, by omega⟩ ⟨by omega, by omega⟩ ⟨by omega, by omega⟩ (by decide) ⟨by omega, by omega⟩ (by omega) (by omega)
            refine z_xP zt126 68 185 [some (.ref a0), some (.ref a1), some (.int p2), some (.int p3), some (.ref a4), some (.int b5), some (.int b6), some (.int b7), some (.int b8), some (.int b9), some (.int b10), some (.int b11), some (.int x713)] [.int 1] rfl rfl ?_
            refine z_xP zt126 70 187 [some (.ref a0), some (.ref a1), some (.int p2), some (.int p3), some (.ref a4), some (.int b5), some (.int b6), some (.int b7), some (.int b8), some (.int b9), some (.int 1), some (.int b11), some (.int x713)] [] rfl rfl ?_
            refine z_xN zt126 71 rfl rfl (fun (x730 : Int32) (h731 : x730.toInt = b11.toInt + 1) => ?_) (z_pAdd rfl rfl (by omega) (by omega))
            show z_ev (d + 5) 126 190 [some (.ref a0), some (.ref a1), some (.int p2), some (.int p3), some (.ref a4), some (.int b5), some (.int b6), some (.int b7), some (.int b8), some (.int b9), some (.int 1), some (.int x730), some (.int x713)] [] M720 _
            refine z_xP zt126 72 66 [some (.ref a0), some (.ref a1), some (.int p2), some (.int p3), some (.ref a4), some (.int b5), some (.int b6), some (.int b7), some (.int b8), some (.int b9), some (.int 1), some (.int x730), some (.int x713)] [] rfl rfl ?_
            have q1 : ((1 : Int32)).toInt = 1 := rfl
            exact ih.1 M720 b5 b6 b7 b8 b9 (1) x730 (some (.int x713)) X725 ⟨by omega, by omega⟩ ⟨by omega, by omega⟩ ⟨by omega, by omega⟩ ⟨by omega, by omega⟩ (by decide) ⟨by omega, by omega⟩ (by omega) (by omega)
          refine z_xP zt122 7 21 [some (.ref a0), some (.ref a1), some (.int x641), some (.ref a4), some (.int x645)] [.ref a1] rfl rfl ?_
          refine z_xcV (vs := [.ref a1]) (r := []) (L2 := [some (.ref a1), none, none]) zt122 8 rfl zo122 zzcV4_132 (Or.inl rfl) rfl X646 k1 rfl rfl rfl (Nat.le_of_ble_eq_true rfl) zzm111 (Nat.le_of_ble_eq_true rfl) rfl ?_
          refine zC111 X646.1 k1 (fun M732 X733  => ?_)
          have X734 := X646.go X733 (z_sb (by decide))
          show z_ev (d + 4) 122 24 [some (.ref a0), some (.ref a1), some (.int x641), some (.ref a4), some (.int x645)] [] M732 _
          refine z_xP zt122 9 26 [some (.ref a0), some (.ref a1), some (.int x641), some (.ref a4), some (.int x645)] [.ref a1, .ref a0] rfl rfl ?_
          refine zVdecide zt122 10 rfl zo122 zzcV4_54 X734 k0 w0 (Nat.le_of_ble_eq_true rfl) k1 (fun x738 M736 X737  => ?_)
          have X739 := X734.go X737 (z_sb (by decide))
          show z_ev (d + 4) 122 29 [some (.ref a0), some (.ref a1), some (.int x641), some (.ref a4), some (.int x645)] [.int x738] M736 _
          refine z_xri zt122 11 rfl zzr122 ?_
          show z_ev (d + 5) 126 165 [some (.ref a0), some (.ref a1), some (.int p2), some (.int p3), some (.ref a4), some (.int b5), some (.int b6), some (.int b7), some (.int b8), some (.int b9), some (.int b10), some (.int b11), o12] [.int x738] M736 _
          refine z_xP zt126 63 171 [some (.ref a0), some (.ref a1), some (.int p2), some (.int p3), some (.ref a4), some (.int b5), some (.int b6), some (.int b7), some (.int b8), some (.int b9), some (.int b10), some (.int b11), some (.int x738)] [.int b6, .int x738] rfl rfl ?_
          refine z_xI zt126 64 rfl rfl (fun (x741 : Int32) (h742 : 0 ≤ x741.toInt ∧ x741.toInt ≤ b6.toInt) => ?_) (z_pAnd rfl (by omega))
          refine z_xcS (vs := [.int x741]) (r := []) (L2 := [some (.int x741)]) zt126 65 rfl zo126 zzcS4_77 (Or.inl rfl) (Nat.le_of_ble_eq_true rfl) rfl rfl (Nat.le_of_ble_eq_true rfl) zzm31 (Nat.le_of_ble_eq_true rfl) rfl ?_
          refine zC31 X739.1 (fun x745 M743 X744 h746 h747 => ?_)
          have X748 := X739.go X744 (z_sb (by decide))
          show z_ev (d + 5) 126 175 [some (.ref a0), some (.ref a1), some (.int p2), some (.int p3), some (.ref a4), some (.int b5), some (.int b6), some (.int b7), some (.int b8), some (.int b9), some (.int b10), some (.int b11), some (.int x738)] [.int x745] M743 _
          refine z_xP zt126 66 177 [some (.ref a0), some (.ref a1), some (.int p2), some (.int p3), some (.ref a4), some (.int b5), some (.int b6), some (.int b7), some (.int b8), some (.int b9), some (.int b10), some (.int b11), some (.int x738)] [.int b7, .int x745] rfl rfl ?_
          refine z_xJ zt126 67 rfl rfl (fun (h750 : x745.toInt ≤ b7.toInt) => ?_) (fun (h750 : b7.toInt < x745.toInt) => ?_)
          · skip
            refine z_xP zt126 69 185 [some (.ref a0), some (.ref a1), some (.int p2), some (.int p3), some (.ref a4), some (.int b5), some (.int b6), some (.int b7), some (.int b8), some (.int b9), some (.int b10), some (.int b11), some (.int x738)] [.int 0] rfl rfl ?_
            refine z_xP zt126 70 187 [some (.ref a0), some (.ref a1), some (.int p2), some (.int p3), some (.ref a4), some (.int b5), some (.int b6), some (.int b7), some (.int b8), some (.int b9), some (.int 0), some (.int b11), some (.int x738)] [] rfl rfl ?_
            refine z_xN zt126 71 rfl rfl (fun (x751 : Int32) (h752 : x751.toInt = b11.toInt + 1) => ?_) (z_pAdd rfl rfl (by omega) (by omega))
            show z_ev (d + 5) 126 190 [some (.ref a0), some (.ref a1), some (.int p2), some (.int p3), some (.ref a4), some (.int b5), some (.int b6), some (.int b7), some (.int b8), some (.int b9), some (.int 0), some (.int x751), some (.int x738)] [] M743 _
            refine z_xP zt126 72 66 [some (.ref a0), some (.ref a1), some (.int p2), some (.int p3), some (.ref a4), some (.int b5), some (.int b6), some (.int b7), some (.int b8), some (.int b9), some (.int 0), some (.int x751), some (.int x738)] [] rfl rfl ?_
            have q0 : ((0 : Int32)).toInt = 0 := rfl
            exact ih.1 M743 b5 b6 b7 b8 b9 (0) x751 (some (.int x738)) X748 ⟨by omega, by omega⟩ ⟨by omega, by omega⟩ ⟨by omega, by omega⟩ ⟨by omega, by omega⟩ (by decide) ⟨by omega, by omega⟩ (by omega) (by omega)
          refine z_xP zt126 68 185 [some (.ref a0), some (.ref a1), some (.int p2), some (.int p3), some (.ref a4), some (.int b5), some (.int b6), some (.int b7), some (.int b8), some (.int b9), some (.int b10), some (.int b11), some (.int x738)] [.int 1] rfl rfl ?_
          refine z_xP zt126 70 187 [some (.ref a0), some (.ref a1), some (.int p2), some (.int p3), some (.ref a4), some (.int b5), some (.int b6), some (.int b7), some (.int b8), some (.int b9), some (.int 1), some (.int b11), some (.int x738)] [] rfl rfl ?_
          refine z_xN zt126 71 rfl rfl (fun (x753 : Int32) (h754 : x753.toInt = b11.toInt + 1) => ?_) (z_pAdd rfl rfl (by omega) (by omega))
          show z_ev (d + 5) 126 190 [some (.ref a0), some (.ref a1), some (.int p2), some (.int p3), some (.ref a4), some (.int b5), some (.int b6), some (.int b7), some (.int b8), some (.int b9), some (.int 1), some (.int x753), some (.int x738)] [] M743 _
          refine z_xP zt126 72 66 [some (.ref a0), some (.ref a1), some (.int p2), some (.int p3), some (.ref a4), some (.int b5), some (.int b6), some (.int b7), some (.int b8), some (.int b9), some (.int 1), some (.int x753), some (.int x738)] [] rfl rfl ?_
          have q1 : ((1 : Int32)).toInt = 1 := rfl
          exact ih.1 M743 b5 b6 b7 b8 b9 (1) x753 (some (.int x738)) X748 ⟨by omega, by omega⟩ ⟨by omega, by omega⟩ ⟨by omega, by omega⟩ ⟨by omega, by omega⟩ (by decide) ⟨by omega, by omega⟩ (by omega) (by omega)
        refine z_xP zt105 13 27 [some (.int x618), some (.int x620)] [.int 0] rfl rfl ?_
        refine z_xri zt105 14 rfl zzr105 ?_
        show z_ev (d + 5) 126 159 [some (.ref a0), some (.ref a1), some (.int p2), some (.int p3), some (.ref a4), some (.int b5), some (.int b6), some (.int b7), some (.int b8), some (.int b9), some (.int b10), some (.int b11), o12] [.int 0, .int b9, .ref a1, .ref a0] M614 _
        have h755 := z_b32 b9
        refine z_xI zt126 60 rfl rfl (fun (x756 : Int32) (h757 : x756.toInt = b9.toInt + 0) => ?_) (z_pAdd rfl rfl (by omega) (by omega))
        refine z_xP zt126 61 162 [some (.ref a0), some (.ref a1), some (.int p2), some (.int p3), some (.ref a4), some (.int b5), some (.int b6), some (.int b7), some (.int b8), some (.int b9), some (.int b10), some (.int b11), o12] [.ref a4, .int x756, .ref a1, .ref a0] rfl rfl ?_
        refine z_xcV (vs := [.ref a0, .ref a1, .int x756, .ref a4]) (r := []) (L2 := [some (.ref a0), some (.ref a1), some (.int x756), some (.ref a4), none]) zt126 62 rfl zo126 zzcV4_104 (Or.inr rfl) rfl X615 k0 (z_w8 (fun c => (([(4, 122), (5, 122), (6, 122), (7, 122), (8, 122), (9, 122), (10, 122), (11, 122)] : List (Nat × Nat)).find? fun t => t.1 == c) = some (c, 122)) rfl rfl rfl rfl rfl rfl rfl rfl w0) rfl rfl (Nat.le_of_ble_eq_true rfl) zzm122 (Nat.le_of_ble_eq_true rfl) rfl ?_
        refine z_xP zt122 0 3 [some (.ref a0), some (.ref a1), some (.int x756), some (.ref a4), none] [.int x756, .ref a1, .ref a0] rfl rfl ?_
        refine zVplaceOf zt122 1 rfl zo122 zzcV4_128 X615 k0 w0 (Nat.le_of_ble_eq_true rfl) k1 (fun x760 M758 X759  => ?_)
        have X761 := X615.go X759 (z_sb (by decide))
        show z_ev (d + 4) 122 6 [some (.ref a0), some (.ref a1), some (.int x756), some (.ref a4), none] [.int x760] M758 _
        refine z_xP zt122 2 10 [some (.ref a0), some (.ref a1), some (.int x756), some (.ref a4), some (.int x760)] [.int x760] rfl rfl ?_
        refine z_xZ zt122 3 rfl rfl (fun (h763 : x760.toInt < 0) => ?_) (fun (h763 : 0 ≤ x760.toInt) => ?_)
        · skip
          refine z_xP zt122 7 21 [some (.ref a0), some (.ref a1), some (.int x756), some (.ref a4), some (.int x760)] [.ref a1] rfl rfl ?_
          refine z_xcV (vs := [.ref a1]) (r := []) (L2 := [some (.ref a1), none, none]) zt122 8 rfl zo122 zzcV4_132 (Or.inl rfl) rfl X761 k1 rfl rfl rfl (Nat.le_of_ble_eq_true rfl) zzm111 (Nat.le_of_ble_eq_true rfl) rfl ?_
          refine zC111 X761.1 k1 (fun M764 X765  => ?_)
          have X766 := X761.go X765 (z_sb (by decide))
          show z_ev (d + 4) 122 24 [some (.ref a0), some (.ref a1), some (.int x756), some (.ref a4), some (.int x760)] [] M764 _
          refine z_xP zt122 9 26 [some (.ref a0), some (.ref a1), some (.int x756), some (.ref a4), some (.int x760)] [.ref a1, .ref a0] rfl rfl ?_
          refine zVdecide zt122 10 rfl zo122 zzcV4_54 X766 k0 w0 (Nat.le_of_ble_eq_true rfl) k1 (fun x770 M768 X769  => ?_)
          have X771 := X766.go X769 (z_sb (by decide))
          show z_ev (d + 4) 122 29 [some (.ref a0), some (.ref a1), some (.int x756), some (.ref a4), some (.int x760)] [.int x770] M768 _
          refine z_xri zt122 11 rfl zzr122 ?_
          show z_ev (d + 5) 126 165 [some (.ref a0), some (.ref a1), some (.int p2), some (.int p3), some (.ref a4), some (.int b5), some (.int b6), some (.int b7), some (.int b8), some (.int b9), some (.int b10), some (.int b11), o12] [.int x770] M768 _
          refine z_xP zt126 63 171 [some (.ref a0), some (.ref a1), some (.int p2), some (.int p3), some (.ref a4), some (.int b5), some (.int b6), some (.int b7), some (.int b8), some (.int b9), some (.int b10), some (.int b11), some (.int x770)] [.int b6, .int x770] rfl rfl ?_
          refine z_xI zt126 64 rfl rfl (fun (x773 : Int32) (h774 : 0 ≤ x773.toInt ∧ x773.toInt ≤ b6.toInt) => ?_) (z_pAnd rfl (by omega))
          refine z_xcS (vs := [.int x773]) (r := []) (L2 := [some (.int x773)]) zt126 65 rfl zo126 zzcS4_77 (Or.inl rfl) (Nat.le_of_ble_eq_true rfl) rfl rfl (Nat.le_of_ble_eq_true rfl) zzm31 (Nat.le_of_ble_eq_true rfl) rfl ?_
          refine zC31 X771.1 (fun x777 M775 X776 h778 h779 => ?_)
          have X780 := X771.go X776 (z_sb (by decide))
          show z_ev (d + 5) 126 175 [some (.ref a0), some (.ref a1), some (.int p2), some (.int p3), some (.ref a4), some (.int b5), some (.int b6), some (.int b7), some (.int b8), some (.int b9), some (.int b10), some (.int b11), some (.int x770)] [.int x777] M775 _
          refine z_xP zt126 66 177 [some (.ref a0), some (.ref a1), some (.int p2), some (.int p3), some (.ref a4), some (.int b5), some (.int b6), some (.int b7), some (.int b8), some (.int b9), some (.int b10), some (.int b11), some (.int x770)] [.int b7, .int x777] rfl rfl ?_
          refine z_xJ zt126 67 rfl rfl (fun (h782 : x777.toInt ≤ b7.toInt) => ?_) (fun (h782 : b7.toInt < x777.toInt) => ?_)
          · skip
            refine z_xP zt126 69 185 [some (.ref a0), some (.ref a1), some (.int p2), some (.int p3), some (.ref a4), some (.int b5), some (.int b6), some (.int b7), some (.int b8), some (.int b9), some (.int b10), some (.int b11), some (.int x770)] [.int 0] rfl rfl ?_
            refine z_xP zt126 70 187 [some (.ref a0), some (.ref a1), some (.int p2), some (.int p3), some (.ref a4), some (.int b5), some (.int b6), some (.int b7), some (.int b8), some (.int b9), some (.int 0), some (.int b11), some (.int x770)] [] rfl rfl ?_
            refine z_xN zt126 71 rfl rfl (fun (x783 : Int32) (h784 : x783.toInt = b11.toInt + 1) => ?_) (z_pAdd rfl rfl (by omega) (by omega))
            show z_ev (d + 5) 126 190 [some (.ref a0), some (.ref a1), some (.int p2), some (.int p3), some (.ref a4), some (.int b5), some (.int b6), some (.int b7), some (.int b8), some (.int b9), some (.int 0), some (.int x783), some (.int x770)] [] M775 _
            refine z_xP zt126 72 66 [some (.ref a0), some (.ref a1), some (.int p2), some (.int p3), some (.ref a4), some (.int b5), some (.int b6), some (.int b7), some (.int b8), some (.int b9), some (.int 0), some (.int x783), some (.int x770)] [] rfl rfl ?_
            have q0 : ((0 : Int32)).toInt = 0 := rfl
            exact ih.1 M775 b5 b6 b7 b8 b9 (0) x783 (some (.int x770)) X780 ⟨by omega, by omega⟩ ⟨by omega, by omega⟩ ⟨by omega, by omega⟩ ⟨by omega, by omega⟩ (by decide) ⟨by omega, by omega⟩ (by omega) (by omega)
          refine z_xP zt126 68 185 [some (.ref a0), some (.ref a1), some (.int p2), some (.int p3), some (.ref a4), some (.int b5), some (.int b6), some (.int b7), some (.int b8), some (.int b9), some (.int b10), some (.int b11), some (.int x770)] [.int 1] rfl rfl ?_
          refine z_xP zt126 70 187 [some (.ref a0), some (.ref a1), some (.int p2), some (.int p3), some (.ref a4), some (.int b5), some (.int b6), some (.int b7), some (.int b8), some (.int b9), some (.int 1), some (.int b11), some (.int x770)] [] rfl rfl ?_
          refine z_xN zt126 71 rfl rfl (fun (x785 : Int32) (h786 : x785.toInt = b11.toInt + 1) => ?_) (z_pAdd rfl rfl (by omega) (by omega))
          show z_ev (d + 5) 126 190 [some (.ref a0), some (.ref a1), some (.int p2), some (.int p3), some (.ref a4), some (.int b5), some (.int b6), some (.int b7), some (.int b8), some (.int b9), some (.int 1), some (.int x785), some (.int x770)] [] M775 _
          refine z_xP zt126 72 66 [some (.ref a0), some (.ref a1), some (.int p2), some (.int p3), some (.ref a4), some (.int b5), some (.int b6), some (.int b7), some (.int b8), some (.int b9), some (.int 1), some (.int x785), some (.int x770)] [] rfl rfl ?_
          have q1 : ((1 : Int32)).toInt = 1 := rfl
          exact ih.1 M775 b5 b6 b7 b8 b9 (1) x785 (some (.int x770)) X780 ⟨by omega, by omega⟩ ⟨by omega, by omega⟩ ⟨by omega, by omega⟩ ⟨by omega, by omega⟩ (by decide) ⟨by omega, by omega⟩ (by omega) (by omega)
        refine z_xP zt122 4 16 [some (.ref a0), some (.ref a1), some (.int x756), some (.ref a4), some (.int x760)] [.ref a4, .int x760] rfl rfl ?_
        refine z_xln zt122 5 rfl X761 k4 (by decide) (by decide) (fun (x787 : Int32) (h788 : x787.toInt = ((16380 : Nat) : Int)) => ?_)
        have h789 := z_b32 x760
        refine z_xJ zt122 6 rfl rfl (fun (h790 : x760.toInt < x787.toInt) => ?_) (fun (h790 : x787.toInt ≤ x760.toInt) => ?_)
        · skip
          refine z_xP zt122 12 33 [some (.ref a0), some (.ref a1), some (.int x756), some (.ref a4), some (.int x760)] [.int x760, .ref a4] rfl rfl ?_
          refine z_xil zt122 13 rfl X761 k4 (by decide) (by omega) (by omega) (fun (x791 : Int32) h792 (h793 : (-2147483648) ≤ x791.toInt) (h794 : x791.toInt ≤ 2147483647) => ?_)
          refine z_xZ zt122 14 rfl rfl (fun (h795 : 0 ≤ x791.toInt) => ?_) (fun (h795 : x791.toInt < 0) => ?_)
          · skip
            refine z_xP zt122 20 53 [some (.ref a0), some (.ref a1), some (.int x756), some (.ref a4), some (.int x760)] [.int x760, .ref a4] rfl rfl ?_
            refine z_xil zt122 21 rfl X761 k4 (by decide) (by omega) (by omega) (fun (x796 : Int32) h797 (h798 : (-2147483648) ≤ x796.toInt) (h799 : x796.toInt ≤ 2147483647) => ?_)
            have h800 := congrArg Int32.toInt (h797.symm.trans h792)
            refine z_xri zt122 22 rfl zzr122 ?_
            show z_ev (d + 5) 126 165 [some (.ref a0), some (.ref a1), some (.int p2), some (.int p3), some (.ref a4), some (.int b5), some (.int b6), some (.int b7), some (.int b8), some (.int b9), some (.int b10), some (.int b11), o12] [.int x796] M758 _
            refine z_xP zt126 63 171 [some (.ref a0), some (.ref a1), some (.int p2), some (.int p3), some (.ref a4), some (.int b5), some (.int b6), some (.int b7), some (.int b8), some (.int b9), some (.int b10), some (.int b11), some (.int x796)] [.int b6, .int x796] rfl rfl ?_
            refine z_xI zt126 64 rfl rfl (fun (x801 : Int32) (h802 : 0 ≤ x801.toInt ∧ x801.toInt ≤ x796.toInt ∧ x801.toInt ≤ b6.toInt) => ?_) (z_pAnd2 rfl rfl (by omega) (by omega))
            refine z_xcS (vs := [.int x801]) (r := []) (L2 := [some (.int x801)]) zt126 65 rfl zo126 zzcS4_77 (Or.inl rfl) (Nat.le_of_ble_eq_true rfl) rfl rfl (Nat.le_of_ble_eq_true rfl) zzm31 (Nat.le_of_ble_eq_true rfl) rfl ?_
            refine zC31 X761.1 (fun x805 M803 X804 h806 h807 => ?_)
            have X808 := X761.go X804 (z_sb (by decide))
            show z_ev (d + 5) 126 175 [some (.ref a0), some (.ref a1), some (.int p2), some (.int p3), some (.ref a4), some (.int b5), some (.int b6), some (.int b7), some (.int b8), some (.int b9), some (.int b10), some (.int b11), some (.int x796)] [.int x805] M803 _
            refine z_xP zt126 66 177 [some (.ref a0), some (.ref a1), some (.int p2), some (.int p3), some (.ref a4), some (.int b5), some (.int b6), some (.int b7), some (.int b8), some (.int b9), some (.int b10), some (.int b11), some (.int x796)] [.int b7, .int x805] rfl rfl ?_
            refine z_xJ zt126 67 rfl rfl (fun (h810 : x805.toInt ≤ b7.toInt) => ?_) (fun (h810 : b7.toInt < x805.toInt) => ?_)
            · skip
              refine z_xP zt126 69 185 [some (.ref a0), some (.ref a1), some (.int p2), some (.int p3), some (.ref a4), some (.int b5), some (.int b6), some (.int b7), some (.int b8), some (.int b9), some (.int b10), some (.int b11), some (.int x796)] [.int 0] rfl rfl ?_
              refine z_xP zt126 70 187 [some (.ref a0), some (.ref a1), some (.int p2), some (.int p3), some (.ref a4), some (.int b5), some (.int b6), some (.int b7), some (.int b8), some (.int b9), some (.int 0), some (.int b11), some (.int x796)] [] rfl rfl ?_
              refine z_xN zt126 71 rfl rfl (fun (x811 : Int32) (h812 : x811.toInt = b11.toInt + 1) => ?_) (z_pAdd rfl rfl (by omega) (by omega))
              show z_ev (d + 5) 126 190 [some (.ref a0), some (.ref a1), some (.int p2), some (.int p3), some (.ref a4), some (.int b5), some (.int b6), some (.int b7), some (.int b8), some (.int b9), some (.int 0), some (.int x811), some (.int x796)] [] M803 _
              refine z_xP zt126 72 66 [some (.ref a0), some (.ref a1), some (.int p2), some (.int p3), some (.ref a4), some (.int b5), some (.int b6), some (.int b7), some (.int b8), some (.int b9), some (.int 0), some (.int x811), some (.int x796)] [] rfl rfl ?_
              have q0 : ((0 : Int32)).toInt = 0 := rfl
              exact ih.1 M803 b5 b6 b7 b8 b9 (0) x811 (some (.int x796)) X808 ⟨by omega, by omega⟩ ⟨by omega, by omega⟩ ⟨by omega, by omega⟩ ⟨by omega, by omega⟩ (by decide) ⟨by omega, by omega⟩ (by omega) (by omega)
            refine z_xP zt126 68 185 [some (.ref a0), some (.ref a1), some (.int p2), some (.int p3), some (.ref a4), some (.int b5), some (.int b6), some (.int b7), some (.int b8), some (.int b9), some (.int b10), some (.int b11), some (.int x796)] [.int 1] rfl rfl ?_
            refine z_xP zt126 70 187 [some (.ref a0), some (.ref a1), some (.int p2), some (.int p3), some (.ref a4), some (.int b5), some (.int b6), some (.int b7), some (.int b8), some (.int b9), some (.int 1), some (.int b11), some (.int x796)] [] rfl rfl ?_
            refine z_xN zt126 71 rfl rfl (fun (x813 : Int32) (h814 : x813.toInt = b11.toInt + 1) => ?_) (z_pAdd rfl rfl (by omega) (by omega))
            show z_ev (d + 5) 126 190 [some (.ref a0), some (.ref a1), some (.int p2), some (.int p3), some (.ref a4), some (.int b5), some (.int b6), some (.int b7), some (.int b8), some (.int b9), some (.int 1), some (.int x813), some (.int x796)] [] M803 _
            refine z_xP zt126 72 66 [some (.ref a0), some (.ref a1), some (.int p2), some (.int p3), some (.ref a4), some (.int b5), some (.int b6), some (.int b7), some (.int b8), some (.int b9), some (.int 1), some (.int x813), some (.int x796)] [] rfl rfl ?_
            have q1 : ((1 : Int32)).toInt = 1 := rfl
            exact ih.1 M803 b5 b6 b7 b8 b9 (1) x813 (some (.int x796)) X808 ⟨by omega, by omega⟩ ⟨by omega, by omega⟩ ⟨by omega, by omega⟩ ⟨by omega, by omega⟩ (by decide) ⟨by omega, by omega⟩ (by omega) (by omega)
          refine z_xP zt122 15 38 [some (.ref a0), some (.ref a1), some (.int x756), some (.ref a4), some (.int x760)] [.ref a1] rfl rfl ?_
          refine z_xcV (vs := [.ref a1]) (r := []) (L2 := [some (.ref a1), none, none]) zt122 16 rfl zo122 zzcV4_132 (Or.inl rfl) rfl X761 k1 rfl rfl rfl (Nat.le_of_ble_eq_true rfl) zzm111 (Nat.le_of_ble_eq_true rfl) rfl ?_
          refine zC111 X761.1 k1 (fun M815 X816  => ?_)
          have X817 := X761.go X816 (z_sb (by decide))
          show z_ev (d + 4) 122 41 [some (.ref a0), some (.ref a1), some (.int x756), some (.ref a4), some (.int x760)] [] M815 _
          refine z_xP zt122 17 46 [some (.ref a0), some (.ref a1), some (.int x756), some (.ref a4), some (.int x760)] [.ref a1, .ref a0, .int x760, .ref a4] rfl rfl ?_
          refine zVdecide zt122 18 rfl zo122 zzcV4_54 X817 k0 w0 (Nat.le_of_ble_eq_true rfl) k1 (fun x821 M819 X820  => ?_)
          have X822 := X817.go X820 (z_sb (by decide))
          show z_ev (d + 4) 122 49 [some (.ref a0), some (.ref a1), some (.int x756), some (.ref a4), some (.int x760)] [.int x821, .int x760, .ref a4] M819 _
          refine z_xis zt122 19 rfl X822 k4 (by decide) (X822.1.g4 k4 (by decide)) (by omega) (by omega) (Int32.le_toInt _) (Int32.toInt_le _) (by decide) (fun M824 X825 e826 h827 => ?_)
          refine z_xP zt122 20 53 [some (.ref a0), some (.ref a1), some (.int x756), some (.ref a4), some (.int x760)] [.int x760, .ref a4] rfl rfl ?_
          refine z_xil zt122 21 rfl X825 k4 (by decide) (by omega) (by omega) (fun (x828 : Int32) h829 (h830 : (-2147483648) ≤ x828.toInt) (h831 : x828.toInt ≤ 2147483647) => ?_)
          have h832 := congrArg Int32.toInt (h829.symm.trans (z_upe h827))
          refine z_xri zt122 22 rfl zzr122 ?_
          show z_ev (d + 5) 126 165 [some (.ref a0), some (.ref a1), some (.int p2), some (.int p3), some (.ref a4), some (.int b5), some (.int b6), some (.int b7), some (.int b8), some (.int b9), some (.int b10), some (.int b11), o12] [.int x828] M824 _
          refine z_xP zt126 63 171 [some (.ref a0), some (.ref a1), some (.int p2), some (.int p3), some (.ref a4), some (.int b5), some (.int b6), some (.int b7), some (.int b8), some (.int b9), some (.int b10), some (.int b11), some (.int x828)] [.int b6, .int x828] rfl rfl ?_
          refine z_xI zt126 64 rfl rfl (fun (x833 : Int32) (h834 : 0 ≤ x833.toInt ∧ x833.toInt ≤ b6.toInt) => ?_) (z_pAnd rfl (by omega))
          refine z_xcS (vs := [.int x833]) (r := []) (L2 := [some (.int x833)]) zt126 65 rfl zo126 zzcS4_77 (Or.inl rfl) (Nat.le_of_ble_eq_true rfl) rfl rfl (Nat.le_of_ble_eq_true rfl) zzm31 (Nat.le_of_ble_eq_true rfl) rfl ?_
          refine zC31 X825.1 (fun x837 M835 X836 h838 h839 => ?_)
          have X840 := X825.go X836 (z_sb (by decide))
          show z_ev (d + 5) 126 175 [some (.ref a0), some (.ref a1), some (.int p2), some (.int p3), some (.ref a4), some (.int b5), some (.int b6), some (.int b7), some (.int b8), some (.int b9), some (.int b10), some (.int b11), some (.int x828)] [.int x837] M835 _
          refine z_xP zt126 66 177 [some (.ref a0), some (.ref a1), some (.int p2), some (.int p3), some (.ref a4), some (.int b5), some (.int b6), some (.int b7), some (.int b8), some (.int b9), some (.int b10), some (.int b11), some (.int x828)] [.int b7, .int x837] rfl rfl ?_
          refine z_xJ zt126 67 rfl rfl (fun (h842 : x837.toInt ≤ b7.toInt) => ?_) (fun (h842 : b7.toInt < x837.toInt) => ?_)
          · skip
            refine z_xP zt126 69 185 [some (.ref a0), some (.ref a1), some (.int p2), some (.int p3), some (.ref a4), some (.int b5), some (.int b6), some (.int b7), some (.int b8), some (.int b9), some (.int b10), some (.int b11), some (.int x828)] [.int 0] rfl rfl ?_
            refine z_xP zt126 70 187 [some (.ref a0), some (.ref a1), some (.int p2), some (.int p3), some (.ref a4), some (.int b5), some (.int b6), some (.int b7), some (.int b8), some (.int b9), some (.int 0), some (.int b11), some (.int x828)] [] rfl rfl ?_
            refine z_xN zt126 71 rfl rfl (fun (x843 : Int32) (h844 : x843.toInt = b11.toInt + 1) => ?_) (z_pAdd rfl rfl (by omega) (by omega))
            show z_ev (d + 5) 126 190 [some (.ref a0), some (.ref a1), some (.int p2), some (.int p3), some (.ref a4), some (.int b5), some (.int b6), some (.int b7), some (.int b8), some (.int b9), some (.int 0), some (.int x843), some (.int x828)] [] M835 _
            refine z_xP zt126 72 66 [some (.ref a0), some (.ref a1), some (.int p2), some (.int p3), some (.ref a4), some (.int b5), some (.int b6), some (.int b7), some (.int b8), some (.int b9), some (.int 0), some (.int x843), some (.int x828)] [] rfl rfl ?_
            have q0 : ((0 : Int32)).toInt = 0 := rfl
            exact ih.1 M835 b5 b6 b7 b8 b9 (0) x843 (some (.int x828)) X840 ⟨by omega, by omega⟩ ⟨by omega, by omega⟩ ⟨by omega, by omega⟩ ⟨by omega, by omega⟩ (by decide) ⟨by omega, by omega⟩ (by omega) (by omega)
          refine z_xP zt126 68 185 [some (.ref a0), some (.ref a1), some (.int p2), some (.int p3), some (.ref a4), some (.int b5), some (.int b6), some (.int b7), some (.int b8), some (.int b9), some (.int b10), some (.int b11), some (.int x828)] [.int 1] rfl rfl ?_
          refine z_xP zt126 70 187 [some (.ref a0), some (.ref a1), some (.int p2), some (.int p3), some (.ref a4), some (.int b5), some (.int b6), some (.int b7), some (.int b8), some (.int b9), some (.int 1), some (.int b11), some (.int x828)] [] rfl rfl ?_
          refine z_xN zt126 71 rfl rfl (fun (x845 : Int32) (h846 : x845.toInt = b11.toInt + 1) => ?_) (z_pAdd rfl rfl (by omega) (by omega))
          show z_ev (d + 5) 126 190 [some (.ref a0), some (.ref a1), some (.int p2), some (.int p3), some (.ref a4), some (.int b5), some (.int b6), some (.int b7), some (.int b8), some (.int b9), some (.int 1), some (.int x845), some (.int x828)] [] M835 _
          refine z_xP zt126 72 66 [some (.ref a0), some (.ref a1), some (.int p2), some (.int p3), some (.ref a4), some (.int b5), some (.int b6), some (.int b7), some (.int b8), some (.int b9), some (.int 1), some (.int x845), some (.int x828)] [] rfl rfl ?_
          have q1 : ((1 : Int32)).toInt = 1 := rfl
          exact ih.1 M835 b5 b6 b7 b8 b9 (1) x845 (some (.int x828)) X840 ⟨by omega, by omega⟩ ⟨by omega, by omega⟩ ⟨by omega, by omega⟩ ⟨by omega, by omega⟩ (by decide) ⟨by omega, by omega⟩ (by omega) (by omega)
        refine z_xP zt122 7 21 [some (.ref a0), some (.ref a1), some (.int x756), some (.ref a4), some (.int x760)] [.ref a1] rfl rfl ?_
        refine z_xcV (vs := [.ref a1]) (r := []) (L2 := [some (.ref a1), none, none]) zt122 8 rfl zo122 zzcV4_132 (Or.inl rfl) rfl X761 k1 rfl rfl rfl (Nat.le_of_ble_eq_true rfl) zzm111 (Nat.le_of_ble_eq_true rfl) rfl ?_
        refine zC111 X761.1 k1 (fun M847 X848  => ?_)
        have X849 := X761.go X848 (z_sb (by decide))
        show z_ev (d + 4) 122 24 [some (.ref a0), some (.ref a1), some (.int x756), some (.ref a4), some (.int x760)] [] M847 _
        refine z_xP zt122 9 26 [some (.ref a0), some (.ref a1), some (.int x756), some (.ref a4), some (.int x760)] [.ref a1, .ref a0] rfl rfl ?_
        refine zVdecide zt122 10 rfl zo122 zzcV4_54 X849 k0 w0 (Nat.le_of_ble_eq_true rfl) k1 (fun x853 M851 X852  => ?_)
        have X854 := X849.go X852 (z_sb (by decide))
        show z_ev (d + 4) 122 29 [some (.ref a0), some (.ref a1), some (.int x756), some (.ref a4), some (.int x760)] [.int x853] M851 _
        refine z_xri zt122 11 rfl zzr122 ?_
        show z_ev (d + 5) 126 165 [some (.ref a0), some (.ref a1), some (.int p2), some (.int p3), some (.ref a4), some (.int b5), some (.int b6), some (.int b7), some (.int b8), some (.int b9), some (.int b10), some (.int b11), o12] [.int x853] M851 _
        refine z_xP zt126 63 171 [some (.ref a0), some (.ref a1), some (.int p2), some (.int p3), some (.ref a4), some (.int b5), some (.int b6), some (.int b7), some (.int b8), some (.int b9), some (.int b10), some (.int b11), some (.int x853)] [.int b6, .int x853] rfl rfl ?_
        refine z_xI zt126 64 rfl rfl (fun (x856 : Int32) (h857 : 0 ≤ x856.toInt ∧ x856.toInt ≤ b6.toInt) => ?_) (z_pAnd rfl (by omega))
        refine z_xcS (vs := [.int x856]) (r := []) (L2 := [some (.int x856)]) zt126 65 rfl zo126 zzcS4_77 (Or.inl rfl) (Nat.le_of_ble_eq_true rfl) rfl rfl (Nat.le_of_ble_eq_true rfl) zzm31 (Nat.le_of_ble_eq_true rfl) rfl ?_
        refine zC31 X854.1 (fun x860 M858 X859 h861 h862 => ?_)
        have X863 := X854.go X859 (z_sb (by decide))
        show z_ev (d + 5) 126 175 [some (.ref a0), some (.ref a1), some (.int p2), some (.int p3), some (.ref a4), some (.int b5), some (.int b6), some (.int b7), some (.int b8), some (.int b9), some (.int b10), some (.int b11), some (.int x853)] [.int x860] M858 _
        refine z_xP zt126 66 177 [some (.ref a0), some (.ref a1), some (.int p2), some (.int p3), some (.ref a4), some (.int b5), some (.int b6), some (.int b7), some (.int b8), some (.int b9), some (.int b10), some (.int b11), some (.int x853)] [.int b7, .int x860] rfl rfl ?_
        refine z_xJ zt126 67 rfl rfl (fun (h865 : x860.toInt ≤ b7.toInt) => ?_) (fun (h865 : b7.toInt < x860.toInt) => ?_)
        · skip
          refine z_xP zt126 69 185 [some (.ref a0), some (.ref a1), some (.int p2), some (.int p3), some (.ref a4), some (.int b5), some (.int b6), some (.int b7), some (.int b8), some (.int b9), some (.int b10), some (.int b11), some (.int x853)] [.int 0] rfl rfl ?_
          refine z_xP zt126 70 187 [some (.ref a0), some (.ref a1), some (.int p2), some (.int p3), some (.ref a4), some (.int b5), some (.int b6), some (.int b7), some (.int b8), some (.int b9), some (.int 0), some (.int b11), some (.int x853)] [] rfl rfl ?_
          refine z_xN zt126 71 rfl rfl (fun (x866 : Int32) (h867 : x866.toInt = b11.toInt + 1) => ?_) (z_pAdd rfl rfl (by omega) (by omega))
          show z_ev (d + 5) 126 190 [some (.ref a0), some (.ref a1), some (.int p2), some (.int p3), some (.ref a4), some (.int b5), some (.int b6), some (.int b7), some (.int b8), some (.int b9), some (.int 0), some (.int x866), some (.int x853)] [] M858 _
          refine z_xP zt126 72 66 [some (.ref a0), some (.ref a1), some (.int p2), some (.int p3), some (.ref a4), some (.int b5), some (.int b6), some (.int b7), some (.int b8), some (.int b9), some (.int 0), some (.int x866), some (.int x853)] [] rfl rfl ?_
          have q0 : ((0 : Int32)).toInt = 0 := rfl
          exact ih.1 M858 b5 b6 b7 b8 b9 (0) x866 (some (.int x853)) X863 ⟨by omega, by omega⟩ ⟨by omega, by omega⟩ ⟨by omega, by omega⟩ ⟨by omega, by omega⟩ (by decide) ⟨by omega, by omega⟩ (by omega) (by omega)
        refine z_xP zt126 68 185 [some (.ref a0), some (.ref a1), some (.int p2), some (.int p3), some (.ref a4), some (.int b5), some (.int b6), some (.int b7), some (.int b8), some (.int b9), some (.int b10), some (.int b11), some (.int x853)] [.int 1] rfl rfl ?_
        refine z_xP zt126 70 187 [some (.ref a0), some (.ref a1), some (.int p2), some (.int p3), some (.ref a4), some (.int b5), some (.int b6), some (.int b7), some (.int b8), some (.int b9), some (.int 1), some (.int b11), some (.int x853)] [] rfl rfl ?_
        refine z_xN zt126 71 rfl rfl (fun (x868 : Int32) (h869 : x868.toInt = b11.toInt + 1) => ?_) (z_pAdd rfl rfl (by omega) (by omega))
        show z_ev (d + 5) 126 190 [some (.ref a0), some (.ref a1), some (.int p2), some (.int p3), some (.ref a4), some (.int b5), some (.int b6), some (.int b7), some (.int b8), some (.int b9), some (.int 1), some (.int x868), some (.int x853)] [] M858 _
        refine z_xP zt126 72 66 [some (.ref a0), some (.ref a1), some (.int p2), some (.int p3), some (.ref a4), some (.int b5), some (.int b6), some (.int b7), some (.int b8), some (.int b9), some (.int 1), some (.int x868), some (.int x853)] [] rfl rfl ?_
        have q1 : ((1 : Int32)).toInt = 1 := rfl
        exact ih.1 M858 b5 b6 b7 b8 b9 (1) x868 (some (.int x853)) X863 ⟨by omega, by omega⟩ ⟨by omega, by omega⟩ ⟨by omega, by omega⟩ ⟨by omega, by omega⟩ (by decide) ⟨by omega, by omega⟩ (by omega) (by omega)
      refine z_xP zt126 40 113 [some (.ref a0), some (.ref a1), some (.int p2), some (.int p3), some (.ref a4), some (.int b5), some (.int b6), some (.int b7), some (.int b8), some (.int b9), some (.int b10), some (.int b11), o12] [.int b8, .int p2, .ref a1, .int b9] rfl rfl ?_
      refine z_xcV (vs := [.ref a1, .int p2, .int b8]) (r := [.int b9]) (L2 := [some (.ref a1), some (.int p2), some (.int b8)]) zt126 41 rfl zo126 zzcV4_121 (Or.inl rfl) rfl X k1 rfl rfl rfl (Nat.le_of_ble_eq_true rfl) zzm128 (Nat.le_of_ble_eq_true rfl) rfl ?_
      refine z_xP zt128 0 1 [some (.ref a1), some (.int p2), some (.int b8)] [.ref a1] rfl rfl ?_
      refine z_xgv zt128 1 rfl zo128 zzf3_33 X k1 (by decide) h267 ?_
      refine z_xP zt128 2 6 [some (.ref a1), some (.int p2), some (.int b8)] [.int p2, .int b8, .ref a268] rfl rfl ?_
      refine z_xJ zt128 3 rfl rfl (fun (h870 : p2.toInt ≤ b8.toInt) => ?_) (fun (h870 : b8.toInt < p2.toInt) => ?_)
      · skip
        refine z_xP zt128 5 15 [some (.ref a1), some (.int p2), some (.int b8)] [.int 1, .int b8, .ref a268] rfl rfl ?_
        refine z_xI zt128 6 rfl rfl (fun (x871 : Int32) (h872 : x871.toInt = b8.toInt + 1) => ?_) (z_pAdd rfl rfl (by omega) (by omega))
        refine z_xil zt128 7 rfl X k269 (by decide) (by omega) (by omega) (fun (x873 : Int32) h874 (h875 : 0 ≤ x873.toInt) (h876 : x873.toInt ≤ ((m1 : Nat) : Int) - 1) => ?_)
        refine z_xri zt128 8 rfl zzr128 ?_
        show z_ev (d + 5) 126 116 [some (.ref a0), some (.ref a1), some (.int p2), some (.int p3), some (.ref a4), some (.int b5), some (.int b6), some (.int b7), some (.int b8), some (.int b9), some (.int b10), some (.int b11), o12] [.int x873, .int b9] M _
        refine z_xP zt126 42 118 [some (.ref a0), some (.ref a1), some (.int p2), some (.int p3), some (.ref a4), some (.int b5), some (.int b6), some (.int b7), some (.int b8), some (.int b9), some (.int b10), some (.int b11), o12] [.int b8, .int x873, .int b9] rfl rfl ?_
        refine z_xI zt126 43 rfl rfl (fun (x877 : Int32) (h878 : x877.toInt = x873.toInt + b8.toInt) => ?_) (z_pAdd rfl rfl (by omega) (by omega))
        refine z_xP zt126 44 122 [some (.ref a0), some (.ref a1), some (.int p2), some (.int p3), some (.ref a4), some (.int b5), some (.int b6), some (.int b7), some (.int b8), some (.int b9), some (.int b10), some (.int b11), o12] [.int 2, .int b8, .int x877, .int b9] rfl rfl ?_
        refine z_xI zt126 45 rfl rfl (fun (x879 : Int32) (h880 : x879.toInt = b8.toInt + 2) => ?_) (z_pAdd rfl rfl (by omega) (by omega))
        refine z_xcS (vs := [.int x877, .int x879]) (r := [.int b9]) (L2 := [some (.int x877), some (.int x879)]) zt126 46 rfl zo126 zzcS4_125 (Or.inr rfl) (Nat.le_of_ble_eq_true rfl) rfl rfl (Nat.le_of_ble_eq_true rfl) zzm105 (Nat.le_of_ble_eq_true rfl) rfl ?_
        refine z_xP zt105 0 1 [some (.int x877), some (.int x879)] [.int x877] rfl rfl ?_
        refine z_xZ zt105 1 rfl rfl (fun (h881 : x877.toInt < 0) => absurd h881 (by omega)) (fun (h881 : 0 ≤ x877.toInt) => ?_)
        refine z_xP zt105 2 5 [some (.int x877), some (.int x879)] [.int x879] rfl rfl ?_
        refine z_xZ zt105 3 rfl rfl (fun (h882 : x879.toInt < 0) => absurd h882 (by omega)) (fun (h882 : 0 ≤ x879.toInt) => ?_)
        refine z_xP zt105 4 10 [some (.int x877), some (.int x879)] [.int 5, .int x879] rfl rfl ?_
        refine z_xJ zt105 5 rfl rfl (fun (h883 : 5 < x879.toInt) => absurd h883 (by omega)) (fun (h883 : x879.toInt ≤ 5) => ?_)
        refine z_xP zt105 6 16 [some (.int x877), some (.int x879)] [.int x877, .int 6] rfl rfl ?_
        refine z_xI zt105 7 rfl rfl (fun (x884 : Int32) (h885 : x884.toInt = 6 * x877.toInt) => ?_) (z_pMul rfl rfl (by omega) (by omega))
        refine z_xP zt105 8 18 [some (.int x877), some (.int x879)] [.int x879, .int x884] rfl rfl ?_
        refine z_xI zt105 9 rfl rfl (fun (x886 : Int32) (h887 : x886.toInt = x884.toInt + x879.toInt) => ?_) (z_pAdd rfl rfl (by omega) (by omega))
        refine z_xgs zt105 10 rfl zo105 zg0_340 ?_
        have f1 : T[1]? = some (.inr (1, 0, 102, 0, 4368)) := X.1.k rfl (by decide)
        refine z_xln zt105 11 rfl X f1 (by decide) (by decide) (fun (x888 : Int32) (h889 : x888.toInt = ((102 : Nat) : Int)) => ?_)
        refine z_xJ zt105 12 rfl rfl (fun (h890 : x886.toInt < x888.toInt) => ?_) (fun (h890 : x888.toInt ≤ x886.toInt) => ?_)
        · skip
          refine z_xgs zt105 15 rfl zo105 zg0_340 ?_
          refine z_xP zt105 16 34 [some (.int x877), some (.int x879)] [.int x877, .int 6, .ref 1] rfl rfl ?_
          refine z_xI zt105 17 rfl rfl (fun (x891 : Int32) (h892 : x891.toInt = 6 * x877.toInt) => ?_) (z_pMul rfl rfl (by omega) (by omega))
          refine z_xP zt105 18 36 [some (.int x877), some (.int x879)] [.int x879, .int x891, .ref 1] rfl rfl ?_
          refine z_xI zt105 19 rfl rfl (fun (x893 : Int32) (h894 : x893.toInt = x891.toInt + x879.toInt) => ?_) (z_pAdd rfl rfl (by omega) (by omega))
          refine z_xil zt105 20 rfl X f1 (by decide) (by omega) (by omega) (fun (x895 : Int32) h896 (h897 : 0 ≤ x895.toInt) (h898 : x895.toInt ≤ 4368) => ?_)
          refine z_xri zt105 21 rfl zzr105 ?_
          show z_ev (d + 5) 126 126 [some (.ref a0), some (.ref a1), some (.int p2), some (.int p3), some (.ref a4), some (.int b5), some (.int b6), some (.int b7), some (.int b8), some (.int b9), some (.int b10), some (.int b11), o12] [.int x895, .int b9] M _
          have h899 := z_b32 b9
          refine z_xI zt126 47 rfl rfl (P := fun _ => True) (fun (x900 : Int32) _ => ?_) trivial
          refine z_xP zt126 48 129 [some (.ref a0), some (.ref a1), some (.int p2), some (.int p3), some (.ref a4), some (.int b5), some (.int b6), some (.int b7), some (.int b8), some (.int x900), some (.int b10), some (.int b11), o12] [] rfl rfl ?_
          refine z_xN zt126 49 rfl rfl (fun (x902 : Int32) (h903 : x902.toInt = b8.toInt + 1) => ?_) (z_pAdd rfl rfl (by omega) (by omega))
          show z_ev (d + 5) 126 132 [some (.ref a0), some (.ref a1), some (.int p2), some (.int p3), some (.ref a4), some (.int b5), some (.int b6), some (.int b7), some (.int x902), some (.int x900), some (.int b10), some (.int b11), o12] [] M _
          refine z_xP zt126 50 84 [some (.ref a0), some (.ref a1), some (.int p2), some (.int p3), some (.ref a4), some (.int b5), some (.int b6), some (.int b7), some (.int x902), some (.int x900), some (.int b10), some (.int b11), o12] [] rfl rfl ?_
          exact ih.2 M b5 b6 b7 x902 x900 b10 b11 (o12) X ⟨by omega, by omega⟩ ⟨by omega, by omega⟩ ⟨by omega, by omega⟩ ⟨by omega, by omega⟩ ⟨by omega, by omega⟩ ⟨by omega, by omega⟩ (by omega) (by omega) (by omega)
        refine z_xP zt105 13 27 [some (.int x877), some (.int x879)] [.int 0] rfl rfl ?_
        refine z_xri zt105 14 rfl zzr105 ?_
        show z_ev (d + 5) 126 126 [some (.ref a0), some (.ref a1), some (.int p2), some (.int p3), some (.ref a4), some (.int b5), some (.int b6), some (.int b7), some (.int b8), some (.int b9), some (.int b10), some (.int b11), o12] [.int 0, .int b9] M _
        have h904 := z_b32 b9
        refine z_xI zt126 47 rfl rfl (fun (x905 : Int32) (h906 : x905.toInt = b9.toInt - 0) => ?_) (z_pSub rfl rfl (by omega) (by omega))
        refine z_xP zt126 48 129 [some (.ref a0), some (.ref a1), some (.int p2), some (.int p3), some (.ref a4), some (.int b5), some (.int b6), some (.int b7), some (.int b8), some (.int x905), some (.int b10), some (.int b11), o12] [] rfl rfl ?_
        refine z_xN zt126 49 rfl rfl (fun (x907 : Int32) (h908 : x907.toInt = b8.toInt + 1) => ?_) (z_pAdd rfl rfl (by omega) (by omega))
        show z_ev (d + 5) 126 132 [some (.ref a0), some (.ref a1), some (.int p2), some (.int p3), some (.ref a4), some (.int b5), some (.int b6), some (.int b7), some (.int x907), some (.int x905), some (.int b10), some (.int b11), o12] [] M _
        refine z_xP zt126 50 84 [some (.ref a0), some (.ref a1), some (.int p2), some (.int p3), some (.ref a4), some (.int b5), some (.int b6), some (.int b7), some (.int x907), some (.int x905), some (.int b10), some (.int b11), o12] [] rfl rfl ?_
        exact ih.2 M b5 b6 b7 x907 x905 b10 b11 (o12) X ⟨by omega, by omega⟩ ⟨by omega, by omega⟩ ⟨by omega, by omega⟩ ⟨by omega, by omega⟩ ⟨by omega, by omega⟩ ⟨by omega, by omega⟩ (by omega) (by omega) (by omega)
      refine z_xP zt128 4 16 [some (.ref a1), some (.int p2), some (.int b8)] [.int b8, .ref a268] rfl rfl ?_
      refine z_xil zt128 7 rfl X k269 (by decide) (by omega) (by omega) (fun (x909 : Int32) h910 (h911 : 0 ≤ x909.toInt) (h912 : x909.toInt ≤ ((m1 : Nat) : Int) - 1) => ?_)
      have h913 := congrArg Int32.toInt (h910.symm.trans h610)
      refine z_xri zt128 8 rfl zzr128 ?_
      show z_ev (d + 5) 126 116 [some (.ref a0), some (.ref a1), some (.int p2), some (.int p3), some (.ref a4), some (.int b5), some (.int b6), some (.int b7), some (.int b8), some (.int b9), some (.int b10), some (.int b11), o12] [.int x909, .int b9] M _
      refine z_xP zt126 42 118 [some (.ref a0), some (.ref a1), some (.int p2), some (.int p3), some (.ref a4), some (.int b5), some (.int b6), some (.int b7), some (.int b8), some (.int b9), some (.int b10), some (.int b11), o12] [.int b8, .int x909, .int b9] rfl rfl ?_
      refine z_xI zt126 43 rfl rfl (fun (x914 : Int32) (h915 : x914.toInt = x909.toInt + b8.toInt) => ?_) (z_pAdd rfl rfl (by omega) (by omega))
      refine z_xP zt126 44 122 [some (.ref a0), some (.ref a1), some (.int p2), some (.int p3), some (.ref a4), some (.int b5), some (.int b6), some (.int b7), some (.int b8), some (.int b9), some (.int b10), some (.int b11), o12] [.int 2, .int b8, .int x914, .int b9] rfl rfl ?_
      refine z_xI zt126 45 rfl rfl (fun (x916 : Int32) (h917 : x916.toInt = b8.toInt + 2) => ?_) (z_pAdd rfl rfl (by omega) (by omega))
      refine z_xcS (vs := [.int x914, .int x916]) (r := [.int b9]) (L2 := [some (.int x914), some (.int x916)]) zt126 46 rfl zo126 zzcS4_125 (Or.inr rfl) (Nat.le_of_ble_eq_true rfl) rfl rfl (Nat.le_of_ble_eq_true rfl) zzm105 (Nat.le_of_ble_eq_true rfl) rfl ?_
      refine z_xP zt105 0 1 [some (.int x914), some (.int x916)] [.int x914] rfl rfl ?_
      refine z_xZ zt105 1 rfl rfl (fun (h918 : x914.toInt < 0) => absurd h918 (by omega)) (fun (h918 : 0 ≤ x914.toInt) => ?_)
      refine z_xP zt105 2 5 [some (.int x914), some (.int x916)] [.int x916] rfl rfl ?_
      refine z_xZ zt105 3 rfl rfl (fun (h919 : x916.toInt < 0) => absurd h919 (by omega)) (fun (h919 : 0 ≤ x916.toInt) => ?_)
      refine z_xP zt105 4 10 [some (.int x914), some (.int x916)] [.int 5, .int x916] rfl rfl ?_
      refine z_xJ zt105 5 rfl rfl (fun (h920 : 5 < x916.toInt) => absurd h920 (by omega)) (fun (h920 : x916.toInt ≤ 5) => ?_)
      refine z_xP zt105 6 16 [some (.int x914), some (.int x916)] [.int x914, .int 6] rfl rfl ?_
      refine z_xI zt105 7 rfl rfl (fun (x921 : Int32) (h922 : x921.toInt = 6 * x914.toInt) => ?_) (z_pMul rfl rfl (by omega) (by omega))
      refine z_xP zt105 8 18 [some (.int x914), some (.int x916)] [.int x916, .int x921] rfl rfl ?_
      refine z_xI zt105 9 rfl rfl (fun (x923 : Int32) (h924 : x923.toInt = x921.toInt + x916.toInt) => ?_) (z_pAdd rfl rfl (by omega) (by omega))
      refine z_xgs zt105 10 rfl zo105 zg0_340 ?_
      have f1 : T[1]? = some (.inr (1, 0, 102, 0, 4368)) := X.1.k rfl (by decide)
      refine z_xln zt105 11 rfl X f1 (by decide) (by decide) (fun (x925 : Int32) (h926 : x925.toInt = ((102 : Nat) : Int)) => ?_)
      refine z_xJ zt105 12 rfl rfl (fun (h927 : x923.toInt < x925.toInt) => ?_) (fun (h927 : x925.toInt ≤ x923.toInt) => ?_)
      · skip
        refine z_xgs zt105 15 rfl zo105 zg0_340 ?_
        refine z_xP zt105 16 34 [some (.int x914), some (.int x916)] [.int x914, .int 6, .ref 1] rfl rfl ?_
        refine z_xI zt105 17 rfl rfl (fun (x928 : Int32) (h929 : x928.toInt = 6 * x914.toInt) => ?_) (z_pMul rfl rfl (by omega) (by omega))
        refine z_xP zt105 18 36 [some (.int x914), some (.int x916)] [.int x916, .int x928, .ref 1] rfl rfl ?_
        refine z_xI zt105 19 rfl rfl (fun (x930 : Int32) (h931 : x930.toInt = x928.toInt + x916.toInt) => ?_) (z_pAdd rfl rfl (by omega) (by omega))
        refine z_xil zt105 20 rfl X f1 (by decide) (by omega) (by omega) (fun (x932 : Int32) h933 (h934 : 0 ≤ x932.toInt) (h935 : x932.toInt ≤ 4368) => ?_)
        refine z_xri zt105 21 rfl zzr105 ?_
        show z_ev (d + 5) 126 126 [some (.ref a0), some (.ref a1), some (.int p2), some (.int p3), some (.ref a4), some (.int b5), some (.int b6), some (.int b7), some (.int b8), some (.int b9), some (.int b10), some (.int b11), o12] [.int x932, .int b9] M _
        have h936 := z_b32 b9
        refine z_xI zt126 47 rfl rfl (P := fun _ => True) (fun (x937 : Int32) _ => ?_) trivial
        refine z_xP zt126 48 129 [some (.ref a0), some (.ref a1), some (.int p2), some (.int p3), some (.ref a4), some (.int b5), some (.int b6), some (.int b7), some (.int b8), some (.int x937), some (.int b10), some (.int b11), o12] [] rfl rfl ?_
        refine z_xN zt126 49 rfl rfl (fun (x939 : Int32) (h940 : x939.toInt = b8.toInt + 1) => ?_) (z_pAdd rfl rfl (by omega) (by omega))
        show z_ev (d + 5) 126 132 [some (.ref a0), some (.ref a1), some (.int p2), some (.int p3), some (.ref a4), some (.int b5), some (.int b6), some (.int b7), some (.int x939), some (.int x937), some (.int b10), some (.int b11), o12] [] M _
        refine z_xP zt126 50 84 [some (.ref a0), some (.ref a1), some (.int p2), some (.int p3), some (.ref a4), some (.int b5), some (.int b6), some (.int b7), some (.int x939), some (.int x937), some (.int b10), some (.int b11), o12] [] rfl rfl ?_
        exact ih.2 M b5 b6 b7 x939 x937 b10 b11 (o12) X ⟨by omega, by omega⟩ ⟨by omega, by omega⟩ ⟨by omega, by omega⟩ ⟨by omega, by omega⟩ ⟨by omega, by omega⟩ ⟨by omega, by omega⟩ (by omega) (by omega) (by omega)
      refine z_xP zt105 13 27 [some (.int x914), some (.int x916)] [.int 0] rfl rfl ?_
      refine z_xri zt105 14 rfl zzr105 ?_
      show z_ev (d + 5) 126 126 [some (.ref a0), some (.ref a1), some (.int p2), some (.int p3), some (.ref a4), some (.int b5), some (.int b6), some (.int b7), some (.int b8), some (.int b9), some (.int b10), some (.int b11), o12] [.int 0, .int b9] M _
      have h941 := z_b32 b9
      refine z_xI zt126 47 rfl rfl (fun (x942 : Int32) (h943 : x942.toInt = b9.toInt - 0) => ?_) (z_pSub rfl rfl (by omega) (by omega))
      refine z_xP zt126 48 129 [some (.ref a0), some (.ref a1), some (.int p2), some (.int p3), some (.ref a4), some (.int b5), some (.int b6), some (.int b7), some (.int b8), some (.int x942), some (.int b10), some (.int b11), o12] [] rfl rfl ?_
      refine z_xN zt126 49 rfl rfl (fun (x944 : Int32) (h945 : x944.toInt = b8.toInt + 1) => ?_) (z_pAdd rfl rfl (by omega) (by omega))
      show z_ev (d + 5) 126 132 [some (.ref a0), some (.ref a1), some (.int p2), some (.int p3), some (.ref a4), some (.int b5), some (.int b6), some (.int b7), some (.int x944), some (.int x942), some (.int b10), some (.int b11), o12] [] M _
      refine z_xP zt126 50 84 [some (.ref a0), some (.ref a1), some (.int p2), some (.int p3), some (.ref a4), some (.int b5), some (.int b6), some (.int b7), some (.int x944), some (.int x942), some (.int b10), some (.int b11), o12] [] rfl rfl ?_
      exact ih.2 M b5 b6 b7 x944 x942 b10 b11 (o12) X ⟨by omega, by omega⟩ ⟨by omega, by omega⟩ ⟨by omega, by omega⟩ ⟨by omega, by omega⟩ ⟨by omega, by omega⟩ ⟨by omega, by omega⟩ (by omega) (by omega) (by omega)
theorem zC126 {T : List zK} {d : Nat} {K : Option Value → zH → Prop} {a0 : Nat} {ci : Nat} {a1 : Nat} {q1 : Nat} {t1 : Nat} {m1 : Nat} {p2 : Int32} {p3 : Int32} {a4 : Nat} {M0 : zH} (hW : z_W M0 T) (w0 : 4 ≤ ci ∧ ci ≤ 11) (k0 : T[a0]? = some (.inl (ci, 0, 0, 0, 0))) (k1 : T[a1]? = some (.inl (3, q1, t1, m1, 5))) (u2 : 0 ≤ p2.toInt ∧ p2.toInt ≤ 4) (k4 : T[a4]? = some (.inr (300, 0, 16380, (-2147483648), 2147483647))) (kk : ∀ (x : Int32) (M1 : zH), z_X T zw126 M0 M1 → 0 ≤ x.toInt → x.toInt ≤ 1 → K (some (.int x)) M1) : z_ev (d + 5) 126 0 [some (.ref a0), some (.ref a1), some (.int p2), some (.int p3), some (.ref a4), none, none, none, none, none, none, none, none] [] M0 K := by
  have X : z_X T zw126 M0 M0 := .refl hW
  have g1 := X.1.p3 k1
  refine z_xP zt126 0 1 [some (.ref a0), some (.ref a1), some (.int p2), some (.int p3), some (.ref a4), none, none, none, none, none, none, none, none] [.ref a1] rfl rfl ?_
  refine z_xgR (κ := .inr (210, 0, 5, 0, ((m1 : Nat) : Int) - 1)) zt126 1 rfl zo126 zzf4_115 X k1 (by decide) (by decide) rfl (fun (a2 : Nat) h1 k3 => ?_)
  refine z_xP zt126 2 5 [some (.ref a0), some (.ref a1), some (.int p2), some (.int p3), some (.ref a4), none, none, none, none, none, none, none, none] [.int p2, .ref a2] rfl rfl ?_
  refine z_xil zt126 3 rfl X k3 (by decide) (by omega) (by omega) (fun (x4 : Int32) h5 (h6 : 0 ≤ x4.toInt) (h7 : x4.toInt ≤ ((m1 : Nat) : Int) - 1) => ?_)
  refine z_xP zt126 4 9 [some (.ref a0), some (.ref a1), some (.int p2), some (.int p3), some (.ref a4), some (.int x4), none, none, none, none, none, none, none] [.ref a1] rfl rfl ?_
  refine z_xgR (κ := .inl (2, q1, t1, m1, 0)) zt126 5 rfl zo126 zzf4_50 X k1 (by decide) (by decide) rfl (fun (a9 : Nat) h8 k10 => ?_)
  have g11 := X.1.p2 k10
  refine z_xP zt126 6 13 [some (.ref a0), some (.ref a1), some (.int p2), some (.int p3), some (.ref a4), some (.int x4), none, none, none, none, none, none, none] [.ref a1, .ref a9] rfl rfl ?_
  refine z_xgv zt126 7 rfl zo126 zzf4_50 X k1 (by decide) h8 ?_
  refine z_xgR (κ := .inr (102, 0, m1, 0, 1023)) zt126 8 rfl zo126 zzf4_82 X k10 (by decide) (by decide) rfl (fun (a13 : Nat) h12 k14 => ?_)
  refine z_xP zt126 9 21 [some (.ref a0), some (.ref a1), some (.int p2), some (.int p3), some (.ref a4), some (.int x4), none, none, none, none, none, none, none] [.int x4, .ref a13, .ref a9] rfl rfl ?_
  refine z_xil zt126 10 rfl X k14 (by decide) (by omega) (by omega) (fun (x15 : Int32) h16 (h17 : 0 ≤ x15.toInt) (h18 : x15.toInt ≤ 1023) => ?_)
  refine z_xcV (vs := [.ref a9, .int x15]) (r := []) (L2 := [some (.ref a9), some (.int x15)]) zt126 11 rfl zo126 zzcV4_74 (Or.inl rfl) rfl X k10 rfl rfl rfl (Nat.le_of_ble_eq_true rfl) zzm39 (Nat.le_of_ble_eq_true rfl) rfl ?_
  refine z_xP zt39 0 2 [some (.ref a9), some (.int x15)] [.ref a9, .int x15] rfl rfl ?_
  refine z_xgI zt39 1 rfl zo39 zzf2_32 X k10 (by decide) (by decide) rfl (fun (x20 : Int32) h19 (h21 : ((z_po q1 : Nat) : Int) - 1 ≤ x20.toInt) (h22 : x20.toInt ≤ ((z_po q1 : Nat) : Int) - 1) => ?_)
  refine z_xP zt39 2 7 [some (.ref a9), some (.int x15)] [.int (-1), .int x15, .int x20, .int x15] rfl rfl ?_
  refine z_xI zt39 3 rfl rfl (P := fun _ => True) (fun (x23 : Int32) _ => ?_) trivial
  refine z_xI zt39 4 rfl rfl (fun (x25 : Int32) (h26 : 0 ≤ x25.toInt ∧ x25.toInt ≤ x20.toInt) => ?_) (z_pAndL rfl (by omega))
  refine z_xP zt39 5 11 [some (.ref a9), some (.int x15)] [.int 10, .int x25, .int x15] rfl rfl ?_
  refine z_xI zt39 6 rfl rfl (fun (x27 : Int32) (h28 : x27.toInt = x25.toInt * 1024) => ?_) (z_pShl 10 rfl rfl (by decide) (by decide) (by omega) rfl (by omega))
  refine z_xI zt39 7 rfl rfl (fun (x29 : Int32) (h30 : 0 ≤ x29.toInt ∧ x29.toInt < 1048576 ∧ x15.toInt ≤ x29.toInt ∧ x27.toInt ≤ x29.toInt) => ?_) (z_pOr 20 rfl rfl (by omega) (by omega) (by decide) (by omega) (by omega) (by decide))
  refine z_xri zt39 8 rfl zzr39 ?_
  show z_ev (d + 5) 126 25 [some (.ref a0), some (.ref a1), some (.int p2), some (.int p3), some (.ref a4), some (.int x4), none, none, none, none, none, none, none] [.int x29] M0 _
  refine z_xP zt126 12 30 [some (.ref a0), some (.ref a1), some (.int p2), some (.int p3), some (.ref a4), some (.int x4), some (.int x29), none, none, none, none, none, none] [.int x29, .int p3] rfl rfl ?_
  refine z_xI zt126 13 rfl rfl (fun (x31 : Int32) (h32 : 0 ≤ x31.toInt ∧ x31.toInt ≤ x29.toInt) => ?_) (z_pAnd rfl (by omega))
  refine z_xcS (vs := [.int x31]) (r := []) (L2 := [some (.int x31)]) zt126 14 rfl zo126 zzcS4_77 (Or.inl rfl) (Nat.le_of_ble_eq_true rfl) rfl rfl (Nat.le_of_ble_eq_true rfl) zzm31 (Nat.le_of_ble_eq_true rfl) rfl ?_
  refine zC31 X.1 (fun x35 M33 X34 h36 h37 => ?_)
  have X38 := X.go X34 (z_sb (by decide))
  show z_ev (d + 5) 126 34 [some (.ref a0), some (.ref a1), some (.int p2), some (.int p3), some (.ref a4), some (.int x4), some (.int x29), none, none, none, none, none, none] [.int x35] M33 _
  refine z_xP zt126 15 39 [some (.ref a0), some (.ref a1), some (.int p2), some (.int p3), some (.ref a4), some (.int x4), some (.int x29), some (.int x35), none, none, none, none, none] [.ref a1, .int x35] rfl rfl ?_
  have h40 := (X34.2.f k1 (by decide) h8)
  refine z_xgv zt126 16 rfl zo126 zzf4_50 X38 k1 (by decide) h40 ?_
  refine z_xgI zt126 17 rfl zo126 zzf4_85 X38 k10 (by decide) (by decide) rfl (fun (x42 : Int32) h41 (h43 : (q1 : Int) ≤ x42.toInt) (h44 : x42.toInt ≤ (q1 : Int)) => ?_)
  refine z_xJ zt126 18 rfl rfl (fun (h45 : x35.toInt ≠ x42.toInt) => ?_) (fun (h45 : x35.toInt = x42.toInt) => ?_)
  · skip
    refine z_xP zt126 21 55 [some (.ref a0), some (.ref a1), some (.int p2), some (.int p3), some (.ref a4), some (.int x4), some (.int x29), some (.int x35), some (.int 0), none, none, none, none] [.int p2, .ref a1] rfl rfl ?_
    refine z_xcV (vs := [.ref a1, .int p2]) (r := []) (L2 := [some (.ref a1), some (.int p2), none, none]) zt126 22 rfl zo126 zzcV4_118 (Or.inl rfl) rfl X38 k1 rfl rfl rfl (Nat.le_of_ble_eq_true rfl) zzm127 (Nat.le_of_ble_eq_true rfl) rfl ?_
    refine zC127 X38.1 k1 (by omega) (fun x48 M46 X47  => ?_)
    have X49 := X38.go X47 (z_sb (by decide))
    show z_ev (d + 5) 126 58 [some (.ref a0), some (.ref a1), some (.int p2), some (.int p3), some (.ref a4), some (.int x4), some (.int x29), some (.int x35), some (.int 0), none, none, none, none] [.int x48] M46 _
    refine z_xP zt126 23 66 [some (.ref a0), some (.ref a1), some (.int p2), some (.int p3), some (.ref a4), some (.int x4), some (.int x29), some (.int x35), some (.int 0), some (.int x48), some (.int 0), some (.int 0), none] [] rfl rfl ?_
    have q0 : ((0 : Int32)).toInt = 0 := rfl
    exact (zB126 w0 k0 k1 u2 k4 kk 46125).1 M46 x4 x29 x35 (0) x48 (0) (0) none X49 ⟨by omega, by omega⟩ ⟨by omega, by omega⟩ ⟨by omega, by omega⟩ (by decide) (by decide) (by decide) (by omega) (by omega)
  refine z_xP zt126 19 49 [some (.ref a0), some (.ref a1), some (.int p2), some (.int p3), some (.ref a4), some (.int x4), some (.int x29), some (.int x35), none, none, none, none, none] [.int 0] rfl rfl ?_
  have q0 : ((0 : Int32)).toInt = 0 := rfl
  exact z_xrz zt126 20 rfl zzr126 (by decide) (by decide) (kk 0 M33 X38 (by omega) (by omega))
def zw120 : List Nat := [201, 202, 203, 205, 206, 207, 208, 209, 210, 300, 1304]
theorem zB120 {T : List zK} {d : Nat} {K : Option Value → zH → Prop} {a0 : Nat} {ci : Nat} {a1 : Nat} {q1 : Nat} {t1 : Nat} {m1 : Nat} {p2 : Int32} {a3 : Nat} {M0 : zH} (w0 : 4 ≤ ci ∧ ci ≤ 11) (k0 : T[a0]? = some (.inl (ci, 0, 0, 0, 0))) (k1 : T[a1]? = some (.inl (3, q1, t1, m1, 5))) (u2 : 1 ≤ p2.toInt ∧ p2.toInt ≤ 5) (k3 : T[a3]? = some (.inr (300, 0, 16380, (-2147483648), 2147483647))) (kk : ∀ (x : Int32) (M1 : zH), z_X T zw120 M0 M1 → K (some (.int x)) M1) : ∀ n : Nat, (∀ (M : zH) (b4 : Int32) (b5 : Int32) (b6 : Int32) (o7 : Option Value) (o8 : Option Value) (o9 : Option Value), z_X T zw120 M0 M → 0 ≤ b5.toInt ∧ b5.toInt ≤ 4368 → 0 ≤ b6.toInt ∧ b6.toInt ≤ 8192 → ((((0) * 3 + 1) * 8193 + (8192 - b6.toInt)) * 3 + 2) * 6 + (0) < (n : Int) → z_ev (d + 6) 120 18 [some (.ref a0), some (.ref a1), some (.int p2), some (.ref a3), some (.int b4), some (.int b5), some (.int b6), o7, o8, o9] [] M K) ∧ (∀ (M : zH) (b4 : Int32) (b5 : Int32) (b6 : Int32) (b7 : Int32) (b8 : Int32) (b9 : Int32), z_X T zw120 M0 M → 1 ≤ b5.toInt ∧ b5.toInt ≤ 4368 → 0 ≤ b6.toInt ∧ b6.toInt ≤ 8191 → 0 ≤ b8.toInt ∧ b8.toInt ≤ 1 → 0 ≤ b9.toInt ∧ b9.toInt ≤ 5 → ((((0) * 3 + 1) * 8193 + (8192 - b6.toInt)) * 3 + 0) * 6 + (5 - b9.toInt) < (n : Int) → z_ev (d + 6) 120 43 [some (.ref a0), some (.ref a1), some (.int p2), some (.ref a3), some (.int b4), some (.int b5), some (.int b6), some (.int b7), some (.int b8), some (.int b9)] [] M K) := by
  intro n
  induction n with
  | zero => exact ⟨(by intros; exfalso; omega), (by intros; exfalso; omega)⟩
  | succ n ih =>
    refine ⟨?_, ?_⟩
    · skip
      intro M b4 b5 b6 o7 o8 o9 X hh0 hh1 hE
      have g1 := X.1.p3 k1
      refine z_xP zt120 5 22 [some (.ref a0), some (.ref a1), some (.int p2), some (.ref a3), some (.int b4), some (.int b5), some (.int b6), o7, o8, o9] [.int b5, .int b6] rfl rfl ?_
      refine z_xJ zt120 6 rfl rfl (fun (h1 : b5.toInt ≤ b6.toInt) => ?_) (fun (h1 : b6.toInt < b5.toInt) => ?_)
      · skip
        refine z_xP zt120 29 95 [some (.ref a0), some (.ref a1), some (.int p2), some (.ref a3), some (.int b4), some (.int b5), some (.int b6), o7, o8, o9] [.int b4] rfl rfl ?_
        exact z_xri zt120 30 rfl zzr120 (kk b4 M X)
      refine z_xP zt120 7 28 [some (.ref a0), some (.ref a1), some (.int p2), some (.ref a3), some (.int b4), some (.int b5), some (.int b6), o7, o8, o9] [.ref a1, .ref a1, .ref a0] rfl rfl ?_
      refine z_xcV (vs := [.ref a1]) (r := [.ref a1, .ref a0]) (L2 := [some (.ref a1), none, none]) zt120 8 rfl zo120 zzcV4_101 (Or.inl rfl) rfl X k1 rfl rfl rfl (Nat.le_of_ble_eq_true rfl) zzm121 (Nat.le_of_ble_eq_true rfl) rfl ?_
      refine zC121 X.1 k1 (fun x4 M2 X3  => ?_)
      have X5 := X.go X3 (z_sb (by decide))
      show z_ev (d + 6) 120 31 [some (.ref a0), some (.ref a1), some (.int p2), some (.ref a3), some (.int b4), some (.int b5), some (.int b6), o7, o8, o9] [.int x4, .ref a1, .ref a0] M2 _
      refine z_xP zt120 9 32 [some (.ref a0), some (.ref a1), some (.int p2), some (.ref a3), some (.int b4), some (.int b5), some (.int b6), o7, o8, o9] [.ref a3, .int x4, .ref a1, .ref a0] rfl rfl ?_
      refine z_xcV (vs := [.ref a0, .ref a1, .int x4, .ref a3]) (r := []) (L2 := [some (.ref a0), some (.ref a1), some (.int x4), some (.ref a3), none]) zt120 10 rfl zo120 zzcV4_104 (Or.inr rfl) rfl X5 k0 (z_w8 (fun c => (([(4, 122), (5, 122), (6, 122), (7, 122), (8, 122), (9, 122), (10, 122), (11, 122)] : List (Nat × Nat)).find? fun t => t.1 == c) = some (c, 122)) rfl rfl rfl rfl rfl rfl rfl rfl w0) rfl rfl (Nat.le_of_ble_eq_true rfl) zzm122 (Nat.le_of_ble_eq_true rfl) rfl ?_
      refine z_xP zt122 0 3 [some (.ref a0), some (.ref a1), some (.int x4), some (.ref a3), none] [.int x4, .ref a1, .ref a0] rfl rfl ?_
      refine zVplaceOf zt122 1 rfl zo122 zzcV4_128 X5 k0 w0 (Nat.le_of_ble_eq_true rfl) k1 (fun x9 M7 X8  => ?_)
      have X10 := X5.go X8 (z_sb (by decide))
      show z_ev (d + 5) 122 6 [some (.ref a0), some (.ref a1), some (.int x4), some (.ref a3), none] [.int x9] M7 _
      refine z_xP zt122 2 10 [some (.ref a0), some (.ref a1), some (.int x4), some (.ref a3), some (.int x9)] [.int x9] rfl rfl ?_
      refine z_xZ zt122 3 rfl rfl (fun (h12 : x9.toInt < 0) => ?_) (fun (h12 : 0 ≤ x9.toInt) => ?_)
      · skip
        refine z_xP zt122 7 21 [some (.ref a0), some (.ref a1), some (.int x4), some (.ref a3), some (.int x9)] [.ref a1] rfl rfl ?_
        refine z_xcV (vs := [.ref a1]) (r := []) (L2 := [some (.ref a1), none, none]) zt122 8 rfl zo122 zzcV4_132 (Or.inl rfl) rfl X10 k1 rfl rfl rfl (Nat.le_of_ble_eq_true rfl) zzm111 (Nat.le_of_ble_eq_true rfl) rfl ?_
        refine zC111 X10.1 k1 (fun M13 X14  => ?_)
        have X15 := X10.go X14 (z_sb (by decide))
        show z_ev (d + 5) 122 24 [some (.ref a0), some (.ref a1), some (.int x4), some (.ref a3), some (.int x9)] [] M13 _
        refine z_xP zt122 9 26 [some (.ref a0), some (.ref a1), some (.int x4), some (.ref a3), some (.int x9)] [.ref a1, .ref a0] rfl rfl ?_
        refine zVdecide zt122 10 rfl zo122 zzcV4_54 X15 k0 w0 (Nat.le_of_ble_eq_true rfl) k1 (fun x19 M17 X18  => ?_)
        have X20 := X15.go X18 (z_sb (by decide))
        show z_ev (d + 5) 122 29 [some (.ref a0), some (.ref a1), some (.int x4), some (.ref a3), some (.int x9)] [.int x19] M17 _
        refine z_xri zt122 11 rfl zzr122 ?_
        show z_ev (d + 6) 120 35 [some (.ref a0), some (.ref a1), some (.int p2), some (.ref a3), some (.int b4), some (.int b5), some (.int b6), o7, o8, o9] [.int x19] M17 _
        refine z_xP zt120 11 43 [some (.ref a0), some (.ref a1), some (.int p2), some (.ref a3), some (.int b4), some (.int b5), some (.int b6), some (.int x19), some (.int 0), some (.int 0)] [] rfl rfl ?_
        have q0 : ((0 : Int32)).toInt = 0 := rfl
        exact ih.2 M17 b4 b5 b6 x19 (0) (0) X20 ⟨by omega, by omega⟩ ⟨by omega, by omega⟩ (by decide) (by decide) (by omega)
      refine z_xP zt122 4 16 [some (.ref a0), some (.ref a1), some (.int x4), some (.ref a3), some (.int x9)] [.ref a3, .int x9] rfl rfl ?_
      refine z_xln zt122 5 rfl X10 k3 (by decide) (by decide) (fun (x22 : Int32) (h23 : x22.toInt = ((16380 : Nat) : Int)) => ?_)
      have h24 := z_b32 x9
      refine z_xJ zt122 6 rfl rfl (fun (h25 : x9.toInt < x22.toInt) => ?_) (fun (h25 : x22.toInt ≤ x9.toInt) => ?_)
      · skip
        refine z_xP zt122 12 33 [some (.ref a0), some (.ref a1), some (.int x4), some (.ref a3), some (.int x9)] [.int x9, .ref a3] rfl rfl ?_
        refine z_xil zt122 13 rfl X10 k3 (by decide) (by omega) (by omega) (fun (x26 : Int32) h27 (h28 : (-2147483648) ≤ x26.toInt) (h29 : x26.toInt ≤ 2147483647) => ?_)
        refine z_xZ zt122 14 rfl rfl (fun (h30 : 0 ≤ x26.toInt) => ?_) (fun (h30 : x26.toInt < 0) => ?_)
        · skip
          refine z_xP zt122 20 53 [some (.ref a0), some (.ref a1), some (.int x4), some (.ref a3), some (.int x9)] [.int x9, .ref a3] rfl rfl ?_
          refine z_xil zt122 21 rfl X10 k3 (by decide) (by omega) (by omega) (fun (x31 : Int32) h32 (h33 : (-2147483648) ≤ x31.toInt) (h34 : x31.toInt ≤ 2147483647) => ?_)
          have h35 := congrArg Int32.toInt (h32.symm.trans h27)
          refine z_xri zt122 22 rfl zzr122 ?_
          show z_ev (d + 6) 120 35 [some (.ref a0), some (.ref a1), some (.int p2), some (.ref a3), some (.int b4), some (.int b5), some (.int b6), o7, o8, o9] [.int x31] M7 _
          refine z_xP zt120 11 43 [some (.ref a0), some (.ref a1), some (.int p2), some (.ref a3), some (.int b4), some (.int b5), some (.int b6), some (.int x31), some (.int 0), some (.int 0)] [] rfl rfl ?_
          have q0 : ((0 : Int32)).toInt = 0 := rfl
          exact ih.2 M7 b4 b5 b6 x31 (0) (0) X10 ⟨by omega, by omega⟩ ⟨by omega, by omega⟩ (by decide) (by decide) (by omega)
        refine z_xP zt122 15 38 [some (.ref a0), some (.ref a1), some (.int x4), some (.ref a3), some (.int x9)] [.ref a1] rfl rfl ?_
        refine z_xcV (vs := [.ref a1]) (r := []) (L2 := [some (.ref a1), none, none]) zt122 16 rfl zo122 zzcV4_132 (Or.inl rfl) rfl X10 k1 rfl rfl rfl (Nat.le_of_ble_eq_true rfl) zzm111 (Nat.le_of_ble_eq_true rfl) rfl ?_
        refine zC111 X10.1 k1 (fun M36 X37  => ?_)
        have X38 := X10.go X37 (z_sb (by decide))
        show z_ev (d + 5) 122 41 [some (.ref a0), some (.ref a1), some (.int x4), some (.ref a3), some (.int x9)] [] M36 _
        refine z_xP zt122 17 46 [some (.ref a0), some (.ref a1), some (.int x4), some (.ref a3), some (.int x9)] [.ref a1, .ref a0, .int x9, .ref a3] rfl rfl ?_
        refine zVdecide zt122 18 rfl zo122 zzcV4_54 X38 k0 w0 (Nat.le_of_ble_eq_true rfl) k1 (fun x42 M40 X41  => ?_)
        have X43 := X38.go X41 (z_sb (by decide))
        show z_ev (d + 5) 122 49 [some (.ref a0), some (.ref a1), some (.int x4), some (.ref a3), some (.int x9)] [.int x42, .int x9, .ref a3] M40 _
        refine z_xis zt122 19 rfl X43 k3 (by decide) (X43.1.g4 k3 (by decide)) (by omega) (by omega) (Int32.le_toInt _) (Int32.toInt_le _) (by decide) (fun M45 X46 e47 h48 => ?_)
        refine z_xP zt122 20 53 [some (.ref a0), some (.ref a1), some (.int x4), some (.ref a3), some (.int x9)] [.int x9, .ref a3] rfl rfl ?_
        refine z_xil zt122 21 rfl X46 k3 (by decide) (by omega) (by omega) (fun (x49 : Int32) h50 (h51 : (-2147483648) ≤ x49.toInt) (h52 : x49.toInt ≤ 2147483647) => ?_)
        have h53 := congrArg Int32.toInt (h50.symm.trans (z_upe h48))
        refine z_xri zt122 22 rfl zzr122 ?_
        show z_ev (d + 6) 120 35 [some (.ref a0), some (.ref a1), some (.int p2), some (.ref a3), some (.int b4), some (.int b5), some (.int b6), o7, o8, o9] [.int x49] M45 _
        refine z_xP zt120 11 43 [some (.ref a0), some (.ref a1), some (.int p2), some (.ref a3), some (.int b4), some (.int b5), some (.int b6), some (.int x49), some (.int 0), some (.int 0)] [] rfl rfl ?_
        have q0 : ((0 : Int32)).toInt = 0 := rfl
        exact ih.2 M45 b4 b5 b6 x49 (0) (0) X46 ⟨by omega, by omega⟩ ⟨by omega, by omega⟩ (by decide) (by decide) (by omega)
      refine z_xP zt122 7 21 [some (.ref a0), some (.ref a1), some (.int x4), some (.ref a3), some (.int x9)] [.ref a1] rfl rfl ?_
      refine z_xcV (vs := [.ref a1]) (r := []) (L2 := [some (.ref a1), none, none]) zt122 8 rfl zo122 zzcV4_132 (Or.inl rfl) rfl X10 k1 rfl rfl rfl (Nat.le_of_ble_eq_true rfl) zzm111 (Nat.le_of_ble_eq_true rfl) rfl ?_
      refine zC111 X10.1 k1 (fun M54 X55  => ?_)
      have X56 := X10.go X55 (z_sb (by decide))
      show z_ev (d + 5) 122 24 [some (.ref a0), some (.ref a1), some (.int x4), some (.ref a3), some (.int x9)] [] M54 _
      refine z_xP zt122 9 26 [some (.ref a0), some (.ref a1), some (.int x4), some (.ref a3), some (.int x9)] [.ref a1, .ref a0] rfl rfl ?_
      refine zVdecide zt122 10 rfl zo122 zzcV4_54 X56 k0 w0 (Nat.le_of_ble_eq_true rfl) k1 (fun x60 M58 X59  => ?_)
      have X61 := X56.go X59 (z_sb (by decide))
      show z_ev (d + 5) 122 29 [some (.ref a0), some (.ref a1), some (.int x4), some (.ref a3), some (.int x9)] [.int x60] M58 _
      refine z_xri zt122 11 rfl zzr122 ?_
      show z_ev (d + 6) 120 35 [some (.ref a0), some (.ref a1), some (.int p2), some (.ref a3), some (.int b4), some (.int b5), some (.int b6), o7, o8, o9] [.int x60] M58 _
      refine z_xP zt120 11 43 [some (.ref a0), some (.ref a1), some (.int p2), some (.ref a3), some (.int b4), some (.int b5), some (.int b6), some (.int x60), some (.int 0), some (.int 0)] [] rfl rfl ?_
      have q0 : ((0 : Int32)).toInt = 0 := rfl
      exact ih.2 M58 b4 b5 b6 x60 (0) (0) X61 ⟨by omega, by omega⟩ ⟨by omega, by omega⟩ (by decide) (by decide) (by omega)
    · skip
      intro M b4 b5 b6 b7 b8 b9 X hh0 hh1 hh2 hh3 hE
      have g1 := X.1.p3 k1
      refine z_xP zt120 12 46 [some (.ref a0), some (.ref a1), some (.int p2), some (.ref a3), some (.int b4), some (.int b5), some (.int b6), some (.int b7), some (.int b8), some (.int b9)] [.ref a1, .int b9] rfl rfl ?_
      refine z_xgI zt120 13 rfl zo120 zzf4_108 X k1 (by decide) (by decide) rfl (fun (x2 : Int32) h1 (h3 : 0 ≤ x2.toInt) (h4 : x2.toInt ≤ (5 : Int)) => ?_)
      refine z_xJ zt120 14 rfl rfl (fun (h5 : x2.toInt ≤ b9.toInt) => ?_) (fun (h5 : b9.toInt < x2.toInt) => ?_)
      · skip
        refine z_xP zt120 22 77 [some (.ref a0), some (.ref a1), some (.int p2), some (.ref a3), some (.int b4), some (.int b5), some (.int b6), some (.int b7), some (.int b8), some (.int b9)] [.int b8] rfl rfl ?_
        refine z_xZ zt120 23 rfl rfl (fun (h6 : b8.toInt = 0) => ?_) (fun (h6 : b8.toInt ≠ 0) => ?_)
        · skip
          refine z_xP zt120 25 84 [some (.ref a0), some (.ref a1), some (.int p2), some (.ref a3), some (.int b4), some (.int b5), some (.int b6), some (.int b7), some (.int b8), some (.int b9)] [.ref a1] rfl rfl ?_
          refine z_xcV (vs := [.ref a1]) (r := []) (L2 := [some (.ref a1), none, none, none, none]) zt120 26 rfl zo120 zzcV4_68 (Or.inl rfl) rfl X k1 rfl rfl rfl (Nat.le_of_ble_eq_true rfl) zzm110 (Nat.le_of_ble_eq_true rfl) rfl ?_
          refine zC110 X.1 k1 (fun M7 X8  => ?_)
          have X9 := X.go X8 (z_sb (by decide))
          show z_ev (d + 6) 120 87 [some (.ref a0), some (.ref a1), some (.int p2), some (.ref a3), some (.int b4), some (.int b5), some (.int b6), some (.int b7), some (.int b8), some (.int b9)] [] M7 _
          refine z_xN zt120 27 rfl rfl (fun (x11 : Int32) (h12 : x11.toInt = b6.toInt + 1) => ?_) (z_pAdd rfl rfl (by omega) (by omega))
          show z_ev (d + 6) 120 90 [some (.ref a0), some (.ref a1), some (.int p2), some (.ref a3), some (.int b4), some (.int b5), some (.int x11), some (.int b7), some (.int b8), some (.int b9)] [] M7 _
          refine z_xP zt120 28 18 [some (.ref a0), some (.ref a1), some (.int p2), some (.ref a3), some (.int b4), some (.int b5), some (.int x11), some (.int b7), some (.int b8), some (.int b9)] [] rfl rfl ?_
          exact ih.1 M7 b4 b5 x11 (some (.int b7)) (some (.int b8)) (some (.int b9)) X9 ⟨by omega, by omega⟩ ⟨by omega, by omega⟩ (by omega)
        have h13 := z_b32 b4
        refine z_xN zt120 24 rfl rfl (fun (x14 : Int32) (h15 : True) => ?_) (trivial)
        show z_ev (d + 6) 120 83 [some (.ref a0), some (.ref a1), some (.int p2), some (.ref a3), some (.int x14), some (.int b5), some (.int b6), some (.int b7), some (.int b8), some (.int b9)] [] M _
        refine z_xP zt120 25 84 [some (.ref a0), some (.ref a1), some (.int p2), some (.ref a3), some (.int x14), some (.int b5), some (.int b6), some (.int b7), some (.int b8), some (.int b9)] [.ref a1] rfl rfl ?_
        refine z_xcV (vs := [.ref a1]) (r := []) (L2 := [some (.ref a1), none, none, none, none]) zt120 26 rfl zo120 zzcV4_68 (Or.inl rfl) rfl X k1 rfl rfl rfl (Nat.le_of_ble_eq_true rfl) zzm110 (Nat.le_of_ble_eq_true rfl) rfl ?_
        refine zC110 X.1 k1 (fun M16 X17  => ?_)
        have X18 := X.go X17 (z_sb (by decide))
        show z_ev (d + 6) 120 87 [some (.ref a0), some (.ref a1), some (.int p2), some (.ref a3), some (.int x14), some (.int b5), some (.int b6), some (.int b7), some (.int b8), some (.int b9)] [] M16 _
        refine z_xN zt120 27 rfl rfl (fun (x20 : Int32) (h21 : x20.toInt = b6.toInt + 1) => ?_) (z_pAdd rfl rfl (by omega) (by omega))
        show z_ev (d + 6) 120 90 [some (.ref a0), some (.ref a1), some (.int p2), some (.ref a3), some (.int x14), some (.int b5), some (.int x20), some (.int b7), some (.int b8), some (.int b9)] [] M16 _
        refine z_xP zt120 28 18 [some (.ref a0), some (.ref a1), some (.int p2), some (.ref a3), some (.int x14), some (.int b5), some (.int x20), some (.int b7), some (.int b8), some (.int b9)] [] rfl rfl ?_
        exact ih.1 M16 x14 b5 x20 (some (.int b7)) (some (.int b8)) (some (.int b9)) X18 ⟨by omega, by omega⟩ ⟨by omega, by omega⟩ (by omega)
      refine z_xP zt120 15 54 [some (.ref a0), some (.ref a1), some (.int p2), some (.ref a3), some (.int b4), some (.int b5), some (.int b6), some (.int b7), some (.int b8), some (.int b9)] [.int b8] rfl rfl ?_
      refine z_xZ zt120 16 rfl rfl (fun (h22 : b8.toInt ≠ 0) => ?_) (fun (h22 : b8.toInt = 0) => ?_)
      · skip
        refine z_xP zt120 22 77 [some (.ref a0), some (.ref a1), some (.int p2), some (.ref a3), some (.int b4), some (.int b5), some (.int b6), some (.int b7), some (.int b8), some (.int b9)] [.int b8] rfl rfl ?_
        refine z_xZ zt120 23 rfl rfl (fun (h23 : b8.toInt = 0) => absurd h23 (by omega)) (fun (h23 : b8.toInt ≠ 0) => ?_)
        have h24 := z_b32 b4
        refine z_xN zt120 24 rfl rfl (fun (x25 : Int32) (h26 : True) => ?_) (trivial)
        show z_ev (d + 6) 120 83 [some (.ref a0), some (.ref a1), some (.int p2), some (.ref a3), some (.int x25), some (.int b5), some (.int b6), some (.int b7), some (.int b8), some (.int b9)] [] M _
        refine z_xP zt120 25 84 [some (.ref a0), some (.ref a1), some (.int p2), some (.ref a3), some (.int x25), some (.int b5), some (.int b6), some (.int b7), some (.int b8), some (.int b9)] [.ref a1] rfl rfl ?_
        refine z_xcV (vs := [.ref a1]) (r := []) (L2 := [some (.ref a1), none, none, none, none]) zt120 26 rfl zo120 zzcV4_68 (Or.inl rfl) rfl X k1 rfl rfl rfl (Nat.le_of_ble_eq_true rfl) zzm110 (Nat.le_of_ble_eq_true rfl) rfl ?_
        refine zC110 X.1 k1 (fun M27 X28  => ?_)
        have X29 := X.go X28 (z_sb (by decide))
        show z_ev (d + 6) 120 87 [some (.ref a0), some (.ref a1), some (.int p2), some (.ref a3), some (.int x25), some (.int b5), some (.int b6), some (.int b7), some (.int b8), some (.int b9)] [] M27 _
        refine z_xN zt120 27 rfl rfl (fun (x31 : Int32) (h32 : x31.toInt = b6.toInt + 1) => ?_) (z_pAdd rfl rfl (by omega) (by omega))
        show z_ev (d + 6) 120 90 [some (.ref a0), some (.ref a1), some (.int p2), some (.ref a3), some (.int x25), some (.int b5), some (.int x31), some (.int b7), some (.int b8), some (.int b9)] [] M27 _
        refine z_xP zt120 28 18 [some (.ref a0), some (.ref a1), some (.int p2), some (.ref a3), some (.int x25), some (.int b5), some (.int x31), some (.int b7), some (.int b8), some (.int b9)] [] rfl rfl ?_
        exact ih.1 M27 x25 b5 x31 (some (.int b7)) (some (.int b8)) (some (.int b9)) X29 ⟨by omega, by omega⟩ ⟨by omega, by omega⟩ (by omega)
      refine z_xP zt120 17 64 [some (.ref a0), some (.ref a1), some (.int p2), some (.ref a3), some (.int b4), some (.int b5), some (.int b6), some (.int b7), some (.int b8), some (.int b9)] [.ref a3, .int b7, .int b9, .ref a1, .ref a0] rfl rfl ?_
      refine z_xcV (vs := [.ref a0, .ref a1, .int b9, .int b7, .ref a3]) (r := []) (L2 := [some (.ref a0), some (.ref a1), some (.int b9), some (.int b7), some (.ref a3), none, none, none, none, none, none, none, none]) zt120 18 rfl zo120 zzcV4_111 (Or.inr rfl) rfl X k0 (z_w8 (fun c => (([(4, 126), (5, 126), (6, 126), (7, 126), (8, 126), (9, 126), (10, 126), (11, 126)] : List (Nat × Nat)).find? fun t => t.1 == c) = some (c, 126)) rfl rfl rfl rfl rfl rfl rfl rfl w0) rfl rfl (Nat.le_of_ble_eq_true rfl) zzm126 (Nat.le_of_ble_eq_true rfl) rfl ?_
      refine zC126 X.1 w0 k0 k1 (by omega) k3 (fun x35 M33 X34 h36 h37 => ?_)
      have X38 := X.go X34 (z_sb (by decide))
      show z_ev (d + 6) 120 67 [some (.ref a0), some (.ref a1), some (.int p2), some (.ref a3), some (.int b4), some (.int b5), some (.int b6), some (.int b7), some (.int b8), some (.int b9)] [.int x35] M33 _
      refine z_xP zt120 19 69 [some (.ref a0), some (.ref a1), some (.int p2), some (.ref a3), some (.int b4), some (.int b5), some (.int b6), some (.int b7), some (.int x35), some (.int b9)] [] rfl rfl ?_
      refine z_xN zt120 20 rfl rfl (fun (x40 : Int32) (h41 : x40.toInt = b9.toInt + 1) => ?_) (z_pAdd rfl rfl (by omega) (by omega))
      show z_ev (d + 6) 120 72 [some (.ref a0), some (.ref a1), some (.int p2), some (.ref a3), some (.int b4), some (.int b5), some (.int b6), some (.int b7), some (.int x35), some (.int x40)] [] M33 _
      refine z_xP zt120 21 43 [some (.ref a0), some (.ref a1), some (.int p2), some (.ref a3), some (.int b4), some (.int b5), some (.int b6), some (.int b7), some (.int x35), some (.int x40)] [] rfl rfl ?_
      exact ih.2 M33 b4 b5 b6 b7 x35 x40 X38 ⟨by omega, by omega⟩ ⟨by omega, by omega⟩ ⟨by omega, by omega⟩ ⟨by omega, by omega⟩ (by omega)
theorem zC120 {T : List zK} {d : Nat} {K : Option Value → zH → Prop} {a0 : Nat} {ci : Nat} {a1 : Nat} {q1 : Nat} {t1 : Nat} {m1 : Nat} {p2 : Int32} {a3 : Nat} {M0 : zH} (hW : z_W M0 T) (w0 : 4 ≤ ci ∧ ci ≤ 11) (k0 : T[a0]? = some (.inl (ci, 0, 0, 0, 0))) (k1 : T[a1]? = some (.inl (3, q1, t1, m1, 5))) (u2 : 1 ≤ p2.toInt ∧ p2.toInt ≤ 5) (k3 : T[a3]? = some (.inr (300, 0, 16380, (-2147483648), 2147483647))) (kk : ∀ (x : Int32) (M1 : zH), z_X T zw120 M0 M1 → K (some (.int x)) M1) : z_ev (d + 6) 120 0 [some (.ref a0), some (.ref a1), some (.int p2), some (.ref a3), none, none, none, none, none, none] [] M0 K := by
  have X : z_X T zw120 M0 M0 := .refl hW
  have g1 := X.1.p3 k1
  refine z_xP zt120 0 5 [some (.ref a0), some (.ref a1), some (.int p2), some (.ref a3), some (.int 0), none, none, none, none, none] [.int p2, .ref a1] rfl rfl ?_
  refine z_xcV (vs := [.ref a1, .int p2]) (r := []) (L2 := [some (.ref a1), some (.int p2), none]) zt120 1 rfl zo120 zzcV4_45 (Or.inl rfl) rfl X k1 rfl rfl rfl (Nat.le_of_ble_eq_true rfl) zzm108 (Nat.le_of_ble_eq_true rfl) rfl ?_
  obtain ⟨x1, h2, h3, h4⟩ := z_W.fi X.1 k1 (k := 4) (lo := 0) (hi := (5 : Int)) (by decide) rfl
  refine zC108 X.1 k1 (by omega) h2 ⟨by omega, by omega⟩ (fun x11 M5 X6 h12 h13 z7 h8 h9 h10 => ?_)
  have X14 := X.go X6 (z_sb (by decide))
  show z_ev (d + 6) 120 8 [some (.ref a0), some (.ref a1), some (.int p2), some (.ref a3), some (.int 0), none, none, none, none, none] [.int x11] M5 _
  refine z_xP zt120 2 12 [some (.ref a0), some (.ref a1), some (.int p2), some (.ref a3), some (.int 0), some (.int x11), none, none, none, none] [.int (-1), .ref a3] rfl rfl ?_
  refine z_xcS (vs := [.ref a3, .int (-1)]) (r := []) (L2 := [some (.ref a3), some (.int (-1)), none, none]) zt120 3 rfl zo120 zzcS4_95 (Or.inl rfl) (Nat.le_of_ble_eq_true rfl) rfl rfl (Nat.le_of_ble_eq_true rfl) zzm7 (Nat.le_of_ble_eq_true rfl) rfl ?_
  have qm1 : (((-1) : Int32)).toInt = (-1) := rfl
  have qm1 : (((-1) : Int32)).toInt = (-1) := rfl
  refine zC7 X14.1 ⟨(by decide), (X14.1.g4 k3 (by decide))⟩ k3 ⟨by omega, by omega⟩ (by decide) (fun M16 X17  => ?_)
  have X18 := X14.go X17 (z_sb (by decide))
  show z_ev (d + 6) 120 15 [some (.ref a0), some (.ref a1), some (.int p2), some (.ref a3), some (.int 0), some (.int x11), none, none, none, none] [] M16 _
  refine z_xP zt120 4 18 [some (.ref a0), some (.ref a1), some (.int p2), some (.ref a3), some (.int 0), some (.int x11), some (.int 0), none, none, none] [] rfl rfl ?_
  have q0 : ((0 : Int32)).toInt = 0 := rfl
  exact (zB120 w0 k0 k1 u2 k3 kk 442422).1 M16 (0) x11 (0) none none none X18 ⟨by omega, by omega⟩ (by decide) (by omega)
def zw132 : List Nat := []
theorem zB132 {T : List zK} {d : Nat} {K : Option Value → zH → Prop} {a0 : Nat} {q : Nat} {t : Nat} {m : Nat} {zp0 : Int32} {M0 : zH} (k0 : T[a0]? = some (.inl (3, q, t, m, 5))) (hz0 : z_F M0 a0 4 = some (.int zp0)) (bz0 : 0 ≤ zp0.toInt ∧ zp0.toInt ≤ 3) (kk : ∀ (x : Int32) (M1 : zH), z_X T zw132 M0 M1 → ∀ (w0 : Int32), z_F M1 a0 4 = some (.int w0) → 0 ≤ w0.toInt ∧ w0.toInt ≤ 3 → K (some (.int x)) M1) : ∀ n : Nat, (∀ (M : zH) (b1 : Int32) (b2 : Int32) (z0 : Int32), z_X T zw132 M0 M → 0 ≤ b2.toInt ∧ b2.toInt ≤ 3 → z_F M a0 4 = some (.int z0) → 0 ≤ z0.toInt ∧ z0.toInt ≤ 3 → ((0) * 2 + 0) * 4 + (3 - b2.toInt) < (n : Int) → z_ev d 132 4 [some (.ref a0), some (.int b1), some (.int b2)] [] M K) := by
  intro n
  induction n with
  | zero => exact by intros; exfalso; omega
  | succ n ih =>
    intro M b1 b2 z0 X hh0 hp0 hh2 hE
    have g0 := X.1.p3 k0
    refine z_xP zt132 1 6 [some (.ref a0), some (.int b1), some (.int b2)] [.ref a0, .int b2] rfl rfl ?_
    refine z_xgv zt132 2 rfl zo132 zzf3_53 X k0 (by decide) hp0 ?_
    refine z_xJ zt132 3 rfl rfl (fun (h1 : z0.toInt ≤ b2.toInt) => ?_) (fun (h1 : b2.toInt < z0.toInt) => ?_)
    · skip
      refine z_xP zt132 12 30 [some (.ref a0), some (.int b1), some (.int b2)] [.int b1] rfl rfl ?_
      exact z_xri zt132 13 rfl zzr132 (kk b1 M X z0 hp0 ⟨by omega, by omega⟩)
    refine z_xP zt132 4 14 [some (.ref a0), some (.int b1), some (.int b2)] [.ref a0, .int b1] rfl rfl ?_
    refine z_xgR (κ := .inl (2, q, t, m, 0)) zt132 5 rfl zo132 zzf3_39 X k0 (by decide) (by decide) rfl (fun (a3 : Nat) h2 k4 => ?_)
    have g5 := X.1.p2 k4
    refine z_xgR (κ := .inr (102, 0, m, 0, 1023)) zt132 6 rfl zo132 zzf3_101 X k4 (by decide) (by decide) rfl (fun (a7 : Nat) h6 k8 => ?_)
    refine z_xln zt132 7 rfl X k8 (by decide) (by omega) (fun (x9 : Int32) (h10 : x9.toInt = ((m : Nat) : Int)) => ?_)
    have h11 := z_b32 b1
    refine z_xI zt132 8 rfl rfl (P := fun _ => True) (fun (x12 : Int32) _ => ?_) trivial
    refine z_xP zt132 9 23 [some (.ref a0), some (.int x12), some (.int b2)] [] rfl rfl ?_
    refine z_xN zt132 10 rfl rfl (fun (x14 : Int32) (h15 : x14.toInt = b2.toInt + 1) => ?_) (z_pAdd rfl rfl (by omega) (by omega))
    show z_ev d 132 26 [some (.ref a0), some (.int x12), some (.int x14)] [] M _
    refine z_xP zt132 11 4 [some (.ref a0), some (.int x12), some (.int x14)] [] rfl rfl ?_
    exact ih M x12 x14 z0 X ⟨by omega, by omega⟩ hp0 ⟨by omega, by omega⟩ (by omega)
theorem zC132 {T : List zK} {d : Nat} {K : Option Value → zH → Prop} {a0 : Nat} {q : Nat} {t : Nat} {m : Nat} {zp0 : Int32} {M0 : zH} (hW : z_W M0 T) (k0 : T[a0]? = some (.inl (3, q, t, m, 5))) (hz0 : z_F M0 a0 4 = some (.int zp0)) (bz0 : 0 ≤ zp0.toInt ∧ zp0.toInt ≤ 3) (kk : ∀ (x : Int32) (M1 : zH), z_X T zw132 M0 M1 → ∀ (w0 : Int32), z_F M1 a0 4 = some (.int w0) → 0 ≤ w0.toInt ∧ w0.toInt ≤ 3 → K (some (.int x)) M1) : z_ev d 132 0 [some (.ref a0), none, none] [] M0 K := by
  have X : z_X T zw132 M0 M0 := .refl hW
  have g0 := X.1.p3 k0
  refine z_xP zt132 0 4 [some (.ref a0), some (.int 1), some (.int 0)] [] rfl rfl ?_
  have q0 : ((0 : Int32)).toInt = 0 := rfl
  have q1 : ((1 : Int32)).toInt = 1 := rfl
  exact (zB132 k0 hz0 bz0 kk 8) M0 (1) (0) zp0 X (by decide) hz0 ⟨by omega, by omega⟩ (by omega)
def zw135 : List Nat := []
theorem zB135 {T : List zK} {d : Nat} {K : Option Value → zH → Prop} {a0 : Nat} {q : Nat} {t : Nat} {m : Nat} {p1 : Int32} {p2 : Int32} {M0 : zH} (k0 : T[a0]? = some (.inl (3, q, t, m, 5))) (u1 : 0 ≤ p1.toInt ∧ p1.toInt ≤ 215) (u2 : 0 ≤ p2.toInt ∧ p2.toInt ≤ 8) (kk : ∀ (x : Int32) (M1 : zH), z_X T zw135 M0 M1 → 0 ≤ x.toInt → x.toInt ≤ 215 → x.toInt < ((m : Nat) : Int) → K (some (.int x)) M1) : ∀ n : Nat, (∀ (M : zH) (b3 : Int32) (b4 : Int32) (b5 : Int32), z_X T zw135 M0 M → 1 ≤ b3.toInt ∧ b3.toInt ≤ 1024 → 0 ≤ b4.toInt ∧ b4.toInt ≤ 215 → (-1) ≤ b5.toInt ∧ b5.toInt ≤ 4 → b3.toInt = ((m : Nat) : Int) → ((0) * 2 + 0) * 6 + (b5.toInt - (-1)) < (n : Int) → z_ev d 135 27 [some (.ref a0), some (.int p1), some (.int p2), some (.int b3), some (.int b4), some (.int b5)] [] M K) := by
  intro n
  induction n with
  | zero => exact by intros; exfalso; omega
  | succ n ih =>
    intro M b3 b4 b5 X hh0 hh1 hh2 hh3 hE
    have g0 := X.1.p3 k0
    refine z_xP zt135 13 30 [some (.ref a0), some (.int p1), some (.int p2), some (.int b3), some (.int b4), some (.int b5)] [.int p2, .int b5] rfl rfl ?_
    refine z_xJ zt135 14 rfl rfl (fun (h1 : b5.toInt ≤ p2.toInt) => ?_) (fun (h1 : p2.toInt < b5.toInt) => ?_)
    · skip
      refine z_xP zt135 20 48 [some (.ref a0), some (.int p1), some (.int p2), some (.int b3), some (.int b4), some (.int b5)] [.int b3, .int b4] rfl rfl ?_
      refine z_xM zt135 21 rfl (by omega) (fun (x2 : Int32) (h3 : 0 ≤ x2.toInt ∧ x2.toInt < b3.toInt ∧ x2.toInt ≤ b4.toInt) => ?_) ((z_pRem rfl rfl (by omega) (by omega)).2)
      exact z_xri zt135 22 rfl zzr135 (kk x2 M X (by omega) (by omega) (by omega))
    refine z_xP zt135 15 36 [some (.ref a0), some (.int p1), some (.int p2), some (.int b3), some (.int b4), some (.int b5)] [.int b3, .int b4] rfl rfl ?_
    refine z_xV zt135 16 rfl (by omega) (fun (x4 : Int32) (h5 : 0 ≤ x4.toInt ∧ x4.toInt ≤ b4.toInt) => ?_) ((z_pDiv rfl rfl (by omega) (by omega)).2)
    refine z_xP zt135 17 39 [some (.ref a0), some (.int p1), some (.int p2), some (.int b3), some (.int x4), some (.int b5)] [] rfl rfl ?_
    refine z_xN zt135 18 rfl rfl (fun (x6 : Int32) (h7 : x6.toInt = b5.toInt + (-1)) => ?_) (z_pAdd rfl rfl (by omega) (by omega))
    show z_ev d 135 42 [some (.ref a0), some (.int p1), some (.int p2), some (.int b3), some (.int x4), some (.int x6)] [] M _
    refine z_xP zt135 19 27 [some (.ref a0), some (.int p1), some (.int p2), some (.int b3), some (.int x4), some (.int x6)] [] rfl rfl ?_
    exact ih M b3 x4 x6 X ⟨by omega, by omega⟩ ⟨by omega, by omega⟩ ⟨by omega, by omega⟩ (by omega) (by omega)
theorem zC135 {T : List zK} {d : Nat} {K : Option Value → zH → Prop} {a0 : Nat} {q : Nat} {t : Nat} {m : Nat} {p1 : Int32} {p2 : Int32} {M0 : zH} (hW : z_W M0 T) (k0 : T[a0]? = some (.inl (3, q, t, m, 5))) (u1 : 0 ≤ p1.toInt ∧ p1.toInt ≤ 215) (u2 : 0 ≤ p2.toInt ∧ p2.toInt ≤ 8) (kk : ∀ (x : Int32) (M1 : zH), z_X T zw135 M0 M1 → 0 ≤ x.toInt → x.toInt ≤ 215 → x.toInt < ((m : Nat) : Int) → K (some (.int x)) M1) : z_ev d 135 0 [some (.ref a0), some (.int p1), some (.int p2), none, none, none] [] M0 K := by
  have X : z_X T zw135 M0 M0 := .refl hW
  have g0 := X.1.p3 k0
  refine z_xP zt135 0 1 [some (.ref a0), some (.int p1), some (.int p2), none, none, none] [.ref a0] rfl rfl ?_
  refine z_xgR (κ := .inl (2, q, t, m, 0)) zt135 1 rfl zo135 zzf3_39 X k0 (by decide) (by decide) rfl (fun (a2 : Nat) h1 k3 => ?_)
  have g4 := X.1.p2 k3
  refine z_xgR (κ := .inr (102, 0, m, 0, 1023)) zt135 2 rfl zo135 zzf3_101 X k3 (by decide) (by decide) rfl (fun (a6 : Nat) h5 k7 => ?_)
  refine z_xln zt135 3 rfl X k7 (by decide) (by omega) (fun (x8 : Int32) (h9 : x8.toInt = ((m : Nat) : Int)) => ?_)
  refine z_xP zt135 4 14 [some (.ref a0), some (.int p1), some (.int p2), some (.int x8), some (.int p1), none] [.int 1, .int x8] rfl rfl ?_
  refine z_xJ zt135 5 rfl rfl (fun (h10 : 1 ≤ x8.toInt) => ?_) (fun (h10 : x8.toInt < 1) => ?_)
  · skip
    refine z_xP zt135 8 20 [some (.ref a0), some (.int p1), some (.int p2), some (.int x8), some (.int p1), none] [.ref a0] rfl rfl ?_
    refine z_xgI zt135 9 rfl zo135 zzf3_53 X k0 (by decide) (by decide) rfl (fun (x12 : Int32) h11 (h13 : 0 ≤ x12.toInt) (h14 : x12.toInt ≤ (5 : Int)) => ?_)
    refine z_xP zt135 10 24 [some (.ref a0), some (.int p1), some (.int p2), some (.int x8), some (.int p1), none] [.int 1, .int x12] rfl rfl ?_
    refine z_xI zt135 11 rfl rfl (fun (x15 : Int32) (h16 : x15.toInt = x12.toInt - 1) => ?_) (z_pSub rfl rfl (by omega) (by omega))
    refine z_xP zt135 12 27 [some (.ref a0), some (.int p1), some (.int p2), some (.int x8), some (.int p1), some (.int x15)] [] rfl rfl ?_
    exact (zB135 k0 u1 u2 kk 12) M0 x8 p1 x15 X ⟨by omega, by omega⟩ ⟨by omega, by omega⟩ ⟨by omega, by omega⟩ (by omega) (by omega)
  refine z_xP zt135 6 18 [some (.ref a0), some (.int p1), some (.int p2), some (.int x8), some (.int p1), none] [.int 0] rfl rfl ?_
  have q0 : ((0 : Int32)).toInt = 0 := rfl
  exact z_xri zt135 7 rfl zzr135 (kk 0 M0 X (by omega) (by omega) (by omega))
def zw134 : List Nat := [210]
theorem zB134 {T : List zK} {d : Nat} {K : Option Value → zH → Prop} {a0 : Nat} {q : Nat} {t : Nat} {m : Nat} {p1 : Int32} {zp0 : Int32} {M0 : zH} (k0 : T[a0]? = some (.inl (3, q, t, m, 5))) (u1 : 0 ≤ p1.toInt ∧ p1.toInt ≤ 215) (hz0 : z_F M0 a0 4 = some (.int zp0)) (bz0 : 0 ≤ zp0.toInt ∧ zp0.toInt ≤ 3) (kk : ∀ (M1 : zH), z_X T zw134 M0 M1 → ∀ (w0 : Int32), z_F M1 a0 4 = some (.int w0) → 0 ≤ w0.toInt ∧ w0.toInt ≤ 3 → K none M1) : ∀ n : Nat, (∀ (M : zH) (b2 : Int32) (z0 : Int32), z_X T zw134 M0 M → 0 ≤ b2.toInt ∧ b2.toInt ≤ 3 → z_F M a0 4 = some (.int z0) → 0 ≤ z0.toInt ∧ z0.toInt ≤ 3 → ((0) * 2 + 0) * 4 + (3 - b2.toInt) < (n : Int) → z_ev (d + 1) 134 2 [some (.ref a0), some (.int p1), some (.int b2)] [] M K) := by
  intro n
  induction n with
  | zero => exact by intros; exfalso; omega
  | succ n ih =>
    intro M b2 z0 X hh0 hp0 hh2 hE
    have g0 := X.1.p3 k0
    refine z_xP zt134 1 4 [some (.ref a0), some (.int p1), some (.int b2)] [.ref a0, .int b2] rfl rfl ?_
    refine z_xgv zt134 2 rfl zo134 zzf3_53 X k0 (by decide) hp0 ?_
    refine z_xJ zt134 3 rfl rfl (fun (h1 : z0.toInt ≤ b2.toInt) => ?_) (fun (h1 : b2.toInt < z0.toInt) => ?_)
    · skip
      exact z_xrv zt134 11 rfl zzr134 (kk M X z0 hp0 ⟨by omega, by omega⟩)
    refine z_xP zt134 4 11 [some (.ref a0), some (.int p1), some (.int b2)] [.ref a0] rfl rfl ?_
    refine z_xgR (κ := .inr (210, 0, 5, 0, ((m : Nat) : Int) - 1)) zt134 5 rfl zo134 zzf3_33 X k0 (by decide) (by decide) rfl (fun (a3 : Nat) h2 k4 => ?_)
    refine z_xP zt134 6 18 [some (.ref a0), some (.int p1), some (.int b2)] [.int b2, .int p1, .ref a0, .int b2, .ref a3] rfl rfl ?_
    refine z_xcV (vs := [.ref a0, .int p1, .int b2]) (r := [.int b2, .ref a3]) (L2 := [some (.ref a0), some (.int p1), some (.int b2), none, none, none]) zt134 7 rfl zo134 zzcV3_154 (Or.inl rfl) rfl X k0 rfl rfl rfl (Nat.le_of_ble_eq_true rfl) zzm135 (Nat.le_of_ble_eq_true rfl) rfl ?_
    refine zC135 X.1 k0 (by omega) (by omega) (fun x8 M5 X6 h9 h10 h7 => ?_)
    have X11 := X.go X6 (z_sb (by decide))
    show z_ev (d + 1) 134 21 [some (.ref a0), some (.int p1), some (.int b2)] [.int x8, .int b2, .ref a3] M5 _
    refine z_xis zt134 8 rfl X11 k4 (by decide) (X11.1.g4 k4 (by decide)) (by omega) (by omega) (by omega) (by omega) (by decide) (fun M13 X14 e15 h16 => ?_)
    refine z_xN zt134 9 rfl rfl (fun (x17 : Int32) (h18 : x17.toInt = b2.toInt + 1) => ?_) (z_pAdd rfl rfl (by omega) (by omega))
    show z_ev (d + 1) 134 25 [some (.ref a0), some (.int p1), some (.int x17)] [] M13 _
    refine z_xP zt134 10 2 [some (.ref a0), some (.int p1), some (.int x17)] [] rfl rfl ?_
    have h19 := (e15.f k0 (by decide) (X6.2.f k0 (by decide) hp0))
    exact ih M13 x17 z0 X14 ⟨by omega, by omega⟩ h19 ⟨by omega, by omega⟩ (by omega)
theorem zC134 {T : List zK} {d : Nat} {K : Option Value → zH → Prop} {a0 : Nat} {q : Nat} {t : Nat} {m : Nat} {p1 : Int32} {zp0 : Int32} {M0 : zH} (hW : z_W M0 T) (k0 : T[a0]? = some (.inl (3, q, t, m, 5))) (u1 : 0 ≤ p1.toInt ∧ p1.toInt ≤ 215) (hz0 : z_F M0 a0 4 = some (.int zp0)) (bz0 : 0 ≤ zp0.toInt ∧ zp0.toInt ≤ 3) (kk : ∀ (M1 : zH), z_X T zw134 M0 M1 → ∀ (w0 : Int32), z_F M1 a0 4 = some (.int w0) → 0 ≤ w0.toInt ∧ w0.toInt ≤ 3 → K none M1) : z_ev (d + 1) 134 0 [some (.ref a0), some (.int p1), none] [] M0 K := by
  have X : z_X T zw134 M0 M0 := .refl hW
  have g0 := X.1.p3 k0
  refine z_xP zt134 0 2 [some (.ref a0), some (.int p1), some (.int 0)] [] rfl rfl ?_
  have q0 : ((0 : Int32)).toInt = 0 := rfl
  exact (zB134 k0 u1 hz0 bz0 kk 8) M0 (0) zp0 X (by decide) hz0 ⟨by omega, by omega⟩ (by omega)
def zw131 : List Nat := [18, 201, 202, 203, 205, 206, 207, 208, 209, 210, 1304]
theorem zB131 {T : List zK} {d : Nat} {K : Option Value → zH → Prop} {a0 : Nat} {ci : Nat} {a1 : Nat} {q1 : Nat} {t1 : Nat} {m1 : Nat} {p2 : Int32} {zp0 : Int32} {M0 : zH} (w0 : 4 ≤ ci ∧ ci ≤ 11) (k0 : T[a0]? = some (.inl (ci, 0, 0, 0, 0))) (k1 : T[a1]? = some (.inl (3, q1, t1, m1, 5))) (u2 : 1 ≤ p2.toInt ∧ p2.toInt ≤ 3) (hz0 : z_F M0 a1 4 = some (.int zp0)) (bz0 : 0 ≤ zp0.toInt ∧ zp0.toInt ≤ 5) (kk : ∀ (M1 : zH), z_X T zw131 M0 M1 → ∀ (w0 : Int32), z_F M1 a1 4 = some (.int w0) → 0 ≤ w0.toInt ∧ w0.toInt ≤ 3 → K none M1) : ∀ n : Nat, (∀ (M : zH) (b4 : Int32) (b5 : Int32) (z0 : Int32), z_X T zw131 M0 M → 0 ≤ b5.toInt ∧ b5.toInt ≤ 216 → z_F M a1 4 = some (.int z0) → 0 ≤ z0.toInt ∧ z0.toInt ≤ 5 → z0.toInt ≤ 3 → ((0) * 2 + 0) * 217 + (216 - b5.toInt) < (n : Int) → z_ev (d + 4) 131 15 [some (.ref a0), some (.ref a1), some (.int p2), some (.ref 18), some (.int b4), some (.int b5)] [] M K) := by
  intro n
  induction n with
  | zero => exact by intros; exfalso; omega
  | succ n ih =>
    intro M b4 b5 z0 X hh0 hp0 hh2 hh3 hE
    have g1 := X.1.p3 k1
    refine z_xP zt131 5 19 [some (.ref a0), some (.ref a1), some (.int p2), some (.ref 18), some (.int b4), some (.int b5)] [.int b4, .int b5] rfl rfl ?_
    have h1 := z_b32 b4
    refine z_xJ zt131 6 rfl rfl (fun (h2 : b4.toInt ≤ b5.toInt) => ?_) (fun (h2 : b5.toInt < b4.toInt) => ?_)
    · skip
      exact z_xrv zt131 17 rfl zzr131 (kk M X z0 hp0 ⟨by omega, by omega⟩)
    refine z_xP zt131 7 25 [some (.ref a0), some (.ref a1), some (.int p2), some (.ref 18), some (.int b4), some (.int b5)] [.ref 18, .int b5] rfl rfl ?_
    have f18 : T[18]? = some (.inr (18, 0, 216, (-2147483648), 2147483647)) := X.1.k rfl (by decide)
    refine z_xln zt131 8 rfl X f18 (by decide) (by decide) (fun (x3 : Int32) (h4 : x3.toInt = ((216 : Nat) : Int)) => ?_)
    refine z_xJ zt131 9 rfl rfl (fun (h5 : x3.toInt ≤ b5.toInt) => ?_) (fun (h5 : b5.toInt < x3.toInt) => ?_)
    · skip
      exact z_xrv zt131 17 rfl zzr131 (kk M X z0 hp0 ⟨by omega, by omega⟩)
    refine z_xP zt131 10 32 [some (.ref a0), some (.ref a1), some (.int p2), some (.ref 18), some (.int b4), some (.int b5)] [.int b5, .ref a1] rfl rfl ?_
    refine z_xcV (vs := [.ref a1, .int b5]) (r := []) (L2 := [some (.ref a1), some (.int b5)]) zt131 11 rfl zo131 zzcV4_138 (Or.inl rfl) rfl X k1 rfl rfl rfl (Nat.le_of_ble_eq_true rfl) zzm133 (Nat.le_of_ble_eq_true rfl) rfl ?_
    refine z_xP zt133 0 2 [some (.ref a1), some (.int b5)] [.int b5, .ref a1] rfl rfl ?_
    refine z_xcV (vs := [.ref a1, .int b5]) (r := []) (L2 := [some (.ref a1), some (.int b5), none]) zt133 1 rfl zo133 zzcV3_157 (Or.inl rfl) rfl X k1 rfl rfl rfl (Nat.le_of_ble_eq_true rfl) zzm134 (Nat.le_of_ble_eq_true rfl) rfl ?_
    refine zC134 X.1 k1 (by omega) hp0 ⟨by omega, by omega⟩ (fun M6 X7 z8 h9 h10 => ?_)
    have X11 := X.go X7 (z_sb (by decide))
    show z_ev (d + 3) 133 5 [some (.ref a1), some (.int b5)] [] M6 _
    refine z_xP zt133 2 6 [some (.ref a1), some (.int b5)] [.ref a1] rfl rfl ?_
    refine z_xcV (vs := [.ref a1]) (r := []) (L2 := [some (.ref a1), none, none]) zt133 3 rfl zo133 zzcV3_148 (Or.inl rfl) rfl X11 k1 rfl rfl rfl (Nat.le_of_ble_eq_true rfl) zzm111 (Nat.le_of_ble_eq_true rfl) rfl ?_
    refine zC111 X11.1 k1 (fun M13 X14  => ?_)
    have X15 := X11.go X14 (z_sb (by decide))
    show z_ev (d + 3) 133 9 [some (.ref a1), some (.int b5)] [] M13 _
    refine z_xrv zt133 4 rfl zzr133 ?_
    show z_ev (d + 4) 131 35 [some (.ref a0), some (.ref a1), some (.int p2), some (.ref 18), some (.int b4), some (.int b5)] [] M13 _
    refine z_xP zt131 12 40 [some (.ref a0), some (.ref a1), some (.int p2), some (.ref 18), some (.int b4), some (.int b5)] [.ref a1, .ref a0, .int b5, .ref 18] rfl rfl ?_
    refine zVdecide zt131 13 rfl zo131 zzcV4_54 X15 k0 w0 (Nat.le_of_ble_eq_true rfl) k1 (fun x19 M17 X18  => ?_)
    have X20 := X15.go X18 (z_sb (by decide))
    show z_ev (d + 4) 131 43 [some (.ref a0), some (.ref a1), some (.int p2), some (.ref 18), some (.int b4), some (.int b5)] [.int x19, .int b5, .ref 18] M17 _
    refine z_xis zt131 14 rfl X20 f18 (by decide) (by decide) (by omega) (by omega) (Int32.le_toInt _) (Int32.toInt_le _) (by decide) (fun M22 X23 e24 h25 => ?_)
    refine z_xN zt131 15 rfl rfl (fun (x26 : Int32) (h27 : x26.toInt = b5.toInt + 1) => ?_) (z_pAdd rfl rfl (by omega) (by omega))
    show z_ev (d + 4) 131 47 [some (.ref a0), some (.ref a1), some (.int p2), some (.ref 18), some (.int b4), some (.int x26)] [] M22 _
    refine z_xP zt131 16 15 [some (.ref a0), some (.ref a1), some (.int p2), some (.ref 18), some (.int b4), some (.int x26)] [] rfl rfl ?_
    have h28 := (e24.f k1 (by decide) (X18.2.f k1 (by decide) (X14.2.f k1 (by decide) (X7.2.f k1 (by decide) hp0))))
    exact ih M22 b4 x26 z0 X23 ⟨by omega, by omega⟩ h28 ⟨by omega, by omega⟩ (by omega) (by omega)
theorem zC131 {T : List zK} {d : Nat} {K : Option Value → zH → Prop} {a0 : Nat} {ci : Nat} {a1 : Nat} {q1 : Nat} {t1 : Nat} {m1 : Nat} {p2 : Int32} {zp0 : Int32} {M0 : zH} (hW : z_W M0 T) (w0 : 4 ≤ ci ∧ ci ≤ 11) (k0 : T[a0]? = some (.inl (ci, 0, 0, 0, 0))) (k1 : T[a1]? = some (.inl (3, q1, t1, m1, 5))) (u2 : 1 ≤ p2.toInt ∧ p2.toInt ≤ 3) (hz0 : z_F M0 a1 4 = some (.int zp0)) (bz0 : 0 ≤ zp0.toInt ∧ zp0.toInt ≤ 5) (kk : ∀ (M1 : zH), z_X T zw131 M0 M1 → ∀ (w0 : Int32), z_F M1 a1 4 = some (.int w0) → 0 ≤ w0.toInt ∧ w0.toInt ≤ 3 → K none M1) : z_ev (d + 4) 131 0 [some (.ref a0), some (.ref a1), some (.int p2), some (.ref 18), none, none] [] M0 K := by
  have X : z_X T zw131 M0 M0 := .refl hW
  have g1 := X.1.p3 k1
  refine z_xP zt131 0 2 [some (.ref a0), some (.ref a1), some (.int p2), some (.ref 18), none, none] [.int p2, .ref a1] rfl rfl ?_
  refine z_xcV (vs := [.ref a1, .int p2]) (r := []) (L2 := [some (.ref a1), some (.int p2), none]) zt131 1 rfl zo131 zzcV4_45 (Or.inl rfl) rfl X k1 rfl rfl rfl (Nat.le_of_ble_eq_true rfl) zzm108 (Nat.le_of_ble_eq_true rfl) rfl ?_
  refine zC108 X.1 k1 (by omega) hz0 ⟨by omega, by omega⟩ (fun x7 M1 X2 h8 h9 z3 h4 h5 h6 => ?_)
  have X10 := X.go X2 (z_sb (by decide))
  show z_ev (d + 4) 131 5 [some (.ref a0), some (.ref a1), some (.int p2), some (.ref 18), none, none] [.int x7] M1 _
  refine z_xP zt131 2 7 [some (.ref a0), some (.ref a1), some (.int p2), some (.ref 18), none, none] [.ref a1] rfl rfl ?_
  refine z_xcV (vs := [.ref a1]) (r := []) (L2 := [some (.ref a1), none, none]) zt131 3 rfl zo131 zzcV4_135 (Or.inl rfl) rfl X10 k1 rfl rfl rfl (Nat.le_of_ble_eq_true rfl) zzm132 (Nat.le_of_ble_eq_true rfl) rfl ?_
  refine zC132 X10.1 k1 h4 ⟨by omega, by omega⟩ (fun x17 M12 X13 z14 h15 h16 => ?_)
  have X18 := X10.go X13 (z_sb (by decide))
  show z_ev (d + 4) 131 10 [some (.ref a0), some (.ref a1), some (.int p2), some (.ref 18), none, none] [.int x17] M12 _
  refine z_xP zt131 4 15 [some (.ref a0), some (.ref a1), some (.int p2), some (.ref 18), some (.int x17), some (.int 0)] [] rfl rfl ?_
  have h20 := (X13.2.f k1 (by decide) h4)
  have q0 : ((0 : Int32)).toInt = 0 := rfl
  exact (zB131 w0 k0 k1 u2 hz0 bz0 kk 434) M12 x17 (0) z3 X18 (by decide) h20 ⟨by omega, by omega⟩ (by omega) (by omega)
def zw138 : List Nat := [210]
theorem zB138 {T : List zK} {d : Nat} {K : Option Value → zH → Prop} {a0 : Nat} {q : Nat} {t : Nat} {m : Nat} {p1 : Int32} {zp0 : Int32} {M0 : zH} (k0 : T[a0]? = some (.inl (3, q, t, m, 5))) (u1 : 0 ≤ p1.toInt ∧ p1.toInt ≤ 215) (hz0 : z_F M0 a0 4 = some (.int zp0)) (bz0 : 0 ≤ zp0.toInt ∧ zp0.toInt ≤ 3) (hb0 : m ≤ 6) (kk : ∀ (x : Int32) (M1 : zH), z_X T zw138 M0 M1 → 0 ≤ x.toInt → x.toInt ≤ 4095 → 0 ≤ x.toInt ∧ x.toInt ≤ 215 → ∀ (w0 : Int32), z_F M1 a0 4 = some (.int w0) → 0 ≤ w0.toInt ∧ w0.toInt ≤ 3 → K (some (.int x)) M1) : ∀ n : Nat, (∀ (M : zH) (b2 : Int32) (b3 : Int32) (b4 : Int32) (o5 : Option Value) (z0 : Int32), z_X T zw138 M0 M → 0 ≤ b2.toInt ∧ b2.toInt ≤ 1024 → 0 ≤ b3.toInt ∧ b3.toInt ≤ 4095 → 0 ≤ b4.toInt ∧ b4.toInt ≤ 1024 → z_F M a0 4 = some (.int z0) → 0 ≤ z0.toInt ∧ z0.toInt ≤ 3 → b2.toInt = ((m : Nat) : Int) → 0 ≤ b4.toInt → (∃ bb : Nat, z_F M a0 10 = some (.ref bb) ∧ T[bb]? = some (.inr (210, 0, 5, 0, ((m : Nat) : Int) - 1)) ∧ z_RI (z_Ar M bb 0).toInt (z_Ar M bb (0 + 1)).toInt (z_Ar M bb (0 + 2)).toInt z0.toInt b4.toInt 0 b3.toInt) → ((((0) * 3 + 1) * 1025 + (1024 - b4.toInt)) * 3 + 2) * 4 + (0) < (n : Int) → z_ev (d + 2) 138 19 [some (.ref a0), some (.int p1), some (.int b2), some (.int b3), some (.int b4), o5] [] M K) ∧ (∀ (M : zH) (b2 : Int32) (b3 : Int32) (b4 : Int32) (b5 : Int32) (z0 : Int32), z_X T zw138 M0 M → 1 ≤ b2.toInt ∧ b2.toInt ≤ 1024 → 0 ≤ b3.toInt ∧ b3.toInt ≤ 4095 → 0 ≤ b4.toInt ∧ b4.toInt ≤ 1023 → 0 ≤ b5.toInt ∧ b5.toInt ≤ 3 → z_F M a0 4 = some (.int z0) → 0 ≤ z0.toInt ∧ z0.toInt ≤ 3 → b2.toInt = ((m : Nat) : Int) → 0 ≤ b4.toInt → b4.toInt < ((m : Nat) : Int) → b5.toInt ≤ z0.toInt → (∃ bb : Nat, z_F M a0 10 = some (.ref bb) ∧ T[bb]? = some (.inr (210, 0, 5, 0, ((m : Nat) : Int) - 1)) ∧ z_RI (z_Ar M bb 0).toInt (z_Ar M bb (0 + 1)).toInt (z_Ar M bb (0 + 2)).toInt z0.toInt b4.toInt b5.toInt b3.toInt) → ((((0) * 3 + 1) * 1025 + (1024 - b4.toInt)) * 3 + 0) * 4 + (3 - b5.toInt) < (n : Int) → z_ev (d + 2) 138 28 [some (.ref a0), some (.int p1), some (.int b2), some (.int b3), some (.int b4), some (.int b5)] [] M K) := by
  intro n
  induction n with
  | zero => exact ⟨(by intro M b2 b3 b4 o5 z0 X hh0 hh1 hh2 hp0 hh4 hh5 hh6 hx hE; obtain ⟨bb, hbF, hbK, hr⟩ := hx; have hb := z_RIb hr; exfalso; omega), (by intro M b2 b3 b4 b5 z0 X hh0 hh1 hh2 hh3 hp0 hh5 hh6 hh7 hh8 hh9 hx hE; obtain ⟨bb, hbF, hbK, hr⟩ := hx; have hb := z_RIb hr; exfalso; omega)⟩
  | succ n ih =>
    refine ⟨?_, ?_⟩
    · skip
      intro M b2 b3 b4 o5 z0 X hh0 hh1 hh2 hp0 hh4 hh5 hh6 hx hE
      have g0 := X.1.p3 k0
      obtain ⟨bb, hbF, hbK, hr⟩ := hx
      have hb := z_RIb hr
      refine z_xP zt138 7 22 [some (.ref a0), some (.int p1), some (.int b2), some (.int b3), some (.int b4), o5] [.int b2, .int b4] rfl rfl ?_
      refine z_xJ zt138 8 rfl rfl (fun (h1 : b2.toInt ≤ b4.toInt) => ?_) (fun (h1 : b4.toInt < b2.toInt) => ?_)
      · skip
        refine z_xP zt138 28 69 [some (.ref a0), some (.int p1), some (.int b2), some (.int b3), some (.int b4), o5] [.int b3] rfl rfl ?_
        exact z_xri zt138 29 rfl zzr138 (kk b3 M X (by omega) (by omega) ⟨by omega, by omega⟩ z0 hp0 ⟨by omega, by omega⟩)
      refine z_xP zt138 9 28 [some (.ref a0), some (.int p1), some (.int b2), some (.int b3), some (.int b4), some (.int 0)] [] rfl rfl ?_
      have q0 : ((0 : Int32)).toInt = 0 := rfl
      exact ih.2 M b2 b3 b4 (0) z0 X ⟨by omega, by omega⟩ ⟨by omega, by omega⟩ ⟨by omega, by omega⟩ (by decide) hp0 ⟨by omega, by omega⟩ (by omega) (by omega) (by omega) (by omega) ⟨bb, hbF, hbK, z_RIj hr (by omega)⟩ (by omega)
    · skip
      intro M b2 b3 b4 b5 z0 X hh0 hh1 hh2 hh3 hp0 hh5 hh6 hh7 hh8 hh9 hx hE
      have g0 := X.1.p3 k0
      obtain ⟨bb, hbF, hbK, hr⟩ := hx
      have hb := z_RIb hr
      refine z_xP zt138 10 31 [some (.ref a0), some (.int p1), some (.int b2), some (.int b3), some (.int b4), some (.int b5)] [.ref a0, .int b5] rfl rfl ?_
      refine z_xgv zt138 11 rfl zo138 zzf3_53 X k0 (by decide) hp0 ?_
      refine z_xJ zt138 12 rfl rfl (fun (h1 : z0.toInt ≤ b5.toInt) => ?_) (fun (h1 : b5.toInt < z0.toInt) => ?_)
      · skip
        refine z_xN zt138 26 rfl rfl (fun (x2 : Int32) (h3 : x2.toInt = b4.toInt + 1) => ?_) (z_pAdd rfl rfl (by omega) (by omega))
        show z_ev (d + 2) 138 65 [some (.ref a0), some (.int p1), some (.int b2), some (.int b3), some (.int x2), some (.int b5)] [] M _
        refine z_xP zt138 27 19 [some (.ref a0), some (.int p1), some (.int b2), some (.int b3), some (.int x2), some (.int b5)] [] rfl rfl ?_
        exact ih.1 M b2 b3 x2 (some (.int b5)) z0 X ⟨by omega, by omega⟩ ⟨by omega, by omega⟩ ⟨by omega, by omega⟩ hp0 ⟨by omega, by omega⟩ (by omega) (by omega) ⟨bb, hbF, hbK, z_RIk hr (by omega)⟩ (by omega)
      refine z_xP zt138 13 38 [some (.ref a0), some (.int p1), some (.int b2), some (.int b3), some (.int b4), some (.int b5)] [.ref a0] rfl rfl ?_
      refine z_xgv zt138 14 rfl zo138 zzf3_33 X k0 (by decide) hbF ?_
      refine z_xP zt138 15 43 [some (.ref a0), some (.int p1), some (.int b2), some (.int b3), some (.int b4), some (.int b5)] [.int b5, .ref bb] rfl rfl ?_
      refine z_xil zt138 16 rfl X hbK (by decide) (by omega) (by omega) (fun (x4 : Int32) h5 (h6 : 0 ≤ x4.toInt) (h7 : x4.toInt ≤ ((m : Nat) : Int) - 1) => ?_)
      refine z_xP zt138 17 46 [some (.ref a0), some (.int p1), some (.int b2), some (.int b3), some (.int b4), some (.int b5)] [.int b4, .int x4] rfl rfl ?_
      refine z_xJ zt138 18 rfl rfl (fun (h8 : x4.toInt ≠ b4.toInt) => ?_) (fun (h8 : x4.toInt = b4.toInt) => ?_)
      · skip
        refine z_xN zt138 24 rfl rfl (fun (x9 : Int32) (h10 : x9.toInt = b5.toInt + 1) => ?_) (z_pAdd rfl rfl (by omega) (by omega))
        show z_ev (d + 2) 138 59 [some (.ref a0), some (.int p1), some (.int b2), some (.int b3), some (.int b4), some (.int x9)] [] M _
        refine z_xP zt138 25 28 [some (.ref a0), some (.int p1), some (.int b2), some (.int b3), some (.int b4), some (.int x9)] [] rfl rfl ?_
        have h11 := z_sel (b := 0) (j := b5.toInt) h5 (by omega) (by omega) (by omega)
        exact ih.2 M b2 b3 b4 x9 z0 X ⟨by omega, by omega⟩ ⟨by omega, by omega⟩ ⟨by omega, by omega⟩ ⟨by omega, by omega⟩ hp0 ⟨by omega, by omega⟩ (by omega) (by omega) (by omega) (by omega) ⟨bb, hbF, hbK, z_RIn hr (by omega)⟩ (by omega)
      refine z_xP zt138 19 51 [some (.ref a0), some (.int p1), some (.int b2), some (.int b3), some (.int b4), some (.int b5)] [.int b2, .int b3] rfl rfl ?_
      refine z_xI zt138 20 rfl rfl (fun (x12 : Int32) (h13 : 0 ≤ x12.toInt ∧ x12.toInt ≤ 6 * b3.toInt) => ?_) (z_pM6 rfl rfl (by omega) (by omega) (by omega) (by omega))
      refine z_xP zt138 21 54 [some (.ref a0), some (.int p1), some (.int b2), some (.int b3), some (.int b4), some (.int b5)] [.int b4, .int x12] rfl rfl ?_
      refine z_xI zt138 22 rfl rfl (fun (x14 : Int32) (h15 : x14.toInt = x12.toInt + b4.toInt) => ?_) (z_pAdd rfl rfl (by omega) (by omega))
      refine z_xP zt138 23 56 [some (.ref a0), some (.int p1), some (.int b2), some (.int x14), some (.int b4), some (.int b5)] [] rfl rfl ?_
      refine z_xN zt138 24 rfl rfl (fun (x16 : Int32) (h17 : x16.toInt = b5.toInt + 1) => ?_) (z_pAdd rfl rfl (by omega) (by omega))
      show z_ev (d + 2) 138 59 [some (.ref a0), some (.int p1), some (.int b2), some (.int x14), some (.int b4), some (.int x16)] [] M _
      refine z_xP zt138 25 28 [some (.ref a0), some (.int p1), some (.int b2), some (.int x14), some (.int b4), some (.int x16)] [] rfl rfl ?_
      have h18 := z_sel (b := 0) (j := b5.toInt) h5 (by omega) (by omega) (by omega)
      exact ih.2 M b2 x14 b4 x16 z0 X ⟨by omega, by omega⟩ ⟨by omega, by omega⟩ ⟨by omega, by omega⟩ ⟨by omega, by omega⟩ hp0 ⟨by omega, by omega⟩ (by omega) (by omega) (by omega) (by omega) ⟨bb, hbF, hbK, z_RIm hr h18 (by omega) (by omega) (by omega) (by omega) (by omega)⟩ (by omega)
theorem zC138 {T : List zK} {d : Nat} {K : Option Value → zH → Prop} {a0 : Nat} {q : Nat} {t : Nat} {m : Nat} {p1 : Int32} {zp0 : Int32} {M0 : zH} (hW : z_W M0 T) (k0 : T[a0]? = some (.inl (3, q, t, m, 5))) (u1 : 0 ≤ p1.toInt ∧ p1.toInt ≤ 215) (hz0 : z_F M0 a0 4 = some (.int zp0)) (bz0 : 0 ≤ zp0.toInt ∧ zp0.toInt ≤ 3) (hb0 : m ≤ 6) (kk : ∀ (x : Int32) (M1 : zH), z_X T zw138 M0 M1 → 0 ≤ x.toInt → x.toInt ≤ 4095 → 0 ≤ x.toInt ∧ x.toInt ≤ 215 → ∀ (w0 : Int32), z_F M1 a0 4 = some (.int w0) → 0 ≤ w0.toInt ∧ w0.toInt ≤ 3 → K (some (.int x)) M1) : z_ev (d + 2) 138 0 [some (.ref a0), some (.int p1), none, none, none, none] [] M0 K := by
  have X : z_X T zw138 M0 M0 := .refl hW
  have g0 := X.1.p3 k0
  refine z_xP zt138 0 1 [some (.ref a0), some (.int p1), none, none, none, none] [.ref a0] rfl rfl ?_
  refine z_xgR (κ := .inl (2, q, t, m, 0)) zt138 1 rfl zo138 zzf3_39 X k0 (by decide) (by decide) rfl (fun (a2 : Nat) h1 k3 => ?_)
  have g4 := X.1.p2 k3
  refine z_xgR (κ := .inr (102, 0, m, 0, 1023)) zt138 2 rfl zo138 zzf3_101 X k3 (by decide) (by decide) rfl (fun (a6 : Nat) h5 k7 => ?_)
  refine z_xln zt138 3 rfl X k7 (by decide) (by omega) (fun (x8 : Int32) (h9 : x8.toInt = ((m : Nat) : Int)) => ?_)
  refine z_xP zt138 4 13 [some (.ref a0), some (.int p1), some (.int x8), some (.int 0), none, none] [.int p1, .ref a0] rfl rfl ?_
  refine z_xcV (vs := [.ref a0, .int p1]) (r := []) (L2 := [some (.ref a0), some (.int p1), none]) zt138 5 rfl zo138 zzcV3_157 (Or.inl rfl) rfl X k0 rfl rfl rfl (Nat.le_of_ble_eq_true rfl) zzm134 (Nat.le_of_ble_eq_true rfl) rfl ?_
  refine zC134 X.1 k0 (by omega) hz0 ⟨by omega, by omega⟩ (fun M10 X11 z12 h13 h14 => ?_)
  have X15 := X.go X11 (z_sb (by decide))
  show z_ev (d + 2) 138 16 [some (.ref a0), some (.int p1), some (.int x8), some (.int 0), none, none] [] M10 _
  refine z_xP zt138 6 19 [some (.ref a0), some (.int p1), some (.int x8), some (.int 0), some (.int 0), none] [] rfl rfl ?_
  have h17 := (X11.2.f k0 (by decide) hz0)
  obtain ⟨bb, hbF, hbK⟩ := z_W.fr X15.1 k0 (k := 10) (κ := .inr (210, 0, 5, 0, ((m : Nat) : Int) - 1)) (by decide) rfl
  have q0 : ((0 : Int32)).toInt = 0 := rfl
  exact (zB138 k0 u1 hz0 bz0 hb0 kk 36900).1 M10 x8 (0) (0) none zp0 X15 ⟨by omega, by omega⟩ (by decide) (by decide) h17 ⟨by omega, by omega⟩ (by omega) (by omega) ⟨bb, hbF, hbK, z_RI0 (by omega)⟩ (by omega)
def zw137 : List Nat := [210]
theorem zB137 {T : List zK} {d : Nat} {K : Option Value → zH → Prop} {a0 : Nat} {q : Nat} {t : Nat} {m : Nat} {p2 : Int32} {zp0 : Int32} {M0 : zH} (k0 : T[a0]? = some (.inl (3, q, t, m, 5))) (u2 : (-2147483648) ≤ p2.toInt ∧ p2.toInt ≤ 216) (hz0 : z_F M0 a0 4 = some (.int zp0)) (bz0 : 0 ≤ zp0.toInt ∧ zp0.toInt ≤ 3) (hb0 : m ≤ 6) (kk : ∀ (x : Int32) (M1 : zH), z_X T zw137 M0 M1 → (-2) ≤ x.toInt → x.toInt ≤ 215 → ∀ (w0 : Int32), z_F M1 a0 4 = some (.int w0) → 0 ≤ w0.toInt ∧ w0.toInt ≤ 3 → K (some (.int x)) M1) : ∀ n : Nat, (∀ (M : zH) (b3 : Int32) (z0 : Int32), z_X T zw137 M0 M → 0 ≤ b3.toInt ∧ b3.toInt ≤ 216 → z_F M a0 4 = some (.int z0) → 0 ≤ z0.toInt ∧ z0.toInt ≤ 3 → ((0) * 2 + 0) * 217 + (216 - b3.toInt) < (n : Int) → z_ev (d + 3) 137 2 [some (.ref a0), some (.ref 18), some (.int p2), some (.int b3)] [] M K) := by
  intro n
  induction n with
  | zero => exact by intros; exfalso; omega
  | succ n ih =>
    intro M b3 z0 X hh0 hp0 hh2 hE
    have g0 := X.1.p3 k0
    refine z_xP zt137 1 4 [some (.ref a0), some (.ref 18), some (.int p2), some (.int b3)] [.int p2, .int b3] rfl rfl ?_
    have h1 := z_b32 p2
    refine z_xJ zt137 2 rfl rfl (fun (h2 : p2.toInt ≤ b3.toInt) => ?_) (fun (h2 : b3.toInt < p2.toInt) => ?_)
    · skip
      refine z_xP zt137 13 30 [some (.ref a0), some (.ref 18), some (.int p2), some (.int b3)] [.int (-2)] rfl rfl ?_
      have qm2 : (((-2) : Int32)).toInt = (-2) := rfl
      exact z_xri zt137 14 rfl zzr137 (kk (-2) M X (by omega) (by omega) z0 hp0 ⟨by omega, by omega⟩)
    refine z_xP zt137 3 9 [some (.ref a0), some (.ref 18), some (.int p2), some (.int b3)] [.int b3, .ref 18] rfl rfl ?_
    have f18 : T[18]? = some (.inr (18, 0, 216, (-2147483648), 2147483647)) := X.1.k rfl (by decide)
    refine z_xil zt137 4 rfl X f18 (by decide) (by omega) (by omega) (fun (x3 : Int32) h4 (h5 : (-2147483648) ≤ x3.toInt) (h6 : x3.toInt ≤ 2147483647) => ?_)
    refine z_xP zt137 5 13 [some (.ref a0), some (.ref 18), some (.int p2), some (.int b3)] [.int b3, .ref a0, .ref 18, .int x3] rfl rfl ?_
    refine z_xcV (vs := [.ref a0, .int b3]) (r := [.ref 18, .int x3]) (L2 := [some (.ref a0), some (.int b3), none, none, none, none]) zt137 6 rfl zo137 zzcV3_183 (Or.inl rfl) rfl X k0 rfl rfl rfl (Nat.le_of_ble_eq_true rfl) zzm138 (Nat.le_of_ble_eq_true rfl) rfl ?_
    refine zC138 X.1 k0 (by omega) hp0 ⟨by omega, by omega⟩ (by omega) (fun x13 M7 X8 h14 h15 h9 z10 h11 h12 => ?_)
    have X16 := X.go X8 (z_sb (by decide))
    show z_ev (d + 3) 137 16 [some (.ref a0), some (.ref 18), some (.int p2), some (.int b3)] [.int x13, .ref 18, .int x3] M7 _
    refine z_xil zt137 7 rfl X16 f18 (by decide) (by omega) (by omega) (fun (x18 : Int32) h19 (h20 : (-2147483648) ≤ x18.toInt) (h21 : x18.toInt ≤ 2147483647) => ?_)
    have h22 := z_b32 x3
    have h23 := z_b32 x18
    refine z_xJ zt137 8 rfl rfl (fun (h24 : x3.toInt = x18.toInt) => ?_) (fun (h24 : x3.toInt ≠ x18.toInt) => ?_)
    · skip
      refine z_xN zt137 11 rfl rfl (fun (x25 : Int32) (h26 : x25.toInt = b3.toInt + 1) => ?_) (z_pAdd rfl rfl (by omega) (by omega))
      show z_ev (d + 3) 137 25 [some (.ref a0), some (.ref 18), some (.int p2), some (.int x25)] [] M7 _
      refine z_xP zt137 12 2 [some (.ref a0), some (.ref 18), some (.int p2), some (.int x25)] [] rfl rfl ?_
      have h27 := (X8.2.f k0 (by decide) hp0)
      exact ih M7 x25 z0 X16 ⟨by omega, by omega⟩ h27 ⟨by omega, by omega⟩ (by omega)
    refine z_xP zt137 9 21 [some (.ref a0), some (.ref 18), some (.int p2), some (.int b3)] [.int b3] rfl rfl ?_
    have h28 := (X8.2.f k0 (by decide) hp0)
    exact z_xri zt137 10 rfl zzr137 (kk b3 M7 X16 (by omega) (by omega) z0 h28 ⟨by omega, by omega⟩)
theorem zC137 {T : List zK} {d : Nat} {K : Option Value → zH → Prop} {a0 : Nat} {q : Nat} {t : Nat} {m : Nat} {p2 : Int32} {zp0 : Int32} {M0 : zH} (hW : z_W M0 T) (k0 : T[a0]? = some (.inl (3, q, t, m, 5))) (u2 : (-2147483648) ≤ p2.toInt ∧ p2.toInt ≤ 216) (hz0 : z_F M0 a0 4 = some (.int zp0)) (bz0 : 0 ≤ zp0.toInt ∧ zp0.toInt ≤ 3) (hb0 : m ≤ 6) (kk : ∀ (x : Int32) (M1 : zH), z_X T zw137 M0 M1 → (-2) ≤ x.toInt → x.toInt ≤ 215 → ∀ (w0 : Int32), z_F M1 a0 4 = some (.int w0) → 0 ≤ w0.toInt ∧ w0.toInt ≤ 3 → K (some (.int x)) M1) : z_ev (d + 3) 137 0 [some (.ref a0), some (.ref 18), some (.int p2), none] [] M0 K := by
  have X : z_X T zw137 M0 M0 := .refl hW
  have g0 := X.1.p3 k0
  refine z_xP zt137 0 2 [some (.ref a0), some (.ref 18), some (.int p2), some (.int 0)] [] rfl rfl ?_
  have q0 : ((0 : Int32)).toInt = 0 := rfl
  exact (zB137 k0 u2 hz0 bz0 hb0 kk 434) M0 (0) zp0 X (by decide) hz0 ⟨by omega, by omega⟩ (by omega)
def zw140 : List Nat := []
theorem zB140 {T : List zK} {d : Nat} {K : Option Value → zH → Prop} {a0 : Nat} {q : Nat} {t : Nat} {m : Nat} {p1 : Int32} {zp0 : Int32} {M0 : zH} (k0 : T[a0]? = some (.inl (3, q, t, m, 5))) (u1 : 0 ≤ p1.toInt ∧ p1.toInt ≤ 9) (hz0 : z_F M0 a0 4 = some (.int zp0)) (bz0 : 0 ≤ zp0.toInt ∧ zp0.toInt ≤ 3) (hb0 : m ≤ 6) (kk : ∀ (x : Int32) (M1 : zH), z_X T zw140 M0 M1 → 0 ≤ x.toInt → x.toInt ≤ 7 → ∀ (w0 : Int32), z_F M1 a0 4 = some (.int w0) → 0 ≤ w0.toInt ∧ w0.toInt ≤ 3 → K (some (.int x)) M1) : ∀ n : Nat, (∀ (M : zH) (b2 : Int32) (b3 : Int32) (z0 : Int32), z_X T zw140 M0 M → 0 ≤ b2.toInt ∧ b2.toInt ≤ 7 → 0 ≤ b3.toInt ∧ b3.toInt ≤ 3 → z_F M a0 4 = some (.int z0) → 0 ≤ z0.toInt ∧ z0.toInt ≤ 3 → ((0) * 2 + 0) * 4 + (3 - b3.toInt) < (n : Int) → z_ev d 140 4 [some (.ref a0), some (.int p1), some (.int b2), some (.int b3)] [] M K) := by
  intro n
  induction n with
  | zero => exact by intros; exfalso; omega
  | succ n ih =>
    intro M b2 b3 z0 X hh0 hh1 hp0 hh3 hE
    have g0 := X.1.p3 k0
    refine z_xP zt140 1 6 [some (.ref a0), some (.int p1), some (.int b2), some (.int b3)] [.ref a0, .int b3] rfl rfl ?_
    refine z_xgv zt140 2 rfl zo140 zzf3_53 X k0 (by decide) hp0 ?_
    refine z_xJ zt140 3 rfl rfl (fun (h1 : z0.toInt ≤ b3.toInt) => ?_) (fun (h1 : b3.toInt < z0.toInt) => ?_)
    · skip
      refine z_xP zt140 22 42 [some (.ref a0), some (.int p1), some (.int b2), some (.int b3)] [.int b2] rfl rfl ?_
      exact z_xri zt140 23 rfl zzr140 (kk b2 M X (by omega) (by omega) z0 hp0 ⟨by omega, by omega⟩)
    refine z_xP zt140 4 14 [some (.ref a0), some (.int p1), some (.int b2), some (.int b3)] [.ref a0, .int b2] rfl rfl ?_
    refine z_xgR (κ := .inl (2, q, t, m, 0)) zt140 5 rfl zo140 zzf3_39 X k0 (by decide) (by decide) rfl (fun (a3 : Nat) h2 k4 => ?_)
    have g5 := X.1.p2 k4
    refine z_xgR (κ := .inr (102, 0, m, 0, 1023)) zt140 6 rfl zo140 zzf3_101 X k4 (by decide) (by decide) rfl (fun (a7 : Nat) h6 k8 => ?_)
    refine z_xP zt140 7 21 [some (.ref a0), some (.int p1), some (.int b2), some (.int b3)] [.ref a0, .ref a7, .int b2] rfl rfl ?_
    refine z_xgR (κ := .inr (210, 0, 5, 0, ((m : Nat) : Int) - 1)) zt140 8 rfl zo140 zzf3_33 X k0 (by decide) (by decide) rfl (fun (a10 : Nat) h9 k11 => ?_)
    refine z_xP zt140 9 25 [some (.ref a0), some (.int p1), some (.int b2), some (.int b3)] [.int b3, .ref a10, .ref a7, .int b2] rfl rfl ?_
    refine z_xil zt140 10 rfl X k11 (by decide) (by omega) (by omega) (fun (x12 : Int32) h13 (h14 : 0 ≤ x12.toInt) (h15 : x12.toInt ≤ ((m : Nat) : Int) - 1) => ?_)
    refine z_xil zt140 11 rfl X k8 (by decide) (by omega) (by omega) (fun (x16 : Int32) h17 (h18 : 0 ≤ x16.toInt) (h19 : x16.toInt ≤ 1023) => ?_)
    refine z_xP zt140 12 28 [some (.ref a0), some (.int p1), some (.int b2), some (.int b3)] [.int p1, .int x16, .int b2] rfl rfl ?_
    refine z_xI zt140 13 rfl rfl (fun (x20 : Int32) (h21 : 0 ≤ x20.toInt ∧ x20.toInt ≤ x16.toInt) => ?_) (z_pShrN rfl (by omega))
    refine z_xP zt140 14 30 [some (.ref a0), some (.int p1), some (.int b2), some (.int b3)] [.int 1, .int x20, .int b2] rfl rfl ?_
    refine z_xI zt140 15 rfl rfl (fun (x22 : Int32) (h23 : 0 ≤ x22.toInt ∧ x22.toInt ≤ x20.toInt ∧ x22.toInt ≤ 1) => ?_) (z_pAnd2 rfl rfl (by omega) (by omega))
    refine z_xP zt140 16 32 [some (.ref a0), some (.int p1), some (.int b2), some (.int b3)] [.int b3, .int x22, .int b2] rfl rfl ?_
    refine z_xI zt140 17 rfl rfl (fun (x24 : Int32) (h25 : x22.toInt ≤ x24.toInt ∧ x24.toInt ≤ 4) => ?_) (z_pShlB (a := 1) (b := 2) (c := 4) (r := 4) rfl rfl (by omega) (by omega) (by omega) (by omega) (by decide) (by decide) (by decide) (by decide))
    refine z_xI zt140 18 rfl rfl (fun (x26 : Int32) (h27 : 0 ≤ x26.toInt ∧ x26.toInt < 8 ∧ b2.toInt ≤ x26.toInt ∧ x24.toInt ≤ x26.toInt) => ?_) (z_pOr 3 rfl rfl (by omega) (by omega) (by decide) (by omega) (by omega) (by decide))
    refine z_xP zt140 19 35 [some (.ref a0), some (.int p1), some (.int x26), some (.int b3)] [] rfl rfl ?_
    refine z_xN zt140 20 rfl rfl (fun (x28 : Int32) (h29 : x28.toInt = b3.toInt + 1) => ?_) (z_pAdd rfl rfl (by omega) (by omega))
    show z_ev d 140 38 [some (.ref a0), some (.int p1), some (.int x26), some (.int x28)] [] M _
    refine z_xP zt140 21 4 [some (.ref a0), some (.int p1), some (.int x26), some (.int x28)] [] rfl rfl ?_
    exact ih M x26 x28 z0 X ⟨by omega, by omega⟩ ⟨by omega, by omega⟩ hp0 ⟨by omega, by omega⟩ (by omega)
theorem zC140 {T : List zK} {d : Nat} {K : Option Value → zH → Prop} {a0 : Nat} {q : Nat} {t : Nat} {m : Nat} {p1 : Int32} {zp0 : Int32} {M0 : zH} (hW : z_W M0 T) (k0 : T[a0]? = some (.inl (3, q, t, m, 5))) (u1 : 0 ≤ p1.toInt ∧ p1.toInt ≤ 9) (hz0 : z_F M0 a0 4 = some (.int zp0)) (bz0 : 0 ≤ zp0.toInt ∧ zp0.toInt ≤ 3) (hb0 : m ≤ 6) (kk : ∀ (x : Int32) (M1 : zH), z_X T zw140 M0 M1 → 0 ≤ x.toInt → x.toInt ≤ 7 → ∀ (w0 : Int32), z_F M1 a0 4 = some (.int w0) → 0 ≤ w0.toInt ∧ w0.toInt ≤ 3 → K (some (.int x)) M1) : z_ev d 140 0 [some (.ref a0), some (.int p1), none, none] [] M0 K := by
  have X : z_X T zw140 M0 M0 := .refl hW
  have g0 := X.1.p3 k0
  refine z_xP zt140 0 4 [some (.ref a0), some (.int p1), some (.int 0), some (.int 0)] [] rfl rfl ?_
  have q0 : ((0 : Int32)).toInt = 0 := rfl
  exact (zB140 k0 u1 hz0 bz0 hb0 kk 8) M0 (0) (0) zp0 X (by decide) (by decide) hz0 ⟨by omega, by omega⟩ (by omega)
def zw139 : List Nat := [210, 211]
theorem zB139 {T : List zK} {d : Nat} {K : Option Value → zH → Prop} {a0 : Nat} {q : Nat} {t : Nat} {m : Nat} {p2 : Int32} {zp0 : Int32} {M0 : zH} (k0 : T[a0]? = some (.inl (3, q, t, m, 5))) (u2 : (-2147483648) ≤ p2.toInt ∧ p2.toInt ≤ 216) (hz0 : z_F M0 a0 4 = some (.int zp0)) (bz0 : 0 ≤ zp0.toInt ∧ zp0.toInt ≤ 3) (hb0 : m ≤ 6) (kk : ∀ (x : Int32) (M1 : zH), z_X T zw139 M0 M1 → (-2) ≤ x.toInt → x.toInt ≤ 215 → ∀ (w0 : Int32), z_F M1 a0 4 = some (.int w0) → 0 ≤ w0.toInt ∧ w0.toInt ≤ 3 → K (some (.int x)) M1) : ∀ n : Nat, (∀ (M : zH) (b3 : Int32) (o4 : Option Value) (o5 : Option Value) (o6 : Option Value) (z0 : Int32), z_X T zw139 M0 M → 0 ≤ b3.toInt ∧ b3.toInt ≤ 216 → z_F M a0 4 = some (.int z0) → 0 ≤ z0.toInt ∧ z0.toInt ≤ 3 → ((((0) * 3 + 1) * 217 + (216 - b3.toInt)) * 3 + 2) * 11 + (0) < (n : Int) → z_ev (d + 2) 139 10 [some (.ref a0), some (.ref 18), some (.int p2), some (.int b3), o4, o5, o6] [] M K) ∧ (∀ (M : zH) (b3 : Int32) (b4 : Int32) (o5 : Option Value) (o6 : Option Value) (z0 : Int32), z_X T zw139 M0 M → 1 ≤ p2.toInt ∧ p2.toInt ≤ 216 → 0 ≤ b3.toInt ∧ b3.toInt ≤ 215 → 0 ≤ b4.toInt ∧ b4.toInt ≤ 10 → z_F M a0 4 = some (.int z0) → 0 ≤ z0.toInt ∧ z0.toInt ≤ 3 → ((((0) * 3 + 1) * 217 + (216 - b3.toInt)) * 3 + 0) * 11 + (10 - b4.toInt) < (n : Int) → z_ev (d + 2) 139 23 [some (.ref a0), some (.ref 18), some (.int p2), some (.int b3), some (.int b4), o5, o6] [] M K) := by
  intro n
  induction n with
  | zero => exact ⟨(by intros; exfalso; omega), (by intros; exfalso; omega)⟩
  | succ n ih =>
    refine ⟨?_, ?_⟩
    · skip
      intro M b3 o4 o5 o6 z0 X hh0 hp0 hh2 hE
      have g0 := X.1.p3 k0
      refine z_xP zt139 5 12 [some (.ref a0), some (.ref 18), some (.int p2), some (.int b3), o4, o5, o6] [.int p2, .int b3] rfl rfl ?_
      have h1 := z_b32 p2
      refine z_xJ zt139 6 rfl rfl (fun (h2 : p2.toInt ≤ b3.toInt) => ?_) (fun (h2 : b3.toInt < p2.toInt) => ?_)
      · skip
        refine z_xP zt139 56 121 [some (.ref a0), some (.ref 18), some (.int p2), some (.int b3), o4, o5, o6] [.int (-2)] rfl rfl ?_
        have qm2 : (((-2) : Int32)).toInt = (-2) := rfl
        exact z_xri zt139 57 rfl zzr139 (kk (-2) M X (by omega) (by omega) z0 hp0 ⟨by omega, by omega⟩)
      refine z_xP zt139 7 17 [some (.ref a0), some (.ref 18), some (.int p2), some (.int b3), o4, o5, o6] [.int b3, .ref a0] rfl rfl ?_
      refine z_xcV (vs := [.ref a0, .int b3]) (r := []) (L2 := [some (.ref a0), some (.int b3), none]) zt139 8 rfl zo139 zzcV3_157 (Or.inl rfl) rfl X k0 rfl rfl rfl (Nat.le_of_ble_eq_true rfl) zzm134 (Nat.le_of_ble_eq_true rfl) rfl ?_
      refine zC134 X.1 k0 (by omega) hp0 ⟨by omega, by omega⟩ (fun M3 X4 z5 h6 h7 => ?_)
      have X8 := X.go X4 (z_sb (by decide))
      show z_ev (d + 2) 139 20 [some (.ref a0), some (.ref 18), some (.int p2), some (.int b3), o4, o5, o6] [] M3 _
      refine z_xP zt139 9 23 [some (.ref a0), some (.ref 18), some (.int p2), some (.int b3), some (.int 0), o5, o6] [] rfl rfl ?_
      have h10 := (X4.2.f k0 (by decide) hp0)
      have q0 : ((0 : Int32)).toInt = 0 := rfl
      exact ih.2 M3 b3 (0) (o5) (o6) z0 X8 ⟨by omega, by omega⟩ ⟨by omega, by omega⟩ (by decide) h10 ⟨by omega, by omega⟩ (by omega)
    · skip
      intro M b3 b4 o5 o6 z0 X hh0 hh1 hh2 hp0 hh4 hE
      have g0 := X.1.p3 k0
      refine z_xP zt139 10 26 [some (.ref a0), some (.ref 18), some (.int p2), some (.int b3), some (.int b4), o5, o6] [.ref a0, .int b4] rfl rfl ?_
      refine z_xgR (κ := .inl (2, q, t, m, 0)) zt139 11 rfl zo139 zzf3_39 X k0 (by decide) (by decide) rfl (fun (a2 : Nat) h1 k3 => ?_)
      have g4 := X.1.p2 k3
      refine z_xgI zt139 12 rfl zo139 zzf3_63 X k3 (by decide) (by decide) rfl (fun (x6 : Int32) h5 (h7 : (q : Int) ≤ x6.toInt) (h8 : x6.toInt ≤ (q : Int)) => ?_)
      refine z_xJ zt139 13 rfl rfl (fun (h9 : x6.toInt ≤ b4.toInt) => ?_) (fun (h9 : b4.toInt < x6.toInt) => ?_)
      · skip
        refine z_xN zt139 54 rfl rfl (fun (x10 : Int32) (h11 : x10.toInt = b3.toInt + 1) => ?_) (z_pAdd rfl rfl (by omega) (by omega))
        show z_ev (d + 2) 139 116 [some (.ref a0), some (.ref 18), some (.int p2), some (.int x10), some (.int b4), o5, o6] [] M _
        refine z_xP zt139 55 10 [some (.ref a0), some (.ref 18), some (.int p2), some (.int x10), some (.int b4), o5, o6] [] rfl rfl ?_
        exact ih.1 M x10 (some (.int b4)) (o5) (o6) z0 X ⟨by omega, by omega⟩ hp0 ⟨by omega, by omega⟩ (by omega)
      refine z_xP zt139 14 38 [some (.ref a0), some (.ref 18), some (.int p2), some (.int b3), some (.int b4), o5, o6] [.int 3, .int b4] rfl rfl ?_
      refine z_xI zt139 15 rfl rfl (fun (x12 : Int32) (h13 : x12.toInt = b4.toInt * 8) => ?_) (z_pShl 3 rfl rfl (by decide) (by decide) (by omega) rfl (by omega))
      refine z_xP zt139 16 42 [some (.ref a0), some (.ref 18), some (.int p2), some (.int b3), some (.int b4), o5, o6] [.int b4, .ref a0, .int x12] rfl rfl ?_
      refine z_xcV (vs := [.ref a0, .int b4]) (r := [.int x12]) (L2 := [some (.ref a0), some (.int b4), none, none]) zt139 17 rfl zo139 zzcV3_186 (Or.inl rfl) rfl X k0 rfl rfl rfl (Nat.le_of_ble_eq_true rfl) zzm140 (Nat.le_of_ble_eq_true rfl) rfl ?_
      refine zC140 X.1 k0 (by omega) hp0 ⟨by omega, by omega⟩ (by omega) (fun x19 M14 X15 h20 h21 z16 h17 h18 => ?_)
      have X22 := X.go X15 (z_sb (by decide))
      show z_ev (d + 2) 139 45 [some (.ref a0), some (.ref 18), some (.int p2), some (.int b3), some (.int b4), o5, o6] [.int x19, .int x12] M14 _
      refine z_xI zt139 18 rfl rfl (fun (x24 : Int32) (h25 : x24.toInt = x12.toInt + x19.toInt) => ?_) (z_pOrA (b4.toInt) rfl rfl (by omega) (by omega) (by omega) (by omega) (by omega))
      refine z_xP zt139 19 51 [some (.ref a0), some (.ref 18), some (.int p2), some (.int b3), some (.int b4), some (.int x24), o6] [.int b3, .ref 18, .int 1] rfl rfl ?_
      have f18 : T[18]? = some (.inr (18, 0, 216, (-2147483648), 2147483647)) := X22.1.k rfl (by decide)
      refine z_xil zt139 20 rfl X22 f18 (by decide) (by omega) (by omega) (fun (x26 : Int32) h27 (h28 : (-2147483648) ≤ x26.toInt) (h29 : x26.toInt ≤ 2147483647) => ?_)
      refine z_xP zt139 21 54 [some (.ref a0), some (.ref 18), some (.int p2), some (.int b3), some (.int b4), some (.int x24), o6] [.int b4, .int x26, .int 1] rfl rfl ?_
      have h30 := z_b32 x26
      refine z_xI zt139 22 rfl rfl (P := fun _ => True) (fun (x31 : Int32) _ => ?_) trivial
      refine z_xP zt139 23 56 [some (.ref a0), some (.ref 18), some (.int p2), some (.int b3), some (.int b4), some (.int x24), o6] [.int 1, .int x31, .int 1] rfl rfl ?_
      refine z_xI zt139 24 rfl rfl (fun (x33 : Int32) (h34 : 0 ≤ x33.toInt ∧ x33.toInt ≤ 1) => ?_) (z_pAnd rfl (by omega))
      refine z_xI zt139 25 rfl rfl (fun (x35 : Int32) (h36 : x35.toInt = 1 + x33.toInt) => ?_) (z_pAdd rfl rfl (by omega) (by omega))
      refine z_xP zt139 26 61 [some (.ref a0), some (.ref 18), some (.int p2), some (.int b3), some (.int b4), some (.int x24), o6] [.int b3, .ref 18, .int 2, .int x35] rfl rfl ?_
      refine z_xil zt139 27 rfl X22 f18 (by decide) (by omega) (by omega) (fun (x37 : Int32) h38 (h39 : (-2147483648) ≤ x37.toInt) (h40 : x37.toInt ≤ 2147483647) => ?_)
      have h41 := congrArg Int32.toInt (h38.symm.trans h27)
      refine z_xP zt139 28 66 [some (.ref a0), some (.ref 18), some (.int p2), some (.int b3), some (.int b4), some (.int x24), o6] [.int 10, .int b4, .int x37, .int 2, .int x35] rfl rfl ?_
      refine z_xI zt139 29 rfl rfl (fun (x42 : Int32) (h43 : x42.toInt = b4.toInt + 10) => ?_) (z_pAdd rfl rfl (by omega) (by omega))
      have h44 := z_b32 x37
      refine z_xI zt139 30 rfl rfl (P := fun _ => True) (fun (x45 : Int32) _ => ?_) trivial
      refine z_xP zt139 31 69 [some (.ref a0), some (.ref 18), some (.int p2), some (.int b3), some (.int b4), some (.int x24), o6] [.int 1, .int x45, .int 2, .int x35] rfl rfl ?_
      refine z_xI zt139 32 rfl rfl (fun (x47 : Int32) (h48 : 0 ≤ x47.toInt ∧ x47.toInt ≤ 1) => ?_) (z_pAnd rfl (by omega))
      refine z_xI zt139 33 rfl rfl (fun (x49 : Int32) (h50 : x49.toInt = 2 * x47.toInt) => ?_) (z_pMul rfl rfl (by omega) (by omega))
      refine z_xI zt139 34 rfl rfl (fun (x51 : Int32) (h52 : x51.toInt = x35.toInt + x49.toInt) => ?_) (z_pAdd rfl rfl (by omega) (by omega))
      refine z_xP zt139 35 75 [some (.ref a0), some (.ref 18), some (.int p2), some (.int b3), some (.int b4), some (.int x24), some (.int x51)] [.ref a0] rfl rfl ?_
      refine z_xgR (κ := .inr (211, 0, 80, (-2147483648), 2147483647)) zt139 36 rfl zo139 zzf3_36 X22 k0 (by decide) (by decide) rfl (fun (a54 : Nat) h53 k55 => ?_)
      refine z_xP zt139 37 80 [some (.ref a0), some (.ref 18), some (.int p2), some (.int b3), some (.int b4), some (.int x24), some (.int x51)] [.int x24, .ref a54] rfl rfl ?_
      refine z_xil zt139 38 rfl X22 k55 (by decide) (by omega) (by omega) (fun (x56 : Int32) h57 (h58 : (-2147483648) ≤ x56.toInt) (h59 : x56.toInt ≤ 2147483647) => ?_)
      refine z_xZ zt139 39 rfl rfl (fun (h60 : x56.toInt = 0) => ?_) (fun (h60 : x56.toInt ≠ 0) => ?_)
      · skip
        refine z_xP zt139 48 99 [some (.ref a0), some (.ref 18), some (.int p2), some (.int b3), some (.int b4), some (.int x24), some (.int x51)] [.ref a0] rfl rfl ?_
        refine z_xgv zt139 49 rfl zo139 zzf3_36 X22 k0 (by decide) h53 ?_
        refine z_xP zt139 50 106 [some (.ref a0), some (.ref 18), some (.int p2), some (.int b3), some (.int b4), some (.int x24), some (.int x51)] [.int x51, .int x24, .ref a54] rfl rfl ?_
        refine z_xis zt139 51 rfl X22 k55 (by decide) (X22.1.g4 k55 (by decide)) (by omega) (by omega) (Int32.le_toInt _) (Int32.toInt_le _) (by decide) (fun M61 X62 e63 h64 => ?_)
        refine z_xN zt139 52 rfl rfl (fun (x65 : Int32) (h66 : x65.toInt = b4.toInt + 1) => ?_) (z_pAdd rfl rfl (by omega) (by omega))
        show z_ev (d + 2) 139 110 [some (.ref a0), some (.ref 18), some (.int p2), some (.int b3), some (.int x65), some (.int x24), some (.int x51)] [] M61 _
        refine z_xP zt139 53 23 [some (.ref a0), some (.ref 18), some (.int p2), some (.int b3), some (.int x65), some (.int x24), some (.int x51)] [] rfl rfl ?_
        have h67 := (e63.f k0 (by decide) (X15.2.f k0 (by decide) hp0))
        exact ih.2 M61 b3 x65 (some (.int x24)) (some (.int x51)) z0 X62 ⟨by omega, by omega⟩ ⟨by omega, by omega⟩ ⟨by omega, by omega⟩ h67 ⟨by omega, by omega⟩ (by omega)
      refine z_xP zt139 40 85 [some (.ref a0), some (.ref 18), some (.int p2), some (.int b3), some (.int b4), some (.int x24), some (.int x51)] [.ref a0] rfl rfl ?_
      refine z_xgv zt139 41 rfl zo139 zzf3_36 X22 k0 (by decide) h53 ?_
      refine z_xP zt139 42 90 [some (.ref a0), some (.ref 18), some (.int p2), some (.int b3), some (.int b4), some (.int x24), some (.int x51)] [.int x24, .ref a54] rfl rfl ?_
      refine z_xil zt139 43 rfl X22 k55 (by decide) (by omega) (by omega) (fun (x68 : Int32) h69 (h70 : (-2147483648) ≤ x68.toInt) (h71 : x68.toInt ≤ 2147483647) => ?_)
      have h72 := congrArg Int32.toInt (h69.symm.trans h57)
      refine z_xP zt139 44 93 [some (.ref a0), some (.ref 18), some (.int p2), some (.int b3), some (.int b4), some (.int x24), some (.int x51)] [.int x51, .int x68] rfl rfl ?_
      have h73 := z_b32 x68
      refine z_xJ zt139 45 rfl rfl (fun (h74 : x68.toInt = x51.toInt) => ?_) (fun (h74 : x68.toInt ≠ x51.toInt) => ?_)
      · skip
        refine z_xP zt139 48 99 [some (.ref a0), some (.ref 18), some (.int p2), some (.int b3), some (.int b4), some (.int x24), some (.int x51)] [.ref a0] rfl rfl ?_
        refine z_xgv zt139 49 rfl zo139 zzf3_36 X22 k0 (by decide) h53 ?_
        refine z_xP zt139 50 106 [some (.ref a0), some (.ref 18), some (.int p2), some (.int b3), some (.int b4), some (.int x24), some (.int x51)] [.int x51, .int x24, .ref a54] rfl rfl ?_
        refine z_xis zt139 51 rfl X22 k55 (by decide) (X22.1.g4 k55 (by decide)) (by omega) (by omega) (Int32.le_toInt _) (Int32.toInt_le _) (by decide) (fun M75 X76 e77 h78 => ?_)
        refine z_xN zt139 52 rfl rfl (fun (x79 : Int32) (h80 : x79.toInt = b4.toInt + 1) => ?_) (z_pAdd rfl rfl (by omega) (by omega))
        show z_ev (d + 2) 139 110 [some (.ref a0), some (.ref 18), some (.int p2), some (.int b3), some (.int x79), some (.int x24), some (.int x51)] [] M75 _
        refine z_xP zt139 53 23 [some (.ref a0), some (.ref 18), some (.int p2), some (.int b3), some (.int x79), some (.int x24), some (.int x51)] [] rfl rfl ?_
        have h81 := (e77.f k0 (by decide) (X15.2.f k0 (by decide) hp0))
        exact ih.2 M75 b3 x79 (some (.int x24)) (some (.int x51)) z0 X76 ⟨by omega, by omega⟩ ⟨by omega, by omega⟩ ⟨by omega, by omega⟩ h81 ⟨by omega, by omega⟩ (by omega)
      refine z_xP zt139 46 97 [some (.ref a0), some (.ref 18), some (.int p2), some (.int b3), some (.int b4), some (.int x24), some (.int x51)] [.int b3] rfl rfl ?_
      have h82 := (X15.2.f k0 (by decide) hp0)
      exact z_xri zt139 47 rfl zzr139 (kk b3 M14 X22 (by omega) (by omega) z0 h82 ⟨by omega, by omega⟩)
theorem zC139 {T : List zK} {d : Nat} {K : Option Value → zH → Prop} {a0 : Nat} {q : Nat} {t : Nat} {m : Nat} {p2 : Int32} {zp0 : Int32} {M0 : zH} (hW : z_W M0 T) (k0 : T[a0]? = some (.inl (3, q, t, m, 5))) (u2 : (-2147483648) ≤ p2.toInt ∧ p2.toInt ≤ 216) (hz0 : z_F M0 a0 4 = some (.int zp0)) (bz0 : 0 ≤ zp0.toInt ∧ zp0.toInt ≤ 3) (hb0 : m ≤ 6) (kk : ∀ (x : Int32) (M1 : zH), z_X T zw139 M0 M1 → (-2) ≤ x.toInt → x.toInt ≤ 215 → ∀ (w0 : Int32), z_F M1 a0 4 = some (.int w0) → 0 ≤ w0.toInt ∧ w0.toInt ≤ 3 → K (some (.int x)) M1) : z_ev (d + 2) 139 0 [some (.ref a0), some (.ref 18), some (.int p2), none, none, none, none] [] M0 K := by
  have X : z_X T zw139 M0 M0 := .refl hW
  have g0 := X.1.p3 k0
  refine z_xP zt139 0 1 [some (.ref a0), some (.ref 18), some (.int p2), none, none, none, none] [.ref a0] rfl rfl ?_
  refine z_xgR (κ := .inr (211, 0, 80, (-2147483648), 2147483647)) zt139 1 rfl zo139 zzf3_36 X k0 (by decide) (by decide) rfl (fun (a2 : Nat) h1 k3 => ?_)
  refine z_xP zt139 2 5 [some (.ref a0), some (.ref 18), some (.int p2), none, none, none, none] [.int 0, .ref a2] rfl rfl ?_
  refine z_xcS (vs := [.ref a2, .int 0]) (r := []) (L2 := [some (.ref a2), some (.int 0), none, none]) zt139 3 rfl zo139 zzcS3_66 (Or.inl rfl) (Nat.le_of_ble_eq_true rfl) rfl rfl (Nat.le_of_ble_eq_true rfl) zzm7 (Nat.le_of_ble_eq_true rfl) rfl ?_
  have q0 : ((0 : Int32)).toInt = 0 := rfl
  have q0 : ((0 : Int32)).toInt = 0 := rfl
  refine zC7 X.1 ⟨(by decide), (X.1.g4 k3 (by decide))⟩ k3 ⟨by omega, by omega⟩ (by decide) (fun M4 X5  => ?_)
  have X6 := X.go X5 (z_sb (by decide))
  show z_ev (d + 2) 139 8 [some (.ref a0), some (.ref 18), some (.int p2), none, none, none, none] [] M4 _
  refine z_xP zt139 4 10 [some (.ref a0), some (.ref 18), some (.int p2), some (.int 0), none, none, none] [] rfl rfl ?_
  have h8 := (X5.2.f k0 (by decide) hz0)
  have q0 : ((0 : Int32)).toInt = 0 := rfl
  exact (zB139 k0 u2 hz0 bz0 hb0 kk 21483).1 M4 (0) none none none zp0 X6 (by decide) h8 ⟨by omega, by omega⟩ (by omega)
def zw141 : List Nat := []
theorem zB141 {T : List zK} {d : Nat} {K : Option Value → zH → Prop} {a0 : Nat} {q : Nat} {t : Nat} {m : Nat} {p2 : Int32} {zp0 : Int32} {M0 : zH} (k0 : T[a0]? = some (.inl (3, q, t, m, 5))) (u2 : (-2147483648) ≤ p2.toInt ∧ p2.toInt ≤ 216) (hz0 : z_F M0 a0 4 = some (.int zp0)) (bz0 : 0 ≤ zp0.toInt ∧ zp0.toInt ≤ 3) (hb0 : m ≤ 6) (kk : ∀ (x : Int32) (M1 : zH), z_X T zw141 M0 M1 → (-2) ≤ x.toInt → x.toInt ≤ 215 → ∀ (w0 : Int32), z_F M1 a0 4 = some (.int w0) → 0 ≤ w0.toInt ∧ w0.toInt ≤ 3 → K (some (.int x)) M1) : ∀ n : Nat, (∀ (M : zH) (b3 : Int32) (b4 : Int32) (o5 : Option Value) (o6 : Option Value) (z0 : Int32), z_X T zw141 M0 M → 0 ≤ b3.toInt ∧ b3.toInt ≤ 1024 → 0 ≤ b4.toInt ∧ b4.toInt ≤ 1024 → z_F M a0 4 = some (.int z0) → 0 ≤ z0.toInt ∧ z0.toInt ≤ 3 → b3.toInt = ((m : Nat) : Int) → ((((0) * 3 + 1) * 1025 + (1024 - b4.toInt)) * 3 + 2) * 4 + (0) < (n : Int) → z_ev (d + 1) 141 12 [some (.ref a0), some (.ref 18), some (.int p2), some (.int b3), some (.int b4), o5, o6] [] M K) ∧ (∀ (M : zH) (b3 : Int32) (b4 : Int32) (b5 : Int32) (b6 : Int32) (z0 : Int32), z_X T zw141 M0 M → 1 ≤ b3.toInt ∧ b3.toInt ≤ 1024 → 0 ≤ b4.toInt ∧ b4.toInt ≤ 1023 → 0 ≤ b5.toInt ∧ b5.toInt ≤ 4095 → 0 ≤ b6.toInt ∧ b6.toInt ≤ 3 → z_F M a0 4 = some (.int z0) → 0 ≤ z0.toInt ∧ z0.toInt ≤ 3 → b3.toInt = ((m : Nat) : Int) → b4.toInt < ((m : Nat) : Int) → ((b6.toInt = 0 ∧ b5.toInt = 0) ∨ (b6.toInt = 1 ∧ 0 ≤ b5.toInt ∧ b5.toInt ≤ 5) ∨ (b6.toInt = 2 ∧ 0 ≤ b5.toInt ∧ b5.toInt ≤ 35) ∨ (b6.toInt = 3 ∧ 0 ≤ b5.toInt ∧ b5.toInt ≤ 215)) → ((((0) * 3 + 1) * 1025 + (1024 - b4.toInt)) * 3 + 0) * 4 + (3 - b6.toInt) < (n : Int) → z_ev (d + 1) 141 24 [some (.ref a0), some (.ref 18), some (.int p2), some (.int b3), some (.int b4), some (.int b5), some (.int b6)] [] M K) := by
  intro n
  induction n with
  | zero => exact ⟨(by intros; exfalso; omega), (by intros; exfalso; omega)⟩
  | succ n ih =>
    refine ⟨?_, ?_⟩
    · skip
      intro M b3 b4 o5 o6 z0 X hh0 hh1 hp0 hh3 hh4 hE
      have g0 := X.1.p3 k0
      refine z_xP zt141 5 15 [some (.ref a0), some (.ref 18), some (.int p2), some (.int b3), some (.int b4), o5, o6] [.int b3, .int b4] rfl rfl ?_
      refine z_xJ zt141 6 rfl rfl (fun (h1 : b3.toInt ≤ b4.toInt) => ?_) (fun (h1 : b4.toInt < b3.toInt) => ?_)
      · skip
        refine z_xP zt141 35 89 [some (.ref a0), some (.ref 18), some (.int p2), some (.int b3), some (.int b4), o5, o6] [.int (-2)] rfl rfl ?_
        have qm2 : (((-2) : Int32)).toInt = (-2) := rfl
        exact z_xri zt141 36 rfl zzr141 (kk (-2) M X (by omega) (by omega) z0 hp0 ⟨by omega, by omega⟩)
      refine z_xP zt141 7 24 [some (.ref a0), some (.ref 18), some (.int p2), some (.int b3), some (.int b4), some (.int 0), some (.int 0)] [] rfl rfl ?_
      have q0 : ((0 : Int32)).toInt = 0 := rfl
      exact ih.2 M b3 b4 (0) (0) z0 X ⟨by omega, by omega⟩ ⟨by omega, by omega⟩ (by decide) (by decide) hp0 ⟨by omega, by omega⟩ (by omega) (by omega) (by omega) (by omega)
    · skip
      intro M b3 b4 b5 b6 z0 X hh0 hh1 hh2 hh3 hp0 hh5 hh6 hh7 hh8 hE
      have g0 := X.1.p3 k0
      refine z_xP zt141 8 27 [some (.ref a0), some (.ref 18), some (.int p2), some (.int b3), some (.int b4), some (.int b5), some (.int b6)] [.ref a0, .int b6] rfl rfl ?_
      refine z_xgv zt141 9 rfl zo141 zzf3_53 X k0 (by decide) hp0 ?_
      refine z_xJ zt141 10 rfl rfl (fun (h1 : z0.toInt ≤ b6.toInt) => ?_) (fun (h1 : b6.toInt < z0.toInt) => ?_)
      · skip
        refine z_xP zt141 18 51 [some (.ref a0), some (.ref 18), some (.int p2), some (.int b3), some (.int b4), some (.int b5), some (.int b6)] [.int p2, .int b5] rfl rfl ?_
        have h2 := z_b32 p2
        refine z_xJ zt141 19 rfl rfl (fun (h3 : p2.toInt ≤ b5.toInt) => ?_) (fun (h3 : b5.toInt < p2.toInt) => ?_)
        · skip
          refine z_xN zt141 33 rfl rfl (fun (x4 : Int32) (h5 : x4.toInt = b4.toInt + 1) => ?_) (z_pAdd rfl rfl (by omega) (by omega))
          show z_ev (d + 1) 141 84 [some (.ref a0), some (.ref 18), some (.int p2), some (.int b3), some (.int x4), some (.int b5), some (.int b6)] [] M _
          refine z_xP zt141 34 12 [some (.ref a0), some (.ref 18), some (.int p2), some (.int b3), some (.int x4), some (.int b5), some (.int b6)] [] rfl rfl ?_
          exact ih.1 M b3 x4 (some (.int b5)) (some (.int b6)) z0 X ⟨by omega, by omega⟩ ⟨by omega, by omega⟩ hp0 ⟨by omega, by omega⟩ (by omega) (by omega)
        refine z_xP zt141 20 57 [some (.ref a0), some (.ref 18), some (.int p2), some (.int b3), some (.int b4), some (.int b5), some (.int b6)] [.int b5, .ref 18] rfl rfl ?_
        have f18 : T[18]? = some (.inr (18, 0, 216, (-2147483648), 2147483647)) := X.1.k rfl (by decide)
        refine z_xil zt141 21 rfl X f18 (by decide) (by omega) (by omega) (fun (x6 : Int32) h7 (h8 : (-2147483648) ≤ x6.toInt) (h9 : x6.toInt ≤ 2147483647) => ?_)
        refine z_xP zt141 22 59 [some (.ref a0), some (.ref 18), some (.int p2), some (.int b3), some (.int b4), some (.int b5), some (.int b6)] [.ref a0, .int x6] rfl rfl ?_
        refine z_xgR (κ := .inl (2, q, t, m, 0)) zt141 23 rfl zo141 zzf3_39 X k0 (by decide) (by decide) rfl (fun (a11 : Nat) h10 k12 => ?_)
        have g13 := X.1.p2 k12
        refine z_xP zt141 24 63 [some (.ref a0), some (.ref 18), some (.int p2), some (.int b3), some (.int b4), some (.int b5), some (.int b6)] [.ref a0, .ref a11, .int x6] rfl rfl ?_
        refine z_xgv zt141 25 rfl zo141 zzf3_39 X k0 (by decide) h10 ?_
        refine z_xgR (κ := .inr (102, 0, m, 0, 1023)) zt141 26 rfl zo141 zzf3_101 X k12 (by decide) (by decide) rfl (fun (a15 : Nat) h14 k16 => ?_)
        refine z_xP zt141 27 71 [some (.ref a0), some (.ref 18), some (.int p2), some (.int b3), some (.int b4), some (.int b5), some (.int b6)] [.int b4, .ref a15, .ref a11, .int x6] rfl rfl ?_
        refine z_xil zt141 28 rfl X k16 (by decide) (by omega) (by omega) (fun (x17 : Int32) h18 (h19 : 0 ≤ x17.toInt) (h20 : x17.toInt ≤ 1023) => ?_)
        refine z_xcV (vs := [.ref a11, .int x17]) (r := [.int x6]) (L2 := [some (.ref a11), some (.int x17)]) zt141 29 rfl zo141 zzcV3_189 (Or.inl rfl) rfl X k12 rfl rfl rfl (Nat.le_of_ble_eq_true rfl) zzm39 (Nat.le_of_ble_eq_true rfl) rfl ?_
        refine z_xP zt39 0 2 [some (.ref a11), some (.int x17)] [.ref a11, .int x17] rfl rfl ?_
        refine z_xgI zt39 1 rfl zo39 zzf2_32 X k12 (by decide) (by decide) rfl (fun (x22 : Int32) h21 (h23 : ((z_po q : Nat) : Int) - 1 ≤ x22.toInt) (h24 : x22.toInt ≤ ((z_po q : Nat) : Int) - 1) => ?_)
        refine z_xP zt39 2 7 [some (.ref a11), some (.int x17)] [.int (-1), .int x17, .int x22, .int x17] rfl rfl ?_
        refine z_xI zt39 3 rfl rfl (P := fun _ => True) (fun (x25 : Int32) _ => ?_) trivial
        refine z_xI zt39 4 rfl rfl (fun (x27 : Int32) (h28 : 0 ≤ x27.toInt ∧ x27.toInt ≤ x22.toInt) => ?_) (z_pAndL rfl (by omega))
        refine z_xP zt39 5 11 [some (.ref a11), some (.int x17)] [.int 10, .int x27, .int x17] rfl rfl ?_
        refine z_xI zt39 6 rfl rfl (fun (x29 : Int32) (h30 : x29.toInt = x27.toInt * 1024) => ?_) (z_pShl 10 rfl rfl (by decide) (by decide) (by omega) rfl (by omega))
        refine z_xI zt39 7 rfl rfl (fun (x31 : Int32) (h32 : 0 ≤ x31.toInt ∧ x31.toInt < 1048576 ∧ x17.toInt ≤ x31.toInt ∧ x29.toInt ≤ x31.toInt) => ?_) (z_pOr 20 rfl rfl (by omega) (by omega) (by decide) (by omega) (by omega) (by decide))
        refine z_xri zt39 8 rfl zzr39 ?_
        show z_ev (d + 1) 141 75 [some (.ref a0), some (.ref 18), some (.int p2), some (.int b3), some (.int b4), some (.int b5), some (.int b6)] [.int x31, .int x6] M _
        have h33 := z_b32 x6
        refine z_xJ zt141 30 rfl rfl (fun (h34 : x6.toInt = x31.toInt) => ?_) (fun (h34 : x6.toInt ≠ x31.toInt) => ?_)
        · skip
          refine z_xN zt141 33 rfl rfl (fun (x35 : Int32) (h36 : x35.toInt = b4.toInt + 1) => ?_) (z_pAdd rfl rfl (by omega) (by omega))
          show z_ev (d + 1) 141 84 [some (.ref a0), some (.ref 18), some (.int p2), some (.int b3), some (.int x35), some (.int b5), some (.int b6)] [] M _
          refine z_xP zt141 34 12 [some (.ref a0), some (.ref 18), some (.int p2), some (.int b3), some (.int x35), some (.int b5), some (.int b6)] [] rfl rfl ?_
          exact ih.1 M b3 x35 (some (.int b5)) (some (.int b6)) z0 X ⟨by omega, by omega⟩ ⟨by omega, by omega⟩ hp0 ⟨by omega, by omega⟩ (by omega) (by omega)
        refine z_xP zt141 31 80 [some (.ref a0), some (.ref 18), some (.int p2), some (.int b3), some (.int b4), some (.int b5), some (.int b6)] [.int b5] rfl rfl ?_
        exact z_xri zt141 32 rfl zzr141 (kk b5 M X (by omega) (by omega) z0 hp0 ⟨by omega, by omega⟩)
      refine z_xP zt141 11 36 [some (.ref a0), some (.ref 18), some (.int p2), some (.int b3), some (.int b4), some (.int b5), some (.int b6)] [.int b3, .int b5] rfl rfl ?_
      refine z_xI zt141 12 rfl rfl (fun (x37 : Int32) (h38 : 0 ≤ x37.toInt ∧ x37.toInt ≤ 6 * b5.toInt) => ?_) (z_pM6 rfl rfl (by omega) (by omega) (by omega) (by omega))
      refine z_xP zt141 13 39 [some (.ref a0), some (.ref 18), some (.int p2), some (.int b3), some (.int b4), some (.int b5), some (.int b6)] [.int b4, .int x37] rfl rfl ?_
      refine z_xI zt141 14 rfl rfl (fun (x39 : Int32) (h40 : x39.toInt = x37.toInt + b4.toInt) => ?_) (z_pAdd rfl rfl (by omega) (by omega))
      refine z_xP zt141 15 42 [some (.ref a0), some (.ref 18), some (.int p2), some (.int b3), some (.int b4), some (.int x39), some (.int b6)] [] rfl rfl ?_
      refine z_xN zt141 16 rfl rfl (fun (x41 : Int32) (h42 : x41.toInt = b6.toInt + 1) => ?_) (z_pAdd rfl rfl (by omega) (by omega))
      show z_ev (d + 1) 141 45 [some (.ref a0), some (.ref 18), some (.int p2), some (.int b3), some (.int b4), some (.int x39), some (.int x41)] [] M _
      refine z_xP zt141 17 24 [some (.ref a0), some (.ref 18), some (.int p2), some (.int b3), some (.int b4), some (.int x39), some (.int x41)] [] rfl rfl ?_
      exact ih.2 M b3 b4 x39 x41 z0 X ⟨by omega, by omega⟩ ⟨by omega, by omega⟩ ⟨by omega, by omega⟩ ⟨by omega, by omega⟩ hp0 ⟨by omega, by omega⟩ (by omega) (by omega) (by omega) (by omega)
theorem zC141 {T : List zK} {d : Nat} {K : Option Value → zH → Prop} {a0 : Nat} {q : Nat} {t : Nat} {m : Nat} {p2 : Int32} {zp0 : Int32} {M0 : zH} (hW : z_W M0 T) (k0 : T[a0]? = some (.inl (3, q, t, m, 5))) (u2 : (-2147483648) ≤ p2.toInt ∧ p2.toInt ≤ 216) (hz0 : z_F M0 a0 4 = some (.int zp0)) (bz0 : 0 ≤ zp0.toInt ∧ zp0.toInt ≤ 3) (hb0 : m ≤ 6) (kk : ∀ (x : Int32) (M1 : zH), z_X T zw141 M0 M1 → (-2) ≤ x.toInt → x.toInt ≤ 215 → ∀ (w0 : Int32), z_F M1 a0 4 = some (.int w0) → 0 ≤ w0.toInt ∧ w0.toInt ≤ 3 → K (some (.int x)) M1) : z_ev (d + 1) 141 0 [some (.ref a0), some (.ref 18), some (.int p2), none, none, none, none] [] M0 K := by
  have X : z_X T zw141 M0 M0 := .refl hW
  have g0 := X.1.p3 k0
  refine z_xP zt141 0 1 [some (.ref a0), some (.ref 18), some (.int p2), none, none, none, none] [.ref a0] rfl rfl ?_
  refine z_xgR (κ := .inl (2, q, t, m, 0)) zt141 1 rfl zo141 zzf3_39 X k0 (by decide) (by decide) rfl (fun (a2 : Nat) h1 k3 => ?_)
  have g4 := X.1.p2 k3
  refine z_xgR (κ := .inr (102, 0, m, 0, 1023)) zt141 2 rfl zo141 zzf3_101 X k3 (by decide) (by decide) rfl (fun (a6 : Nat) h5 k7 => ?_)
  refine z_xln zt141 3 rfl X k7 (by decide) (by omega) (fun (x8 : Int32) (h9 : x8.toInt = ((m : Nat) : Int)) => ?_)
  refine z_xP zt141 4 12 [some (.ref a0), some (.ref 18), some (.int p2), some (.int x8), some (.int 0), none, none] [] rfl rfl ?_
  have q0 : ((0 : Int32)).toInt = 0 := rfl
  exact (zB141 k0 u2 hz0 bz0 hb0 kk 36900).1 M0 x8 (0) none none zp0 X ⟨by omega, by omega⟩ (by decide) hz0 ⟨by omega, by omega⟩ (by omega) (by omega)
