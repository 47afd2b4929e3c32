/-! the reference's agenda: what was founded has lawful sets -/
/-- the agendas that were founded have lawful sets -/
def z_A4 (M : zH) (A : Int) : Prop := ∀ r : Nat, (r : Int) < A → 1 ≤ (z_Ar M 31 r).toInt
theorem z_A4.ke {M M1 : zH} {A : Int} {T : List zK} {rs : List Nat} (h : z_A4 M A) (hX : z_ke T rs M M1) (k31 : T[31]? = some (.inr (31, 0, 8, 0, 1024))) (hr : ¬ 31 ∈ rs) : z_A4 M1 A := by
  unfold z_A4
  rw [hX.a k31 hr]
  exact h
theorem z_G4.ke {M M1 : zH} {T : List zK} {rs : List Nat} (h : z_G4 M) (hX : z_ke T rs M M1) (k19 : T[19]? = some (.inl (12, 0, 0, 0, 0))) (k31 : T[31]? = some (.inr (31, 0, 8, 0, 1024))) (hr : ¬ 2213 ∈ rs ∧ ¬ 31 ∈ rs) : z_G4 M1 := by
  unfold z_G4
  rw [hX.1 19 12 0 0 0 0 13 k19 hr.1, hX.a k31 hr.2]
  exact h
theorem z_G4.a4 {M : zH} {A : Int32} (h : z_G4 M) (hF : z_F M 19 13 = some (.int A)) : z_A4 M A.toInt := h A hF
theorem z_A4.g4 {M : zH} {A : Int32} {a : Int} (h : z_A4 M a) (hF : z_F M 19 13 = some (.int A)) (he : A.toInt = a) : z_G4 M := fun B hB r hr => by
  rw [hF] at hB
  cases hB
  exact h r (by omega)
theorem z_A4.one {M : zH} {x w : Int32} {a : Int} (h : z_A4 M a) (hw : z_Ar M 31 x.toNatClampNeg = w) (he : x.toInt = a) (h0 : 0 ≤ a) (h1 : 1 ≤ w.toInt) : z_A4 M (a + 1) := fun r hr => by
  by_cases hl : (r : Int) < a
  · exact h r hl
  · have e : r = x.toNatClampNeg := by unfold Int32.toNatClampNeg; omega
    rw [e, hw]
    exact h1
theorem z_A4.st {M M1 : zH} {x v : Int32} {a : Int} (h : z_A4 M a) (hw : z_Ar M1 31 = upd (z_Ar M 31) x.toNatClampNeg v) (he : x.toInt = a) (h0 : 0 ≤ a) : z_A4 M1 a := fun r hr => by
  have e : r ≠ x.toNatClampNeg := by unfold Int32.toNatClampNeg; omega
  rw [hw]
  unfold upd
  rw [if_neg e]
  exact h r hr
theorem zQB190 {T : List zK} {d : Nat} {K : Option Value → zH → Prop}  {M0 : zH} (hL : z_GL M0) (ha4 : z_G4 M0) (kk : ∀ (x : Int32) (M1 : zH), z_X T zw190 M0 M1 → z_GL M1 → z_G4 M1 → K (some (.int x)) M1) : ∀ n : Nat, (∀ (M : zH) (b1 : Int32) (z0 : Int32) (z1 : Int32), z_X T zw190 M0 M → 0 ≤ b1.toInt ∧ b1.toInt ≤ 7 → z_F M 19 13 = some (.int z0) → 0 ≤ z0.toInt ∧ z0.toInt ≤ 7 → z_F M 19 24 = some (.int z1) → 0 ≤ z1.toInt ∧ z1.toInt ≤ 160 → z0.toInt = b1.toInt → z_GL M → z_A4 M b1.toInt → ((((0) * 5 + 3) * 1025 + (160 - z1.toInt)) * 5 + 4) * 9 + (0) < (n : Int) → z_ev (d + 973) 190 80 [some (.ref 19), some (.int b1), none, none, none, none] [] M K) ∧ (∀ (M : zH) (b1 : Int32) (b2 : Int32) (b3 : Int32) (z0 : Int32), z_X T zw190 M0 M → 0 ≤ b1.toInt ∧ b1.toInt ≤ 7 → 0 ≤ b2.toInt ∧ b2.toInt ≤ 160 → 0 ≤ b3.toInt ∧ b3.toInt ≤ 160 → z_F M 19 13 = some (.int z0) → 0 ≤ z0.toInt ∧ z0.toInt ≤ 7 → z0.toInt = b1.toInt → z_GL M → z_A4 M b1.toInt → ((((0) * 5 + 2) * 1025 + (160 - b3.toInt)) * 5 + 4) * 9 + (0) < (n : Int) → z_ev (d + 973) 190 146 [some (.ref 19), some (.int b1), some (.int b2), some (.int b3), none, none] [] M K) ∧ (∀ (M : zH) (b1 : Int32) (b2 : Int32) (b3 : Int32) (o4 : Option Value) (o5 : Option Value) (z0 : Int32) (z1 : Int32) (z2 : Int32), z_X T zw190 M0 M → 0 ≤ b1.toInt ∧ b1.toInt ≤ 7 → 0 ≤ b2.toInt ∧ b2.toInt ≤ 160 → 0 ≤ b3.toInt ∧ b3.toInt ≤ 1024 → z_F M 19 13 = some (.int z0) → 0 ≤ z0.toInt ∧ z0.toInt ≤ 7 → z_Ar M 31 b1.toNatClampNeg = z1 → 0 ≤ z1.toInt ∧ z1.toInt ≤ 1024 → z_Ar M 24 b1.toNatClampNeg = z2 → 0 ≤ z2.toInt ∧ z2.toInt ≤ 10 → z0.toInt = b1.toInt → z1.toInt ≤ b3.toInt → z_GL M → z_A4 M b1.toInt → ((((0) * 5 + 1) * 1025 + (1024 - b3.toInt)) * 5 + 4) * 9 + (0) < (n : Int) → z_ev (d + 973) 190 191 [some (.ref 19), some (.int b1), some (.int b2), some (.int b3), o4, o5] [] M K) ∧ (∀ (M : zH) (b1 : Int32) (b2 : Int32) (b3 : Int32) (b4 : Int32) (b5 : Int32) (z0 : Int32) (z1 : Int32) (z2 : Int32), z_X T zw190 M0 M → 0 ≤ b1.toInt ∧ b1.toInt ≤ 7 → 0 ≤ b2.toInt ∧ b2.toInt ≤ 160 → 0 ≤ b3.toInt ∧ b3.toInt ≤ 1023 → 0 ≤ b4.toInt ∧ b4.toInt ≤ 255 → 0 ≤ b5.toInt ∧ b5.toInt ≤ 8 → z_F M 19 13 = some (.int z0) → 0 ≤ z0.toInt ∧ z0.toInt ≤ 7 → z_Ar M 31 b1.toNatClampNeg = z1 → 0 ≤ z1.toInt ∧ z1.toInt ≤ 1024 → z_Ar M 24 b1.toNatClampNeg = z2 → 0 ≤ z2.toInt ∧ z2.toInt ≤ 10 → z0.toInt = b1.toInt → z1.toInt ≤ b3.toInt → b3.toInt < 1024 → z_GL M → z_A4 M b1.toInt → ((((0) * 5 + 1) * 1025 + (1024 - b3.toInt)) * 5 + 0) * 9 + (8 - b5.toInt) < (n : Int) → z_ev (d + 973) 190 209 [some (.ref 19), some (.int b1), some (.int b2), some (.int b3), some (.int b4), some (.int b5)] [] M K) := by
  intro n
  induction n with
  | zero => exact ⟨(by intros; exfalso; omega), (by intros; exfalso; omega), (by intros; exfalso; omega), (by intros; exfalso; omega)⟩
  | succ n ih =>
    refine ⟨?_, ?_, ?_, ?_⟩
    · skip
      intro M b1 z0 z1 X hh0 hp0 hh2 hp1 hh4 hh5 hl hA4 hE
      refine z_xP zt190 37 83 [some (.ref 19), some (.int b1), none, none, none, none] [.int 59, .ref 19] rfl rfl ?_
      have f19 : T[19]? = some (.inl (12, 0, 0, 0, 0)) := X.1.k rfl (by decide)
      refine z_xcV (vs := [.ref 19, .int 59]) (r := []) (L2 := [some (.ref 19), some (.int 59)]) zt190 38 rfl zo190 zzcV12_147 (Or.inl rfl) rfl X f19 rfl rfl rfl (Nat.le_of_ble_eq_true rfl) zzm192 (Nat.le_of_ble_eq_true rfl) rfl ?_
      refine z_xP zt192 0 1 [some (.ref 19), some (.int 59)] [.ref 19] rfl rfl ?_
      refine z_xgI zt192 1 rfl zo192 zzf12_136 X f19 (by decide) (by decide) rfl (fun (x2 : Int32) h1 (h3 : (-2147483648) ≤ x2.toInt) (h4 : x2.toInt ≤ 2147483647) => ?_)
      refine z_xZ zt192 2 rfl rfl (fun (h5 : 0 ≤ x2.toInt) => ?_) (fun (h5 : x2.toInt < 0) => ?_)
      · skip
        refine z_xP zt192 7 16 [some (.ref 19), some (.int 59)] [.int 0] rfl rfl ?_
        refine z_xrz zt192 8 rfl zzr192 (by decide) (by decide) ?_
        show z_ev (d + 973) 190 86 [some (.ref 19), some (.int b1), none, none, none, none] [.int 0] M _
        refine z_xZ zt190 39 rfl rfl (fun (h6 : (0 : Int) = 0) => ?_) (fun (h6 : (0 : Int) ≠ 0) => absurd h6 (by omega))
        refine z_xP zt190 43 97 [some (.ref 19), some (.int b1), none, none, none, none] [.ref 19] rfl rfl ?_
        refine z_xgv zt190 44 rfl zo190 zzf12_136 X f19 (by decide) h1 ?_
        refine z_xZ zt190 45 rfl rfl (fun (h7 : 0 ≤ x2.toInt) => ?_) (fun (h7 : x2.toInt < 0) => absurd h7 (by omega))
        refine z_xP zt190 54 120 [some (.ref 19), some (.int b1), none, none, none, none] [.ref 19] rfl rfl ?_
        refine z_xgI zt190 55 rfl zo190 zzf12_120 X f19 (by decide) (by decide) rfl (fun (x9 : Int32) h8 (h10 : 0 ≤ x9.toInt) (h11 : x9.toInt ≤ 160) => ?_)
        refine z_xP zt190 56 126 [some (.ref 19), some (.int b1), some (.int x9), none, none, none] [.int 0, .ref 19] rfl rfl ?_
        have q0 : ((0 : Int32)).toInt = 0 := rfl
        refine z_xpf zt190 57 rfl zo190 zzf12_120 X f19 (by decide) (by decide) ⟨by omega, by omega⟩ rfl (by decide) zw12_1 (fun M12 X13 e14 h15 => ?_)
        refine z_xP zt190 58 130 [some (.ref 19), some (.int b1), some (.int x9), none, none, none] [.ref 19] rfl rfl ?_
        have h16 := (e14.f f19 (by decide) h1)
        refine z_xgv zt190 59 rfl zo190 zzf12_136 X13 f19 (by decide) h16 ?_
        refine z_xZ zt190 60 rfl rfl (fun (h17 : x2.toInt < 0) => absurd h17 (by omega)) (fun (h17 : 0 ≤ x2.toInt) => ?_)
        refine z_xP zt190 61 139 [some (.ref 19), some (.int b1), some (.int x9), none, none, none] [.ref 19, .int (-100)] rfl rfl ?_
        refine z_xgv zt190 62 rfl zo190 zzf12_136 X13 f19 (by decide) h16 ?_
        have h18 := z_b32 x2
        refine z_xI zt190 63 rfl rfl (P := fun _ => True) (fun (x19 : Int32) _ => ?_) trivial
        have f23 : T[23]? = some (.inr (23, 0, 80, (-2147483648), 2147483647)) := X13.1.k rfl (by decide)
        have f24 : T[24]? = some (.inr (24, 0, 8, 0, 10)) := X13.1.k rfl (by decide)
        have h21 := (e14.f f19 (by decide) hp0)
        have f31 : T[31]? = some (.inr (31, 0, 8, 0, 1024)) := X13.1.k rfl (by decide)
        exact z_xri zt190 64 rfl zzr190 (kk x19 M12 X13 (z_GL.ke hl e14 f23 f24 (by decide)) (z_A4.g4 (z_A4.ke hA4 e14 f31 (by decide)) h21 (by omega)))
      refine z_xP zt192 3 8 [some (.ref 19), some (.int 59)] [.ref 19] rfl rfl ?_
      refine z_xcV (vs := [.ref 19]) (r := []) (L2 := [some (.ref 19)]) zt192 4 rfl zo192 zzcV12_139 (Or.inl rfl) rfl X f19 rfl rfl rfl (Nat.le_of_ble_eq_true rfl) zzm193 (Nat.le_of_ble_eq_true rfl) rfl ?_
      refine z_xP zt193 0 1 [some (.ref 19)] [.ref 19] rfl rfl ?_
      refine z_xgv zt193 1 rfl zo193 zzf12_123 X f19 (by decide) hp1 ?_
      refine z_xP zt193 2 5 [some (.ref 19)] [.ref 19, .int z1] rfl rfl ?_
      refine z_xgI zt193 3 rfl zo193 zzf12_126 X f19 (by decide) (by decide) rfl (fun (x23 : Int32) h22 (h24 : 0 ≤ x23.toInt) (h25 : x23.toInt ≤ 160) => ?_)
      refine z_xJ zt193 4 rfl rfl (fun (h26 : x23.toInt ≤ z1.toInt) => ?_) (fun (h26 : z1.toInt < x23.toInt) => ?_)
      · skip
        refine z_xP zt193 24 52 [some (.ref 19)] [.int 0] rfl rfl ?_
        refine z_xri zt193 25 rfl zzr193 ?_
        show z_ev (d + 972) 192 11 [some (.ref 19), some (.int 59)] [.int 0] M _
        refine z_xP zt192 5 12 [some (.ref 19), some (.int 59)] [.int 59, .int 0] rfl rfl ?_
        refine z_xJ zt192 6 rfl rfl (fun (h27 : (0 : Int) = 59) => absurd h27 (by omega)) (fun (h27 : (0 : Int) ≠ 59) => ?_)
        refine z_xP zt192 7 16 [some (.ref 19), some (.int 59)] [.int 0] rfl rfl ?_
        refine z_xrz zt192 8 rfl zzr192 (by decide) (by decide) ?_
        show z_ev (d + 973) 190 86 [some (.ref 19), some (.int b1), none, none, none, none] [.int 0] M _
        refine z_xZ zt190 39 rfl rfl (fun (h28 : (0 : Int) = 0) => ?_) (fun (h28 : (0 : Int) ≠ 0) => absurd h28 (by omega))
        refine z_xP zt190 43 97 [some (.ref 19), some (.int b1), none, none, none, none] [.ref 19] rfl rfl ?_
        refine z_xgv zt190 44 rfl zo190 zzf12_136 X f19 (by decide) h1 ?_
        refine z_xZ zt190 45 rfl rfl (fun (h29 : 0 ≤ x2.toInt) => absurd h29 (by omega)) (fun (h29 : x2.toInt < 0) => ?_)
        refine z_xP zt190 46 104 [some (.ref 19), some (.int b1), none, none, none, none] [.ref 19] rfl rfl ?_
        refine z_xgv zt190 47 rfl zo190 zzf12_123 X f19 (by decide) hp1 ?_
        refine z_xP zt190 48 108 [some (.ref 19), some (.int b1), none, none, none, none] [.ref 19, .int z1] rfl rfl ?_
        refine z_xgv zt190 49 rfl zo190 zzf12_126 X f19 (by decide) h22 ?_
        refine z_xJ zt190 50 rfl rfl (fun (h30 : x23.toInt ≤ z1.toInt) => ?_) (fun (h30 : z1.toInt < x23.toInt) => ?_)
        · skip
          refine z_xP zt190 54 120 [some (.ref 19), some (.int b1), none, none, none, none] [.ref 19] rfl rfl ?_
          refine z_xgI zt190 55 rfl zo190 zzf12_120 X f19 (by decide) (by decide) rfl (fun (x32 : Int32) h31 (h33 : 0 ≤ x32.toInt) (h34 : x32.toInt ≤ 160) => ?_)
          refine z_xP zt190 56 126 [some (.ref 19), some (.int b1), some (.int x32), none, none, none] [.int 0, .ref 19] rfl rfl ?_
          have q0 : ((0 : Int32)).toInt = 0 := rfl
          refine z_xpf zt190 57 rfl zo190 zzf12_120 X f19 (by decide) (by decide) ⟨by omega, by omega⟩ rfl (by decide) zw12_1 (fun M35 X36 e37 h38 => ?_)
          refine z_xP zt190 58 130 [some (.ref 19), some (.int b1), some (.int x32), none, none, none] [.ref 19] rfl rfl ?_
          have h39 := (e37.f f19 (by decide) h1)
          refine z_xgv zt190 59 rfl zo190 zzf12_136 X36 f19 (by decide) h39 ?_
          refine z_xZ zt190 60 rfl rfl (fun (h40 : x2.toInt < 0) => ?_) (fun (h40 : 0 ≤ x2.toInt) => absurd h40 (by omega))
          refine z_xP zt190 65 146 [some (.ref 19), some (.int b1), some (.int x32), some (.int 0), none, none] [] rfl rfl ?_
          have h41 := (e37.f f19 (by decide) hp0)
          have f23 : T[23]? = some (.inr (23, 0, 80, (-2147483648), 2147483647)) := X36.1.k rfl (by decide)
          have f24 : T[24]? = some (.inr (24, 0, 8, 0, 10)) := X36.1.k rfl (by decide)
          have f31 : T[31]? = some (.inr (31, 0, 8, 0, 1024)) := X36.1.k rfl (by decide)
          have q0 : ((0 : Int32)).toInt = 0 := rfl
          exact ih.2.1 M35 b1 x32 (0) z0 X36 ⟨by omega, by omega⟩ ⟨by omega, by omega⟩ (by decide) h41 ⟨by omega, by omega⟩ (by omega) (z_GL.ke hl e37 f23 f24 (by decide)) (z_A4.ke hA4 e37 f31 (by decide)) (by omega)
        refine z_xP zt190 51 115 [some (.ref 19), some (.int b1), none, none, none, none] [.ref 19] rfl rfl ?_
        refine z_xcV (vs := [.ref 19]) (r := []) (L2 := [some (.ref 19)]) zt190 52 rfl zo190 zzcV12_163 (Or.inl rfl) rfl X f19 rfl rfl rfl (Nat.le_of_ble_eq_true rfl) zzm194 (Nat.le_of_ble_eq_true rfl) rfl ?_
        refine z_xP zt194 0 2 [some (.ref 19)] [.ref 19, .ref 19] rfl rfl ?_
        refine z_xgv zt194 1 rfl zo194 zzf12_136 X f19 (by decide) h1 ?_
        refine z_xZ zt194 2 rfl rfl (fun (h42 : 0 ≤ x2.toInt) => absurd h42 (by omega)) (fun (h42 : x2.toInt < 0) => ?_)
        refine z_xP zt194 3 9 [some (.ref 19)] [.ref 19, .ref 19] rfl rfl ?_
        refine z_xgv zt194 4 rfl zo194 zzf12_123 X f19 (by decide) hp1 ?_
        refine z_xP zt194 5 19 [some (.ref 19)] [.int z1, .ref 19] rfl rfl ?_
        refine z_xpf zt194 8 rfl zo194 zzf12_136 X f19 (by decide) (by decide) ⟨Int32.le_toInt _, Int32.toInt_le _⟩ rfl (by decide) zw12_26 (fun M43 X44 e45 h46 => ?_)
        refine z_xP zt194 9 23 [some (.ref 19)] [.int 0] rfl rfl ?_
        refine z_xrz zt194 10 rfl zzr194 (by decide) (by decide) ?_
        show z_ev (d + 973) 190 118 [some (.ref 19), some (.int b1), none, none, none, none] [.int 0] M43 _
        refine z_xP zt190 53 119 [some (.ref 19), some (.int b1), some (.int 0), none, none, none] [] rfl rfl ?_
        refine z_xP zt190 54 120 [some (.ref 19), some (.int b1), some (.int 0), none, none, none] [.ref 19] rfl rfl ?_
        refine z_xgI zt190 55 rfl zo190 zzf12_120 X44 f19 (by decide) (by decide) rfl (fun (x48 : Int32) h47 (h49 : 0 ≤ x48.toInt) (h50 : x48.toInt ≤ 160) => ?_)
        refine z_xP zt190 56 126 [some (.ref 19), some (.int b1), some (.int x48), none, none, none] [.int 0, .ref 19] rfl rfl ?_
        have q0 : ((0 : Int32)).toInt = 0 := rfl
        refine z_xpf zt190 57 rfl zo190 zzf12_120 X44 f19 (by decide) (by decide) ⟨by omega, by omega⟩ rfl (by decide) zw12_1 (fun M51 X52 e53 h54 => ?_)
        refine z_xP zt190 58 130 [some (.ref 19), some (.int b1), some (.int x48), none, none, none] [.ref 19] rfl rfl ?_
        have h55 := (e53.f f19 (by decide) h46)
        refine z_xgv zt190 59 rfl zo190 zzf12_136 X52 f19 (by decide) h55 ?_
        refine z_xZ zt190 60 rfl rfl (fun (h56 : z1.toInt < 0) => absurd h56 (by omega)) (fun (h56 : 0 ≤ z1.toInt) => ?_)
        refine z_xP zt190 61 139 [some (.ref 19), some (.int b1), some (.int x48), none, none, none] [.ref 19, .int (-100)] rfl rfl ?_
        refine z_xgv zt190 62 rfl zo190 zzf12_136 X52 f19 (by decide) h55 ?_
        refine z_xI zt190 63 rfl rfl (fun (x57 : Int32) (h58 : x57.toInt = (-100) - z1.toInt) => ?_) (z_pSub rfl rfl (by omega) (by omega))
        have f23 : T[23]? = some (.inr (23, 0, 80, (-2147483648), 2147483647)) := X52.1.k rfl (by decide)
        have f24 : T[24]? = some (.inr (24, 0, 8, 0, 10)) := X52.1.k rfl (by decide)
        have h59 := (e53.f f19 (by decide) (e45.f f19 (by decide) hp0))
        have f31 : T[31]? = some (.inr (31, 0, 8, 0, 1024)) := X52.1.k rfl (by decide)
        exact z_xri zt190 64 rfl zzr190 (kk x57 M51 X52 (z_GL.ke (z_GL.ke hl e45 f23 f24 (by decide)) e53 f23 f24 (by decide)) (z_A4.g4 (z_A4.ke (z_A4.ke hA4 e45 f31 (by decide)) e53 f31 (by decide)) h59 (by omega)))
      refine z_xP zt193 5 12 [some (.ref 19)] [.ref 19] rfl rfl ?_
      refine z_xgI zt193 6 rfl zo193 zzf12_129 X f19 (by decide) (by decide) rfl (fun (x61 : Int32) h60 (h62 : 0 ≤ x61.toInt) (h63 : x61.toInt ≤ 1) => ?_)
      refine z_xZ zt193 7 rfl rfl (fun (h64 : x61.toInt = 0) => ?_) (fun (h64 : x61.toInt ≠ 0) => ?_)
      · skip
        refine z_xP zt193 14 31 [some (.ref 19)] [.ref 19] rfl rfl ?_
        refine z_xgX (b := 21) zt193 15 rfl zo193 zzf12_13 X f19 (by decide) (by decide) rfl ?_
        refine z_xP zt193 16 38 [some (.ref 19)] [.ref 19, .int 160, .ref 21] rfl rfl ?_
        refine z_xgI zt193 17 rfl zo193 zzf12_133 X f19 (by decide) (by decide) rfl (fun (x66 : Int32) h65 (h67 : 0 ≤ x66.toInt) (h68 : x66.toInt ≤ 7) => ?_)
        refine z_xI zt193 18 rfl rfl (fun (x69 : Int32) (h70 : x69.toInt = 160 * x66.toInt) => ?_) (z_pMul rfl rfl (by omega) (by omega))
        refine z_xP zt193 19 43 [some (.ref 19)] [.ref 19, .int x69, .ref 21] rfl rfl ?_
        refine z_xgv zt193 20 rfl zo193 zzf12_123 X f19 (by decide) hp1 ?_
        refine z_xI zt193 21 rfl rfl (fun (x71 : Int32) (h72 : x71.toInt = x69.toInt + z1.toInt) => ?_) (z_pAdd rfl rfl (by omega) (by omega))
        have f21 : T[21]? = some (.inr (21, 0, 1280, (-2147483648), 2147483647)) := X.1.k rfl (by decide)
        refine z_xil zt193 22 rfl X f21 (by decide) (by omega) (by omega) (fun (x73 : Int32) h74 (h75 : (-2147483648) ≤ x73.toInt) (h76 : x73.toInt ≤ 2147483647) => ?_)
        refine z_xP zt193 23 52 [some (.ref 19)] [.int x73] rfl rfl ?_
        refine z_xri zt193 25 rfl zzr193 ?_
        show z_ev (d + 972) 192 11 [some (.ref 19), some (.int 59)] [.int x73] M _
        refine z_xP zt192 5 12 [some (.ref 19), some (.int 59)] [.int 59, .int x73] rfl rfl ?_
        refine z_xJ zt192 6 rfl rfl (fun (h77 : x73.toInt = 59) => ?_) (fun (h77 : x73.toInt ≠ 59) => ?_)
        · skip
          refine z_xP zt192 9 19 [some (.ref 19), some (.int 59)] [.ref 19, .ref 19] rfl rfl ?_
          refine z_xgv zt192 10 rfl zo192 zzf12_123 X f19 (by decide) hp1 ?_
          refine z_xP zt192 11 23 [some (.ref 19), some (.int 59)] [.int 1, .int z1, .ref 19] rfl rfl ?_
          refine z_xI zt192 12 rfl rfl (fun (x78 : Int32) (h79 : x78.toInt = z1.toInt + 1) => ?_) (z_pAdd rfl rfl (by omega) (by omega))
          refine z_xpf zt192 13 rfl zo192 zzf12_123 X f19 (by decide) (by decide) ⟨by omega, by omega⟩ rfl (by decide) zw12_24 (fun M80 X81 e82 h83 => ?_)
          refine z_xP zt192 14 28 [some (.ref 19), some (.int 59)] [.int 1] rfl rfl ?_
          refine z_xrz zt192 15 rfl zzr192 (by decide) (by decide) ?_
          show z_ev (d + 973) 190 86 [some (.ref 19), some (.int b1), none, none, none, none] [.int 1] M80 _
          refine z_xZ zt190 39 rfl rfl (fun (h84 : (1 : Int) = 0) => absurd h84 (by omega)) (fun (h84 : (1 : Int) ≠ 0) => ?_)
          refine z_xP zt190 40 90 [some (.ref 19), some (.int b1), none, none, none, none] [.ref 19] rfl rfl ?_
          refine z_xcV (vs := [.ref 19]) (r := []) (L2 := [some (.ref 19), none, none, none]) zt190 41 rfl zo190 zzcV12_199 (Or.inl rfl) rfl X81 f19 rfl rfl rfl (Nat.le_of_ble_eq_true rfl) zzm196 (Nat.le_of_ble_eq_true rfl) rfl ?_
          have f23 : T[23]? = some (.inr (23, 0, 80, (-2147483648), 2147483647)) := X81.1.k rfl (by decide)
          have f24 : T[24]? = some (.inr (24, 0, 8, 0, 10)) := X81.1.k rfl (by decide)
          refine zC196 X81.1 h83 ⟨by omega, by omega⟩ (z_GL.ke hl e82 f23 f24 (by decide)) (fun M85 X86 z87 h88 h89 h90 => ?_)
          have X91 := X81.go X86 (z_sb (by decide))
          show z_ev (d + 973) 190 93 [some (.ref 19), some (.int b1), none, none, none, none] [] M85 _
          refine z_xP zt190 42 80 [some (.ref 19), some (.int b1), none, none, none, none] [] rfl rfl ?_
          have h93 := (X86.2.f f19 (by decide) (e82.f f19 (by decide) hp0))
          have f31 : T[31]? = some (.inr (31, 0, 8, 0, 1024)) := X91.1.k rfl (by decide)
          exact ih.1 M85 b1 z0 z87 X91 ⟨by omega, by omega⟩ h93 ⟨by omega, by omega⟩ h88 ⟨by omega, by omega⟩ (by omega) (z_GL.ke (z_GL.ke hl e82 f23 f24 (by decide)) X86.2 f23 f24 (by decide)) (z_A4.ke (z_A4.ke hA4 e82 f31 (by decide)) X86.2 f31 (by decide)) (by omega)
        refine z_xP zt192 7 16 [some (.ref 19), some (.int 59)] [.int 0] rfl rfl ?_
        refine z_xrz zt192 8 rfl zzr192 (by decide) (by decide) ?_
        show z_ev (d + 973) 190 86 [some (.ref 19), some (.int b1), none, none, none, none] [.int 0] M _
        refine z_xZ zt190 39 rfl rfl (fun (h94 : (0 : Int) = 0) => ?_) (fun (h94 : (0 : Int) ≠ 0) => absurd h94 (by omega))
        refine z_xP zt190 43 97 [some (.ref 19), some (.int b1), none, none, none, none] [.ref 19] rfl rfl ?_
        refine z_xgv zt190 44 rfl zo190 zzf12_136 X f19 (by decide) h1 ?_
        refine z_xZ zt190 45 rfl rfl (fun (h95 : 0 ≤ x2.toInt) => absurd h95 (by omega)) (fun (h95 : x2.toInt < 0) => ?_)
        refine z_xP zt190 46 104 [some (.ref 19), some (.int b1), none, none, none, none] [.ref 19] rfl rfl ?_
        refine z_xgv zt190 47 rfl zo190 zzf12_123 X f19 (by decide) hp1 ?_
        refine z_xP zt190 48 108 [some (.ref 19), some (.int b1), none, none, none, none] [.ref 19, .int z1] rfl rfl ?_
        refine z_xgv zt190 49 rfl zo190 zzf12_126 X f19 (by decide) h22 ?_
        refine z_xJ zt190 50 rfl rfl (fun (h96 : x23.toInt ≤ z1.toInt) => ?_) (fun (h96 : z1.toInt < x23.toInt) => ?_)
        · skip
          refine z_xP zt190 54 120 [some (.ref 19), some (.int b1), none, none, none, none] [.ref 19] rfl rfl ?_
          refine z_xgI zt190 55 rfl zo190 zzf12_120 X f19 (by decide) (by decide) rfl (fun (x98 : Int32) h97 (h99 : 0 ≤ x98.toInt) (h100 : x98.toInt ≤ 160) => ?_)
          refine z_xP zt190 56 126 [some (.ref 19), some (.int b1), some (.int x98), none, none, none] [.int 0, .ref 19] rfl rfl ?_
          have q0 : ((0 : Int32)).toInt = 0 := rfl
          refine z_xpf zt190 57 rfl zo190 zzf12_120 X f19 (by decide) (by decide) ⟨by omega, by omega⟩ rfl (by decide) zw12_1 (fun M101 X102 e103 h104 => ?_)
          refine z_xP zt190 58 130 [some (.ref 19), some (.int b1), some (.int x98), none, none, none] [.ref 19] rfl rfl ?_
          have h105 := (e103.f f19 (by decide) h1)
          refine z_xgv zt190 59 rfl zo190 zzf12_136 X102 f19 (by decide) h105 ?_
          refine z_xZ zt190 60 rfl rfl (fun (h106 : x2.toInt < 0) => ?_) (fun (h106 : 0 ≤ x2.toInt) => absurd h106 (by omega))
          refine z_xP zt190 65 146 [some (.ref 19), some (.int b1), some (.int x98), some (.int 0), none, none] [] rfl rfl ?_
          have h107 := (e103.f f19 (by decide) hp0)
          have f23 : T[23]? = some (.inr (23, 0, 80, (-2147483648), 2147483647)) := X102.1.k rfl (by decide)
          have f24 : T[24]? = some (.inr (24, 0, 8, 0, 10)) := X102.1.k rfl (by decide)
          have f31 : T[31]? = some (.inr (31, 0, 8, 0, 1024)) := X102.1.k rfl (by decide)
          have q0 : ((0 : Int32)).toInt = 0 := rfl
          exact ih.2.1 M101 b1 x98 (0) z0 X102 ⟨by omega, by omega⟩ ⟨by omega, by omega⟩ (by decide) h107 ⟨by omega, by omega⟩ (by omega) (z_GL.ke hl e103 f23 f24 (by decide)) (z_A4.ke hA4 e103 f31 (by decide)) (by omega)
        refine z_xP zt190 51 115 [some (.ref 19), some (.int b1), none, none, none, none] [.ref 19] rfl rfl ?_
        refine z_xcV (vs := [.ref 19]) (r := []) (L2 := [some (.ref 19)]) zt190 52 rfl zo190 zzcV12_163 (Or.inl rfl) rfl X f19 rfl rfl rfl (Nat.le_of_ble_eq_true rfl) zzm194 (Nat.le_of_ble_eq_true rfl) rfl ?_
        refine z_xP zt194 0 2 [some (.ref 19)] [.ref 19, .ref 19] rfl rfl ?_
        refine z_xgv zt194 1 rfl zo194 zzf12_136 X f19 (by decide) h1 ?_
        refine z_xZ zt194 2 rfl rfl (fun (h108 : 0 ≤ x2.toInt) => absurd h108 (by omega)) (fun (h108 : x2.toInt < 0) => ?_)
        refine z_xP zt194 3 9 [some (.ref 19)] [.ref 19, .ref 19] rfl rfl ?_
        refine z_xgv zt194 4 rfl zo194 zzf12_123 X f19 (by decide) hp1 ?_
        refine z_xP zt194 5 19 [some (.ref 19)] [.int z1, .ref 19] rfl rfl ?_
        refine z_xpf zt194 8 rfl zo194 zzf12_136 X f19 (by decide) (by decide) ⟨Int32.le_toInt _, Int32.toInt_le _⟩ rfl (by decide) zw12_26 (fun M109 X110 e111 h112 => ?_)
        refine z_xP zt194 9 23 [some (.ref 19)] [.int 0] rfl rfl ?_
        refine z_xrz zt194 10 rfl zzr194 (by decide) (by decide) ?_
        show z_ev (d + 973) 190 118 [some (.ref 19), some (.int b1), none, none, none, none] [.int 0] M109 _
        refine z_xP zt190 53 119 [some (.ref 19), some (.int b1), some (.int 0), none, none, none] [] rfl rfl ?_
        refine z_xP zt190 54 120 [some (.ref 19), some (.int b1), some (.int 0), none, none, none] [.ref 19] rfl rfl ?_
        refine z_xgI zt190 55 rfl zo190 zzf12_120 X110 f19 (by decide) (by decide) rfl (fun (x114 : Int32) h113 (h115 : 0 ≤ x114.toInt) (h116 : x114.toInt ≤ 160) => ?_)
        refine z_xP zt190 56 126 [some (.ref 19), some (.int b1), some (.int x114), none, none, none] [.int 0, .ref 19] rfl rfl ?_
        have q0 : ((0 : Int32)).toInt = 0 := rfl
        refine z_xpf zt190 57 rfl zo190 zzf12_120 X110 f19 (by decide) (by decide) ⟨by omega, by omega⟩ rfl (by decide) zw12_1 (fun M117 X118 e119 h120 => ?_)
        refine z_xP zt190 58 130 [some (.ref 19), some (.int b1), some (.int x114), none, none, none] [.ref 19] rfl rfl ?_
        have h121 := (e119.f f19 (by decide) h112)
        refine z_xgv zt190 59 rfl zo190 zzf12_136 X118 f19 (by decide) h121 ?_
        refine z_xZ zt190 60 rfl rfl (fun (h122 : z1.toInt < 0) => absurd h122 (by omega)) (fun (h122 : 0 ≤ z1.toInt) => ?_)
        refine z_xP zt190 61 139 [some (.ref 19), some (.int b1), some (.int x114), none, none, none] [.ref 19, .int (-100)] rfl rfl ?_
        refine z_xgv zt190 62 rfl zo190 zzf12_136 X118 f19 (by decide) h121 ?_
        refine z_xI zt190 63 rfl rfl (fun (x123 : Int32) (h124 : x123.toInt = (-100) - z1.toInt) => ?_) (z_pSub rfl rfl (by omega) (by omega))
        have f23 : T[23]? = some (.inr (23, 0, 80, (-2147483648), 2147483647)) := X118.1.k rfl (by decide)
        have f24 : T[24]? = some (.inr (24, 0, 8, 0, 10)) := X118.1.k rfl (by decide)
        have h125 := (e119.f f19 (by decide) (e111.f f19 (by decide) hp0))
        have f31 : T[31]? = some (.inr (31, 0, 8, 0, 1024)) := X118.1.k rfl (by decide)
        exact z_xri zt190 64 rfl zzr190 (kk x123 M117 X118 (z_GL.ke (z_GL.ke hl e111 f23 f24 (by decide)) e119 f23 f24 (by decide)) (z_A4.g4 (z_A4.ke (z_A4.ke hA4 e111 f31 (by decide)) e119 f31 (by decide)) h125 (by omega)))
      refine z_xP zt193 8 19 [some (.ref 19)] [.ref 19] rfl rfl ?_
      refine z_xgX (b := 20) zt193 9 rfl zo193 zzf12_9 X f19 (by decide) (by decide) rfl ?_
      refine z_xP zt193 10 23 [some (.ref 19)] [.ref 19, .ref 20] rfl rfl ?_
      refine z_xgv zt193 11 rfl zo193 zzf12_123 X f19 (by decide) hp1 ?_
      have f20 : T[20]? = some (.inr (20, 0, 160, (-2147483648), 2147483647)) := X.1.k rfl (by decide)
      refine z_xil zt193 12 rfl X f20 (by decide) (by omega) (by omega) (fun (x126 : Int32) h127 (h128 : (-2147483648) ≤ x126.toInt) (h129 : x126.toInt ≤ 2147483647) => ?_)
      refine z_xP zt193 13 52 [some (.ref 19)] [.int x126] rfl rfl ?_
      refine z_xri zt193 25 rfl zzr193 ?_
      show z_ev (d + 972) 192 11 [some (.ref 19), some (.int 59)] [.int x126] M _
      refine z_xP zt192 5 12 [some (.ref 19), some (.int 59)] [.int 59, .int x126] rfl rfl ?_
      refine z_xJ zt192 6 rfl rfl (fun (h130 : x126.toInt = 59) => ?_) (fun (h130 : x126.toInt ≠ 59) => ?_)
      · skip
        refine z_xP zt192 9 19 [some (.ref 19), some (.int 59)] [.ref 19, .ref 19] rfl rfl ?_
        refine z_xgv zt192 10 rfl zo192 zzf12_123 X f19 (by decide) hp1 ?_
        refine z_xP zt192 11 23 [some (.ref 19), some (.int 59)] [.int 1, .int z1, .ref 19] rfl rfl ?_
        refine z_xI zt192 12 rfl rfl (fun (x131 : Int32) (h132 : x131.toInt = z1.toInt + 1) => ?_) (z_pAdd rfl rfl (by omega) (by omega))
        refine z_xpf zt192 13 rfl zo192 zzf12_123 X f19 (by decide) (by decide) ⟨by omega, by omega⟩ rfl (by decide) zw12_24 (fun M133 X134 e135 h136 => ?_)
        refine z_xP zt192 14 28 [some (.ref 19), some (.int 59)] [.int 1] rfl rfl ?_
        refine z_xrz zt192 15 rfl zzr192 (by decide) (by decide) ?_
        show z_ev (d + 973) 190 86 [some (.ref 19), some (.int b1), none, none, none, none] [.int 1] M133 _
        refine z_xZ zt190 39 rfl rfl (fun (h137 : (1 : Int) = 0) => absurd h137 (by omega)) (fun (h137 : (1 : Int) ≠ 0) => ?_)
        refine z_xP zt190 40 90 [some (.ref 19), some (.int b1), none, none, none, none] [.ref 19] rfl rfl ?_
        refine z_xcV (vs := [.ref 19]) (r := []) (L2 := [some (.ref 19), none, none, none]) zt190 41 rfl zo190 zzcV12_199 (Or.inl rfl) rfl X134 f19 rfl rfl rfl (Nat.le_of_ble_eq_true rfl) zzm196 (Nat.le_of_ble_eq_true rfl) rfl ?_
        have f23 : T[23]? = some (.inr (23, 0, 80, (-2147483648), 2147483647)) := X134.1.k rfl (by decide)
        have f24 : T[24]? = some (.inr (24, 0, 8, 0, 10)) := X134.1.k rfl (by decide)
        refine zC196 X134.1 h136 ⟨by omega, by omega⟩ (z_GL.ke hl e135 f23 f24 (by decide)) (fun M138 X139 z140 h141 h142 h143 => ?_)
        have X144 := X134.go X139 (z_sb (by decide))
        show z_ev (d + 973) 190 93 [some (.ref 19), some (.int b1), none, none, none, none] [] M138 _
        refine z_xP zt190 42 80 [some (.ref 19), some (.int b1), none, none, none, none] [] rfl rfl ?_
        have h146 := (X139.2.f f19 (by decide) (e135.f f19 (by decide) hp0))
        have f31 : T[31]? = some (.inr (31, 0, 8, 0, 1024)) := X144.1.k rfl (by decide)
        exact ih.1 M138 b1 z0 z140 X144 ⟨by omega, by omega⟩ h146 ⟨by omega, by omega⟩ h141 ⟨by omega, by omega⟩ (by omega) (z_GL.ke (z_GL.ke hl e135 f23 f24 (by decide)) X139.2 f23 f24 (by decide)) (z_A4.ke (z_A4.ke hA4 e135 f31 (by decide)) X139.2 f31 (by decide)) (by omega)
      refine z_xP zt192 7 16 [some (.ref 19), some (.int 59)] [.int 0] rfl rfl ?_
      refine z_xrz zt192 8 rfl zzr192 (by decide) (by decide) ?_
      show z_ev (d + 973) 190 86 [some (.ref 19), some (.int b1), none, none, none, none] [.int 0] M _
      refine z_xZ zt190 39 rfl rfl (fun (h147 : (0 : Int) = 0) => ?_) (fun (h147 : (0 : Int) ≠ 0) => absurd h147 (by omega))
      refine z_xP zt190 43 97 [some (.ref 19), some (.int b1), none, none, none, none] [.ref 19] rfl rfl ?_
      refine z_xgv zt190 44 rfl zo190 zzf12_136 X f19 (by decide) h1 ?_
      refine z_xZ zt190 45 rfl rfl (fun (h148 : 0 ≤ x2.toInt) => absurd h148 (by omega)) (fun (h148 : x2.toInt < 0) => ?_)
      refine z_xP zt190 46 104 [some (.ref 19), some (.int b1), none, none, none, none] [.ref 19] rfl rfl ?_
      refine z_xgv zt190 47 rfl zo190 zzf12_123 X f19 (by decide) hp1 ?_
      refine z_xP zt190 48 108 [some (.ref 19), some (.int b1), none, none, none, none] [.ref 19, .int z1] rfl rfl ?_
      refine z_xgv zt190 49 rfl zo190 zzf12_126 X f19 (by decide) h22 ?_
      refine z_xJ zt190 50 rfl rfl (fun (h149 : x23.toInt ≤ z1.toInt) => ?_) (fun (h149 : z1.toInt < x23.toInt) => ?_)
      · skip
        refine z_xP zt190 54 120 [some (.ref 19), some (.int b1), none, none, none, none] [.ref 19] rfl rfl ?_
        refine z_xgI zt190 55 rfl zo190 zzf12_120 X f19 (by decide) (by decide) rfl (fun (x151 : Int32) h150 (h152 : 0 ≤ x151.toInt) (h153 : x151.toInt ≤ 160) => ?_)
        refine z_xP zt190 56 126 [some (.ref 19), some (.int b1), some (.int x151), none, none, none] [.int 0, .ref 19] rfl rfl ?_
        have q0 : ((0 : Int32)).toInt = 0 := rfl
        refine z_xpf zt190 57 rfl zo190 zzf12_120 X f19 (by decide) (by decide) ⟨by omega, by omega⟩ rfl (by decide) zw12_1 (fun M154 X155 e156 h157 => ?_)
        refine z_xP zt190 58 130 [some (.ref 19), some (.int b1), some (.int x151), none, none, none] [.ref 19] rfl rfl ?_
        have h158 := (e156.f f19 (by decide) h1)
        refine z_xgv zt190 59 rfl zo190 zzf12_136 X155 f19 (by decide) h158 ?_
        refine z_xZ zt190 60 rfl rfl (fun (h159 : x2.toInt < 0) => ?_) (fun (h159 : 0 ≤ x2.toInt) => absurd h159 (by omega))
        refine z_xP zt190 65 146 [some (.ref 19), some (.int b1), some (.int x151), some (.int 0), none, none] [] rfl rfl ?_
        have h160 := (e156.f f19 (by decide) hp0)
        have f23 : T[23]? = some (.inr (23, 0, 80, (-2147483648), 2147483647)) := X155.1.k rfl (by decide)
        have f24 : T[24]? = some (.inr (24, 0, 8, 0, 10)) := X155.1.k rfl (by decide)
        have f31 : T[31]? = some (.inr (31, 0, 8, 0, 1024)) := X155.1.k rfl (by decide)
        have q0 : ((0 : Int32)).toInt = 0 := rfl
        exact ih.2.1 M154 b1 x151 (0) z0 X155 ⟨by omega, by omega⟩ ⟨by omega, by omega⟩ (by decide) h160 ⟨by omega, by omega⟩ (by omega) (z_GL.ke hl e156 f23 f24 (by decide)) (z_A4.ke hA4 e156 f31 (by decide)) (by omega)
      refine z_xP zt190 51 115 [some (.ref 19), some (.int b1), none, none, none, none] [.ref 19] rfl rfl ?_
      refine z_xcV (vs := [.ref 19]) (r := []) (L2 := [some (.ref 19)]) zt190 52 rfl zo190 zzcV12_163 (Or.inl rfl) rfl X f19 rfl rfl rfl (Nat.le_of_ble_eq_true rfl) zzm194 (Nat.le_of_ble_eq_true rfl) rfl ?_
      refine z_xP zt194 0 2 [some (.ref 19)] [.ref 19, .ref 19] rfl rfl ?_
      refine z_xgv zt194 1 rfl zo194 zzf12_136 X f19 (by decide) h1 ?_
      refine z_xZ zt194 2 rfl rfl (fun (h161 : 0 ≤ x2.toInt) => absurd h161 (by omega)) (fun (h161 : x2.toInt < 0) => ?_)
      refine z_xP zt194 3 9 [some (.ref 19)] [.ref 19, .ref 19] rfl rfl ?_
      refine z_xgv zt194 4 rfl zo194 zzf12_123 X f19 (by decide) hp1 ?_
      refine z_xP zt194 5 19 [some (.ref 19)] [.int z1, .ref 19] rfl rfl ?_
      refine z_xpf zt194 8 rfl zo194 zzf12_136 X f19 (by decide) (by decide) ⟨Int32.le_toInt _, Int32.toInt_le _⟩ rfl (by decide) zw12_26 (fun M162 X163 e164 h165 => ?_)
      refine z_xP zt194 9 23 [some (.ref 19)] [.int 0] rfl rfl ?_
      refine z_xrz zt194 10 rfl zzr194 (by decide) (by decide) ?_
      show z_ev (d + 973) 190 118 [some (.ref 19), some (.int b1), none, none, none, none] [.int 0] M162 _
      refine z_xP zt190 53 119 [some (.ref 19), some (.int b1), some (.int 0), none, none, none] [] rfl rfl ?_
      refine z_xP zt190 54 120 [some (.ref 19), some (.int b1), some (.int 0), none, none, none] [.ref 19] rfl rfl ?_
      refine z_xgI zt190 55 rfl zo190 zzf12_120 X163 f19 (by decide) (by decide) rfl (fun (x167 : Int32) h166 (h168 : 0 ≤ x167.toInt) (h169 : x167.toInt ≤ 160) => ?_)
      refine z_xP zt190 56 126 [some (.ref 19), some (.int b1), some (.int x167), none, none, none] [.int 0, .ref 19] rfl rfl ?_
      have q0 : ((0 : Int32)).toInt = 0 := rfl
      refine z_xpf zt190 57 rfl zo190 zzf12_120 X163 f19 (by decide) (by decide) ⟨by omega, by omega⟩ rfl (by decide) zw12_1 (fun M170 X171 e172 h173 => ?_)
      refine z_xP zt190 58 130 [some (.ref 19), some (.int b1), some (.int x167), none, none, none] [.ref 19] rfl rfl ?_
      have h174 := (e172.f f19 (by decide) h165)
      refine z_xgv zt190 59 rfl zo190 zzf12_136 X171 f19 (by decide) h174 ?_
      refine z_xZ zt190 60 rfl rfl (fun (h175 : z1.toInt < 0) => absurd h175 (by omega)) (fun (h175 : 0 ≤ z1.toInt) => ?_)
      refine z_xP zt190 61 139 [some (.ref 19), some (.int b1), some (.int x167), none, none, none] [.ref 19, .int (-100)] rfl rfl ?_
      refine z_xgv zt190 62 rfl zo190 zzf12_136 X171 f19 (by decide) h174 ?_
      refine z_xI zt190 63 rfl rfl (fun (x176 : Int32) (h177 : x176.toInt = (-100) - z1.toInt) => ?_) (z_pSub rfl rfl (by omega) (by omega))
      have f23 : T[23]? = some (.inr (23, 0, 80, (-2147483648), 2147483647)) := X171.1.k rfl (by decide)
      have f24 : T[24]? = some (.inr (24, 0, 8, 0, 10)) := X171.1.k rfl (by decide)
      have h178 := (e172.f f19 (by decide) (e164.f f19 (by decide) hp0))
      have f31 : T[31]? = some (.inr (31, 0, 8, 0, 1024)) := X171.1.k rfl (by decide)
      exact z_xri zt190 64 rfl zzr190 (kk x176 M170 X171 (z_GL.ke (z_GL.ke hl e164 f23 f24 (by decide)) e172 f23 f24 (by decide)) (z_A4.g4 (z_A4.ke (z_A4.ke hA4 e164 f31 (by decide)) e172 f31 (by decide)) h178 (by omega)))
    · skip
      intro M b1 b2 b3 z0 X hh0 hh1 hh2 hp0 hh4 hh5 hl hA4 hE
      refine z_xP zt190 66 148 [some (.ref 19), some (.int b1), some (.int b2), some (.int b3), none, none] [.int b2, .int b3] rfl rfl ?_
      refine z_xJ zt190 67 rfl rfl (fun (h1 : b2.toInt ≤ b3.toInt) => ?_) (fun (h1 : b3.toInt < b2.toInt) => ?_)
      · skip
        refine z_xP zt190 81 176 [some (.ref 19), some (.int b1), some (.int b2), some (.int b3), none, none] [.ref 19] rfl rfl ?_
        have f19 : T[19]? = some (.inl (12, 0, 0, 0, 0)) := X.1.k rfl (by decide)
        refine z_xgX (b := 22) zt190 82 rfl zo190 zzf12_16 X f19 (by decide) (by decide) rfl ?_
        refine z_xP zt190 83 181 [some (.ref 19), some (.int b1), some (.int b2), some (.int b3), none, none] [.int b2, .int b1, .ref 22] rfl rfl ?_
        have f22 : T[22]? = some (.inr (22, 0, 8, 0, 160)) := X.1.k rfl (by decide)
        refine z_xis zt190 84 rfl X f22 (by decide) (by decide) (by omega) (by omega) (by omega) (by omega) (by decide) (fun M2 X3 e4 h5 => ?_)
        refine z_xP zt190 85 183 [some (.ref 19), some (.int b1), some (.int b2), some (.int b3), none, none] [.ref 19] rfl rfl ?_
        refine z_xgX (b := 31) zt190 86 rfl zo190 zzf12_43 X3 f19 (by decide) (by decide) rfl ?_
        refine z_xP zt190 87 188 [some (.ref 19), some (.int b1), some (.int b2), some (.int b3), none, none] [.int 0, .int b1, .ref 31] rfl rfl ?_
        have f31 : T[31]? = some (.inr (31, 0, 8, 0, 1024)) := X3.1.k rfl (by decide)
        have q0 : ((0 : Int32)).toInt = 0 := rfl
        refine z_xis zt190 88 rfl X3 f31 (by decide) (by decide) (by omega) (by omega) (by omega) (by omega) (by decide) (fun M6 X7 e8 h9 => ?_)
        have h10 := z_A4.st (z_A4.ke hA4 e4 f31 (by decide)) h9 rfl (by omega)
        refine z_xP zt190 89 191 [some (.ref 19), some (.int b1), some (.int b2), some (.int 0), none, none] [] rfl rfl ?_
        have h11 := (e8.f f19 (by decide) (e4.f f19 (by decide) hp0))
        have q0 : ((0 : Int32)).toInt = 0 := rfl
        have f24 : T[24]? = some (.inr (24, 0, 8, 0, 10)) := X7.1.k rfl (by decide)
        obtain ⟨x12, h13, h14, h15⟩ := z_W.ae (x := b1) X7.1 f24 (by decide) (by omega) (by omega)
        have f23 : T[23]? = some (.inr (23, 0, 80, (-2147483648), 2147483647)) := X7.1.k rfl (by decide)
        have q0 : ((0 : Int32)).toInt = 0 := rfl
        exact ih.2.2.1 M6 b1 b2 (0) none none z0 (0) x12 X7 ⟨by omega, by omega⟩ ⟨by omega, by omega⟩ (by decide) h11 ⟨by omega, by omega⟩ (z_upe h9) (by decide) h13 ⟨by omega, by omega⟩ (by omega) (by omega) (z_GL.ke (z_GL.ke hl e4 f23 f24 (by decide)) e8 f23 f24 (by decide)) h10 (by omega)
      refine z_xP zt190 68 152 [some (.ref 19), some (.int b1), some (.int b2), some (.int b3), none, none] [.ref 19] rfl rfl ?_
      have f19 : T[19]? = some (.inl (12, 0, 0, 0, 0)) := X.1.k rfl (by decide)
      refine z_xgX (b := 21) zt190 69 rfl zo190 zzf12_13 X f19 (by decide) (by decide) rfl ?_
      refine z_xP zt190 70 159 [some (.ref 19), some (.int b1), some (.int b2), some (.int b3), none, none] [.int b1, .int 160, .ref 21] rfl rfl ?_
      refine z_xI zt190 71 rfl rfl (fun (x16 : Int32) (h17 : x16.toInt = 160 * b1.toInt) => ?_) (z_pMul rfl rfl (by omega) (by omega))
      refine z_xP zt190 72 161 [some (.ref 19), some (.int b1), some (.int b2), some (.int b3), none, none] [.int b3, .int x16, .ref 21] rfl rfl ?_
      refine z_xI zt190 73 rfl rfl (fun (x18 : Int32) (h19 : x18.toInt = x16.toInt + b3.toInt) => ?_) (z_pAdd rfl rfl (by omega) (by omega))
      refine z_xP zt190 74 163 [some (.ref 19), some (.int b1), some (.int b2), some (.int b3), none, none] [.ref 19, .int x18, .ref 21] rfl rfl ?_
      refine z_xgX (b := 20) zt190 75 rfl zo190 zzf12_9 X f19 (by decide) (by decide) rfl ?_
      refine z_xP zt190 76 167 [some (.ref 19), some (.int b1), some (.int b2), some (.int b3), none, none] [.int b3, .ref 20, .int x18, .ref 21] rfl rfl ?_
      have f20 : T[20]? = some (.inr (20, 0, 160, (-2147483648), 2147483647)) := X.1.k rfl (by decide)
      refine z_xil zt190 77 rfl X f20 (by decide) (by omega) (by omega) (fun (x20 : Int32) h21 (h22 : (-2147483648) ≤ x20.toInt) (h23 : x20.toInt ≤ 2147483647) => ?_)
      have f21 : T[21]? = some (.inr (21, 0, 1280, (-2147483648), 2147483647)) := X.1.k rfl (by decide)
      refine z_xis zt190 78 rfl X f21 (by decide) (by decide) (by omega) (by omega) (Int32.le_toInt _) (Int32.toInt_le _) (by decide) (fun M24 X25 e26 h27 => ?_)
      refine z_xN zt190 79 rfl rfl (fun (x28 : Int32) (h29 : x28.toInt = b3.toInt + 1) => ?_) (z_pAdd rfl rfl (by omega) (by omega))
      show z_ev (d + 973) 190 172 [some (.ref 19), some (.int b1), some (.int b2), some (.int x28), none, none] [] M24 _
      refine z_xP zt190 80 146 [some (.ref 19), some (.int b1), some (.int b2), some (.int x28), none, none] [] rfl rfl ?_
      have h30 := (e26.f f19 (by decide) hp0)
      have f23 : T[23]? = some (.inr (23, 0, 80, (-2147483648), 2147483647)) := X25.1.k rfl (by decide)
      have f24 : T[24]? = some (.inr (24, 0, 8, 0, 10)) := X25.1.k rfl (by decide)
      have f31 : T[31]? = some (.inr (31, 0, 8, 0, 1024)) := X25.1.k rfl (by decide)
      exact ih.2.1 M24 b1 b2 x28 z0 X25 ⟨by omega, by omega⟩ ⟨by omega, by omega⟩ ⟨by omega, by omega⟩ h30 ⟨by omega, by omega⟩ (by omega) (z_GL.ke hl e26 f23 f24 (by decide)) (z_A4.ke hA4 e26 f31 (by decide)) (by omega)
    · skip
      intro M b1 b2 b3 o4 o5 z0 z1 z2 X hh0 hh1 hh2 hp0 hh4 hp1 hh6 hp2 hh8 hh9 hh10 hl hA4 hE
      refine z_xP zt190 90 194 [some (.ref 19), some (.int b1), some (.int b2), some (.int b3), o4, o5] [.ref 19, .int 1, .int b3] rfl rfl ?_
      have f19 : T[19]? = some (.inl (12, 0, 0, 0, 0)) := X.1.k rfl (by decide)
      refine z_xgX (b := 24) zt190 91 rfl zo190 zzf12_22 X f19 (by decide) (by decide) rfl ?_
      refine z_xP zt190 92 198 [some (.ref 19), some (.int b1), some (.int b2), some (.int b3), o4, o5] [.int b1, .ref 24, .int 1, .int b3] rfl rfl ?_
      have f24 : T[24]? = some (.inr (24, 0, 8, 0, 10)) := X.1.k rfl (by decide)
      refine z_xil zt190 93 rfl X f24 (by decide) (by omega) (by omega) (fun (x1 : Int32) h2 (h3 : 0 ≤ x1.toInt) (h4 : x1.toInt ≤ 10) => ?_)
      have h5 := congrArg Int32.toInt (h2.symm.trans hp2)
      refine z_xI zt190 94 rfl rfl (fun (x6 : Int32) (h7 : 1 ≤ x6.toInt ∧ x6.toInt ≤ 1024) => ?_) (z_pShlB (a := 1) (b := 10) (c := 1024) (r := 1024) rfl rfl (by omega) (by omega) (by omega) (by omega) (by decide) (by decide) (by decide) (by decide))
      refine z_xJ zt190 95 rfl rfl (fun (h8 : x6.toInt ≤ b3.toInt) => ?_) (fun (h8 : b3.toInt < x6.toInt) => ?_)
      · skip
        refine z_xP zt190 142 304 [some (.ref 19), some (.int b1), some (.int b2), some (.int b3), o4, o5] [.ref 19] rfl rfl ?_
        refine z_xgX (b := 31) zt190 143 rfl zo190 zzf12_43 X f19 (by decide) (by decide) rfl ?_
        refine z_xP zt190 144 308 [some (.ref 19), some (.int b1), some (.int b2), some (.int b3), o4, o5] [.int b1, .ref 31] rfl rfl ?_
        have f31 : T[31]? = some (.inr (31, 0, 8, 0, 1024)) := X.1.k rfl (by decide)
        refine z_xil zt190 145 rfl X f31 (by decide) (by omega) (by omega) (fun (x9 : Int32) h10 (h11 : 0 ≤ x9.toInt) (h12 : x9.toInt ≤ 1024) => ?_)
        have h13 := congrArg Int32.toInt (h10.symm.trans hp1)
        refine z_xZ zt190 146 rfl rfl (fun (h14 : x9.toInt ≠ 0) => ?_) (fun (h14 : x9.toInt = 0) => ?_)
        · skip
          refine z_xP zt190 151 323 [some (.ref 19), some (.int b1), some (.int b2), some (.int b3), o4, o5] [.ref 19] rfl rfl ?_
          refine z_xgX (b := 35) zt190 152 rfl zo190 zzf12_55 X f19 (by decide) (by decide) rfl ?_
          refine z_xP zt190 153 328 [some (.ref 19), some (.int b1), some (.int b2), some (.int b3), o4, o5] [.int 0, .int b1, .ref 35] rfl rfl ?_
          have f35 : T[35]? = some (.inr (35, 0, 8, 0, 9)) := X.1.k rfl (by decide)
          have q0 : ((0 : Int32)).toInt = 0 := rfl
          refine z_xis zt190 154 rfl X f35 (by decide) (by decide) (by omega) (by omega) (by omega) (by omega) (by decide) (fun M15 X16 e17 h18 => ?_)
          refine z_xP zt190 155 331 [some (.ref 19), some (.int b1), some (.int b2), some (.int b3), o4, o5] [.ref 19, .ref 19] rfl rfl ?_
          have h19 := (e17.f f19 (by decide) hp0)
          refine z_xgv zt190 156 rfl zo190 zzf12_110 X16 f19 (by decide) h19 ?_
          refine z_xP zt190 157 335 [some (.ref 19), some (.int b1), some (.int b2), some (.int b3), o4, o5] [.int 1, .int z0, .ref 19] rfl rfl ?_
          refine z_xI zt190 158 rfl rfl (fun (x20 : Int32) (h21 : x20.toInt = z0.toInt + 1) => ?_) (z_pAdd rfl rfl (by omega) (by omega))
          refine z_xpf zt190 159 rfl zo190 zzf12_110 X16 f19 (by decide) (by decide) ⟨by omega, by omega⟩ rfl (by decide) zw12_13 (fun M22 X23 e24 h25 => ?_)
          refine z_xP zt190 160 340 [some (.ref 19), some (.int b1), some (.int b2), some (.int b3), o4, o5] [.int b1] rfl rfl ?_
          have f23 : T[23]? = some (.inr (23, 0, 80, (-2147483648), 2147483647)) := X23.1.k rfl (by decide)
          have h26 := ((congrFun (e24.a f31 (by decide)) _).trans ((congrFun (e17.a f31 (by decide)) _).trans hp1))
          exact z_xri zt190 161 rfl zzr190 (kk b1 M22 X23 (z_GL.ke (z_GL.ke hl e17 f23 f24 (by decide)) e24 f23 f24 (by decide)) (z_A4.g4 (z_A4.one (x := b1) (z_A4.ke (z_A4.ke hA4 e17 f31 (by decide)) e24 f31 (by decide)) h26 rfl (by omega) (by omega)) h25 (by omega)))
        refine z_xP zt190 147 317 [some (.ref 19), some (.int b1), some (.int b2), some (.int b3), o4, o5] [.int b1, .ref 19, .int (-1000)] rfl rfl ?_
        refine z_xcV (vs := [.ref 19, .int b1]) (r := [.int (-1000)]) (L2 := [some (.ref 19), some (.int b1), none, none, none, none]) zt190 148 rfl zo190 zzcV12_206 (Or.inl rfl) rfl X f19 rfl rfl rfl (Nat.le_of_ble_eq_true rfl) zzm206 (Nat.le_of_ble_eq_true rfl) rfl ?_
        refine zC206 X.1 (by omega) (fun x29 M27 X28 h30 h31 => ?_)
        have X32 := X.go X28 (z_sb (by decide))
        show z_ev (d + 973) 190 320 [some (.ref 19), some (.int b1), some (.int b2), some (.int b3), o4, o5] [.int x29, .int (-1000)] M27 _
        refine z_xI zt190 149 rfl rfl (fun (x34 : Int32) (h35 : x34.toInt = (-1000) - x29.toInt) => ?_) (z_pSub rfl rfl (by omega) (by omega))
        have f23 : T[23]? = some (.inr (23, 0, 80, (-2147483648), 2147483647)) := X32.1.k rfl (by decide)
        have h36 := (X28.2.f f19 (by decide) hp0)
        exact z_xri zt190 150 rfl zzr190 (kk x34 M27 X32 (z_GL.ke hl X28.2 f23 f24 (by decide)) (z_A4.g4 (z_A4.ke hA4 X28.2 f31 (by decide)) h36 (by omega)))
      refine z_xP zt190 96 209 [some (.ref 19), some (.int b1), some (.int b2), some (.int b3), some (.int 0), some (.int 0)] [] rfl rfl ?_
      have f31 : T[31]? = some (.inr (31, 0, 8, 0, 1024)) := X.1.k rfl (by decide)
      have q0 : ((0 : Int32)).toInt = 0 := rfl
      exact ih.2.2.2 M b1 b2 b3 (0) (0) z0 z1 z2 X ⟨by omega, by omega⟩ ⟨by omega, by omega⟩ ⟨by omega, by omega⟩ (by decide) (by decide) hp0 ⟨by omega, by omega⟩ hp1 ⟨by omega, by omega⟩ hp2 ⟨by omega, by omega⟩ (by omega) (by omega) (by omega) hl hA4 (by omega)
    · skip
      intro M b1 b2 b3 b4 b5 z0 z1 z2 X hh0 hh1 hh2 hh3 hh4 hp0 hh6 hp1 hh8 hp2 hh10 hh11 hh12 hh13 hl hA4 hE
      refine z_xP zt190 97 212 [some (.ref 19), some (.int b1), some (.int b2), some (.int b3), some (.int b4), some (.int b5)] [.ref 19, .int b5] rfl rfl ?_
      have f19 : T[19]? = some (.inl (12, 0, 0, 0, 0)) := X.1.k rfl (by decide)
      refine z_xgX (b := 25) zt190 98 rfl zo190 zzf12_25 X f19 (by decide) (by decide) rfl ?_
      refine z_xP zt190 99 216 [some (.ref 19), some (.int b1), some (.int b2), some (.int b3), some (.int b4), some (.int b5)] [.int b1, .ref 25, .int b5] rfl rfl ?_
      have f25 : T[25]? = some (.inr (25, 0, 8, 0, 8)) := X.1.k rfl (by decide)
      refine z_xil zt190 100 rfl X f25 (by decide) (by omega) (by omega) (fun (x1 : Int32) h2 (h3 : 0 ≤ x1.toInt) (h4 : x1.toInt ≤ 8) => ?_)
      refine z_xJ zt190 101 rfl rfl (fun (h5 : x1.toInt ≤ b5.toInt) => ?_) (fun (h5 : b5.toInt < x1.toInt) => ?_)
      · skip
        refine z_xP zt190 112 251 [some (.ref 19), some (.int b1), some (.int b2), some (.int b3), some (.int b4), some (.int b5)] [.ref 19] rfl rfl ?_
        refine z_xgX (b := 29) zt190 113 rfl zo190 zzf12_37 X f19 (by decide) (by decide) rfl ?_
        refine z_xP zt190 114 258 [some (.ref 19), some (.int b1), some (.int b2), some (.int b3), some (.int b4), some (.int b5)] [.int b1, .int 1024, .ref 29] rfl rfl ?_
        refine z_xI zt190 115 rfl rfl (fun (x6 : Int32) (h7 : x6.toInt = 1024 * b1.toInt) => ?_) (z_pMul rfl rfl (by omega) (by omega))
        refine z_xP zt190 116 260 [some (.ref 19), some (.int b1), some (.int b2), some (.int b3), some (.int b4), some (.int b5)] [.int b3, .int x6, .ref 29] rfl rfl ?_
        refine z_xI zt190 117 rfl rfl (fun (x8 : Int32) (h9 : x8.toInt = x6.toInt + b3.toInt) => ?_) (z_pAdd rfl rfl (by omega) (by omega))
        refine z_xP zt190 118 263 [some (.ref 19), some (.int b1), some (.int b2), some (.int b3), some (.int b4), some (.int b5)] [.int b4, .int x8, .ref 29] rfl rfl ?_
        have f29 : T[29]? = some (.inr (29, 0, 8192, (-2147483648), 2147483647)) := X.1.k rfl (by decide)
        refine z_xis zt190 119 rfl X f29 (by decide) (by decide) (by omega) (by omega) (Int32.le_toInt _) (Int32.toInt_le _) (by decide) (fun M10 X11 e12 h13 => ?_)
        refine z_xP zt190 120 266 [some (.ref 19), some (.int b1), some (.int b2), some (.int b3), some (.int b4), some (.int b5)] [.int b4] rfl rfl ?_
        refine z_xZ zt190 121 rfl rfl (fun (h14 : b4.toInt ≠ 0) => ?_) (fun (h14 : b4.toInt = 0) => ?_)
        · skip
          refine z_xN zt190 140 rfl rfl (fun (x15 : Int32) (h16 : x15.toInt = b3.toInt + 1) => ?_) (z_pAdd rfl rfl (by omega) (by omega))
          show z_ev (d + 973) 190 300 [some (.ref 19), some (.int b1), some (.int b2), some (.int x15), some (.int b4), some (.int b5)] [] M10 _
          refine z_xP zt190 141 191 [some (.ref 19), some (.int b1), some (.int b2), some (.int x15), some (.int b4), some (.int b5)] [] rfl rfl ?_
          have h17 := (e12.f f19 (by decide) hp0)
          have f31 : T[31]? = some (.inr (31, 0, 8, 0, 1024)) := X11.1.k rfl (by decide)
          have h18 := ((congrFun (e12.a f31 (by decide)) _).trans hp1)
          have f24 : T[24]? = some (.inr (24, 0, 8, 0, 10)) := X11.1.k rfl (by decide)
          have h19 := ((congrFun (e12.a f24 (by decide)) _).trans hp2)
          have f23 : T[23]? = some (.inr (23, 0, 80, (-2147483648), 2147483647)) := X11.1.k rfl (by decide)
          exact ih.2.2.1 M10 b1 b2 x15 (some (.int b4)) (some (.int b5)) z0 z1 z2 X11 ⟨by omega, by omega⟩ ⟨by omega, by omega⟩ ⟨by omega, by omega⟩ h17 ⟨by omega, by omega⟩ h18 ⟨by omega, by omega⟩ h19 ⟨by omega, by omega⟩ (by omega) (by omega) (z_GL.ke hl e12 f23 f24 (by decide)) (z_A4.ke hA4 e12 f31 (by decide)) (by omega)
        refine z_xP zt190 122 270 [some (.ref 19), some (.int b1), some (.int b2), some (.int b3), some (.int b4), some (.int b5)] [.ref 19] rfl rfl ?_
        refine z_xgX (b := 30) zt190 123 rfl zo190 zzf12_40 X11 f19 (by decide) (by decide) rfl ?_
        refine z_xP zt190 124 277 [some (.ref 19), some (.int b1), some (.int b2), some (.int b3), some (.int b4), some (.int b5)] [.int b1, .int 1024, .ref 30] rfl rfl ?_
        refine z_xI zt190 125 rfl rfl (fun (x20 : Int32) (h21 : x20.toInt = 1024 * b1.toInt) => ?_) (z_pMul rfl rfl (by omega) (by omega))
        refine z_xP zt190 126 279 [some (.ref 19), some (.int b1), some (.int b2), some (.int b3), some (.int b4), some (.int b5)] [.ref 19, .int x20, .ref 30] rfl rfl ?_
        refine z_xgX (b := 31) zt190 127 rfl zo190 zzf12_43 X11 f19 (by decide) (by decide) rfl ?_
        refine z_xP zt190 128 283 [some (.ref 19), some (.int b1), some (.int b2), some (.int b3), some (.int b4), some (.int b5)] [.int b1, .ref 31, .int x20, .ref 30] rfl rfl ?_
        have f31 : T[31]? = some (.inr (31, 0, 8, 0, 1024)) := X11.1.k rfl (by decide)
        refine z_xil zt190 129 rfl X11 f31 (by decide) (by omega) (by omega) (fun (x22 : Int32) h23 (h24 : 0 ≤ x22.toInt) (h25 : x22.toInt ≤ 1024) => ?_)
        have h26 := congrArg Int32.toInt (h23.symm.trans ((congrFun (e12.a f31 (by decide)) _).trans hp1))
        refine z_xI zt190 130 rfl rfl (fun (x27 : Int32) (h28 : x27.toInt = x20.toInt + x22.toInt) => ?_) (z_pAdd rfl rfl (by omega) (by omega))
        refine z_xP zt190 131 286 [some (.ref 19), some (.int b1), some (.int b2), some (.int b3), some (.int b4), some (.int b5)] [.int b3, .int x27, .ref 30] rfl rfl ?_
        have f30 : T[30]? = some (.inr (30, 0, 8192, 0, 1023)) := X11.1.k rfl (by decide)
        refine z_xis zt190 132 rfl X11 f30 (by decide) (by decide) (by omega) (by omega) (by omega) (by omega) (by decide) (fun M29 X30 e31 h32 => ?_)
        refine z_xP zt190 133 288 [some (.ref 19), some (.int b1), some (.int b2), some (.int b3), some (.int b4), some (.int b5)] [.ref 19] rfl rfl ?_
        refine z_xgX (b := 31) zt190 134 rfl zo190 zzf12_43 X30 f19 (by decide) (by decide) rfl ?_
        refine z_xP zt190 135 293 [some (.ref 19), some (.int b1), some (.int b2), some (.int b3), some (.int b4), some (.int b5)] [.int b1, .ref 31, .int b1, .ref 31] rfl rfl ?_
        refine z_xil zt190 136 rfl X30 f31 (by decide) (by omega) (by omega) (fun (x33 : Int32) h34 (h35 : 0 ≤ x33.toInt) (h36 : x33.toInt ≤ 1024) => ?_)
        have h37 := congrArg Int32.toInt (h34.symm.trans ((congrFun (e31.a f31 (by decide)) _).trans ((congrFun (e12.a f31 (by decide)) _).trans hp1)))
        refine z_xP zt190 137 295 [some (.ref 19), some (.int b1), some (.int b2), some (.int b3), some (.int b4), some (.int b5)] [.int 1, .int x33, .int b1, .ref 31] rfl rfl ?_
        refine z_xI zt190 138 rfl rfl (fun (x38 : Int32) (h39 : x38.toInt = x33.toInt + 1) => ?_) (z_pAdd rfl rfl (by omega) (by omega))
        refine z_xis zt190 139 rfl X30 f31 (by decide) (by decide) (by omega) (by omega) (by omega) (by omega) (by decide) (fun M40 X41 e42 h43 => ?_)
        have h44 := z_A4.st (z_A4.ke (z_A4.ke hA4 e12 f31 (by decide)) e31 f31 (by decide)) h43 rfl (by omega)
        refine z_xN zt190 140 rfl rfl (fun (x45 : Int32) (h46 : x45.toInt = b3.toInt + 1) => ?_) (z_pAdd rfl rfl (by omega) (by omega))
        show z_ev (d + 973) 190 300 [some (.ref 19), some (.int b1), some (.int b2), some (.int x45), some (.int b4), some (.int b5)] [] M40 _
        refine z_xP zt190 141 191 [some (.ref 19), some (.int b1), some (.int b2), some (.int x45), some (.int b4), some (.int b5)] [] rfl rfl ?_
        have h47 := (e42.f f19 (by decide) (e31.f f19 (by decide) (e12.f f19 (by decide) hp0)))
        have f24 : T[24]? = some (.inr (24, 0, 8, 0, 10)) := X41.1.k rfl (by decide)
        have h48 := ((congrFun (e42.a f24 (by decide)) _).trans ((congrFun (e31.a f24 (by decide)) _).trans ((congrFun (e12.a f24 (by decide)) _).trans hp2)))
        have f23 : T[23]? = some (.inr (23, 0, 80, (-2147483648), 2147483647)) := X41.1.k rfl (by decide)
        exact ih.2.2.1 M40 b1 b2 x45 (some (.int b4)) (some (.int b5)) z0 x38 z2 X41 ⟨by omega, by omega⟩ ⟨by omega, by omega⟩ ⟨by omega, by omega⟩ h47 ⟨by omega, by omega⟩ (z_upe h43) ⟨by omega, by omega⟩ h48 ⟨by omega, by omega⟩ (by omega) (by omega) (z_GL.ke (z_GL.ke (z_GL.ke hl e12 f23 f24 (by decide)) e31 f23 f24 (by decide)) e42 f23 f24 (by decide)) h44 (by omega)
      refine z_xP zt190 102 227 [some (.ref 19), some (.int b1), some (.int b2), some (.int b3), some (.int b4), some (.int b5)] [.int b3, .int b5, .int b1, .ref 19, .int b4] rfl rfl ?_
      refine z_xcV (vs := [.ref 19, .int b1, .int b5, .int b3]) (r := [.int b4]) (L2 := [some (.ref 19), some (.int b1), some (.int b5), some (.int b3)]) zt190 103 rfl zo190 zzcV12_202 (Or.inl rfl) rfl X f19 rfl rfl rfl (Nat.le_of_ble_eq_true rfl) zzm205 (Nat.le_of_ble_eq_true rfl) rfl ?_
      refine zC205 X.1 (by omega) (by omega) hl (fun x51 M49 X50 h52 h53 => ?_)
      have X54 := X.go X50 (z_sb (by decide))
      show z_ev (d + 973) 190 230 [some (.ref 19), some (.int b1), some (.int b2), some (.int b3), some (.int b4), some (.int b5)] [.int x51, .int b4] M49 _
      refine z_xZ zt190 104 rfl rfl (fun (h56 : x51.toInt = 0) => ?_) (fun (h56 : x51.toInt ≠ 0) => ?_)
      · skip
        refine z_xP zt190 106 240 [some (.ref 19), some (.int b1), some (.int b2), some (.int b3), some (.int b4), some (.int b5)] [.int b5, .int 1, .int b4] rfl rfl ?_
        refine z_xI zt190 107 rfl rfl (fun (x57 : Int32) (h58 : 1 ≤ x57.toInt ∧ x57.toInt ≤ 128) => ?_) (z_pShlB (a := 1) (b := 7) (c := 128) (r := 128) rfl rfl (by omega) (by omega) (by omega) (by omega) (by decide) (by decide) (by decide) (by decide))
        refine z_xI zt190 108 rfl rfl (fun (x59 : Int32) (h60 : 0 ≤ x59.toInt ∧ x59.toInt < 256 ∧ b4.toInt ≤ x59.toInt ∧ x57.toInt ≤ x59.toInt) => ?_) (z_pOr 8 rfl rfl (by omega) (by omega) (by decide) (by omega) (by omega) (by decide))
        refine z_xP zt190 109 244 [some (.ref 19), some (.int b1), some (.int b2), some (.int b3), some (.int x59), some (.int b5)] [] rfl rfl ?_
        refine z_xN zt190 110 rfl rfl (fun (x61 : Int32) (h62 : x61.toInt = b5.toInt + 1) => ?_) (z_pAdd rfl rfl (by omega) (by omega))
        show z_ev (d + 973) 190 247 [some (.ref 19), some (.int b1), some (.int b2), some (.int b3), some (.int x59), some (.int x61)] [] M49 _
        refine z_xP zt190 111 209 [some (.ref 19), some (.int b1), some (.int b2), some (.int b3), some (.int x59), some (.int x61)] [] rfl rfl ?_
        have h63 := (X50.2.f f19 (by decide) hp0)
        have f31 : T[31]? = some (.inr (31, 0, 8, 0, 1024)) := X54.1.k rfl (by decide)
        have h64 := ((congrFun (X50.2.a f31 (by decide)) _).trans hp1)
        have f24 : T[24]? = some (.inr (24, 0, 8, 0, 10)) := X54.1.k rfl (by decide)
        have h65 := ((congrFun (X50.2.a f24 (by decide)) _).trans hp2)
        have f23 : T[23]? = some (.inr (23, 0, 80, (-2147483648), 2147483647)) := X54.1.k rfl (by decide)
        exact ih.2.2.2 M49 b1 b2 b3 x59 x61 z0 z1 z2 X54 ⟨by omega, by omega⟩ ⟨by omega, by omega⟩ ⟨by omega, by omega⟩ ⟨by omega, by omega⟩ ⟨by omega, by omega⟩ h63 ⟨by omega, by omega⟩ h64 ⟨by omega, by omega⟩ h65 ⟨by omega, by omega⟩ (by omega) (by omega) (by omega) (z_GL.ke hl X50.2 f23 f24 (by decide)) (z_A4.ke hA4 X50.2 f31 (by decide)) (by omega)
      refine z_xP zt190 105 241 [some (.ref 19), some (.int b1), some (.int b2), some (.int b3), some (.int b4), some (.int b5)] [.int 0, .int b4] rfl rfl ?_
      refine z_xI zt190 108 rfl rfl (fun (x66 : Int32) (h67 : 0 ≤ x66.toInt ∧ x66.toInt < 256 ∧ b4.toInt ≤ x66.toInt ∧ 0 ≤ x66.toInt) => ?_) (z_pOr 8 rfl rfl (by omega) (by omega) (by decide) (by omega) (by omega) (by decide))
      refine z_xP zt190 109 244 [some (.ref 19), some (.int b1), some (.int b2), some (.int b3), some (.int x66), some (.int b5)] [] rfl rfl ?_
      refine z_xN zt190 110 rfl rfl (fun (x68 : Int32) (h69 : x68.toInt = b5.toInt + 1) => ?_) (z_pAdd rfl rfl (by omega) (by omega))
      show z_ev (d + 973) 190 247 [some (.ref 19), some (.int b1), some (.int b2), some (.int b3), some (.int x66), some (.int x68)] [] M49 _
      refine z_xP zt190 111 209 [some (.ref 19), some (.int b1), some (.int b2), some (.int b3), some (.int x66), some (.int x68)] [] rfl rfl ?_
      have h70 := (X50.2.f f19 (by decide) hp0)
      have f31 : T[31]? = some (.inr (31, 0, 8, 0, 1024)) := X54.1.k rfl (by decide)
      have h71 := ((congrFun (X50.2.a f31 (by decide)) _).trans hp1)
      have f24 : T[24]? = some (.inr (24, 0, 8, 0, 10)) := X54.1.k rfl (by decide)
      have h72 := ((congrFun (X50.2.a f24 (by decide)) _).trans hp2)
      have f23 : T[23]? = some (.inr (23, 0, 80, (-2147483648), 2147483647)) := X54.1.k rfl (by decide)
      exact ih.2.2.2 M49 b1 b2 b3 x66 x68 z0 z1 z2 X54 ⟨by omega, by omega⟩ ⟨by omega, by omega⟩ ⟨by omega, by omega⟩ ⟨by omega, by omega⟩ ⟨by omega, by omega⟩ h70 ⟨by omega, by omega⟩ h71 ⟨by omega, by omega⟩ h72 ⟨by omega, by omega⟩ (by omega) (by omega) (by omega) (z_GL.ke hl X50.2 f23 f24 (by decide)) (z_A4.ke hA4 X50.2 f31 (by decide)) (by omega)
theorem zQC190 {T : List zK} {d : Nat} {K : Option Value → zH → Prop}  {M0 : zH} (hW : z_W M0 T) (hL : z_GL M0) (ha4 : z_G4 M0) (kk : ∀ (x : Int32) (M1 : zH), z_X T zw190 M0 M1 → z_GL M1 → z_G4 M1 → K (some (.int x)) M1) : z_ev (d + 973) 190 0 [some (.ref 19), none, none, none, none, none] [] M0 K := by
  have X : z_X T zw190 M0 M0 := .refl hW
  refine z_xP zt190 0 1 [some (.ref 19), none, none, none, none, none] [.ref 19] rfl rfl ?_
  have f19 : T[19]? = some (.inl (12, 0, 0, 0, 0)) := X.1.k rfl (by decide)
  refine z_xgI zt190 1 rfl zo190 zzf12_110 X f19 (by decide) (by decide) rfl (fun (x2 : Int32) h1 (h3 : 0 ≤ x2.toInt) (h4 : x2.toInt ≤ 8) => ?_)
  refine z_xP zt190 2 6 [some (.ref 19), none, none, none, none, none] [.int 8, .int x2] rfl rfl ?_
  refine z_xJ zt190 3 rfl rfl (fun (h5 : x2.toInt ≠ 8) => ?_) (fun (h5 : x2.toInt = 8) => ?_)
  · skip
    refine z_xP zt190 6 13 [some (.ref 19), none, none, none, none, none] [.ref 19] rfl rfl ?_
    refine z_xgv zt190 7 rfl zo190 zzf12_110 X f19 (by decide) h1 ?_
    refine z_xP zt190 8 19 [some (.ref 19), some (.int x2), none, none, none, none] [.int x2, .ref 19] rfl rfl ?_
    refine z_xpf zt190 9 rfl zo190 zzf12_133 X f19 (by decide) (by decide) ⟨by omega, by omega⟩ rfl (by decide) zw12_22 (fun M6 X7 e8 h9 => ?_)
    refine z_xP zt190 10 24 [some (.ref 19), some (.int x2), none, none, none, none] [.int 1, .ref 19] rfl rfl ?_
    have q1 : ((1 : Int32)).toInt = 1 := rfl
    refine z_xpf zt190 11 rfl zo190 zzf12_129 X7 f19 (by decide) (by decide) ⟨by omega, by omega⟩ rfl (by decide) zw12_23 (fun M10 X11 e12 h13 => ?_)
    refine z_xP zt190 12 29 [some (.ref 19), some (.int x2), none, none, none, none] [.int 0, .ref 19] rfl rfl ?_
    have q0 : ((0 : Int32)).toInt = 0 := rfl
    refine z_xpf zt190 13 rfl zo190 zzf12_123 X11 f19 (by decide) (by decide) ⟨by omega, by omega⟩ rfl (by decide) zw12_24 (fun M14 X15 e16 h17 => ?_)
    refine z_xP zt190 14 34 [some (.ref 19), some (.int x2), none, none, none, none] [.ref 19, .ref 19] rfl rfl ?_
    refine z_xgI zt190 15 rfl zo190 zzf12_120 X15 f19 (by decide) (by decide) rfl (fun (x19 : Int32) h18 (h20 : 0 ≤ x19.toInt) (h21 : x19.toInt ≤ 160) => ?_)
    refine z_xpf zt190 16 rfl zo190 zzf12_126 X15 f19 (by decide) (by decide) ⟨by omega, by omega⟩ rfl (by decide) zw12_25 (fun M22 X23 e24 h25 => ?_)
    refine z_xP zt190 17 42 [some (.ref 19), some (.int x2), none, none, none, none] [.int (-1), .ref 19] rfl rfl ?_
    have qm1 : (((-1) : Int32)).toInt = (-1) := rfl
    refine z_xpf zt190 18 rfl zo190 zzf12_136 X23 f19 (by decide) (by decide) ⟨by omega, by omega⟩ rfl (by decide) zw12_26 (fun M26 X27 e28 h29 => ?_)
    refine z_xP zt190 19 47 [some (.ref 19), some (.int x2), none, none, none, none] [.int 0, .ref 19] rfl rfl ?_
    have q0 : ((0 : Int32)).toInt = 0 := rfl
    refine z_xpf zt190 20 rfl zo190 zzf12_160 X27 f19 (by decide) (by decide) ⟨by omega, by omega⟩ rfl (by decide) zw12_27 (fun M30 X31 e32 h33 => ?_)
    refine z_xP zt190 21 52 [some (.ref 19), some (.int x2), none, none, none, none] [.int 0, .ref 19] rfl rfl ?_
    have q0 : ((0 : Int32)).toInt = 0 := rfl
    refine z_xpf zt190 22 rfl zo190 zzf12_183 X31 f19 (by decide) (by decide) ⟨by omega, by omega⟩ rfl (by decide) zw12_28 (fun M34 X35 e36 h37 => ?_)
    refine z_xP zt190 23 56 [some (.ref 19), some (.int x2), none, none, none, none] [.ref 19] rfl rfl ?_
    refine z_xgX (b := 25) zt190 24 rfl zo190 zzf12_25 X35 f19 (by decide) (by decide) rfl ?_
    refine z_xP zt190 25 61 [some (.ref 19), some (.int x2), none, none, none, none] [.int 0, .int x2, .ref 25] rfl rfl ?_
    have f25 : T[25]? = some (.inr (25, 0, 8, 0, 8)) := X35.1.k rfl (by decide)
    have q0 : ((0 : Int32)).toInt = 0 := rfl
    refine z_xis zt190 26 rfl X35 f25 (by decide) (by decide) (by omega) (by omega) (by omega) (by omega) (by decide) (fun M38 X39 e40 h41 => ?_)
    refine z_xP zt190 27 63 [some (.ref 19), some (.int x2), none, none, none, none] [.ref 19] rfl rfl ?_
    refine z_xgX (b := 27) zt190 28 rfl zo190 zzf12_31 X39 f19 (by decide) (by decide) rfl ?_
    refine z_xP zt190 29 68 [some (.ref 19), some (.int x2), none, none, none, none] [.int 0, .int x2, .ref 27] rfl rfl ?_
    have f27 : T[27]? = some (.inr (27, 0, 8, (-2147483648), 2147483647)) := X39.1.k rfl (by decide)
    have q0 : ((0 : Int32)).toInt = 0 := rfl
    refine z_xis zt190 30 rfl X39 f27 (by decide) (by decide) (by omega) (by omega) (by omega) (by omega) (by decide) (fun M42 X43 e44 h45 => ?_)
    refine z_xP zt190 31 70 [some (.ref 19), some (.int x2), none, none, none, none] [.ref 19] rfl rfl ?_
    refine z_xgX (b := 28) zt190 32 rfl zo190 zzf12_34 X43 f19 (by decide) (by decide) rfl ?_
    refine z_xP zt190 33 75 [some (.ref 19), some (.int x2), none, none, none, none] [.int 0, .int x2, .ref 28] rfl rfl ?_
    have f28 : T[28]? = some (.inr (28, 0, 8, (-2147483648), 2147483647)) := X43.1.k rfl (by decide)
    have q0 : ((0 : Int32)).toInt = 0 := rfl
    refine z_xis zt190 34 rfl X43 f28 (by decide) (by decide) (by omega) (by omega) (by omega) (by omega) (by decide) (fun M46 X47 e48 h49 => ?_)
    refine z_xP zt190 35 77 [some (.ref 19), some (.int x2), none, none, none, none] [.ref 19] rfl rfl ?_
    refine z_xcV (vs := [.ref 19]) (r := []) (L2 := [some (.ref 19), none, none, none, none]) zt190 36 rfl zo190 zzcV12_196 (Or.inl rfl) rfl X47 f19 rfl rfl rfl (Nat.le_of_ble_eq_true rfl) zzm191 (Nat.le_of_ble_eq_true rfl) rfl ?_
    have f23 : T[23]? = some (.inr (23, 0, 80, (-2147483648), 2147483647)) := X47.1.k rfl (by decide)
    have f24 : T[24]? = some (.inr (24, 0, 8, 0, 10)) := X47.1.k rfl (by decide)
    refine zC191 X47.1 (z_GL.ke (z_GL.ke (z_GL.ke (z_GL.ke (z_GL.ke (z_GL.ke (z_GL.ke (z_GL.ke (z_GL.ke (z_GL.ke hL e8 f23 f24 (by decide)) e12 f23 f24 (by decide)) e16 f23 f24 (by decide)) e24 f23 f24 (by decide)) e28 f23 f24 (by decide)) e32 f23 f24 (by decide)) e36 f23 f24 (by decide)) e40 f23 f24 (by decide)) e44 f23 f24 (by decide)) e48 f23 f24 (by decide)) (fun M50 X51 h52 => ?_)
    have X53 := X47.go X51 (z_sb (by decide))
    show z_ev (d + 973) 190 80 [some (.ref 19), some (.int x2), none, none, none, none] [] M50 _
    have h55 := (X51.2.f f19 (by decide) (e48.f f19 (by decide) (e44.f f19 (by decide) (e40.f f19 (by decide) (e36.f f19 (by decide) (e32.f f19 (by decide) (e28.f f19 (by decide) (e24.f f19 (by decide) (e16.f f19 (by decide) (e12.f f19 (by decide) (e8.f f19 (by decide) h1)))))))))))
    obtain ⟨x56, h57, h58, h59⟩ := z_W.fi X53.1 f19 (k := 24) (lo := 0) (hi := 160) (by decide) rfl
    have f31 : T[31]? = some (.inr (31, 0, 8, 0, 1024)) := X53.1.k rfl (by decide)
    exact (zQB190 hL ha4 kk 230625).1 M50 x2 x2 x56 X53 ⟨by omega, by omega⟩ h55 ⟨by omega, by omega⟩ h57 ⟨by omega, by omega⟩ (by omega) h52 (z_G4.a4 (z_G4.ke (z_G4.ke (z_G4.ke (z_G4.ke (z_G4.ke (z_G4.ke (z_G4.ke (z_G4.ke (z_G4.ke (z_G4.ke (z_G4.ke ha4 e8 f19 f31 (by decide)) e12 f19 f31 (by decide)) e16 f19 f31 (by decide)) e24 f19 f31 (by decide)) e28 f19 f31 (by decide)) e32 f19 f31 (by decide)) e36 f19 f31 (by decide)) e40 f19 f31 (by decide)) e44 f19 f31 (by decide)) e48 f19 f31 (by decide)) X51.2 f19 f31 (by decide)) h55) (by omega)
  refine z_xP zt190 4 11 [some (.ref 19), none, none, none, none, none] [.int (-3)] rfl rfl ?_
  have qm3 : (((-3) : Int32)).toInt = (-3) := rfl
  exact z_xri zt190 5 rfl zzr190 (kk (-3) M0 X hL ha4)
