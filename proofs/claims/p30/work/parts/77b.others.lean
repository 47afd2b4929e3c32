/-! the reference's agenda leaves the blocks of the others -/
def z_otA : List Nat := [24, 25, 27, 28, 31, 35]
def z_otB : List Nat := [29, 30]
def z_OT (A : Int) (M0 M : zH) : Prop := (∀ r, r ∈ z_otA → ∀ i : Nat, (i : Int) < A → z_Ar M r i = z_Ar M0 r i) ∧ ∀ r, r ∈ z_otB → ∀ i : Nat, (i : Int) < 1024 * A → z_Ar M r i = z_Ar M0 r i
theorem z_OT.refl {A : Int} {M : zH} : z_OT A M M := ⟨fun _ _ _ _ => rfl, fun _ _ _ _ => rfl⟩
theorem z_OT.trans {A : Int} {M0 M M1 : zH} (h : z_OT A M0 M) (h2 : z_OT A M M1) : z_OT A M0 M1 := ⟨fun r hr i hi => (h2.1 r hr i hi).trans (h.1 r hr i hi), fun r hr i hi => (h2.2 r hr i hi).trans (h.2 r hr i hi)⟩
theorem z_OT.eq {A B : Int} {M0 M : zH} (h : z_OT A M0 M) (e : B = A) : z_OT B M0 M := by rw [e]; exact h
theorem z_OT.tr {A : Int} {v : Int32} {M0 M M1 : zH} (h : z_OT A M0 M) (h2 : z_OT (z_Fv M 19 22).toInt M M1) (hr : z_F M 19 22 = some (.int v)) (e : v.toInt = A) : z_OT A M0 M1 := h.trans (h2.eq (by rw [z_Fv.of hr, e]))
theorem z_OTA {M0 M : zH} {v : Int32} (hr : z_F M 19 22 = some (.int v)) (e : z_F M0 19 22 = z_F M 19 22) : (z_Fv M0 19 22).toInt = v.toInt := by rw [z_Fv.of (e.trans hr)]
theorem z_otk {M : zH} {T : List zK} (hW : z_W M T) : ∀ r, (r ∈ z_otA ∨ r ∈ z_otB) → ∃ x, T[r]? = some (.inr (r, x)) := by
  intro r hr
  have h : r = 24 ∨ r = 25 ∨ r = 27 ∨ r = 28 ∨ r = 31 ∨ r = 35 ∨ r = 29 ∨ r = 30 := by
    rcases hr with hr | hr
    · simp only [z_otA, List.mem_cons, List.not_mem_nil, or_false] at hr
      omega
    · simp only [z_otB, List.mem_cons, List.not_mem_nil, or_false] at hr
      omega
  rcases h with h | h | h | h | h | h | h | h
  · subst h; exact ⟨_, hW.k (k := 24) (κ := z_ai 24 8 0 10) rfl (by decide)⟩
  · subst h; exact ⟨_, hW.k (k := 25) (κ := z_ai 25 8 0 8) rfl (by decide)⟩
  · subst h; exact ⟨_, hW.k (k := 27) (κ := z_af 27 8) rfl (by decide)⟩
  · subst h; exact ⟨_, hW.k (k := 28) (κ := z_af 28 8) rfl (by decide)⟩
  · subst h; exact ⟨_, hW.k (k := 31) (κ := z_ai 31 8 0 1024) rfl (by decide)⟩
  · subst h; exact ⟨_, hW.k (k := 35) (κ := z_ai 35 8 0 9) rfl (by decide)⟩
  · subst h; exact ⟨_, hW.k (k := 29) (κ := z_af 29 8192) rfl (by decide)⟩
  · subst h; exact ⟨_, hW.k (k := 30) (κ := z_ai 30 8192 0 1023) rfl (by decide)⟩
theorem z_OT.ke {A : Int} {M0 M M1 M' : zH} {T : List zK} {rs : List Nat} (h : z_OT A M0 M) (hW : z_W M' T) (ke : z_ke T rs M M1) (hr : z_dj (z_otA ++ z_otB) rs = true) : z_OT A M0 M1 := by
  have n := z_djn hr
  refine ⟨fun r hr i hi => ?_, fun r hr i hi => ?_⟩
  · obtain ⟨x, hx⟩ := z_otk hW r (Or.inl hr)
    rw [ke.a hx (n r (List.mem_append_left _ hr))]
    exact h.1 r hr i hi
  · obtain ⟨x, hx⟩ := z_otk hW r (Or.inr hr)
    rw [ke.a hx (n r (List.mem_append_right _ hr))]
    exact h.2 r hr i hi
theorem z_OT.st {A : Int} {M0 M M1 M' : zH} {T : List zK} {x v : Int32} (h : z_OT A M0 M) (hW : z_W M' T) {r : Nat} (ke : z_ke T [r] M M1) (e : z_Ar M1 r = upd (z_Ar M r) x.toNatClampNeg v) (_ : r ∈ z_otA ++ z_otB) (h1 : r ∈ z_otA → A ≤ x.toInt) (h2 : r ∈ z_otB → 1024 * A ≤ x.toInt) : z_OT A M0 M1 := by
  have ex : x.toInt ≤ (x.toNatClampNeg : Int) := by unfold Int32.toNatClampNeg; omega
  refine ⟨fun s hs i hi => ?_, fun s hs i hi => ?_⟩
  · by_cases c : s = r
    · subst c
      have h3 := h1 hs
      rw [e]
      show (if i = x.toNatClampNeg then v else z_Ar M s i) = _
      rw [if_neg (by omega)]
      exact h.1 s hs i hi
    · obtain ⟨y, hy⟩ := z_otk hW s (Or.inl hs)
      rw [ke.a hy (fun hm => c (List.mem_singleton.mp hm))]
      exact h.1 s hs i hi
  · by_cases c : s = r
    · subst c
      have h3 := h2 hs
      rw [e]
      show (if i = x.toNatClampNeg then v else z_Ar M s i) = _
      rw [if_neg (by omega)]
      exact h.2 s hs i hi
    · obtain ⟨y, hy⟩ := z_otk hW s (Or.inr hs)
      rw [ke.a hy (fun hm => c (List.mem_singleton.mp hm))]
      exact h.2 s hs i hi
def z_OZ (M0 M : zH) : Prop := ∀ i : Nat, z_Ar M 35 i = z_Ar M0 35 i ∨ z_Ar M 35 i = 0
theorem z_OZ.refl {M : zH} : z_OZ M M := fun _ => Or.inl rfl
theorem z_OZ.id {M0 M : zH} (h : z_Ar M 35 = z_Ar M0 35) : z_OZ M0 M := fun i => Or.inl (by rw [h])
theorem z_OZ.st {M0 M : zH} {k : Nat} (h : z_Ar M 35 = upd (z_Ar M0 35) k 0) : z_OZ M0 M := fun i => by
  rw [h]
  show (if i = k then (0 : Int32) else z_Ar M0 35 i) = _ ∨ (if i = k then (0 : Int32) else z_Ar M0 35 i) = 0
  by_cases c : i = k
  · rw [if_pos c]
    exact Or.inr rfl
  · rw [if_neg c]
    exact Or.inl rfl
theorem z_OZ.to {M0 M M1 : zH} (h : z_OZ M0 M) (e : z_Ar M1 35 = z_Ar M 35) : z_OZ M0 M1 := fun i => by
  rw [e]
  exact h i
theorem zOB191 {T : List zK} {d : Nat} {K : Option Value → zH → Prop}  {M0 : zH} (hL : z_GL M0) (kk : ∀ (M1 : zH), z_X T zw191 M0 M1 → z_GL M1 → z_OT (z_Fv M0 19 22).toInt M0 M1 → K none M1) : ∀ n : Nat, (∀ (M : zH) (b1 : Int32) (o2 : Option Value) (o3 : Option Value) (o4 : Option Value) (z0 : Int32) (z1 : Int32) (z2 : Int32), z_X T zw191 M0 M → 0 ≤ b1.toInt ∧ b1.toInt ≤ 1 → z_F M 19 22 = some (.int z0) → 0 ≤ z0.toInt ∧ z0.toInt ≤ 7 → z_F M 19 24 = some (.int z1) → 2 ≤ z1.toInt ∧ z1.toInt ≤ 160 → z_Ar M 24 z0.toNatClampNeg = z2 → 0 ≤ z2.toInt ∧ z2.toInt ≤ 10 → z_GL M → z_FP M z0 z2.toInt → z_OT (z_Fv M0 19 22).toInt M0 M ∧ z_F M 19 22 = z_F M0 19 22 → ((0) * 2 + 0) * 323 + (2 * (160 - z1.toInt) + b1.toInt) < (n : Int) → z_ev (d + 2) 191 36 [some (.ref 19), some (.int b1), o2, o3, o4] [] M K) := by
  intro n
  induction n with
  | zero => exact by intros; exfalso; omega
  | succ n ih =>
    intro M b1 o2 o3 o4 z0 z1 z2 X hh0 hp0 hh2 hp1 hh4 hp2 hh6 hl hf hO hE
    refine z_xP zt191 17 37 [some (.ref 19), some (.int b1), o2, o3, o4] [.int b1] rfl rfl ?_
    refine z_xZ zt191 18 rfl rfl (fun (h1 : b1.toInt = 0) => ?_) (fun (h1 : b1.toInt ≠ 0) => ?_)
    · skip
      exact z_xrv zt191 71 rfl zzr191 (kk M X hl hO.1)
    refine z_xP zt191 19 41 [some (.ref 19), some (.int b1), o2, o3, o4] [.ref 19] rfl rfl ?_
    have f19 : T[19]? = some (.inl (12, 0, 0, 0, 0)) := X.1.k rfl (by decide)
    refine z_xcV (vs := [.ref 19]) (r := []) (L2 := [some (.ref 19)]) zt191 20 rfl zo191 zzcV12_139 (Or.inl rfl) rfl X f19 rfl rfl rfl (Nat.le_of_ble_eq_true rfl) zzm193 (Nat.le_of_ble_eq_true rfl) rfl ?_
    refine z_xP zt193 0 1 [some (.ref 19)] [.ref 19] rfl rfl ?_
    refine z_xgv zt193 1 rfl zo193 zzf12_123 X f19 (by decide) hp1 ?_
    refine z_xP zt193 2 5 [some (.ref 19)] [.ref 19, .int z1] rfl rfl ?_
    refine z_xgI zt193 3 rfl zo193 zzf12_126 X f19 (by decide) (by decide) rfl (fun (x3 : Int32) h2 (h4 : 0 ≤ x3.toInt) (h5 : x3.toInt ≤ 160) => ?_)
    refine z_xJ zt193 4 rfl rfl (fun (h6 : x3.toInt ≤ z1.toInt) => ?_) (fun (h6 : z1.toInt < x3.toInt) => ?_)
    · skip
      refine z_xP zt193 24 52 [some (.ref 19)] [.int 0] rfl rfl ?_
      refine z_xri zt193 25 rfl zzr193 ?_
      show z_ev (d + 2) 191 44 [some (.ref 19), some (.int b1), o2, o3, o4] [.int 0] M _
      refine z_xP zt191 21 46 [some (.ref 19), some (.int b1), some (.int 0), o3, o4] [.int 0] rfl rfl ?_
      refine z_xL zt191 22 rfl rfl (fun (y7 : Int64) (h8 : y7.toInt = 0) => ?_) (z_qI2L rfl)
      refine z_xl2 zt191 23 rfl zo191 zkl12_186 ?_
      refine z_xl2 zt191 24 rfl zo191 zkl12_188 ?_
      refine z_xcS (vs := [.long y7, .long 97, .long 106]) (r := []) (L2 := [some (.long y7), none, some (.long 97), none, some (.long 106), none]) zt191 25 rfl zo191 zzcS12_116 (Or.inl rfl) (Nat.le_of_ble_eq_true rfl) rfl rfl (Nat.le_of_ble_eq_true rfl) zzm189 (Nat.le_of_ble_eq_true rfl) rfl ?_
      refine z_xP zt189 0 2 [some (.long y7), none, some (.long 97), none, some (.long 106), none] [.long 97, .long y7] rfl rfl ?_
      refine z_xI zt189 1 rfl rfl (fun (x9 : Int32) (h10 : (x9.toInt < 0 ∧ y7.toInt < 97) ∨ (x9.toInt = 0 ∧ y7.toInt = 97) ∨ (0 < x9.toInt ∧ 97 < y7.toInt)) => ?_) (z_qCmp rfl rfl)
      refine z_xZ zt189 2 rfl rfl (fun (h11 : x9.toInt < 0) => ?_) (fun (h11 : 0 ≤ x9.toInt) => absurd h11 (by omega))
      refine z_xP zt189 7 18 [some (.long y7), none, some (.long 97), none, some (.long 106), none] [.int 0] rfl rfl ?_
      refine z_xrz zt189 8 rfl zzr189 (by decide) (by decide) ?_
      show z_ev (d + 2) 191 56 [some (.ref 19), some (.int b1), some (.int 0), o3, o4] [.int 0] M _
      refine z_xP zt191 26 58 [some (.ref 19), some (.int b1), some (.int 0), some (.int 0), o4] [.int 0] rfl rfl ?_
      refine z_xZ zt191 27 rfl rfl (fun (h12 : (0 : Int) = 0) => ?_) (fun (h12 : (0 : Int) ≠ 0) => absurd h12 (by omega))
      refine z_xP zt191 59 121 [some (.ref 19), some (.int 0), some (.int 0), some (.int 0), o4] [.int 0] rfl rfl ?_
      refine z_xZ zt191 60 rfl rfl (fun (h13 : (0 : Int) ≠ 0) => absurd h13 (by omega)) (fun (h13 : (0 : Int) = 0) => ?_)
      refine z_xP zt191 61 125 [some (.ref 19), some (.int 0), some (.int 0), some (.int 0), o4] [.ref 19] rfl rfl ?_
      refine z_xgX (b := 24) zt191 62 rfl zo191 zzf12_22 X f19 (by decide) (by decide) rfl ?_
      refine z_xP zt191 63 129 [some (.ref 19), some (.int 0), some (.int 0), some (.int 0), o4] [.ref 19, .ref 24] rfl rfl ?_
      refine z_xgv zt191 64 rfl zo191 zzf12_133 X f19 (by decide) hp0 ?_
      have f24 : T[24]? = some (.inr (24, 0, 8, 0, 10)) := X.1.k rfl (by decide)
      refine z_xil zt191 65 rfl X f24 (by decide) (by omega) (by omega) (fun (x14 : Int32) h15 (h16 : 0 ≤ x14.toInt) (h17 : x14.toInt ≤ 10) => ?_)
      have h18 := congrArg Int32.toInt (h15.symm.trans hp2)
      refine z_xZ zt191 66 rfl rfl (fun (h19 : x14.toInt ≠ 0) => ?_) (fun (h19 : x14.toInt = 0) => ?_)
      · skip
        refine z_xP zt191 70 36 [some (.ref 19), some (.int 0), some (.int 0), some (.int 0), o4] [] rfl rfl ?_
        have q0 : ((0 : Int32)).toInt = 0 := rfl
        exact ih M (0) (some (.int 0)) (some (.int 0)) (o4) z0 z1 z2 X (by decide) hp0 ⟨by omega, by omega⟩ hp1 ⟨by omega, by omega⟩ hp2 ⟨by omega, by omega⟩ hl (z_FPm hf rfl (by omega)) ⟨hO.1, hO.2⟩ (by omega)
      refine z_xP zt191 67 137 [some (.ref 19), some (.int 0), some (.int 0), some (.int 0), o4] [.ref 19] rfl rfl ?_
      refine z_xcV (vs := [.ref 19]) (r := []) (L2 := [some (.ref 19)]) zt191 68 rfl zo191 zzcV12_163 (Or.inl rfl) rfl X f19 rfl rfl rfl (Nat.le_of_ble_eq_true rfl) zzm194 (Nat.le_of_ble_eq_true rfl) rfl ?_
      refine z_xP zt194 0 2 [some (.ref 19)] [.ref 19, .ref 19] rfl rfl ?_
      refine z_xgI zt194 1 rfl zo194 zzf12_136 X f19 (by decide) (by decide) rfl (fun (x21 : Int32) h20 (h22 : (-2147483648) ≤ x21.toInt) (h23 : x21.toInt ≤ 2147483647) => ?_)
      refine z_xZ zt194 2 rfl rfl (fun (h24 : 0 ≤ x21.toInt) => ?_) (fun (h24 : x21.toInt < 0) => ?_)
      · skip
        refine z_xP zt194 6 16 [some (.ref 19)] [.ref 19, .ref 19] rfl rfl ?_
        refine z_xgv zt194 7 rfl zo194 zzf12_136 X f19 (by decide) h20 ?_
        refine z_xpf zt194 8 rfl zo194 zzf12_136 X f19 (by decide) (by decide) ⟨Int32.le_toInt _, Int32.toInt_le _⟩ rfl (by decide) zw12_26 (fun M25 X26 e27 h28 => ?_)
        refine z_xP zt194 9 23 [some (.ref 19)] [.int 0] rfl rfl ?_
        refine z_xrz zt194 10 rfl zzr194 (by decide) (by decide) ?_
        show z_ev (d + 2) 191 140 [some (.ref 19), some (.int 0), some (.int 0), some (.int 0), o4] [.int 0] M25 _
        refine z_xP zt191 69 142 [some (.ref 19), some (.int 0), some (.int 0), some (.int 0), some (.int 0)] [] rfl rfl ?_
        refine z_xP zt191 70 36 [some (.ref 19), some (.int 0), some (.int 0), some (.int 0), some (.int 0)] [] rfl rfl ?_
        have h29 := (e27.f f19 (by decide) hp0)
        have h30 := (e27.f f19 (by decide) hp1)
        have h31 := ((congrFun (e27.a f24 (by decide)) _).trans hp2)
        have f23 : T[23]? = some (.inr (23, 0, 80, (-2147483648), 2147483647)) := X26.1.k rfl (by decide)
        have q0 : ((0 : Int32)).toInt = 0 := rfl
        exact ih M25 (0) (some (.int 0)) (some (.int 0)) (some (.int 0)) z0 z1 z2 X26 (by decide) h29 ⟨by omega, by omega⟩ h30 ⟨by omega, by omega⟩ h31 ⟨by omega, by omega⟩ (z_GL.ke hl e27 f23 f24 (by decide)) (z_FPm (z_FPm hf (e27.a f23 (by decide)) rfl) rfl (by omega)) ⟨(z_OT.ke hO.1 X.1 e27 rfl), ((e27.1 19 12 0 0 0 0 22 f19 (by decide)).trans hO.2)⟩ (by omega)
      refine z_xP zt194 3 9 [some (.ref 19)] [.ref 19, .ref 19] rfl rfl ?_
      refine z_xgv zt194 4 rfl zo194 zzf12_123 X f19 (by decide) hp1 ?_
      refine z_xP zt194 5 19 [some (.ref 19)] [.int z1, .ref 19] rfl rfl ?_
      refine z_xpf zt194 8 rfl zo194 zzf12_136 X f19 (by decide) (by decide) ⟨Int32.le_toInt _, Int32.toInt_le _⟩ rfl (by decide) zw12_26 (fun M32 X33 e34 h35 => ?_)
      refine z_xP zt194 9 23 [some (.ref 19)] [.int 0] rfl rfl ?_
      refine z_xrz zt194 10 rfl zzr194 (by decide) (by decide) ?_
      show z_ev (d + 2) 191 140 [some (.ref 19), some (.int 0), some (.int 0), some (.int 0), o4] [.int 0] M32 _
      refine z_xP zt191 69 142 [some (.ref 19), some (.int 0), some (.int 0), some (.int 0), some (.int 0)] [] rfl rfl ?_
      refine z_xP zt191 70 36 [some (.ref 19), some (.int 0), some (.int 0), some (.int 0), some (.int 0)] [] rfl rfl ?_
      have h36 := (e34.f f19 (by decide) hp0)
      have h37 := (e34.f f19 (by decide) hp1)
      have h38 := ((congrFun (e34.a f24 (by decide)) _).trans hp2)
      have f23 : T[23]? = some (.inr (23, 0, 80, (-2147483648), 2147483647)) := X33.1.k rfl (by decide)
      have q0 : ((0 : Int32)).toInt = 0 := rfl
      exact ih M32 (0) (some (.int 0)) (some (.int 0)) (some (.int 0)) z0 z1 z2 X33 (by decide) h36 ⟨by omega, by omega⟩ h37 ⟨by omega, by omega⟩ h38 ⟨by omega, by omega⟩ (z_GL.ke hl e34 f23 f24 (by decide)) (z_FPm (z_FPm hf (e34.a f23 (by decide)) rfl) rfl (by omega)) ⟨(z_OT.ke hO.1 X.1 e34 rfl), ((e34.1 19 12 0 0 0 0 22 f19 (by decide)).trans hO.2)⟩ (by omega)
    refine z_xP zt193 5 12 [some (.ref 19)] [.ref 19] rfl rfl ?_
    refine z_xgI zt193 6 rfl zo193 zzf12_129 X f19 (by decide) (by decide) rfl (fun (x40 : Int32) h39 (h41 : 0 ≤ x40.toInt) (h42 : x40.toInt ≤ 1) => ?_)
    refine z_xZ zt193 7 rfl rfl (fun (h43 : x40.toInt = 0) => ?_) (fun (h43 : x40.toInt ≠ 0) => ?_)
    · skip
      refine z_xP zt193 14 31 [some (.ref 19)] [.ref 19] rfl rfl ?_
      refine z_xgX (b := 21) zt193 15 rfl zo193 zzf12_13 X f19 (by decide) (by decide) rfl ?_
      refine z_xP zt193 16 38 [some (.ref 19)] [.ref 19, .int 160, .ref 21] rfl rfl ?_
      refine z_xgv zt193 17 rfl zo193 zzf12_133 X f19 (by decide) hp0 ?_
      refine z_xI zt193 18 rfl rfl (fun (x44 : Int32) (h45 : x44.toInt = 160 * z0.toInt) => ?_) (z_pMul rfl rfl (by omega) (by omega))
      refine z_xP zt193 19 43 [some (.ref 19)] [.ref 19, .int x44, .ref 21] rfl rfl ?_
      refine z_xgv zt193 20 rfl zo193 zzf12_123 X f19 (by decide) hp1 ?_
      refine z_xI zt193 21 rfl rfl (fun (x46 : Int32) (h47 : x46.toInt = x44.toInt + z1.toInt) => ?_) (z_pAdd rfl rfl (by omega) (by omega))
      have f21 : T[21]? = some (.inr (21, 0, 1280, (-2147483648), 2147483647)) := X.1.k rfl (by decide)
      refine z_xil zt193 22 rfl X f21 (by decide) (by omega) (by omega) (fun (x48 : Int32) h49 (h50 : (-2147483648) ≤ x48.toInt) (h51 : x48.toInt ≤ 2147483647) => ?_)
      refine z_xP zt193 23 52 [some (.ref 19)] [.int x48] rfl rfl ?_
      refine z_xri zt193 25 rfl zzr193 ?_
      show z_ev (d + 2) 191 44 [some (.ref 19), some (.int b1), o2, o3, o4] [.int x48] M _
      refine z_xP zt191 21 46 [some (.ref 19), some (.int b1), some (.int x48), o3, o4] [.int x48] rfl rfl ?_
      have h52 := z_b32 x48
      refine z_xL zt191 22 rfl rfl (fun (y53 : Int64) (h54 : y53.toInt = x48.toInt) => ?_) (z_qI2L rfl)
      refine z_xl2 zt191 23 rfl zo191 zkl12_186 ?_
      refine z_xl2 zt191 24 rfl zo191 zkl12_188 ?_
      refine z_xcS (vs := [.long y53, .long 97, .long 106]) (r := []) (L2 := [some (.long y53), none, some (.long 97), none, some (.long 106), none]) zt191 25 rfl zo191 zzcS12_116 (Or.inl rfl) (Nat.le_of_ble_eq_true rfl) rfl rfl (Nat.le_of_ble_eq_true rfl) zzm189 (Nat.le_of_ble_eq_true rfl) rfl ?_
      refine z_xP zt189 0 2 [some (.long y53), none, some (.long 97), none, some (.long 106), none] [.long 97, .long y53] rfl rfl ?_
      refine z_xI zt189 1 rfl rfl (fun (x55 : Int32) (h56 : (x55.toInt < 0 ∧ y53.toInt < 97) ∨ (x55.toInt = 0 ∧ y53.toInt = 97) ∨ (0 < x55.toInt ∧ 97 < y53.toInt)) => ?_) (z_qCmp rfl rfl)
      refine z_xZ zt189 2 rfl rfl (fun (h57 : x55.toInt < 0) => ?_) (fun (h57 : 0 ≤ x55.toInt) => ?_)
      · skip
        refine z_xP zt189 7 18 [some (.long y53), none, some (.long 97), none, some (.long 106), none] [.int 0] rfl rfl ?_
        refine z_xrz zt189 8 rfl zzr189 (by decide) (by decide) ?_
        show z_ev (d + 2) 191 56 [some (.ref 19), some (.int b1), some (.int x48), o3, o4] [.int 0] M _
        refine z_xP zt191 26 58 [some (.ref 19), some (.int b1), some (.int x48), some (.int 0), o4] [.int 0] rfl rfl ?_
        refine z_xZ zt191 27 rfl rfl (fun (h58 : (0 : Int) = 0) => ?_) (fun (h58 : (0 : Int) ≠ 0) => absurd h58 (by omega))
        refine z_xP zt191 59 121 [some (.ref 19), some (.int 0), some (.int x48), some (.int 0), o4] [.int 0] rfl rfl ?_
        refine z_xZ zt191 60 rfl rfl (fun (h59 : (0 : Int) ≠ 0) => absurd h59 (by omega)) (fun (h59 : (0 : Int) = 0) => ?_)
        refine z_xP zt191 61 125 [some (.ref 19), some (.int 0), some (.int x48), some (.int 0), o4] [.ref 19] rfl rfl ?_
        refine z_xgX (b := 24) zt191 62 rfl zo191 zzf12_22 X f19 (by decide) (by decide) rfl ?_
        refine z_xP zt191 63 129 [some (.ref 19), some (.int 0), some (.int x48), some (.int 0), o4] [.ref 19, .ref 24] rfl rfl ?_
        refine z_xgv zt191 64 rfl zo191 zzf12_133 X f19 (by decide) hp0 ?_
        have f24 : T[24]? = some (.inr (24, 0, 8, 0, 10)) := X.1.k rfl (by decide)
        refine z_xil zt191 65 rfl X f24 (by decide) (by omega) (by omega) (fun (x60 : Int32) h61 (h62 : 0 ≤ x60.toInt) (h63 : x60.toInt ≤ 10) => ?_)
        have h64 := congrArg Int32.toInt (h61.symm.trans hp2)
        refine z_xZ zt191 66 rfl rfl (fun (h65 : x60.toInt ≠ 0) => ?_) (fun (h65 : x60.toInt = 0) => ?_)
        · skip
          refine z_xP zt191 70 36 [some (.ref 19), some (.int 0), some (.int x48), some (.int 0), o4] [] rfl rfl ?_
          have q0 : ((0 : Int32)).toInt = 0 := rfl
          exact ih M (0) (some (.int x48)) (some (.int 0)) (o4) z0 z1 z2 X (by decide) hp0 ⟨by omega, by omega⟩ hp1 ⟨by omega, by omega⟩ hp2 ⟨by omega, by omega⟩ hl (z_FPm hf rfl (by omega)) ⟨hO.1, hO.2⟩ (by omega)
        refine z_xP zt191 67 137 [some (.ref 19), some (.int 0), some (.int x48), some (.int 0), o4] [.ref 19] rfl rfl ?_
        refine z_xcV (vs := [.ref 19]) (r := []) (L2 := [some (.ref 19)]) zt191 68 rfl zo191 zzcV12_163 (Or.inl rfl) rfl X f19 rfl rfl rfl (Nat.le_of_ble_eq_true rfl) zzm194 (Nat.le_of_ble_eq_true rfl) rfl ?_
        refine z_xP zt194 0 2 [some (.ref 19)] [.ref 19, .ref 19] rfl rfl ?_
        refine z_xgI zt194 1 rfl zo194 zzf12_136 X f19 (by decide) (by decide) rfl (fun (x67 : Int32) h66 (h68 : (-2147483648) ≤ x67.toInt) (h69 : x67.toInt ≤ 2147483647) => ?_)
        refine z_xZ zt194 2 rfl rfl (fun (h70 : 0 ≤ x67.toInt) => ?_) (fun (h70 : x67.toInt < 0) => ?_)
        · skip
          refine z_xP zt194 6 16 [some (.ref 19)] [.ref 19, .ref 19] rfl rfl ?_
          refine z_xgv zt194 7 rfl zo194 zzf12_136 X f19 (by decide) h66 ?_
          refine z_xpf zt194 8 rfl zo194 zzf12_136 X f19 (by decide) (by decide) ⟨Int32.le_toInt _, Int32.toInt_le _⟩ rfl (by decide) zw12_26 (fun M71 X72 e73 h74 => ?_)
          refine z_xP zt194 9 23 [some (.ref 19)] [.int 0] rfl rfl ?_
          refine z_xrz zt194 10 rfl zzr194 (by decide) (by decide) ?_
          show z_ev (d + 2) 191 140 [some (.ref 19), some (.int 0), some (.int x48), some (.int 0), o4] [.int 0] M71 _
          refine z_xP zt191 69 142 [some (.ref 19), some (.int 0), some (.int x48), some (.int 0), some (.int 0)] [] rfl rfl ?_
          refine z_xP zt191 70 36 [some (.ref 19), some (.int 0), some (.int x48), some (.int 0), some (.int 0)] [] rfl rfl ?_
          have h75 := (e73.f f19 (by decide) hp0)
          have h76 := (e73.f f19 (by decide) hp1)
          have h77 := ((congrFun (e73.a f24 (by decide)) _).trans hp2)
          have f23 : T[23]? = some (.inr (23, 0, 80, (-2147483648), 2147483647)) := X72.1.k rfl (by decide)
          have q0 : ((0 : Int32)).toInt = 0 := rfl
          exact ih M71 (0) (some (.int x48)) (some (.int 0)) (some (.int 0)) z0 z1 z2 X72 (by decide) h75 ⟨by omega, by omega⟩ h76 ⟨by omega, by omega⟩ h77 ⟨by omega, by omega⟩ (z_GL.ke hl e73 f23 f24 (by decide)) (z_FPm (z_FPm hf (e73.a f23 (by decide)) rfl) rfl (by omega)) ⟨(z_OT.ke hO.1 X.1 e73 rfl), ((e73.1 19 12 0 0 0 0 22 f19 (by decide)).trans hO.2)⟩ (by omega)
        refine z_xP zt194 3 9 [some (.ref 19)] [.ref 19, .ref 19] rfl rfl ?_
        refine z_xgv zt194 4 rfl zo194 zzf12_123 X f19 (by decide) hp1 ?_
        refine z_xP zt194 5 19 [some (.ref 19)] [.int z1, .ref 19] rfl rfl ?_
        refine z_xpf zt194 8 rfl zo194 zzf12_136 X f19 (by decide) (by decide) ⟨Int32.le_toInt _, Int32.toInt_le _⟩ rfl (by decide) zw12_26 (fun M78 X79 e80 h81 => ?_)
        refine z_xP zt194 9 23 [some (.ref 19)] [.int 0] rfl rfl ?_
        refine z_xrz zt194 10 rfl zzr194 (by decide) (by decide) ?_
        show z_ev (d + 2) 191 140 [some (.ref 19), some (.int 0), some (.int x48), some (.int 0), o4] [.int 0] M78 _
        refine z_xP zt191 69 142 [some (.ref 19), some (.int 0), some (.int x48), some (.int 0), some (.int 0)] [] rfl rfl ?_
        refine z_xP zt191 70 36 [some (.ref 19), some (.int 0), some (.int x48), some (.int 0), some (.int 0)] [] rfl rfl ?_
        have h82 := (e80.f f19 (by decide) hp0)
        have h83 := (e80.f f19 (by decide) hp1)
        have h84 := ((congrFun (e80.a f24 (by decide)) _).trans hp2)
        have f23 : T[23]? = some (.inr (23, 0, 80, (-2147483648), 2147483647)) := X79.1.k rfl (by decide)
        have q0 : ((0 : Int32)).toInt = 0 := rfl
        exact ih M78 (0) (some (.int x48)) (some (.int 0)) (some (.int 0)) z0 z1 z2 X79 (by decide) h82 ⟨by omega, by omega⟩ h83 ⟨by omega, by omega⟩ h84 ⟨by omega, by omega⟩ (z_GL.ke hl e80 f23 f24 (by decide)) (z_FPm (z_FPm hf (e80.a f23 (by decide)) rfl) rfl (by omega)) ⟨(z_OT.ke hO.1 X.1 e80 rfl), ((e80.1 19 12 0 0 0 0 22 f19 (by decide)).trans hO.2)⟩ (by omega)
      refine z_xP zt189 3 9 [some (.long y53), none, some (.long 97), none, some (.long 106), none] [.long 106, .long y53] rfl rfl ?_
      refine z_xI zt189 4 rfl rfl (fun (x85 : Int32) (h86 : (x85.toInt < 0 ∧ y53.toInt < 106) ∨ (x85.toInt = 0 ∧ y53.toInt = 106) ∨ (0 < x85.toInt ∧ 106 < y53.toInt)) => ?_) (z_qCmp rfl rfl)
      refine z_xZ zt189 5 rfl rfl (fun (h87 : 0 < x85.toInt) => ?_) (fun (h87 : x85.toInt ≤ 0) => ?_)
      · skip
        refine z_xP zt189 7 18 [some (.long y53), none, some (.long 97), none, some (.long 106), none] [.int 0] rfl rfl ?_
        refine z_xrz zt189 8 rfl zzr189 (by decide) (by decide) ?_
        show z_ev (d + 2) 191 56 [some (.ref 19), some (.int b1), some (.int x48), o3, o4] [.int 0] M _
        refine z_xP zt191 26 58 [some (.ref 19), some (.int b1), some (.int x48), some (.int 0), o4] [.int 0] rfl rfl ?_
        refine z_xZ zt191 27 rfl rfl (fun (h88 : (0 : Int) = 0) => ?_) (fun (h88 : (0 : Int) ≠ 0) => absurd h88 (by omega))
        refine z_xP zt191 59 121 [some (.ref 19), some (.int 0), some (.int x48), some (.int 0), o4] [.int 0] rfl rfl ?_
        refine z_xZ zt191 60 rfl rfl (fun (h89 : (0 : Int) ≠ 0) => absurd h89 (by omega)) (fun (h89 : (0 : Int) = 0) => ?_)
        refine z_xP zt191 61 125 [some (.ref 19), some (.int 0), some (.int x48), some (.int 0), o4] [.ref 19] rfl rfl ?_
        refine z_xgX (b := 24) zt191 62 rfl zo191 zzf12_22 X f19 (by decide) (by decide) rfl ?_
        refine z_xP zt191 63 129 [some (.ref 19), some (.int 0), some (.int x48), some (.int 0), o4] [.ref 19, .ref 24] rfl rfl ?_
        refine z_xgv zt191 64 rfl zo191 zzf12_133 X f19 (by decide) hp0 ?_
        have f24 : T[24]? = some (.inr (24, 0, 8, 0, 10)) := X.1.k rfl (by decide)
        refine z_xil zt191 65 rfl X f24 (by decide) (by omega) (by omega) (fun (x90 : Int32) h91 (h92 : 0 ≤ x90.toInt) (h93 : x90.toInt ≤ 10) => ?_)
        have h94 := congrArg Int32.toInt (h91.symm.trans hp2)
        refine z_xZ zt191 66 rfl rfl (fun (h95 : x90.toInt ≠ 0) => ?_) (fun (h95 : x90.toInt = 0) => ?_)
        · skip
          refine z_xP zt191 70 36 [some (.ref 19), some (.int 0), some (.int x48), some (.int 0), o4] [] rfl rfl ?_
          have q0 : ((0 : Int32)).toInt = 0 := rfl
          exact ih M (0) (some (.int x48)) (some (.int 0)) (o4) z0 z1 z2 X (by decide) hp0 ⟨by omega, by omega⟩ hp1 ⟨by omega, by omega⟩ hp2 ⟨by omega, by omega⟩ hl (z_FPm hf rfl (by omega)) ⟨hO.1, hO.2⟩ (by omega)
        refine z_xP zt191 67 137 [some (.ref 19), some (.int 0), some (.int x48), some (.int 0), o4] [.ref 19] rfl rfl ?_
        refine z_xcV (vs := [.ref 19]) (r := []) (L2 := [some (.ref 19)]) zt191 68 rfl zo191 zzcV12_163 (Or.inl rfl) rfl X f19 rfl rfl rfl (Nat.le_of_ble_eq_true rfl) zzm194 (Nat.le_of_ble_eq_true rfl) rfl ?_
        refine z_xP zt194 0 2 [some (.ref 19)] [.ref 19, .ref 19] rfl rfl ?_
        refine z_xgI zt194 1 rfl zo194 zzf12_136 X f19 (by decide) (by decide) rfl (fun (x97 : Int32) h96 (h98 : (-2147483648) ≤ x97.toInt) (h99 : x97.toInt ≤ 2147483647) => ?_)
        refine z_xZ zt194 2 rfl rfl (fun (h100 : 0 ≤ x97.toInt) => ?_) (fun (h100 : x97.toInt < 0) => ?_)
        · skip
          refine z_xP zt194 6 16 [some (.ref 19)] [.ref 19, .ref 19] rfl rfl ?_
          refine z_xgv zt194 7 rfl zo194 zzf12_136 X f19 (by decide) h96 ?_
          refine z_xpf zt194 8 rfl zo194 zzf12_136 X f19 (by decide) (by decide) ⟨Int32.le_toInt _, Int32.toInt_le _⟩ rfl (by decide) zw12_26 (fun M101 X102 e103 h104 => ?_)
          refine z_xP zt194 9 23 [some (.ref 19)] [.int 0] rfl rfl ?_
          refine z_xrz zt194 10 rfl zzr194 (by decide) (by decide) ?_
          show z_ev (d + 2) 191 140 [some (.ref 19), some (.int 0), some (.int x48), some (.int 0), o4] [.int 0] M101 _
          refine z_xP zt191 69 142 [some (.ref 19), some (.int 0), some (.int x48), some (.int 0), some (.int 0)] [] rfl rfl ?_
          refine z_xP zt191 70 36 [some (.ref 19), some (.int 0), some (.int x48), some (.int 0), some (.int 0)] [] rfl rfl ?_
          have h105 := (e103.f f19 (by decide) hp0)
          have h106 := (e103.f f19 (by decide) hp1)
          have h107 := ((congrFun (e103.a f24 (by decide)) _).trans hp2)
          have f23 : T[23]? = some (.inr (23, 0, 80, (-2147483648), 2147483647)) := X102.1.k rfl (by decide)
          have q0 : ((0 : Int32)).toInt = 0 := rfl
          exact ih M101 (0) (some (.int x48)) (some (.int 0)) (some (.int 0)) z0 z1 z2 X102 (by decide) h105 ⟨by omega, by omega⟩ h106 ⟨by omega, by omega⟩ h107 ⟨by omega, by omega⟩ (z_GL.ke hl e103 f23 f24 (by decide)) (z_FPm (z_FPm hf (e103.a f23 (by decide)) rfl) rfl (by omega)) ⟨(z_OT.ke hO.1 X.1 e103 rfl), ((e103.1 19 12 0 0 0 0 22 f19 (by decide)).trans hO.2)⟩ (by omega)
        refine z_xP zt194 3 9 [some (.ref 19)] [.ref 19, .ref 19] rfl rfl ?_
        refine z_xgv zt194 4 rfl zo194 zzf12_123 X f19 (by decide) hp1 ?_
        refine z_xP zt194 5 19 [some (.ref 19)] [.int z1, .ref 19] rfl rfl ?_
        refine z_xpf zt194 8 rfl zo194 zzf12_136 X f19 (by decide) (by decide) ⟨Int32.le_toInt _, Int32.toInt_le _⟩ rfl (by decide) zw12_26 (fun M108 X109 e110 h111 => ?_)
        refine z_xP zt194 9 23 [some (.ref 19)] [.int 0] rfl rfl ?_
        refine z_xrz zt194 10 rfl zzr194 (by decide) (by decide) ?_
        show z_ev (d + 2) 191 140 [some (.ref 19), some (.int 0), some (.int x48), some (.int 0), o4] [.int 0] M108 _
        refine z_xP zt191 69 142 [some (.ref 19), some (.int 0), some (.int x48), some (.int 0), some (.int 0)] [] rfl rfl ?_
        refine z_xP zt191 70 36 [some (.ref 19), some (.int 0), some (.int x48), some (.int 0), some (.int 0)] [] rfl rfl ?_
        have h112 := (e110.f f19 (by decide) hp0)
        have h113 := (e110.f f19 (by decide) hp1)
        have h114 := ((congrFun (e110.a f24 (by decide)) _).trans hp2)
        have f23 : T[23]? = some (.inr (23, 0, 80, (-2147483648), 2147483647)) := X109.1.k rfl (by decide)
        have q0 : ((0 : Int32)).toInt = 0 := rfl
        exact ih M108 (0) (some (.int x48)) (some (.int 0)) (some (.int 0)) z0 z1 z2 X109 (by decide) h112 ⟨by omega, by omega⟩ h113 ⟨by omega, by omega⟩ h114 ⟨by omega, by omega⟩ (z_GL.ke hl e110 f23 f24 (by decide)) (z_FPm (z_FPm hf (e110.a f23 (by decide)) rfl) rfl (by omega)) ⟨(z_OT.ke hO.1 X.1 e110 rfl), ((e110.1 19 12 0 0 0 0 22 f19 (by decide)).trans hO.2)⟩ (by omega)
      refine z_xP zt189 6 18 [some (.long y53), none, some (.long 97), none, some (.long 106), none] [.int 1] rfl rfl ?_
      refine z_xrz zt189 8 rfl zzr189 (by decide) (by decide) ?_
      show z_ev (d + 2) 191 56 [some (.ref 19), some (.int b1), some (.int x48), o3, o4] [.int 1] M _
      refine z_xP zt191 26 58 [some (.ref 19), some (.int b1), some (.int x48), some (.int 1), o4] [.int 1] rfl rfl ?_
      refine z_xZ zt191 27 rfl rfl (fun (h115 : (1 : Int) = 0) => absurd h115 (by omega)) (fun (h115 : (1 : Int) ≠ 0) => ?_)
      refine z_xP zt191 28 63 [some (.ref 19), some (.int b1), some (.int x48), some (.int 1), o4] [.int x48, .ref 19] rfl rfl ?_
      refine z_xcV (vs := [.ref 19, .int x48]) (r := []) (L2 := [some (.ref 19), some (.int x48), none]) zt191 29 rfl zo191 zzcV12_179 (Or.inl rfl) rfl X f19 rfl rfl rfl (Nat.le_of_ble_eq_true rfl) zzm195 (Nat.le_of_ble_eq_true rfl) rfl ?_
      refine zC195 X.1 hp0 ⟨by omega, by omega⟩ hl (fun x124 M116 X117 h125 h126 h118 h119 z120 h121 h122 h123 => ?_)
      have X127 := X.go X117 (z_sb (by decide))
      show z_ev (d + 2) 191 66 [some (.ref 19), some (.int b1), some (.int x48), some (.int 1), o4] [.int x124] M116 _
      refine z_xZ zt191 30 rfl rfl (fun (h129 : 0 ≤ x124.toInt) => ?_) (fun (h129 : x124.toInt < 0) => ?_)
      · skip
        refine z_xP zt191 59 121 [some (.ref 19), some (.int 0), some (.int x48), some (.int 1), o4] [.int 1] rfl rfl ?_
        refine z_xZ zt191 60 rfl rfl (fun (h130 : (1 : Int) ≠ 0) => ?_) (fun (h130 : (1 : Int) = 0) => absurd h130 (by omega))
        refine z_xP zt191 67 137 [some (.ref 19), some (.int 0), some (.int x48), some (.int 1), o4] [.ref 19] rfl rfl ?_
        refine z_xcV (vs := [.ref 19]) (r := []) (L2 := [some (.ref 19)]) zt191 68 rfl zo191 zzcV12_163 (Or.inl rfl) rfl X127 f19 rfl rfl rfl (Nat.le_of_ble_eq_true rfl) zzm194 (Nat.le_of_ble_eq_true rfl) rfl ?_
        refine z_xP zt194 0 2 [some (.ref 19)] [.ref 19, .ref 19] rfl rfl ?_
        refine z_xgI zt194 1 rfl zo194 zzf12_136 X127 f19 (by decide) (by decide) rfl (fun (x132 : Int32) h131 (h133 : (-2147483648) ≤ x132.toInt) (h134 : x132.toInt ≤ 2147483647) => ?_)
        refine z_xZ zt194 2 rfl rfl (fun (h135 : 0 ≤ x132.toInt) => ?_) (fun (h135 : x132.toInt < 0) => ?_)
        · skip
          refine z_xP zt194 6 16 [some (.ref 19)] [.ref 19, .ref 19] rfl rfl ?_
          refine z_xgv zt194 7 rfl zo194 zzf12_136 X127 f19 (by decide) h131 ?_
          refine z_xpf zt194 8 rfl zo194 zzf12_136 X127 f19 (by decide) (by decide) ⟨Int32.le_toInt _, Int32.toInt_le _⟩ rfl (by decide) zw12_26 (fun M136 X137 e138 h139 => ?_)
          refine z_xP zt194 9 23 [some (.ref 19)] [.int 0] rfl rfl ?_
          refine z_xrz zt194 10 rfl zzr194 (by decide) (by decide) ?_
          show z_ev (d + 2) 191 140 [some (.ref 19), some (.int 0), some (.int x48), some (.int 1), o4] [.int 0] M136 _
          refine z_xP zt191 69 142 [some (.ref 19), some (.int 0), some (.int x48), some (.int 1), some (.int 0)] [] rfl rfl ?_
          refine z_xP zt191 70 36 [some (.ref 19), some (.int 0), some (.int x48), some (.int 1), some (.int 0)] [] rfl rfl ?_
          have h140 := (e138.f f19 (by decide) (X117.2.f f19 (by decide) hp0))
          have h141 := (e138.f f19 (by decide) (X117.2.f f19 (by decide) hp1))
          have f24 : T[24]? = some (.inr (24, 0, 8, 0, 10)) := X137.1.k rfl (by decide)
          have h142 := ((congrFun (e138.a f24 (by decide)) _).trans ((congrFun (X117.2.a f24 (by decide)) _).trans hp2))
          have f23 : T[23]? = some (.inr (23, 0, 80, (-2147483648), 2147483647)) := X137.1.k rfl (by decide)
          have q0 : ((0 : Int32)).toInt = 0 := rfl
          have q1 : ((1 : Int32)).toInt = 1 := rfl
          exact ih M136 (0) (some (.int x48)) (some (.int 1)) (some (.int 0)) z0 z1 z2 X137 (by decide) h140 ⟨by omega, by omega⟩ h141 ⟨by omega, by omega⟩ h142 ⟨by omega, by omega⟩ (z_GL.ke (z_GL.ke hl X117.2 f23 f24 (by decide)) e138 f23 f24 (by decide)) (z_FPm (z_FPm (z_FPm hf (X117.2.a f23 (by decide)) rfl) (e138.a f23 (by decide)) rfl) rfl (by omega)) ⟨(z_OT.ke (z_OT.ke hO.1 X.1 X117.2 rfl) X.1 e138 rfl), (((e138.1 19 12 0 0 0 0 22 f19 (by decide)).trans (X117.2.1 19 12 0 0 0 0 22 f19 (by decide))).trans hO.2)⟩ (by omega)
        refine z_xP zt194 3 9 [some (.ref 19)] [.ref 19, .ref 19] rfl rfl ?_
        have h143 := (X117.2.f f19 (by decide) hp1)
        refine z_xgv zt194 4 rfl zo194 zzf12_123 X127 f19 (by decide) h143 ?_
        refine z_xP zt194 5 19 [some (.ref 19)] [.int z1, .ref 19] rfl rfl ?_
        refine z_xpf zt194 8 rfl zo194 zzf12_136 X127 f19 (by decide) (by decide) ⟨Int32.le_toInt _, Int32.toInt_le _⟩ rfl (by decide) zw12_26 (fun M144 X145 e146 h147 => ?_)
        refine z_xP zt194 9 23 [some (.ref 19)] [.int 0] rfl rfl ?_
        refine z_xrz zt194 10 rfl zzr194 (by decide) (by decide) ?_
        show z_ev (d + 2) 191 140 [some (.ref 19), some (.int 0), some (.int x48), some (.int 1), o4] [.int 0] M144 _
        refine z_xP zt191 69 142 [some (.ref 19), some (.int 0), some (.int x48), some (.int 1), some (.int 0)] [] rfl rfl ?_
        refine z_xP zt191 70 36 [some (.ref 19), some (.int 0), some (.int x48), some (.int 1), some (.int 0)] [] rfl rfl ?_
        have h148 := (e146.f f19 (by decide) (X117.2.f f19 (by decide) hp0))
        have h149 := (e146.f f19 (by decide) h143)
        have f24 : T[24]? = some (.inr (24, 0, 8, 0, 10)) := X145.1.k rfl (by decide)
        have h150 := ((congrFun (e146.a f24 (by decide)) _).trans ((congrFun (X117.2.a f24 (by decide)) _).trans hp2))
        have f23 : T[23]? = some (.inr (23, 0, 80, (-2147483648), 2147483647)) := X145.1.k rfl (by decide)
        have q0 : ((0 : Int32)).toInt = 0 := rfl
        have q1 : ((1 : Int32)).toInt = 1 := rfl
        exact ih M144 (0) (some (.int x48)) (some (.int 1)) (some (.int 0)) z0 z1 z2 X145 (by decide) h148 ⟨by omega, by omega⟩ h149 ⟨by omega, by omega⟩ h150 ⟨by omega, by omega⟩ (z_GL.ke (z_GL.ke hl X117.2 f23 f24 (by decide)) e146 f23 f24 (by decide)) (z_FPm (z_FPm (z_FPm hf (X117.2.a f23 (by decide)) rfl) (e146.a f23 (by decide)) rfl) rfl (by omega)) ⟨(z_OT.ke (z_OT.ke hO.1 X.1 X117.2 rfl) X.1 e146 rfl), (((e146.1 19 12 0 0 0 0 22 f19 (by decide)).trans (X117.2.1 19 12 0 0 0 0 22 f19 (by decide))).trans hO.2)⟩ (by omega)
      refine z_xP zt191 31 70 [some (.ref 19), some (.int b1), some (.int x48), some (.int 1), o4] [.ref 19] rfl rfl ?_
      refine z_xgX (b := 23) zt191 32 rfl zo191 zzf12_19 X127 f19 (by decide) (by decide) rfl ?_
      refine z_xP zt191 33 76 [some (.ref 19), some (.int b1), some (.int x48), some (.int 1), o4] [.ref 19, .int 10, .ref 23] rfl rfl ?_
      have h151 := (X117.2.f f19 (by decide) hp0)
      refine z_xgv zt191 34 rfl zo191 zzf12_133 X127 f19 (by decide) h151 ?_
      refine z_xI zt191 35 rfl rfl (fun (x152 : Int32) (h153 : x152.toInt = 10 * z0.toInt) => ?_) (z_pMul rfl rfl (by omega) (by omega))
      refine z_xP zt191 36 81 [some (.ref 19), some (.int b1), some (.int x48), some (.int 1), o4] [.ref 19, .int x152, .ref 23] rfl rfl ?_
      refine z_xgX (b := 24) zt191 37 rfl zo191 zzf12_22 X127 f19 (by decide) (by decide) rfl ?_
      refine z_xP zt191 38 85 [some (.ref 19), some (.int b1), some (.int x48), some (.int 1), o4] [.ref 19, .ref 24, .int x152, .ref 23] rfl rfl ?_
      refine z_xgv zt191 39 rfl zo191 zzf12_133 X127 f19 (by decide) h151 ?_
      have f24 : T[24]? = some (.inr (24, 0, 8, 0, 10)) := X127.1.k rfl (by decide)
      refine z_xil zt191 40 rfl X127 f24 (by decide) (by omega) (by omega) (fun (x154 : Int32) h155 (h156 : 0 ≤ x154.toInt) (h157 : x154.toInt ≤ 10) => ?_)
      have h158 := congrArg Int32.toInt (h155.symm.trans ((congrFun (X117.2.a f24 (by decide)) _).trans hp2))
      refine z_xI zt191 41 rfl rfl (fun (x159 : Int32) (h160 : x159.toInt = x152.toInt + x154.toInt) => ?_) (z_pAdd rfl rfl (by omega) (by omega))
      refine z_xP zt191 42 91 [some (.ref 19), some (.int b1), some (.int x48), some (.int 1), o4] [.int x48, .int x159, .ref 23] rfl rfl ?_
      have f23 : T[23]? = some (.inr (23, 0, 80, (-2147483648), 2147483647)) := X127.1.k rfl (by decide)
      have h162 := ((congrFun (X117.2.a f24 (by decide)) _).trans hp2)
      have h163 := z_NQm (h119 (by omega)) rfl (n2 := z2.toInt) (Int.le_of_eq (congrArg Int32.toInt hp2).symm)
      have h164 := z_NQm h163 (X117.2.a f23 (by decide)) (Int.le_refl _)
      have h165 := (z_FPm hf (X117.2.a f23 (by decide)) rfl)
      have h161 := z_FPn h165 h164 (by omega) (by omega)
      refine z_xis zt191 43 rfl X127 f23 (by decide) (by decide) (by omega) (by omega) (Int32.le_toInt _) (Int32.toInt_le _) (by decide) (fun M166 X167 e168 h169 => ?_)
      have h170 := (e168.f f19 (by decide) h151)
      have h171 := z_GLl (z_GL.ke hl X117.2 f23 f24 (by decide)) h162 (by omega) (by omega) (by omega) (by omega) h169 (e168.a f24 (by decide))
      have h174 := ((congrFun (e168.a f24 (by decide)) _).trans h162)
      have h172 := z_FPs (n2 := z2.toInt + 1) h165 h164 (by omega) (by omega) h169 (by omega) (by omega) (by omega) rfl
      refine z_xP zt191 44 93 [some (.ref 19), some (.int b1), some (.int x48), some (.int 1), o4] [.ref 19] rfl rfl ?_
      refine z_xgX (b := 24) zt191 45 rfl zo191 zzf12_22 X167 f19 (by decide) (by decide) rfl ?_
      refine z_xP zt191 46 97 [some (.ref 19), some (.int b1), some (.int x48), some (.int 1), o4] [.ref 19, .ref 24] rfl rfl ?_
      refine z_xgv zt191 47 rfl zo191 zzf12_133 X167 f19 (by decide) h170 ?_
      refine z_xP zt191 48 101 [some (.ref 19), some (.int b1), some (.int x48), some (.int 1), o4] [.int z0, .ref 24, .int z0, .ref 24] rfl rfl ?_
      refine z_xil zt191 49 rfl X167 f24 (by decide) (by omega) (by omega) (fun (x175 : Int32) h176 (h177 : 0 ≤ x175.toInt) (h178 : x175.toInt ≤ 10) => ?_)
      have h179 := congrArg Int32.toInt (h176.symm.trans h174)
      refine z_xP zt191 50 103 [some (.ref 19), some (.int b1), some (.int x48), some (.int 1), o4] [.int 1, .int x175, .int z0, .ref 24] rfl rfl ?_
      refine z_xI zt191 51 rfl rfl (fun (x180 : Int32) (h181 : x180.toInt = x175.toInt + 1) => ?_) (z_pAdd rfl rfl (by omega) (by omega))
      refine z_xis zt191 52 rfl X167 f24 (by decide) (by decide) (by omega) (by omega) (by omega) (by omega) (by decide) (fun M182 X183 e184 h185 => ?_)
      have h186 := (e184.f f19 (by decide) h170)
      have h187 := z_GLq h171 h174 (by omega) (by omega) (by omega) (z_upe h169) (by omega) (by omega) (e184.a f23 (by decide)) h185
      have h188 := z_FPm (n2 := x180.toInt) (z_FPm h172 (e184.a f23 (by decide)) rfl) rfl (by omega)
      have q190 := (z_OTA h186 (((e184.1 19 12 0 0 0 0 22 f19 (by decide)).trans ((e168.1 19 12 0 0 0 0 22 f19 (by decide)).trans (X117.2.1 19 12 0 0 0 0 22 f19 (by decide)))).trans hO.2).symm)
      have o189 := z_OT.st (A := (z_Fv M0 19 22).toInt) (z_OT.ke (z_OT.ke hO.1 X.1 X117.2 rfl) X.1 e168 rfl) X.1 e184 h185 (r := 24) (by decide) (fun _ => by omega) (fun h => absurd h (by decide))
      refine z_xP zt191 53 107 [some (.ref 19), some (.int b1), some (.int x48), some (.int 1), o4] [.ref 19, .ref 19] rfl rfl ?_
      have h191 := (e184.f f19 (by decide) (e168.f f19 (by decide) (X117.2.f f19 (by decide) hp1)))
      refine z_xgv zt191 54 rfl zo191 zzf12_123 X183 f19 (by decide) h191 ?_
      refine z_xP zt191 55 111 [some (.ref 19), some (.int b1), some (.int x48), some (.int 1), o4] [.int 1, .int z1, .ref 19] rfl rfl ?_
      refine z_xI zt191 56 rfl rfl (fun (x192 : Int32) (h193 : x192.toInt = z1.toInt + 1) => ?_) (z_pAdd rfl rfl (by omega) (by omega))
      refine z_xpf zt191 57 rfl zo191 zzf12_123 X183 f19 (by decide) (by decide) ⟨by omega, by omega⟩ rfl (by decide) zw12_24 (fun M194 X195 e196 h197 => ?_)
      refine z_xP zt191 58 142 [some (.ref 19), some (.int b1), some (.int x48), some (.int 1), o4] [] rfl rfl ?_
      refine z_xP zt191 70 36 [some (.ref 19), some (.int b1), some (.int x48), some (.int 1), o4] [] rfl rfl ?_
      have h198 := (e196.f f19 (by decide) h186)
      have h199 := ((congrFun (e196.a f24 (by decide)) _).trans (z_upe h185))
      have q1 : ((1 : Int32)).toInt = 1 := rfl
      exact ih M194 b1 (some (.int x48)) (some (.int 1)) (o4) z0 x192 x180 X195 ⟨by omega, by omega⟩ h198 ⟨by omega, by omega⟩ h197 ⟨by omega, by omega⟩ h199 ⟨by omega, by omega⟩ (z_GL.ke h187 e196 f23 f24 (by decide)) (z_FPm (z_FPm h188 (e196.a f23 (by decide)) rfl) rfl (by omega)) ⟨(z_OT.ke o189 X.1 e196 rfl), (((e196.1 19 12 0 0 0 0 22 f19 (by decide)).trans ((e184.1 19 12 0 0 0 0 22 f19 (by decide)).trans ((e168.1 19 12 0 0 0 0 22 f19 (by decide)).trans (X117.2.1 19 12 0 0 0 0 22 f19 (by decide))))).trans hO.2)⟩ (by omega)
    refine z_xP zt193 8 19 [some (.ref 19)] [.ref 19] rfl rfl ?_
    refine z_xgX (b := 20) zt193 9 rfl zo193 zzf12_9 X f19 (by decide) (by decide) rfl ?_
    refine z_xP zt193 10 23 [some (.ref 19)] [.ref 19, .ref 20] rfl rfl ?_
    refine z_xgv zt193 11 rfl zo193 zzf12_123 X f19 (by decide) hp1 ?_
    have f20 : T[20]? = some (.inr (20, 0, 160, (-2147483648), 2147483647)) := X.1.k rfl (by decide)
    refine z_xil zt193 12 rfl X f20 (by decide) (by omega) (by omega) (fun (x200 : Int32) h201 (h202 : (-2147483648) ≤ x200.toInt) (h203 : x200.toInt ≤ 2147483647) => ?_)
    refine z_xP zt193 13 52 [some (.ref 19)] [.int x200] rfl rfl ?_
    refine z_xri zt193 25 rfl zzr193 ?_
    show z_ev (d + 2) 191 44 [some (.ref 19), some (.int b1), o2, o3, o4] [.int x200] M _
    refine z_xP zt191 21 46 [some (.ref 19), some (.int b1), some (.int x200), o3, o4] [.int x200] rfl rfl ?_
    have h204 := z_b32 x200
    refine z_xL zt191 22 rfl rfl (fun (y205 : Int64) (h206 : y205.toInt = x200.toInt) => ?_) (z_qI2L rfl)
    refine z_xl2 zt191 23 rfl zo191 zkl12_186 ?_
    refine z_xl2 zt191 24 rfl zo191 zkl12_188 ?_
    refine z_xcS (vs := [.long y205, .long 97, .long 106]) (r := []) (L2 := [some (.long y205), none, some (.long 97), none, some (.long 106), none]) zt191 25 rfl zo191 zzcS12_116 (Or.inl rfl) (Nat.le_of_ble_eq_true rfl) rfl rfl (Nat.le_of_ble_eq_true rfl) zzm189 (Nat.le_of_ble_eq_true rfl) rfl ?_
    refine z_xP zt189 0 2 [some (.long y205), none, some (.long 97), none, some (.long 106), none] [.long 97, .long y205] rfl rfl ?_
    refine z_xI zt189 1 rfl rfl (fun (x207 : Int32) (h208 : (x207.toInt < 0 ∧ y205.toInt < 97) ∨ (x207.toInt = 0 ∧ y205.toInt = 97) ∨ (0 < x207.toInt ∧ 97 < y205.toInt)) => ?_) (z_qCmp rfl rfl)
    refine z_xZ zt189 2 rfl rfl (fun (h209 : x207.toInt < 0) => ?_) (fun (h209 : 0 ≤ x207.toInt) => ?_)
    · skip
      refine z_xP zt189 7 18 [some (.long y205), none, some (.long 97), none, some (.long 106), none] [.int 0] rfl rfl ?_
      refine z_xrz zt189 8 rfl zzr189 (by decide) (by decide) ?_
      show z_ev (d + 2) 191 56 [some (.ref 19), some (.int b1), some (.int x200), o3, o4] [.int 0] M _
      refine z_xP zt191 26 58 [some (.ref 19), some (.int b1), some (.int x200), some (.int 0), o4] [.int 0] rfl rfl ?_
      refine z_xZ zt191 27 rfl rfl (fun (h210 : (0 : Int) = 0) => ?_) (fun (h210 : (0 : Int) ≠ 0) => absurd h210 (by omega))
      refine z_xP zt191 59 121 [some (.ref 19), some (.int 0), some (.int x200), some (.int 0), o4] [.int 0] rfl rfl ?_
      refine z_xZ zt191 60 rfl rfl (fun (h211 : (0 : Int) ≠ 0) => absurd h211 (by omega)) (fun (h211 : (0 : Int) = 0) => ?_)
      refine z_xP zt191 61 125 [some (.ref 19), some (.int 0), some (.int x200), some (.int 0), o4] [.ref 19] rfl rfl ?_
      refine z_xgX (b := 24) zt191 62 rfl zo191 zzf12_22 X f19 (by decide) (by decide) rfl ?_
      refine z_xP zt191 63 129 [some (.ref 19), some (.int 0), some (.int x200), some (.int 0), o4] [.ref 19, .ref 24] rfl rfl ?_
      refine z_xgv zt191 64 rfl zo191 zzf12_133 X f19 (by decide) hp0 ?_
      have f24 : T[24]? = some (.inr (24, 0, 8, 0, 10)) := X.1.k rfl (by decide)
      refine z_xil zt191 65 rfl X f24 (by decide) (by omega) (by omega) (fun (x212 : Int32) h213 (h214 : 0 ≤ x212.toInt) (h215 : x212.toInt ≤ 10) => ?_)
      have h216 := congrArg Int32.toInt (h213.symm.trans hp2)
      refine z_xZ zt191 66 rfl rfl (fun (h217 : x212.toInt ≠ 0) => ?_) (fun (h217 : x212.toInt = 0) => ?_)
      · skip
        refine z_xP zt191 70 36 [some (.ref 19), some (.int 0), some (.int x200), some (.int 0), o4] [] rfl rfl ?_
        have q0 : ((0 : Int32)).toInt = 0 := rfl
        exact ih M (0) (some (.int x200)) (some (.int 0)) (o4) z0 z1 z2 X (by decide) hp0 ⟨by omega, by omega⟩ hp1 ⟨by omega, by omega⟩ hp2 ⟨by omega, by omega⟩ hl (z_FPm hf rfl (by omega)) ⟨hO.1, hO.2⟩ (by omega)
      refine z_xP zt191 67 137 [some (.ref 19), some (.int 0), some (.int x200), some (.int 0), o4] [.ref 19] rfl rfl ?_
      refine z_xcV (vs := [.ref 19]) (r := []) (L2 := [some (.ref 19)]) zt191 68 rfl zo191 zzcV12_163 (Or.inl rfl) rfl X f19 rfl rfl rfl (Nat.le_of_ble_eq_true rfl) zzm194 (Nat.le_of_ble_eq_true rfl) rfl ?_
      refine z_xP zt194 0 2 [some (.ref 19)] [.ref 19, .ref 19] rfl rfl ?_
      refine z_xgI zt194 1 rfl zo194 zzf12_136 X f19 (by decide) (by decide) rfl (fun (x219 : Int32) h218 (h220 : (-2147483648) ≤ x219.toInt) (h221 : x219.toInt ≤ 2147483647) => ?_)
      refine z_xZ zt194 2 rfl rfl (fun (h222 : 0 ≤ x219.toInt) => ?_) (fun (h222 : x219.toInt < 0) => ?_)
      · skip
        refine z_xP zt194 6 16 [some (.ref 19)] [.ref 19, .ref 19] rfl rfl ?_
        refine z_xgv zt194 7 rfl zo194 zzf12_136 X f19 (by decide) h218 ?_
        refine z_xpf zt194 8 rfl zo194 zzf12_136 X f19 (by decide) (by decide) ⟨Int32.le_toInt _, Int32.toInt_le _⟩ rfl (by decide) zw12_26 (fun M223 X224 e225 h226 => ?_)
        refine z_xP zt194 9 23 [some (.ref 19)] [.int 0] rfl rfl ?_
        refine z_xrz zt194 10 rfl zzr194 (by decide) (by decide) ?_
        show z_ev (d + 2) 191 140 [some (.ref 19), some (.int 0), some (.int x200), some (.int 0), o4] [.int 0] M223 _
        refine z_xP zt191 69 142 [some (.ref 19), some (.int 0), some (.int x200), some (.int 0), some (.int 0)] [] rfl rfl ?_
        refine z_xP zt191 70 36 [some (.ref 19), some (.int 0), some (.int x200), some (.int 0), some (.int 0)] [] rfl rfl ?_
        have h227 := (e225.f f19 (by decide) hp0)
        have h228 := (e225.f f19 (by decide) hp1)
        have h229 := ((congrFun (e225.a f24 (by decide)) _).trans hp2)
        have f23 : T[23]? = some (.inr (23, 0, 80, (-2147483648), 2147483647)) := X224.1.k rfl (by decide)
        have q0 : ((0 : Int32)).toInt = 0 := rfl
        exact ih M223 (0) (some (.int x200)) (some (.int 0)) (some (.int 0)) z0 z1 z2 X224 (by decide) h227 ⟨by omega, by omega⟩ h228 ⟨by omega, by omega⟩ h229 ⟨by omega, by omega⟩ (z_GL.ke hl e225 f23 f24 (by decide)) (z_FPm (z_FPm hf (e225.a f23 (by decide)) rfl) rfl (by omega)) ⟨(z_OT.ke hO.1 X.1 e225 rfl), ((e225.1 19 12 0 0 0 0 22 f19 (by decide)).trans hO.2)⟩ (by omega)
      refine z_xP zt194 3 9 [some (.ref 19)] [.ref 19, .ref 19] rfl rfl ?_
      refine z_xgv zt194 4 rfl zo194 zzf12_123 X f19 (by decide) hp1 ?_
      refine z_xP zt194 5 19 [some (.ref 19)] [.int z1, .ref 19] rfl rfl ?_
      refine z_xpf zt194 8 rfl zo194 zzf12_136 X f19 (by decide) (by decide) ⟨Int32.le_toInt _, Int32.toInt_le _⟩ rfl (by decide) zw12_26 (fun M230 X231 e232 h233 => ?_)
      refine z_xP zt194 9 23 [some (.ref 19)] [.int 0] rfl rfl ?_
      refine z_xrz zt194 10 rfl zzr194 (by decide) (by decide) ?_
      show z_ev (d + 2) 191 140 [some (.ref 19), some (.int 0), some (.int x200), some (.int 0), o4] [.int 0] M230 _
      refine z_xP zt191 69 142 [some (.ref 19), some (.int 0), some (.int x200), some (.int 0), some (.int 0)] [] rfl rfl ?_
      refine z_xP zt191 70 36 [some (.ref 19), some (.int 0), some (.int x200), some (.int 0), some (.int 0)] [] rfl rfl ?_
      have h234 := (e232.f f19 (by decide) hp0)
      have h235 := (e232.f f19 (by decide) hp1)
      have h236 := ((congrFun (e232.a f24 (by decide)) _).trans hp2)
      have f23 : T[23]? = some (.inr (23, 0, 80, (-2147483648), 2147483647)) := X231.1.k rfl (by decide)
      have q0 : ((0 : Int32)).toInt = 0 := rfl
      exact ih M230 (0) (some (.int x200)) (some (.int 0)) (some (.int 0)) z0 z1 z2 X231 (by decide) h234 ⟨by omega, by omega⟩ h235 ⟨by omega, by omega⟩ h236 ⟨by omega, by omega⟩ (z_GL.ke hl e232 f23 f24 (by decide)) (z_FPm (z_FPm hf (e232.a f23 (by decide)) rfl) rfl (by omega)) ⟨(z_OT.ke hO.1 X.1 e232 rfl), ((e232.1 19 12 0 0 0 0 22 f19 (by decide)).trans hO.2)⟩ (by omega)
    refine z_xP zt189 3 9 [some (.long y205), none, some (.long 97), none, some (.long 106), none] [.long 106, .long y205] rfl rfl ?_
    refine z_xI zt189 4 rfl rfl (fun (x237 : Int32) (h238 : (x237.toInt < 0 ∧ y205.toInt < 106) ∨ (x237.toInt = 0 ∧ y205.toInt = 106) ∨ (0 < x237.toInt ∧ 106 < y205.toInt)) => ?_) (z_qCmp rfl rfl)
    refine z_xZ zt189 5 rfl rfl (fun (h239 : 0 < x237.toInt) => ?_) (fun (h239 : x237.toInt ≤ 0) => ?_)
    · skip
      refine z_xP zt189 7 18 [some (.long y205), none, some (.long 97), none, some (.long 106), none] [.int 0] rfl rfl ?_
      refine z_xrz zt189 8 rfl zzr189 (by decide) (by decide) ?_
      show z_ev (d + 2) 191 56 [some (.ref 19), some (.int b1), some (.int x200), o3, o4] [.int 0] M _
      refine z_xP zt191 26 58 [some (.ref 19), some (.int b1), some (.int x200), some (.int 0), o4] [.int 0] rfl rfl ?_
      refine z_xZ zt191 27 rfl rfl (fun (h240 : (0 : Int) = 0) => ?_) (fun (h240 : (0 : Int) ≠ 0) => absurd h240 (by omega))
      refine z_xP zt191 59 121 [some (.ref 19), some (.int 0), some (.int x200), some (.int 0), o4] [.int 0] rfl rfl ?_
      refine z_xZ zt191 60 rfl rfl (fun (h241 : (0 : Int) ≠ 0) => absurd h241 (by omega)) (fun (h241 : (0 : Int) = 0) => ?_)
      refine z_xP zt191 61 125 [some (.ref 19), some (.int 0), some (.int x200), some (.int 0), o4] [.ref 19] rfl rfl ?_
      refine z_xgX (b := 24) zt191 62 rfl zo191 zzf12_22 X f19 (by decide) (by decide) rfl ?_
      refine z_xP zt191 63 129 [some (.ref 19), some (.int 0), some (.int x200), some (.int 0), o4] [.ref 19, .ref 24] rfl rfl ?_
      refine z_xgv zt191 64 rfl zo191 zzf12_133 X f19 (by decide) hp0 ?_
      have f24 : T[24]? = some (.inr (24, 0, 8, 0, 10)) := X.1.k rfl (by decide)
      refine z_xil zt191 65 rfl X f24 (by decide) (by omega) (by omega) (fun (x242 : Int32) h243 (h244 : 0 ≤ x242.toInt) (h245 : x242.toInt ≤ 10) => ?_)
      have h246 := congrArg Int32.toInt (h243.symm.trans hp2)
      refine z_xZ zt191 66 rfl rfl (fun (h247 : x242.toInt ≠ 0) => ?_) (fun (h247 : x242.toInt = 0) => ?_)
      · skip
        refine z_xP zt191 70 36 [some (.ref 19), some (.int 0), some (.int x200), some (.int 0), o4] [] rfl rfl ?_
        have q0 : ((0 : Int32)).toInt = 0 := rfl
        exact ih M (0) (some (.int x200)) (some (.int 0)) (o4) z0 z1 z2 X (by decide) hp0 ⟨by omega, by omega⟩ hp1 ⟨by omega, by omega⟩ hp2 ⟨by omega, by omega⟩ hl (z_FPm hf rfl (by omega)) ⟨hO.1, hO.2⟩ (by omega)
      refine z_xP zt191 67 137 [some (.ref 19), some (.int 0), some (.int x200), some (.int 0), o4] [.ref 19] rfl rfl ?_
      refine z_xcV (vs := [.ref 19]) (r := []) (L2 := [some (.ref 19)]) zt191 68 rfl zo191 zzcV12_163 (Or.inl rfl) rfl X f19 rfl rfl rfl (Nat.le_of_ble_eq_true rfl) zzm194 (Nat.le_of_ble_eq_true rfl) rfl ?_
      refine z_xP zt194 0 2 [some (.ref 19)] [.ref 19, .ref 19] rfl rfl ?_
      refine z_xgI zt194 1 rfl zo194 zzf12_136 X f19 (by decide) (by decide) rfl (fun (x249 : Int32) h248 (h250 : (-2147483648) ≤ x249.toInt) (h251 : x249.toInt ≤ 2147483647) => ?_)
      refine z_xZ zt194 2 rfl rfl (fun (h252 : 0 ≤ x249.toInt) => ?_) (fun (h252 : x249.toInt < 0) => ?_)
      · skip
        refine z_xP zt194 6 16 [some (.ref 19)] [.ref 19, .ref 19] rfl rfl ?_
        refine z_xgv zt194 7 rfl zo194 zzf12_136 X f19 (by decide) h248 ?_
        refine z_xpf zt194 8 rfl zo194 zzf12_136 X f19 (by decide) (by decide) ⟨Int32.le_toInt _, Int32.toInt_le _⟩ rfl (by decide) zw12_26 (fun M253 X254 e255 h256 => ?_)
        refine z_xP zt194 9 23 [some (.ref 19)] [.int 0] rfl rfl ?_
        refine z_xrz zt194 10 rfl zzr194 (by decide) (by decide) ?_
        show z_ev (d + 2) 191 140 [some (.ref 19), some (.int 0), some (.int x200), some (.int 0), o4] [.int 0] M253 _
        refine z_xP zt191 69 142 [some (.ref 19), some (.int 0), some (.int x200), some (.int 0), some (.int 0)] [] rfl rfl ?_
        refine z_xP zt191 70 36 [some (.ref 19), some (.int 0), some (.int x200), some (.int 0), some (.int 0)] [] rfl rfl ?_
        have h257 := (e255.f f19 (by decide) hp0)
        have h258 := (e255.f f19 (by decide) hp1)
        have h259 := ((congrFun (e255.a f24 (by decide)) _).trans hp2)
        have f23 : T[23]? = some (.inr (23, 0, 80, (-2147483648), 2147483647)) := X254.1.k rfl (by decide)
        have q0 : ((0 : Int32)).toInt = 0 := rfl
        exact ih M253 (0) (some (.int x200)) (some (.int 0)) (some (.int 0)) z0 z1 z2 X254 (by decide) h257 ⟨by omega, by omega⟩ h258 ⟨by omega, by omega⟩ h259 ⟨by omega, by omega⟩ (z_GL.ke hl e255 f23 f24 (by decide)) (z_FPm (z_FPm hf (e255.a f23 (by decide)) rfl) rfl (by omega)) ⟨(z_OT.ke hO.1 X.1 e255 rfl), ((e255.1 19 12 0 0 0 0 22 f19 (by decide)).trans hO.2)⟩ (by omega)
      refine z_xP zt194 3 9 [some (.ref 19)] [.ref 19, .ref 19] rfl rfl ?_
      refine z_xgv zt194 4 rfl zo194 zzf12_123 X f19 (by decide) hp1 ?_
      refine z_xP zt194 5 19 [some (.ref 19)] [.int z1, .ref 19] rfl rfl ?_
      refine z_xpf zt194 8 rfl zo194 zzf12_136 X f19 (by decide) (by decide) ⟨Int32.le_toInt _, Int32.toInt_le _⟩ rfl (by decide) zw12_26 (fun M260 X261 e262 h263 => ?_)
      refine z_xP zt194 9 23 [some (.ref 19)] [.int 0] rfl rfl ?_
      refine z_xrz zt194 10 rfl zzr194 (by decide) (by decide) ?_
      show z_ev (d + 2) 191 140 [some (.ref 19), some (.int 0), some (.int x200), some (.int 0), o4] [.int 0] M260 _
      refine z_xP zt191 69 142 [some (.ref 19), some (.int 0), some (.int x200), some (.int 0), some (.int 0)] [] rfl rfl ?_
      refine z_xP zt191 70 36 [some (.ref 19), some (.int 0), some (.int x200), some (.int 0), some (.int 0)] [] rfl rfl ?_
      have h264 := (e262.f f19 (by decide) hp0)
      have h265 := (e262.f f19 (by decide) hp1)
      have h266 := ((congrFun (e262.a f24 (by decide)) _).trans hp2)
      have f23 : T[23]? = some (.inr (23, 0, 80, (-2147483648), 2147483647)) := X261.1.k rfl (by decide)
      have q0 : ((0 : Int32)).toInt = 0 := rfl
      exact ih M260 (0) (some (.int x200)) (some (.int 0)) (some (.int 0)) z0 z1 z2 X261 (by decide) h264 ⟨by omega, by omega⟩ h265 ⟨by omega, by omega⟩ h266 ⟨by omega, by omega⟩ (z_GL.ke hl e262 f23 f24 (by decide)) (z_FPm (z_FPm hf (e262.a f23 (by decide)) rfl) rfl (by omega)) ⟨(z_OT.ke hO.1 X.1 e262 rfl), ((e262.1 19 12 0 0 0 0 22 f19 (by decide)).trans hO.2)⟩ (by omega)
    refine z_xP zt189 6 18 [some (.long y205), none, some (.long 97), none, some (.long 106), none] [.int 1] rfl rfl ?_
    refine z_xrz zt189 8 rfl zzr189 (by decide) (by decide) ?_
    show z_ev (d + 2) 191 56 [some (.ref 19), some (.int b1), some (.int x200), o3, o4] [.int 1] M _
    refine z_xP zt191 26 58 [some (.ref 19), some (.int b1), some (.int x200), some (.int 1), o4] [.int 1] rfl rfl ?_
    refine z_xZ zt191 27 rfl rfl (fun (h267 : (1 : Int) = 0) => absurd h267 (by omega)) (fun (h267 : (1 : Int) ≠ 0) => ?_)
    refine z_xP zt191 28 63 [some (.ref 19), some (.int b1), some (.int x200), some (.int 1), o4] [.int x200, .ref 19] rfl rfl ?_
    refine z_xcV (vs := [.ref 19, .int x200]) (r := []) (L2 := [some (.ref 19), some (.int x200), none]) zt191 29 rfl zo191 zzcV12_179 (Or.inl rfl) rfl X f19 rfl rfl rfl (Nat.le_of_ble_eq_true rfl) zzm195 (Nat.le_of_ble_eq_true rfl) rfl ?_
    refine zC195 X.1 hp0 ⟨by omega, by omega⟩ hl (fun x276 M268 X269 h277 h278 h270 h271 z272 h273 h274 h275 => ?_)
    have X279 := X.go X269 (z_sb (by decide))
    show z_ev (d + 2) 191 66 [some (.ref 19), some (.int b1), some (.int x200), some (.int 1), o4] [.int x276] M268 _
    refine z_xZ zt191 30 rfl rfl (fun (h281 : 0 ≤ x276.toInt) => ?_) (fun (h281 : x276.toInt < 0) => ?_)
    · skip
      refine z_xP zt191 59 121 [some (.ref 19), some (.int 0), some (.int x200), some (.int 1), o4] [.int 1] rfl rfl ?_
      refine z_xZ zt191 60 rfl rfl (fun (h282 : (1 : Int) ≠ 0) => ?_) (fun (h282 : (1 : Int) = 0) => absurd h282 (by omega))
      refine z_xP zt191 67 137 [some (.ref 19), some (.int 0), some (.int x200), some (.int 1), o4] [.ref 19] rfl rfl ?_
      refine z_xcV (vs := [.ref 19]) (r := []) (L2 := [some (.ref 19)]) zt191 68 rfl zo191 zzcV12_163 (Or.inl rfl) rfl X279 f19 rfl rfl rfl (Nat.le_of_ble_eq_true rfl) zzm194 (Nat.le_of_ble_eq_true rfl) rfl ?_
      refine z_xP zt194 0 2 [some (.ref 19)] [.ref 19, .ref 19] rfl rfl ?_
      refine z_xgI zt194 1 rfl zo194 zzf12_136 X279 f19 (by decide) (by decide) rfl (fun (x284 : Int32) h283 (h285 : (-2147483648) ≤ x284.toInt) (h286 : x284.toInt ≤ 2147483647) => ?_)
      refine z_xZ zt194 2 rfl rfl (fun (h287 : 0 ≤ x284.toInt) => ?_) (fun (h287 : x284.toInt < 0) => ?_)
      · skip
        refine z_xP zt194 6 16 [some (.ref 19)] [.ref 19, .ref 19] rfl rfl ?_
        refine z_xgv zt194 7 rfl zo194 zzf12_136 X279 f19 (by decide) h283 ?_
        refine z_xpf zt194 8 rfl zo194 zzf12_136 X279 f19 (by decide) (by decide) ⟨Int32.le_toInt _, Int32.toInt_le _⟩ rfl (by decide) zw12_26 (fun M288 X289 e290 h291 => ?_)
        refine z_xP zt194 9 23 [some (.ref 19)] [.int 0] rfl rfl ?_
        refine z_xrz zt194 10 rfl zzr194 (by decide) (by decide) ?_
        show z_ev (d + 2) 191 140 [some (.ref 19), some (.int 0), some (.int x200), some (.int 1), o4] [.int 0] M288 _
        refine z_xP zt191 69 142 [some (.ref 19), some (.int 0), some (.int x200), some (.int 1), some (.int 0)] [] rfl rfl ?_
        refine z_xP zt191 70 36 [some (.ref 19), some (.int 0), some (.int x200), some (.int 1), some (.int 0)] [] rfl rfl ?_
        have h292 := (e290.f f19 (by decide) (X269.2.f f19 (by decide) hp0))
        have h293 := (e290.f f19 (by decide) (X269.2.f f19 (by decide) hp1))
        have f24 : T[24]? = some (.inr (24, 0, 8, 0, 10)) := X289.1.k rfl (by decide)
        have h294 := ((congrFun (e290.a f24 (by decide)) _).trans ((congrFun (X269.2.a f24 (by decide)) _).trans hp2))
        have f23 : T[23]? = some (.inr (23, 0, 80, (-2147483648), 2147483647)) := X289.1.k rfl (by decide)
        have q0 : ((0 : Int32)).toInt = 0 := rfl
        have q1 : ((1 : Int32)).toInt = 1 := rfl
        exact ih M288 (0) (some (.int x200)) (some (.int 1)) (some (.int 0)) z0 z1 z2 X289 (by decide) h292 ⟨by omega, by omega⟩ h293 ⟨by omega, by omega⟩ h294 ⟨by omega, by omega⟩ (z_GL.ke (z_GL.ke hl X269.2 f23 f24 (by decide)) e290 f23 f24 (by decide)) (z_FPm (z_FPm (z_FPm hf (X269.2.a f23 (by decide)) rfl) (e290.a f23 (by decide)) rfl) rfl (by omega)) ⟨(z_OT.ke (z_OT.ke hO.1 X.1 X269.2 rfl) X.1 e290 rfl), (((e290.1 19 12 0 0 0 0 22 f19 (by decide)).trans (X269.2.1 19 12 0 0 0 0 22 f19 (by decide))).trans hO.2)⟩ (by omega)
      refine z_xP zt194 3 9 [some (.ref 19)] [.ref 19, .ref 19] rfl rfl ?_
      have h295 := (X269.2.f f19 (by decide) hp1)
      refine z_xgv zt194 4 rfl zo194 zzf12_123 X279 f19 (by decide) h295 ?_
      refine z_xP zt194 5 19 [some (.ref 19)] [.int z1, .ref 19] rfl rfl ?_
      refine z_xpf zt194 8 rfl zo194 zzf12_136 X279 f19 (by decide) (by decide) ⟨Int32.le_toInt _, Int32.toInt_le _⟩ rfl (by decide) zw12_26 (fun M296 X297 e298 h299 => ?_)
      refine z_xP zt194 9 23 [some (.ref 19)] [.int 0] rfl rfl ?_
      refine z_xrz zt194 10 rfl zzr194 (by decide) (by decide) ?_
      show z_ev (d + 2) 191 140 [some (.ref 19), some (.int 0), some (.int x200), some (.int 1), o4] [.int 0] M296 _
      refine z_xP zt191 69 142 [some (.ref 19), some (.int 0), some (.int x200), some (.int 1), some (.int 0)] [] rfl rfl ?_
      refine z_xP zt191 70 36 [some (.ref 19), some (.int 0), some (.int x200), some (.int 1), some (.int 0)] [] rfl rfl ?_
      have h300 := (e298.f f19 (by decide) (X269.2.f f19 (by decide) hp0))
      have h301 := (e298.f f19 (by decide) h295)
      have f24 : T[24]? = some (.inr (24, 0, 8, 0, 10)) := X297.1.k rfl (by decide)
      have h302 := ((congrFun (e298.a f24 (by decide)) _).trans ((congrFun (X269.2.a f24 (by decide)) _).trans hp2))
      have f23 : T[23]? = some (.inr (23, 0, 80, (-2147483648), 2147483647)) := X297.1.k rfl (by decide)
      have q0 : ((0 : Int32)).toInt = 0 := rfl
      have q1 : ((1 : Int32)).toInt = 1 := rfl
      exact ih M296 (0) (some (.int x200)) (some (.int 1)) (some (.int 0)) z0 z1 z2 X297 (by decide) h300 ⟨by omega, by omega⟩ h301 ⟨by omega, by omega⟩ h302 ⟨by omega, by omega⟩ (z_GL.ke (z_GL.ke hl X269.2 f23 f24 (by decide)) e298 f23 f24 (by decide)) (z_FPm (z_FPm (z_FPm hf (X269.2.a f23 (by decide)) rfl) (e298.a f23 (by decide)) rfl) rfl (by omega)) ⟨(z_OT.ke (z_OT.ke hO.1 X.1 X269.2 rfl) X.1 e298 rfl), (((e298.1 19 12 0 0 0 0 22 f19 (by decide)).trans (X269.2.1 19 12 0 0 0 0 22 f19 (by decide))).trans hO.2)⟩ (by omega)
    refine z_xP zt191 31 70 [some (.ref 19), some (.int b1), some (.int x200), some (.int 1), o4] [.ref 19] rfl rfl ?_
    refine z_xgX (b := 23) zt191 32 rfl zo191 zzf12_19 X279 f19 (by decide) (by decide) rfl ?_
    refine z_xP zt191 33 76 [some (.ref 19), some (.int b1), some (.int x200), some (.int 1), o4] [.ref 19, .int 10, .ref 23] rfl rfl ?_
    have h303 := (X269.2.f f19 (by decide) hp0)
    refine z_xgv zt191 34 rfl zo191 zzf12_133 X279 f19 (by decide) h303 ?_
    refine z_xI zt191 35 rfl rfl (fun (x304 : Int32) (h305 : x304.toInt = 10 * z0.toInt) => ?_) (z_pMul rfl rfl (by omega) (by omega))
    refine z_xP zt191 36 81 [some (.ref 19), some (.int b1), some (.int x200), some (.int 1), o4] [.ref 19, .int x304, .ref 23] rfl rfl ?_
    refine z_xgX (b := 24) zt191 37 rfl zo191 zzf12_22 X279 f19 (by decide) (by decide) rfl ?_
    refine z_xP zt191 38 85 [some (.ref 19), some (.int b1), some (.int x200), some (.int 1), o4] [.ref 19, .ref 24, .int x304, .ref 23] rfl rfl ?_
    refine z_xgv zt191 39 rfl zo191 zzf12_133 X279 f19 (by decide) h303 ?_
    have f24 : T[24]? = some (.inr (24, 0, 8, 0, 10)) := X279.1.k rfl (by decide)
    refine z_xil zt191 40 rfl X279 f24 (by decide) (by omega) (by omega) (fun (x306 : Int32) h307 (h308 : 0 ≤ x306.toInt) (h309 : x306.toInt ≤ 10) => ?_)
    have h310 := congrArg Int32.toInt (h307.symm.trans ((congrFun (X269.2.a f24 (by decide)) _).trans hp2))
    refine z_xI zt191 41 rfl rfl (fun (x311 : Int32) (h312 : x311.toInt = x304.toInt + x306.toInt) => ?_) (z_pAdd rfl rfl (by omega) (by omega))
    refine z_xP zt191 42 91 [some (.ref 19), some (.int b1), some (.int x200), some (.int 1), o4] [.int x200, .int x311, .ref 23] rfl rfl ?_
    have f23 : T[23]? = some (.inr (23, 0, 80, (-2147483648), 2147483647)) := X279.1.k rfl (by decide)
    have h314 := ((congrFun (X269.2.a f24 (by decide)) _).trans hp2)
    have h315 := z_NQm (h271 (by omega)) rfl (n2 := z2.toInt) (Int.le_of_eq (congrArg Int32.toInt hp2).symm)
    have h316 := z_NQm h315 (X269.2.a f23 (by decide)) (Int.le_refl _)
    have h317 := (z_FPm hf (X269.2.a f23 (by decide)) rfl)
    have h313 := z_FPn h317 h316 (by omega) (by omega)
    refine z_xis zt191 43 rfl X279 f23 (by decide) (by decide) (by omega) (by omega) (Int32.le_toInt _) (Int32.toInt_le _) (by decide) (fun M318 X319 e320 h321 => ?_)
    have h322 := (e320.f f19 (by decide) h303)
    have h323 := z_GLl (z_GL.ke hl X269.2 f23 f24 (by decide)) h314 (by omega) (by omega) (by omega) (by omega) h321 (e320.a f24 (by decide))
    have h326 := ((congrFun (e320.a f24 (by decide)) _).trans h314)
    have h324 := z_FPs (n2 := z2.toInt + 1) h317 h316 (by omega) (by omega) h321 (by omega) (by omega) (by omega) rfl
    refine z_xP zt191 44 93 [some (.ref 19), some (.int b1), some (.int x200), some (.int 1), o4] [.ref 19] rfl rfl ?_
    refine z_xgX (b := 24) zt191 45 rfl zo191 zzf12_22 X319 f19 (by decide) (by decide) rfl ?_
    refine z_xP zt191 46 97 [some (.ref 19), some (.int b1), some (.int x200), some (.int 1), o4] [.ref 19, .ref 24] rfl rfl ?_
    refine z_xgv zt191 47 rfl zo191 zzf12_133 X319 f19 (by decide) h322 ?_
    refine z_xP zt191 48 101 [some (.ref 19), some (.int b1), some (.int x200), some (.int 1), o4] [.int z0, .ref 24, .int z0, .ref 24] rfl rfl ?_
    refine z_xil zt191 49 rfl X319 f24 (by decide) (by omega) (by omega) (fun (x327 : Int32) h328 (h329 : 0 ≤ x327.toInt) (h330 : x327.toInt ≤ 10) => ?_)
    have h331 := congrArg Int32.toInt (h328.symm.trans h326)
    refine z_xP zt191 50 103 [some (.ref 19), some (.int b1), some (.int x200), some (.int 1), o4] [.int 1, .int x327, .int z0, .ref 24] rfl rfl ?_
    refine z_xI zt191 51 rfl rfl (fun (x332 : Int32) (h333 : x332.toInt = x327.toInt + 1) => ?_) (z_pAdd rfl rfl (by omega) (by omega))
    refine z_xis zt191 52 rfl X319 f24 (by decide) (by decide) (by omega) (by omega) (by omega) (by omega) (by decide) (fun M334 X335 e336 h337 => ?_)
    have h338 := (e336.f f19 (by decide) h322)
    have h339 := z_GLq h323 h326 (by omega) (by omega) (by omega) (z_upe h321) (by omega) (by omega) (e336.a f23 (by decide)) h337
    have h340 := z_FPm (n2 := x332.toInt) (z_FPm h324 (e336.a f23 (by decide)) rfl) rfl (by omega)
    have q342 := (z_OTA h338 (((e336.1 19 12 0 0 0 0 22 f19 (by decide)).trans ((e320.1 19 12 0 0 0 0 22 f19 (by decide)).trans (X269.2.1 19 12 0 0 0 0 22 f19 (by decide)))).trans hO.2).symm)
    have o341 := z_OT.st (A := (z_Fv M0 19 22).toInt) (z_OT.ke (z_OT.ke hO.1 X.1 X269.2 rfl) X.1 e320 rfl) X.1 e336 h337 (r := 24) (by decide) (fun _ => by omega) (fun h => absurd h (by decide))
    refine z_xP zt191 53 107 [some (.ref 19), some (.int b1), some (.int x200), some (.int 1), o4] [.ref 19, .ref 19] rfl rfl ?_
    have h343 := (e336.f f19 (by decide) (e320.f f19 (by decide) (X269.2.f f19 (by decide) hp1)))
    refine z_xgv zt191 54 rfl zo191 zzf12_123 X335 f19 (by decide) h343 ?_
    refine z_xP zt191 55 111 [some (.ref 19), some (.int b1), some (.int x200), some (.int 1), o4] [.int 1, .int z1, .ref 19] rfl rfl ?_
    refine z_xI zt191 56 rfl rfl (fun (x344 : Int32) (h345 : x344.toInt = z1.toInt + 1) => ?_) (z_pAdd rfl rfl (by omega) (by omega))
    refine z_xpf zt191 57 rfl zo191 zzf12_123 X335 f19 (by decide) (by decide) ⟨by omega, by omega⟩ rfl (by decide) zw12_24 (fun M346 X347 e348 h349 => ?_)
    refine z_xP zt191 58 142 [some (.ref 19), some (.int b1), some (.int x200), some (.int 1), o4] [] rfl rfl ?_
    refine z_xP zt191 70 36 [some (.ref 19), some (.int b1), some (.int x200), some (.int 1), o4] [] rfl rfl ?_
    have h350 := (e348.f f19 (by decide) h338)
    have h351 := ((congrFun (e348.a f24 (by decide)) _).trans (z_upe h337))
    have q1 : ((1 : Int32)).toInt = 1 := rfl
    exact ih M346 b1 (some (.int x200)) (some (.int 1)) (o4) z0 x344 x332 X347 ⟨by omega, by omega⟩ h350 ⟨by omega, by omega⟩ h349 ⟨by omega, by omega⟩ h351 ⟨by omega, by omega⟩ (z_GL.ke h339 e348 f23 f24 (by decide)) (z_FPm (z_FPm h340 (e348.a f23 (by decide)) rfl) rfl (by omega)) ⟨(z_OT.ke o341 X.1 e348 rfl), (((e348.1 19 12 0 0 0 0 22 f19 (by decide)).trans ((e336.1 19 12 0 0 0 0 22 f19 (by decide)).trans ((e320.1 19 12 0 0 0 0 22 f19 (by decide)).trans (X269.2.1 19 12 0 0 0 0 22 f19 (by decide))))).trans hO.2)⟩ (by omega)
theorem zOC191 {T : List zK} {d : Nat} {K : Option Value → zH → Prop}  {M0 : zH} (hW : z_W M0 T) (hL : z_GL M0) (kk : ∀ (M1 : zH), z_X T zw191 M0 M1 → z_GL M1 → z_OT (z_Fv M0 19 22).toInt M0 M1 → K none M1) : z_ev (d + 2) 191 0 [some (.ref 19), none, none, none, none] [] M0 K := by
  have X : z_X T zw191 M0 M0 := .refl hW
  refine z_xP zt191 0 1 [some (.ref 19), none, none, none, none] [.ref 19] rfl rfl ?_
  have f19 : T[19]? = some (.inl (12, 0, 0, 0, 0)) := X.1.k rfl (by decide)
  refine z_xgX (b := 24) zt191 1 rfl zo191 zzf12_22 X f19 (by decide) (by decide) rfl ?_
  refine z_xP zt191 2 5 [some (.ref 19), none, none, none, none] [.ref 19, .ref 24] rfl rfl ?_
  refine z_xgI zt191 3 rfl zo191 zzf12_133 X f19 (by decide) (by decide) rfl (fun (x2 : Int32) h1 (h3 : 0 ≤ x2.toInt) (h4 : x2.toInt ≤ 7) => ?_)
  refine z_xP zt191 4 9 [some (.ref 19), none, none, none, none] [.int 0, .int x2, .ref 24] rfl rfl ?_
  have f24 : T[24]? = some (.inr (24, 0, 8, 0, 10)) := X.1.k rfl (by decide)
  have q0 : ((0 : Int32)).toInt = 0 := rfl
  refine z_xis zt191 5 rfl X f24 (by decide) (by decide) (by omega) (by omega) (by omega) (by omega) (by decide) (fun M5 X6 e7 h8 => ?_)
  have h9 := (e7.f f19 (by decide) h1)
  have f23 : T[23]? = some (.inr (23, 0, 80, (-2147483648), 2147483647)) := X6.1.k rfl (by decide)
  have h10 := z_GLz hL (e7.a f23 (by decide)) h8 (by omega)
  have q12 := (z_OTA h9 (e7.1 19 12 0 0 0 0 22 f19 (by decide)).symm)
  have o11 := z_OT.st (A := (z_Fv M0 19 22).toInt) z_OT.refl X.1 e7 h8 (r := 24) (by decide) (fun _ => by omega) (fun h => absurd h (by decide))
  refine z_xP zt191 6 13 [some (.ref 19), none, none, none, none] [.int 113, .ref 19] rfl rfl ?_
  refine z_xcV (vs := [.ref 19, .int 113]) (r := []) (L2 := [some (.ref 19), some (.int 113)]) zt191 7 rfl zo191 zzcV12_147 (Or.inl rfl) rfl X6 f19 rfl rfl rfl (Nat.le_of_ble_eq_true rfl) zzm192 (Nat.le_of_ble_eq_true rfl) rfl ?_
  refine z_xP zt192 0 1 [some (.ref 19), some (.int 113)] [.ref 19] rfl rfl ?_
  refine z_xgI zt192 1 rfl zo192 zzf12_136 X6 f19 (by decide) (by decide) rfl (fun (x14 : Int32) h13 (h15 : (-2147483648) ≤ x14.toInt) (h16 : x14.toInt ≤ 2147483647) => ?_)
  refine z_xZ zt192 2 rfl rfl (fun (h17 : 0 ≤ x14.toInt) => ?_) (fun (h17 : x14.toInt < 0) => ?_)
  · skip
    refine z_xP zt192 7 16 [some (.ref 19), some (.int 113)] [.int 0] rfl rfl ?_
    refine z_xrz zt192 8 rfl zzr192 (by decide) (by decide) ?_
    show z_ev (d + 2) 191 16 [some (.ref 19), none, none, none, none] [.int 0] M5 _
    refine z_xZ zt191 8 rfl rfl (fun (h18 : (0 : Int) = 0) => ?_) (fun (h18 : (0 : Int) ≠ 0) => absurd h18 (by omega))
    refine z_xP zt191 12 29 [some (.ref 19), none, none, none, none] [.ref 19] rfl rfl ?_
    refine z_xcV (vs := [.ref 19]) (r := []) (L2 := [some (.ref 19)]) zt191 13 rfl zo191 zzcV12_163 (Or.inl rfl) rfl X6 f19 rfl rfl rfl (Nat.le_of_ble_eq_true rfl) zzm194 (Nat.le_of_ble_eq_true rfl) rfl ?_
    refine z_xP zt194 0 2 [some (.ref 19)] [.ref 19, .ref 19] rfl rfl ?_
    refine z_xgv zt194 1 rfl zo194 zzf12_136 X6 f19 (by decide) h13 ?_
    refine z_xZ zt194 2 rfl rfl (fun (h19 : 0 ≤ x14.toInt) => ?_) (fun (h19 : x14.toInt < 0) => absurd h19 (by omega))
    refine z_xP zt194 6 16 [some (.ref 19)] [.ref 19, .ref 19] rfl rfl ?_
    refine z_xgv zt194 7 rfl zo194 zzf12_136 X6 f19 (by decide) h13 ?_
    refine z_xpf zt194 8 rfl zo194 zzf12_136 X6 f19 (by decide) (by decide) ⟨Int32.le_toInt _, Int32.toInt_le _⟩ rfl (by decide) zw12_26 (fun M20 X21 e22 h23 => ?_)
    refine z_xP zt194 9 23 [some (.ref 19)] [.int 0] rfl rfl ?_
    refine z_xrz zt194 10 rfl zzr194 (by decide) (by decide) ?_
    show z_ev (d + 2) 191 32 [some (.ref 19), none, none, none, none] [.int 0] M20 _
    refine z_xP zt191 14 33 [some (.ref 19), some (.int 0), none, none, none] [] rfl rfl ?_
    exact z_xrv zt191 15 rfl zzr191 (kk M20 X21 (z_GL.ke h10 e22 f23 f24 (by decide)) (z_OT.ke o11 X.1 e22 rfl))
  refine z_xP zt192 3 8 [some (.ref 19), some (.int 113)] [.ref 19] rfl rfl ?_
  refine z_xcV (vs := [.ref 19]) (r := []) (L2 := [some (.ref 19)]) zt192 4 rfl zo192 zzcV12_139 (Or.inl rfl) rfl X6 f19 rfl rfl rfl (Nat.le_of_ble_eq_true rfl) zzm193 (Nat.le_of_ble_eq_true rfl) rfl ?_
  refine z_xP zt193 0 1 [some (.ref 19)] [.ref 19] rfl rfl ?_
  refine z_xgI zt193 1 rfl zo193 zzf12_123 X6 f19 (by decide) (by decide) rfl (fun (x25 : Int32) h24 (h26 : 0 ≤ x25.toInt) (h27 : x25.toInt ≤ 160) => ?_)
  refine z_xP zt193 2 5 [some (.ref 19)] [.ref 19, .int x25] rfl rfl ?_
  refine z_xgI zt193 3 rfl zo193 zzf12_126 X6 f19 (by decide) (by decide) rfl (fun (x29 : Int32) h28 (h30 : 0 ≤ x29.toInt) (h31 : x29.toInt ≤ 160) => ?_)
  refine z_xJ zt193 4 rfl rfl (fun (h32 : x29.toInt ≤ x25.toInt) => ?_) (fun (h32 : x25.toInt < x29.toInt) => ?_)
  · skip
    refine z_xP zt193 24 52 [some (.ref 19)] [.int 0] rfl rfl ?_
    refine z_xri zt193 25 rfl zzr193 ?_
    show z_ev (d + 1) 192 11 [some (.ref 19), some (.int 113)] [.int 0] M5 _
    refine z_xP zt192 5 12 [some (.ref 19), some (.int 113)] [.int 113, .int 0] rfl rfl ?_
    refine z_xJ zt192 6 rfl rfl (fun (h33 : (0 : Int) = 113) => absurd h33 (by omega)) (fun (h33 : (0 : Int) ≠ 113) => ?_)
    refine z_xP zt192 7 16 [some (.ref 19), some (.int 113)] [.int 0] rfl rfl ?_
    refine z_xrz zt192 8 rfl zzr192 (by decide) (by decide) ?_
    show z_ev (d + 2) 191 16 [some (.ref 19), none, none, none, none] [.int 0] M5 _
    refine z_xZ zt191 8 rfl rfl (fun (h34 : (0 : Int) = 0) => ?_) (fun (h34 : (0 : Int) ≠ 0) => absurd h34 (by omega))
    refine z_xP zt191 12 29 [some (.ref 19), none, none, none, none] [.ref 19] rfl rfl ?_
    refine z_xcV (vs := [.ref 19]) (r := []) (L2 := [some (.ref 19)]) zt191 13 rfl zo191 zzcV12_163 (Or.inl rfl) rfl X6 f19 rfl rfl rfl (Nat.le_of_ble_eq_true rfl) zzm194 (Nat.le_of_ble_eq_true rfl) rfl ?_
    refine z_xP zt194 0 2 [some (.ref 19)] [.ref 19, .ref 19] rfl rfl ?_
    refine z_xgv zt194 1 rfl zo194 zzf12_136 X6 f19 (by decide) h13 ?_
    refine z_xZ zt194 2 rfl rfl (fun (h35 : 0 ≤ x14.toInt) => absurd h35 (by omega)) (fun (h35 : x14.toInt < 0) => ?_)
    refine z_xP zt194 3 9 [some (.ref 19)] [.ref 19, .ref 19] rfl rfl ?_
    refine z_xgv zt194 4 rfl zo194 zzf12_123 X6 f19 (by decide) h24 ?_
    refine z_xP zt194 5 19 [some (.ref 19)] [.int x25, .ref 19] rfl rfl ?_
    refine z_xpf zt194 8 rfl zo194 zzf12_136 X6 f19 (by decide) (by decide) ⟨Int32.le_toInt _, Int32.toInt_le _⟩ rfl (by decide) zw12_26 (fun M36 X37 e38 h39 => ?_)
    refine z_xP zt194 9 23 [some (.ref 19)] [.int 0] rfl rfl ?_
    refine z_xrz zt194 10 rfl zzr194 (by decide) (by decide) ?_
    show z_ev (d + 2) 191 32 [some (.ref 19), none, none, none, none] [.int 0] M36 _
    refine z_xP zt191 14 33 [some (.ref 19), some (.int 0), none, none, none] [] rfl rfl ?_
    exact z_xrv zt191 15 rfl zzr191 (kk M36 X37 (z_GL.ke h10 e38 f23 f24 (by decide)) (z_OT.ke o11 X.1 e38 rfl))
  refine z_xP zt193 5 12 [some (.ref 19)] [.ref 19] rfl rfl ?_
  refine z_xgI zt193 6 rfl zo193 zzf12_129 X6 f19 (by decide) (by decide) rfl (fun (x41 : Int32) h40 (h42 : 0 ≤ x41.toInt) (h43 : x41.toInt ≤ 1) => ?_)
  refine z_xZ zt193 7 rfl rfl (fun (h44 : x41.toInt = 0) => ?_) (fun (h44 : x41.toInt ≠ 0) => ?_)
  · skip
    refine z_xP zt193 14 31 [some (.ref 19)] [.ref 19] rfl rfl ?_
    refine z_xgX (b := 21) zt193 15 rfl zo193 zzf12_13 X6 f19 (by decide) (by decide) rfl ?_
    refine z_xP zt193 16 38 [some (.ref 19)] [.ref 19, .int 160, .ref 21] rfl rfl ?_
    refine z_xgv zt193 17 rfl zo193 zzf12_133 X6 f19 (by decide) h9 ?_
    refine z_xI zt193 18 rfl rfl (fun (x45 : Int32) (h46 : x45.toInt = 160 * x2.toInt) => ?_) (z_pMul rfl rfl (by omega) (by omega))
    refine z_xP zt193 19 43 [some (.ref 19)] [.ref 19, .int x45, .ref 21] rfl rfl ?_
    refine z_xgv zt193 20 rfl zo193 zzf12_123 X6 f19 (by decide) h24 ?_
    refine z_xI zt193 21 rfl rfl (fun (x47 : Int32) (h48 : x47.toInt = x45.toInt + x25.toInt) => ?_) (z_pAdd rfl rfl (by omega) (by omega))
    have f21 : T[21]? = some (.inr (21, 0, 1280, (-2147483648), 2147483647)) := X6.1.k rfl (by decide)
    refine z_xil zt193 22 rfl X6 f21 (by decide) (by omega) (by omega) (fun (x49 : Int32) h50 (h51 : (-2147483648) ≤ x49.toInt) (h52 : x49.toInt ≤ 2147483647) => ?_)
    refine z_xP zt193 23 52 [some (.ref 19)] [.int x49] rfl rfl ?_
    refine z_xri zt193 25 rfl zzr193 ?_
    show z_ev (d + 1) 192 11 [some (.ref 19), some (.int 113)] [.int x49] M5 _
    refine z_xP zt192 5 12 [some (.ref 19), some (.int 113)] [.int 113, .int x49] rfl rfl ?_
    refine z_xJ zt192 6 rfl rfl (fun (h53 : x49.toInt = 113) => ?_) (fun (h53 : x49.toInt ≠ 113) => ?_)
    · skip
      refine z_xP zt192 9 19 [some (.ref 19), some (.int 113)] [.ref 19, .ref 19] rfl rfl ?_
      refine z_xgv zt192 10 rfl zo192 zzf12_123 X6 f19 (by decide) h24 ?_
      refine z_xP zt192 11 23 [some (.ref 19), some (.int 113)] [.int 1, .int x25, .ref 19] rfl rfl ?_
      refine z_xI zt192 12 rfl rfl (fun (x54 : Int32) (h55 : x54.toInt = x25.toInt + 1) => ?_) (z_pAdd rfl rfl (by omega) (by omega))
      refine z_xpf zt192 13 rfl zo192 zzf12_123 X6 f19 (by decide) (by decide) ⟨by omega, by omega⟩ rfl (by decide) zw12_24 (fun M56 X57 e58 h59 => ?_)
      refine z_xP zt192 14 28 [some (.ref 19), some (.int 113)] [.int 1] rfl rfl ?_
      refine z_xrz zt192 15 rfl zzr192 (by decide) (by decide) ?_
      show z_ev (d + 2) 191 16 [some (.ref 19), none, none, none, none] [.int 1] M56 _
      refine z_xZ zt191 8 rfl rfl (fun (h60 : (1 : Int) = 0) => absurd h60 (by omega)) (fun (h60 : (1 : Int) ≠ 0) => ?_)
      refine z_xP zt191 9 22 [some (.ref 19), none, none, none, none] [.int 32, .ref 19] rfl rfl ?_
      refine z_xcV (vs := [.ref 19, .int 32]) (r := []) (L2 := [some (.ref 19), some (.int 32)]) zt191 10 rfl zo191 zzcV12_147 (Or.inl rfl) rfl X57 f19 rfl rfl rfl (Nat.le_of_ble_eq_true rfl) zzm192 (Nat.le_of_ble_eq_true rfl) rfl ?_
      refine z_xP zt192 0 1 [some (.ref 19), some (.int 32)] [.ref 19] rfl rfl ?_
      have h61 := (e58.f f19 (by decide) h13)
      refine z_xgv zt192 1 rfl zo192 zzf12_136 X57 f19 (by decide) h61 ?_
      refine z_xZ zt192 2 rfl rfl (fun (h62 : 0 ≤ x14.toInt) => absurd h62 (by omega)) (fun (h62 : x14.toInt < 0) => ?_)
      refine z_xP zt192 3 8 [some (.ref 19), some (.int 32)] [.ref 19] rfl rfl ?_
      refine z_xcV (vs := [.ref 19]) (r := []) (L2 := [some (.ref 19)]) zt192 4 rfl zo192 zzcV12_139 (Or.inl rfl) rfl X57 f19 rfl rfl rfl (Nat.le_of_ble_eq_true rfl) zzm193 (Nat.le_of_ble_eq_true rfl) rfl ?_
      refine z_xP zt193 0 1 [some (.ref 19)] [.ref 19] rfl rfl ?_
      refine z_xgv zt193 1 rfl zo193 zzf12_123 X57 f19 (by decide) h59 ?_
      refine z_xP zt193 2 5 [some (.ref 19)] [.ref 19, .int x54] rfl rfl ?_
      have h63 := (e58.f f19 (by decide) h28)
      refine z_xgv zt193 3 rfl zo193 zzf12_126 X57 f19 (by decide) h63 ?_
      refine z_xJ zt193 4 rfl rfl (fun (h64 : x29.toInt ≤ x54.toInt) => ?_) (fun (h64 : x54.toInt < x29.toInt) => ?_)
      · skip
        refine z_xP zt193 24 52 [some (.ref 19)] [.int 0] rfl rfl ?_
        refine z_xri zt193 25 rfl zzr193 ?_
        show z_ev (d + 1) 192 11 [some (.ref 19), some (.int 32)] [.int 0] M56 _
        refine z_xP zt192 5 12 [some (.ref 19), some (.int 32)] [.int 32, .int 0] rfl rfl ?_
        refine z_xJ zt192 6 rfl rfl (fun (h65 : (0 : Int) = 32) => absurd h65 (by omega)) (fun (h65 : (0 : Int) ≠ 32) => ?_)
        refine z_xP zt192 7 16 [some (.ref 19), some (.int 32)] [.int 0] rfl rfl ?_
        refine z_xrz zt192 8 rfl zzr192 (by decide) (by decide) ?_
        show z_ev (d + 2) 191 25 [some (.ref 19), none, none, none, none] [.int 0] M56 _
        refine z_xZ zt191 11 rfl rfl (fun (h66 : (0 : Int) ≠ 0) => absurd h66 (by omega)) (fun (h66 : (0 : Int) = 0) => ?_)
        refine z_xP zt191 12 29 [some (.ref 19), none, none, none, none] [.ref 19] rfl rfl ?_
        refine z_xcV (vs := [.ref 19]) (r := []) (L2 := [some (.ref 19)]) zt191 13 rfl zo191 zzcV12_163 (Or.inl rfl) rfl X57 f19 rfl rfl rfl (Nat.le_of_ble_eq_true rfl) zzm194 (Nat.le_of_ble_eq_true rfl) rfl ?_
        refine z_xP zt194 0 2 [some (.ref 19)] [.ref 19, .ref 19] rfl rfl ?_
        refine z_xgv zt194 1 rfl zo194 zzf12_136 X57 f19 (by decide) h61 ?_
        refine z_xZ zt194 2 rfl rfl (fun (h67 : 0 ≤ x14.toInt) => absurd h67 (by omega)) (fun (h67 : x14.toInt < 0) => ?_)
        refine z_xP zt194 3 9 [some (.ref 19)] [.ref 19, .ref 19] rfl rfl ?_
        refine z_xgv zt194 4 rfl zo194 zzf12_123 X57 f19 (by decide) h59 ?_
        refine z_xP zt194 5 19 [some (.ref 19)] [.int x54, .ref 19] rfl rfl ?_
        refine z_xpf zt194 8 rfl zo194 zzf12_136 X57 f19 (by decide) (by decide) ⟨Int32.le_toInt _, Int32.toInt_le _⟩ rfl (by decide) zw12_26 (fun M68 X69 e70 h71 => ?_)
        refine z_xP zt194 9 23 [some (.ref 19)] [.int 0] rfl rfl ?_
        refine z_xrz zt194 10 rfl zzr194 (by decide) (by decide) ?_
        show z_ev (d + 2) 191 32 [some (.ref 19), none, none, none, none] [.int 0] M68 _
        refine z_xP zt191 14 33 [some (.ref 19), some (.int 0), none, none, none] [] rfl rfl ?_
        exact z_xrv zt191 15 rfl zzr191 (kk M68 X69 (z_GL.ke (z_GL.ke h10 e58 f23 f24 (by decide)) e70 f23 f24 (by decide)) (z_OT.ke (z_OT.ke o11 X.1 e58 rfl) X.1 e70 rfl))
      refine z_xP zt193 5 12 [some (.ref 19)] [.ref 19] rfl rfl ?_
      have h72 := (e58.f f19 (by decide) h40)
      refine z_xgv zt193 6 rfl zo193 zzf12_129 X57 f19 (by decide) h72 ?_
      refine z_xZ zt193 7 rfl rfl (fun (h73 : x41.toInt = 0) => ?_) (fun (h73 : x41.toInt ≠ 0) => absurd h73 (by omega))
      refine z_xP zt193 14 31 [some (.ref 19)] [.ref 19] rfl rfl ?_
      refine z_xgX (b := 21) zt193 15 rfl zo193 zzf12_13 X57 f19 (by decide) (by decide) rfl ?_
      refine z_xP zt193 16 38 [some (.ref 19)] [.ref 19, .int 160, .ref 21] rfl rfl ?_
      have h74 := (e58.f f19 (by decide) h9)
      refine z_xgv zt193 17 rfl zo193 zzf12_133 X57 f19 (by decide) h74 ?_
      refine z_xI zt193 18 rfl rfl (fun (x75 : Int32) (h76 : x75.toInt = 160 * x2.toInt) => ?_) (z_pMul rfl rfl (by omega) (by omega))
      refine z_xP zt193 19 43 [some (.ref 19)] [.ref 19, .int x75, .ref 21] rfl rfl ?_
      refine z_xgv zt193 20 rfl zo193 zzf12_123 X57 f19 (by decide) h59 ?_
      refine z_xI zt193 21 rfl rfl (fun (x77 : Int32) (h78 : x77.toInt = x75.toInt + x54.toInt) => ?_) (z_pAdd rfl rfl (by omega) (by omega))
      refine z_xil zt193 22 rfl X57 f21 (by decide) (by omega) (by omega) (fun (x79 : Int32) h80 (h81 : (-2147483648) ≤ x79.toInt) (h82 : x79.toInt ≤ 2147483647) => ?_)
      refine z_xP zt193 23 52 [some (.ref 19)] [.int x79] rfl rfl ?_
      refine z_xri zt193 25 rfl zzr193 ?_
      show z_ev (d + 1) 192 11 [some (.ref 19), some (.int 32)] [.int x79] M56 _
      refine z_xP zt192 5 12 [some (.ref 19), some (.int 32)] [.int 32, .int x79] rfl rfl ?_
      refine z_xJ zt192 6 rfl rfl (fun (h83 : x79.toInt = 32) => ?_) (fun (h83 : x79.toInt ≠ 32) => ?_)
      · skip
        refine z_xP zt192 9 19 [some (.ref 19), some (.int 32)] [.ref 19, .ref 19] rfl rfl ?_
        refine z_xgv zt192 10 rfl zo192 zzf12_123 X57 f19 (by decide) h59 ?_
        refine z_xP zt192 11 23 [some (.ref 19), some (.int 32)] [.int 1, .int x54, .ref 19] rfl rfl ?_
        refine z_xI zt192 12 rfl rfl (fun (x84 : Int32) (h85 : x84.toInt = x54.toInt + 1) => ?_) (z_pAdd rfl rfl (by omega) (by omega))
        refine z_xpf zt192 13 rfl zo192 zzf12_123 X57 f19 (by decide) (by decide) ⟨by omega, by omega⟩ rfl (by decide) zw12_24 (fun M86 X87 e88 h89 => ?_)
        refine z_xP zt192 14 28 [some (.ref 19), some (.int 32)] [.int 1] rfl rfl ?_
        refine z_xrz zt192 15 rfl zzr192 (by decide) (by decide) ?_
        show z_ev (d + 2) 191 25 [some (.ref 19), none, none, none, none] [.int 1] M86 _
        refine z_xZ zt191 11 rfl rfl (fun (h90 : (1 : Int) ≠ 0) => ?_) (fun (h90 : (1 : Int) = 0) => absurd h90 (by omega))
        refine z_xP zt191 16 36 [some (.ref 19), some (.int 1), none, none, none] [] rfl rfl ?_
        have h91 := (e88.f f19 (by decide) h74)
        have h92 := ((congrFun (e88.a f24 (by decide)) _).trans ((congrFun (e58.a f24 (by decide)) _).trans (z_upe h8)))
        have q0 : ((0 : Int32)).toInt = 0 := rfl
        have q1 : ((1 : Int32)).toInt = 1 := rfl
        exact (zOB191 hL kk 646) M86 (1) none none none x2 x84 (0) X87 (by decide) h91 ⟨by omega, by omega⟩ h89 ⟨by omega, by omega⟩ h92 (by decide) (z_GL.ke (z_GL.ke h10 e58 f23 f24 (by decide)) e88 f23 f24 (by decide)) (z_FP0 (by omega)) ⟨(z_OT.ke (z_OT.ke o11 X.1 e58 rfl) X.1 e88 rfl), ((e88.1 19 12 0 0 0 0 22 f19 (by decide)).trans ((e58.1 19 12 0 0 0 0 22 f19 (by decide)).trans (e7.1 19 12 0 0 0 0 22 f19 (by decide))))⟩ (by omega)
      refine z_xP zt192 7 16 [some (.ref 19), some (.int 32)] [.int 0] rfl rfl ?_
      refine z_xrz zt192 8 rfl zzr192 (by decide) (by decide) ?_
      show z_ev (d + 2) 191 25 [some (.ref 19), none, none, none, none] [.int 0] M56 _
      refine z_xZ zt191 11 rfl rfl (fun (h93 : (0 : Int) ≠ 0) => absurd h93 (by omega)) (fun (h93 : (0 : Int) = 0) => ?_)
      refine z_xP zt191 12 29 [some (.ref 19), none, none, none, none] [.ref 19] rfl rfl ?_
      refine z_xcV (vs := [.ref 19]) (r := []) (L2 := [some (.ref 19)]) zt191 13 rfl zo191 zzcV12_163 (Or.inl rfl) rfl X57 f19 rfl rfl rfl (Nat.le_of_ble_eq_true rfl) zzm194 (Nat.le_of_ble_eq_true rfl) rfl ?_
      refine z_xP zt194 0 2 [some (.ref 19)] [.ref 19, .ref 19] rfl rfl ?_
      refine z_xgv zt194 1 rfl zo194 zzf12_136 X57 f19 (by decide) h61 ?_
      refine z_xZ zt194 2 rfl rfl (fun (h94 : 0 ≤ x14.toInt) => absurd h94 (by omega)) (fun (h94 : x14.toInt < 0) => ?_)
      refine z_xP zt194 3 9 [some (.ref 19)] [.ref 19, .ref 19] rfl rfl ?_
      refine z_xgv zt194 4 rfl zo194 zzf12_123 X57 f19 (by decide) h59 ?_
      refine z_xP zt194 5 19 [some (.ref 19)] [.int x54, .ref 19] rfl rfl ?_
      refine z_xpf zt194 8 rfl zo194 zzf12_136 X57 f19 (by decide) (by decide) ⟨Int32.le_toInt _, Int32.toInt_le _⟩ rfl (by decide) zw12_26 (fun M95 X96 e97 h98 => ?_)
      refine z_xP zt194 9 23 [some (.ref 19)] [.int 0] rfl rfl ?_
      refine z_xrz zt194 10 rfl zzr194 (by decide) (by decide) ?_
      show z_ev (d + 2) 191 32 [some (.ref 19), none, none, none, none] [.int 0] M95 _
      refine z_xP zt191 14 33 [some (.ref 19), some (.int 0), none, none, none] [] rfl rfl ?_
      exact z_xrv zt191 15 rfl zzr191 (kk M95 X96 (z_GL.ke (z_GL.ke h10 e58 f23 f24 (by decide)) e97 f23 f24 (by decide)) (z_OT.ke (z_OT.ke o11 X.1 e58 rfl) X.1 e97 rfl))
    refine z_xP zt192 7 16 [some (.ref 19), some (.int 113)] [.int 0] rfl rfl ?_
    refine z_xrz zt192 8 rfl zzr192 (by decide) (by decide) ?_
    show z_ev (d + 2) 191 16 [some (.ref 19), none, none, none, none] [.int 0] M5 _
    refine z_xZ zt191 8 rfl rfl (fun (h99 : (0 : Int) = 0) => ?_) (fun (h99 : (0 : Int) ≠ 0) => absurd h99 (by omega))
    refine z_xP zt191 12 29 [some (.ref 19), none, none, none, none] [.ref 19] rfl rfl ?_
    refine z_xcV (vs := [.ref 19]) (r := []) (L2 := [some (.ref 19)]) zt191 13 rfl zo191 zzcV12_163 (Or.inl rfl) rfl X6 f19 rfl rfl rfl (Nat.le_of_ble_eq_true rfl) zzm194 (Nat.le_of_ble_eq_true rfl) rfl ?_
    refine z_xP zt194 0 2 [some (.ref 19)] [.ref 19, .ref 19] rfl rfl ?_
    refine z_xgv zt194 1 rfl zo194 zzf12_136 X6 f19 (by decide) h13 ?_
    refine z_xZ zt194 2 rfl rfl (fun (h100 : 0 ≤ x14.toInt) => absurd h100 (by omega)) (fun (h100 : x14.toInt < 0) => ?_)
    refine z_xP zt194 3 9 [some (.ref 19)] [.ref 19, .ref 19] rfl rfl ?_
    refine z_xgv zt194 4 rfl zo194 zzf12_123 X6 f19 (by decide) h24 ?_
    refine z_xP zt194 5 19 [some (.ref 19)] [.int x25, .ref 19] rfl rfl ?_
    refine z_xpf zt194 8 rfl zo194 zzf12_136 X6 f19 (by decide) (by decide) ⟨Int32.le_toInt _, Int32.toInt_le _⟩ rfl (by decide) zw12_26 (fun M101 X102 e103 h104 => ?_)
    refine z_xP zt194 9 23 [some (.ref 19)] [.int 0] rfl rfl ?_
    refine z_xrz zt194 10 rfl zzr194 (by decide) (by decide) ?_
    show z_ev (d + 2) 191 32 [some (.ref 19), none, none, none, none] [.int 0] M101 _
    refine z_xP zt191 14 33 [some (.ref 19), some (.int 0), none, none, none] [] rfl rfl ?_
    exact z_xrv zt191 15 rfl zzr191 (kk M101 X102 (z_GL.ke h10 e103 f23 f24 (by decide)) (z_OT.ke o11 X.1 e103 rfl))
  refine z_xP zt193 8 19 [some (.ref 19)] [.ref 19] rfl rfl ?_
  refine z_xgX (b := 20) zt193 9 rfl zo193 zzf12_9 X6 f19 (by decide) (by decide) rfl ?_
  refine z_xP zt193 10 23 [some (.ref 19)] [.ref 19, .ref 20] rfl rfl ?_
  refine z_xgv zt193 11 rfl zo193 zzf12_123 X6 f19 (by decide) h24 ?_
  have f20 : T[20]? = some (.inr (20, 0, 160, (-2147483648), 2147483647)) := X6.1.k rfl (by decide)
  refine z_xil zt193 12 rfl X6 f20 (by decide) (by omega) (by omega) (fun (x105 : Int32) h106 (h107 : (-2147483648) ≤ x105.toInt) (h108 : x105.toInt ≤ 2147483647) => ?_)
  refine z_xP zt193 13 52 [some (.ref 19)] [.int x105] rfl rfl ?_
  refine z_xri zt193 25 rfl zzr193 ?_
  show z_ev (d + 1) 192 11 [some (.ref 19), some (.int 113)] [.int x105] M5 _
  refine z_xP zt192 5 12 [some (.ref 19), some (.int 113)] [.int 113, .int x105] rfl rfl ?_
  refine z_xJ zt192 6 rfl rfl (fun (h109 : x105.toInt = 113) => ?_) (fun (h109 : x105.toInt ≠ 113) => ?_)
  · skip
    refine z_xP zt192 9 19 [some (.ref 19), some (.int 113)] [.ref 19, .ref 19] rfl rfl ?_
    refine z_xgv zt192 10 rfl zo192 zzf12_123 X6 f19 (by decide) h24 ?_
    refine z_xP zt192 11 23 [some (.ref 19), some (.int 113)] [.int 1, .int x25, .ref 19] rfl rfl ?_
    refine z_xI zt192 12 rfl rfl (fun (x110 : Int32) (h111 : x110.toInt = x25.toInt + 1) => ?_) (z_pAdd rfl rfl (by omega) (by omega))
    refine z_xpf zt192 13 rfl zo192 zzf12_123 X6 f19 (by decide) (by decide) ⟨by omega, by omega⟩ rfl (by decide) zw12_24 (fun M112 X113 e114 h115 => ?_)
    refine z_xP zt192 14 28 [some (.ref 19), some (.int 113)] [.int 1] rfl rfl ?_
    refine z_xrz zt192 15 rfl zzr192 (by decide) (by decide) ?_
    show z_ev (d + 2) 191 16 [some (.ref 19), none, none, none, none] [.int 1] M112 _
    refine z_xZ zt191 8 rfl rfl (fun (h116 : (1 : Int) = 0) => absurd h116 (by omega)) (fun (h116 : (1 : Int) ≠ 0) => ?_)
    refine z_xP zt191 9 22 [some (.ref 19), none, none, none, none] [.int 32, .ref 19] rfl rfl ?_
    refine z_xcV (vs := [.ref 19, .int 32]) (r := []) (L2 := [some (.ref 19), some (.int 32)]) zt191 10 rfl zo191 zzcV12_147 (Or.inl rfl) rfl X113 f19 rfl rfl rfl (Nat.le_of_ble_eq_true rfl) zzm192 (Nat.le_of_ble_eq_true rfl) rfl ?_
    refine z_xP zt192 0 1 [some (.ref 19), some (.int 32)] [.ref 19] rfl rfl ?_
    have h117 := (e114.f f19 (by decide) h13)
    refine z_xgv zt192 1 rfl zo192 zzf12_136 X113 f19 (by decide) h117 ?_
    refine z_xZ zt192 2 rfl rfl (fun (h118 : 0 ≤ x14.toInt) => absurd h118 (by omega)) (fun (h118 : x14.toInt < 0) => ?_)
    refine z_xP zt192 3 8 [some (.ref 19), some (.int 32)] [.ref 19] rfl rfl ?_
    refine z_xcV (vs := [.ref 19]) (r := []) (L2 := [some (.ref 19)]) zt192 4 rfl zo192 zzcV12_139 (Or.inl rfl) rfl X113 f19 rfl rfl rfl (Nat.le_of_ble_eq_true rfl) zzm193 (Nat.le_of_ble_eq_true rfl) rfl ?_
    refine z_xP zt193 0 1 [some (.ref 19)] [.ref 19] rfl rfl ?_
    refine z_xgv zt193 1 rfl zo193 zzf12_123 X113 f19 (by decide) h115 ?_
    refine z_xP zt193 2 5 [some (.ref 19)] [.ref 19, .int x110] rfl rfl ?_
    have h119 := (e114.f f19 (by decide) h28)
    refine z_xgv zt193 3 rfl zo193 zzf12_126 X113 f19 (by decide) h119 ?_
    refine z_xJ zt193 4 rfl rfl (fun (h120 : x29.toInt ≤ x110.toInt) => ?_) (fun (h120 : x110.toInt < x29.toInt) => ?_)
    · skip
      refine z_xP zt193 24 52 [some (.ref 19)] [.int 0] rfl rfl ?_
      refine z_xri zt193 25 rfl zzr193 ?_
      show z_ev (d + 1) 192 11 [some (.ref 19), some (.int 32)] [.int 0] M112 _
      refine z_xP zt192 5 12 [some (.ref 19), some (.int 32)] [.int 32, .int 0] rfl rfl ?_
      refine z_xJ zt192 6 rfl rfl (fun (h121 : (0 : Int) = 32) => absurd h121 (by omega)) (fun (h121 : (0 : Int) ≠ 32) => ?_)
      refine z_xP zt192 7 16 [some (.ref 19), some (.int 32)] [.int 0] rfl rfl ?_
      refine z_xrz zt192 8 rfl zzr192 (by decide) (by decide) ?_
      show z_ev (d + 2) 191 25 [some (.ref 19), none, none, none, none] [.int 0] M112 _
      refine z_xZ zt191 11 rfl rfl (fun (h122 : (0 : Int) ≠ 0) => absurd h122 (by omega)) (fun (h122 : (0 : Int) = 0) => ?_)
      refine z_xP zt191 12 29 [some (.ref 19), none, none, none, none] [.ref 19] rfl rfl ?_
      refine z_xcV (vs := [.ref 19]) (r := []) (L2 := [some (.ref 19)]) zt191 13 rfl zo191 zzcV12_163 (Or.inl rfl) rfl X113 f19 rfl rfl rfl (Nat.le_of_ble_eq_true rfl) zzm194 (Nat.le_of_ble_eq_true rfl) rfl ?_
      refine z_xP zt194 0 2 [some (.ref 19)] [.ref 19, .ref 19] rfl rfl ?_
      refine z_xgv zt194 1 rfl zo194 zzf12_136 X113 f19 (by decide) h117 ?_
      refine z_xZ zt194 2 rfl rfl (fun (h123 : 0 ≤ x14.toInt) => absurd h123 (by omega)) (fun (h123 : x14.toInt < 0) => ?_)
      refine z_xP zt194 3 9 [some (.ref 19)] [.ref 19, .ref 19] rfl rfl ?_
      refine z_xgv zt194 4 rfl zo194 zzf12_123 X113 f19 (by decide) h115 ?_
      refine z_xP zt194 5 19 [some (.ref 19)] [.int x110, .ref 19] rfl rfl ?_
      refine z_xpf zt194 8 rfl zo194 zzf12_136 X113 f19 (by decide) (by decide) ⟨Int32.le_toInt _, Int32.toInt_le _⟩ rfl (by decide) zw12_26 (fun M124 X125 e126 h127 => ?_)
      refine z_xP zt194 9 23 [some (.ref 19)] [.int 0] rfl rfl ?_
      refine z_xrz zt194 10 rfl zzr194 (by decide) (by decide) ?_
      show z_ev (d + 2) 191 32 [some (.ref 19), none, none, none, none] [.int 0] M124 _
      refine z_xP zt191 14 33 [some (.ref 19), some (.int 0), none, none, none] [] rfl rfl ?_
      exact z_xrv zt191 15 rfl zzr191 (kk M124 X125 (z_GL.ke (z_GL.ke h10 e114 f23 f24 (by decide)) e126 f23 f24 (by decide)) (z_OT.ke (z_OT.ke o11 X.1 e114 rfl) X.1 e126 rfl))
    refine z_xP zt193 5 12 [some (.ref 19)] [.ref 19] rfl rfl ?_
    have h128 := (e114.f f19 (by decide) h40)
    refine z_xgv zt193 6 rfl zo193 zzf12_129 X113 f19 (by decide) h128 ?_
    refine z_xZ zt193 7 rfl rfl (fun (h129 : x41.toInt = 0) => absurd h129 (by omega)) (fun (h129 : x41.toInt ≠ 0) => ?_)
    refine z_xP zt193 8 19 [some (.ref 19)] [.ref 19] rfl rfl ?_
    refine z_xgX (b := 20) zt193 9 rfl zo193 zzf12_9 X113 f19 (by decide) (by decide) rfl ?_
    refine z_xP zt193 10 23 [some (.ref 19)] [.ref 19, .ref 20] rfl rfl ?_
    refine z_xgv zt193 11 rfl zo193 zzf12_123 X113 f19 (by decide) h115 ?_
    refine z_xil zt193 12 rfl X113 f20 (by decide) (by omega) (by omega) (fun (x130 : Int32) h131 (h132 : (-2147483648) ≤ x130.toInt) (h133 : x130.toInt ≤ 2147483647) => ?_)
    refine z_xP zt193 13 52 [some (.ref 19)] [.int x130] rfl rfl ?_
    refine z_xri zt193 25 rfl zzr193 ?_
    show z_ev (d + 1) 192 11 [some (.ref 19), some (.int 32)] [.int x130] M112 _
    refine z_xP zt192 5 12 [some (.ref 19), some (.int 32)] [.int 32, .int x130] rfl rfl ?_
    refine z_xJ zt192 6 rfl rfl (fun (h134 : x130.toInt = 32) => ?_) (fun (h134 : x130.toInt ≠ 32) => ?_)
    · skip
      refine z_xP zt192 9 19 [some (.ref 19), some (.int 32)] [.ref 19, .ref 19] rfl rfl ?_
      refine z_xgv zt192 10 rfl zo192 zzf12_123 X113 f19 (by decide) h115 ?_
      refine z_xP zt192 11 23 [some (.ref 19), some (.int 32)] [.int 1, .int x110, .ref 19] rfl rfl ?_
      refine z_xI zt192 12 rfl rfl (fun (x135 : Int32) (h136 : x135.toInt = x110.toInt + 1) => ?_) (z_pAdd rfl rfl (by omega) (by omega))
      refine z_xpf zt192 13 rfl zo192 zzf12_123 X113 f19 (by decide) (by decide) ⟨by omega, by omega⟩ rfl (by decide) zw12_24 (fun M137 X138 e139 h140 => ?_)
      refine z_xP zt192 14 28 [some (.ref 19), some (.int 32)] [.int 1] rfl rfl ?_
      refine z_xrz zt192 15 rfl zzr192 (by decide) (by decide) ?_
      show z_ev (d + 2) 191 25 [some (.ref 19), none, none, none, none] [.int 1] M137 _
      refine z_xZ zt191 11 rfl rfl (fun (h141 : (1 : Int) ≠ 0) => ?_) (fun (h141 : (1 : Int) = 0) => absurd h141 (by omega))
      refine z_xP zt191 16 36 [some (.ref 19), some (.int 1), none, none, none] [] rfl rfl ?_
      have h142 := (e139.f f19 (by decide) (e114.f f19 (by decide) h9))
      have h143 := ((congrFun (e139.a f24 (by decide)) _).trans ((congrFun (e114.a f24 (by decide)) _).trans (z_upe h8)))
      have q0 : ((0 : Int32)).toInt = 0 := rfl
      have q1 : ((1 : Int32)).toInt = 1 := rfl
      exact (zOB191 hL kk 646) M137 (1) none none none x2 x135 (0) X138 (by decide) h142 ⟨by omega, by omega⟩ h140 ⟨by omega, by omega⟩ h143 (by decide) (z_GL.ke (z_GL.ke h10 e114 f23 f24 (by decide)) e139 f23 f24 (by decide)) (z_FP0 (by omega)) ⟨(z_OT.ke (z_OT.ke o11 X.1 e114 rfl) X.1 e139 rfl), ((e139.1 19 12 0 0 0 0 22 f19 (by decide)).trans ((e114.1 19 12 0 0 0 0 22 f19 (by decide)).trans (e7.1 19 12 0 0 0 0 22 f19 (by decide))))⟩ (by omega)
    refine z_xP zt192 7 16 [some (.ref 19), some (.int 32)] [.int 0] rfl rfl ?_
    refine z_xrz zt192 8 rfl zzr192 (by decide) (by decide) ?_
    show z_ev (d + 2) 191 25 [some (.ref 19), none, none, none, none] [.int 0] M112 _
    refine z_xZ zt191 11 rfl rfl (fun (h144 : (0 : Int) ≠ 0) => absurd h144 (by omega)) (fun (h144 : (0 : Int) = 0) => ?_)
    refine z_xP zt191 12 29 [some (.ref 19), none, none, none, none] [.ref 19] rfl rfl ?_
    refine z_xcV (vs := [.ref 19]) (r := []) (L2 := [some (.ref 19)]) zt191 13 rfl zo191 zzcV12_163 (Or.inl rfl) rfl X113 f19 rfl rfl rfl (Nat.le_of_ble_eq_true rfl) zzm194 (Nat.le_of_ble_eq_true rfl) rfl ?_
    refine z_xP zt194 0 2 [some (.ref 19)] [.ref 19, .ref 19] rfl rfl ?_
    refine z_xgv zt194 1 rfl zo194 zzf12_136 X113 f19 (by decide) h117 ?_
    refine z_xZ zt194 2 rfl rfl (fun (h145 : 0 ≤ x14.toInt) => absurd h145 (by omega)) (fun (h145 : x14.toInt < 0) => ?_)
    refine z_xP zt194 3 9 [some (.ref 19)] [.ref 19, .ref 19] rfl rfl ?_
    refine z_xgv zt194 4 rfl zo194 zzf12_123 X113 f19 (by decide) h115 ?_
    refine z_xP zt194 5 19 [some (.ref 19)] [.int x110, .ref 19] rfl rfl ?_
    refine z_xpf zt194 8 rfl zo194 zzf12_136 X113 f19 (by decide) (by decide) ⟨Int32.le_toInt _, Int32.toInt_le _⟩ rfl (by decide) zw12_26 (fun M146 X147 e148 h149 => ?_)
    refine z_xP zt194 9 23 [some (.ref 19)] [.int 0] rfl rfl ?_
    refine z_xrz zt194 10 rfl zzr194 (by decide) (by decide) ?_
    show z_ev (d + 2) 191 32 [some (.ref 19), none, none, none, none] [.int 0] M146 _
    refine z_xP zt191 14 33 [some (.ref 19), some (.int 0), none, none, none] [] rfl rfl ?_
    exact z_xrv zt191 15 rfl zzr191 (kk M146 X147 (z_GL.ke (z_GL.ke h10 e114 f23 f24 (by decide)) e148 f23 f24 (by decide)) (z_OT.ke (z_OT.ke o11 X.1 e114 rfl) X.1 e148 rfl))
  refine z_xP zt192 7 16 [some (.ref 19), some (.int 113)] [.int 0] rfl rfl ?_
  refine z_xrz zt192 8 rfl zzr192 (by decide) (by decide) ?_
  show z_ev (d + 2) 191 16 [some (.ref 19), none, none, none, none] [.int 0] M5 _
  refine z_xZ zt191 8 rfl rfl (fun (h150 : (0 : Int) = 0) => ?_) (fun (h150 : (0 : Int) ≠ 0) => absurd h150 (by omega))
  refine z_xP zt191 12 29 [some (.ref 19), none, none, none, none] [.ref 19] rfl rfl ?_
  refine z_xcV (vs := [.ref 19]) (r := []) (L2 := [some (.ref 19)]) zt191 13 rfl zo191 zzcV12_163 (Or.inl rfl) rfl X6 f19 rfl rfl rfl (Nat.le_of_ble_eq_true rfl) zzm194 (Nat.le_of_ble_eq_true rfl) rfl ?_
  refine z_xP zt194 0 2 [some (.ref 19)] [.ref 19, .ref 19] rfl rfl ?_
  refine z_xgv zt194 1 rfl zo194 zzf12_136 X6 f19 (by decide) h13 ?_
  refine z_xZ zt194 2 rfl rfl (fun (h151 : 0 ≤ x14.toInt) => absurd h151 (by omega)) (fun (h151 : x14.toInt < 0) => ?_)
  refine z_xP zt194 3 9 [some (.ref 19)] [.ref 19, .ref 19] rfl rfl ?_
  refine z_xgv zt194 4 rfl zo194 zzf12_123 X6 f19 (by decide) h24 ?_
  refine z_xP zt194 5 19 [some (.ref 19)] [.int x25, .ref 19] rfl rfl ?_
  refine z_xpf zt194 8 rfl zo194 zzf12_136 X6 f19 (by decide) (by decide) ⟨Int32.le_toInt _, Int32.toInt_le _⟩ rfl (by decide) zw12_26 (fun M152 X153 e154 h155 => ?_)
  refine z_xP zt194 9 23 [some (.ref 19)] [.int 0] rfl rfl ?_
  refine z_xrz zt194 10 rfl zzr194 (by decide) (by decide) ?_
  show z_ev (d + 2) 191 32 [some (.ref 19), none, none, none, none] [.int 0] M152 _
  refine z_xP zt191 14 33 [some (.ref 19), some (.int 0), none, none, none] [] rfl rfl ?_
  exact z_xrv zt191 15 rfl zzr191 (kk M152 X153 (z_GL.ke h10 e154 f23 f24 (by decide)) (z_OT.ke o11 X.1 e154 rfl))
theorem zOC196 {T : List zK} {d : Nat} {K : Option Value → zH → Prop} {zp0 : Int32} {M0 : zH} (hW : z_W M0 T) (hz0 : z_F M0 19 24 = some (.int zp0)) (bz0 : 0 ≤ zp0.toInt ∧ zp0.toInt ≤ 160) (hL : z_GL M0) (kk : ∀ (M1 : zH), z_X T zw196 M0 M1 → z_OT (z_Fv M0 19 22).toInt M0 M1 → ∀ (w0 : Int32), z_F M1 19 24 = some (.int w0) → 0 ≤ w0.toInt ∧ w0.toInt ≤ 160 → zp0.toInt ≤ w0.toInt → K none M1) : z_ev (d + 972) 196 0 [some (.ref 19), none, none, none] [] M0 K := by
  have X : z_X T zw196 M0 M0 := .refl hW
  refine z_xP zt196 0 1 [some (.ref 19), none, none, none] [.ref 19] rfl rfl ?_
  have f19 : T[19]? = some (.inl (12, 0, 0, 0, 0)) := X.1.k rfl (by decide)
  refine z_xcV (vs := [.ref 19]) (r := []) (L2 := [some (.ref 19)]) zt196 1 rfl zo196 zzcV12_139 (Or.inl rfl) rfl X f19 rfl rfl rfl (Nat.le_of_ble_eq_true rfl) zzm193 (Nat.le_of_ble_eq_true rfl) rfl ?_
  refine z_xP zt193 0 1 [some (.ref 19)] [.ref 19] rfl rfl ?_
  refine z_xgv zt193 1 rfl zo193 zzf12_123 X f19 (by decide) hz0 ?_
  refine z_xP zt193 2 5 [some (.ref 19)] [.ref 19, .int zp0] rfl rfl ?_
  refine z_xgI zt193 3 rfl zo193 zzf12_126 X f19 (by decide) (by decide) rfl (fun (x2 : Int32) h1 (h3 : 0 ≤ x2.toInt) (h4 : x2.toInt ≤ 160) => ?_)
  refine z_xJ zt193 4 rfl rfl (fun (h5 : x2.toInt ≤ zp0.toInt) => ?_) (fun (h5 : zp0.toInt < x2.toInt) => ?_)
  · skip
    refine z_xP zt193 24 52 [some (.ref 19)] [.int 0] rfl rfl ?_
    refine z_xri zt193 25 rfl zzr193 ?_
    show z_ev (d + 972) 196 4 [some (.ref 19), none, none, none] [.int 0] M0 _
    refine z_xP zt196 2 8 [some (.ref 19), some (.int 0), none, none] [.int 112, .int 0] rfl rfl ?_
    refine z_xJ zt196 3 rfl rfl (fun (h6 : (0 : Int) ≠ 112) => ?_) (fun (h6 : (0 : Int) = 112) => absurd h6 (by omega))
    refine z_xP zt196 10 26 [some (.ref 19), some (.int 0), none, none] [.int 101, .int 0] rfl rfl ?_
    refine z_xJ zt196 11 rfl rfl (fun (h7 : (0 : Int) ≠ 101) => ?_) (fun (h7 : (0 : Int) = 101) => absurd h7 (by omega))
    refine z_xP zt196 18 44 [some (.ref 19), some (.int 0), none, none] [.int 116, .int 0] rfl rfl ?_
    refine z_xJ zt196 19 rfl rfl (fun (h8 : (0 : Int) ≠ 116) => ?_) (fun (h8 : (0 : Int) = 116) => absurd h8 (by omega))
    refine z_xP zt196 28 66 [some (.ref 19), some (.int 0), none, none] [.int 0] rfl rfl ?_
    refine z_xP zt196 29 70 [some (.ref 19), some (.int 0), some (.int 0), none] [.int 112, .int 0] rfl rfl ?_
    refine z_xJ zt196 30 rfl rfl (fun (h9 : (0 : Int) = 112) => absurd h9 (by omega)) (fun (h9 : (0 : Int) ≠ 112) => ?_)
    refine z_xP zt196 31 76 [some (.ref 19), some (.int 0), some (.int 0), none] [.int 101, .int 0] rfl rfl ?_
    refine z_xJ zt196 32 rfl rfl (fun (h10 : (0 : Int) = 101) => absurd h10 (by omega)) (fun (h10 : (0 : Int) ≠ 101) => ?_)
    refine z_xP zt196 33 82 [some (.ref 19), some (.int 0), some (.int 0), none] [.int 116, .int 0] rfl rfl ?_
    refine z_xJ zt196 34 rfl rfl (fun (h11 : (0 : Int) ≠ 116) => ?_) (fun (h11 : (0 : Int) = 116) => absurd h11 (by omega))
    refine z_xP zt196 37 90 [some (.ref 19), some (.int 0), some (.int 0), none] [.ref 19] rfl rfl ?_
    refine z_xcV (vs := [.ref 19]) (r := []) (L2 := [some (.ref 19)]) zt196 38 rfl zo196 zzcV12_163 (Or.inl rfl) rfl X f19 rfl rfl rfl (Nat.le_of_ble_eq_true rfl) zzm194 (Nat.le_of_ble_eq_true rfl) rfl ?_
    refine z_xP zt194 0 2 [some (.ref 19)] [.ref 19, .ref 19] rfl rfl ?_
    refine z_xgI zt194 1 rfl zo194 zzf12_136 X f19 (by decide) (by decide) rfl (fun (x13 : Int32) h12 (h14 : (-2147483648) ≤ x13.toInt) (h15 : x13.toInt ≤ 2147483647) => ?_)
    refine z_xZ zt194 2 rfl rfl (fun (h16 : 0 ≤ x13.toInt) => ?_) (fun (h16 : x13.toInt < 0) => ?_)
    · skip
      refine z_xP zt194 6 16 [some (.ref 19)] [.ref 19, .ref 19] rfl rfl ?_
      refine z_xgv zt194 7 rfl zo194 zzf12_136 X f19 (by decide) h12 ?_
      refine z_xpf zt194 8 rfl zo194 zzf12_136 X f19 (by decide) (by decide) ⟨Int32.le_toInt _, Int32.toInt_le _⟩ rfl (by decide) zw12_26 (fun M17 X18 e19 h20 => ?_)
      refine z_xP zt194 9 23 [some (.ref 19)] [.int 0] rfl rfl ?_
      refine z_xrz zt194 10 rfl zzr194 (by decide) (by decide) ?_
      show z_ev (d + 972) 196 93 [some (.ref 19), some (.int 0), some (.int 0), none] [.int 0] M17 _
      refine z_xP zt196 39 94 [some (.ref 19), some (.int 0), some (.int 0), some (.int 0)] [] rfl rfl ?_
      have h21 := (e19.f f19 (by decide) hz0)
      exact z_xrv zt196 40 rfl zzr196 (kk M17 X18 (z_OT.ke z_OT.refl X.1 e19 rfl) zp0 h21 ⟨by omega, by omega⟩ (by omega))
    refine z_xP zt194 3 9 [some (.ref 19)] [.ref 19, .ref 19] rfl rfl ?_
    refine z_xgv zt194 4 rfl zo194 zzf12_123 X f19 (by decide) hz0 ?_
    refine z_xP zt194 5 19 [some (.ref 19)] [.int zp0, .ref 19] rfl rfl ?_
    refine z_xpf zt194 8 rfl zo194 zzf12_136 X f19 (by decide) (by decide) ⟨Int32.le_toInt _, Int32.toInt_le _⟩ rfl (by decide) zw12_26 (fun M22 X23 e24 h25 => ?_)
    refine z_xP zt194 9 23 [some (.ref 19)] [.int 0] rfl rfl ?_
    refine z_xrz zt194 10 rfl zzr194 (by decide) (by decide) ?_
    show z_ev (d + 972) 196 93 [some (.ref 19), some (.int 0), some (.int 0), none] [.int 0] M22 _
    refine z_xP zt196 39 94 [some (.ref 19), some (.int 0), some (.int 0), some (.int 0)] [] rfl rfl ?_
    have h26 := (e24.f f19 (by decide) hz0)
    exact z_xrv zt196 40 rfl zzr196 (kk M22 X23 (z_OT.ke z_OT.refl X.1 e24 rfl) zp0 h26 ⟨by omega, by omega⟩ (by omega))
  refine z_xP zt193 5 12 [some (.ref 19)] [.ref 19] rfl rfl ?_
  refine z_xgI zt193 6 rfl zo193 zzf12_129 X f19 (by decide) (by decide) rfl (fun (x28 : Int32) h27 (h29 : 0 ≤ x28.toInt) (h30 : x28.toInt ≤ 1) => ?_)
  refine z_xZ zt193 7 rfl rfl (fun (h31 : x28.toInt = 0) => ?_) (fun (h31 : x28.toInt ≠ 0) => ?_)
  · skip
    refine z_xP zt193 14 31 [some (.ref 19)] [.ref 19] rfl rfl ?_
    refine z_xgX (b := 21) zt193 15 rfl zo193 zzf12_13 X f19 (by decide) (by decide) rfl ?_
    refine z_xP zt193 16 38 [some (.ref 19)] [.ref 19, .int 160, .ref 21] rfl rfl ?_
    refine z_xgI zt193 17 rfl zo193 zzf12_133 X f19 (by decide) (by decide) rfl (fun (x33 : Int32) h32 (h34 : 0 ≤ x33.toInt) (h35 : x33.toInt ≤ 7) => ?_)
    refine z_xI zt193 18 rfl rfl (fun (x36 : Int32) (h37 : x36.toInt = 160 * x33.toInt) => ?_) (z_pMul rfl rfl (by omega) (by omega))
    refine z_xP zt193 19 43 [some (.ref 19)] [.ref 19, .int x36, .ref 21] rfl rfl ?_
    refine z_xgv zt193 20 rfl zo193 zzf12_123 X f19 (by decide) hz0 ?_
    refine z_xI zt193 21 rfl rfl (fun (x38 : Int32) (h39 : x38.toInt = x36.toInt + zp0.toInt) => ?_) (z_pAdd rfl rfl (by omega) (by omega))
    have f21 : T[21]? = some (.inr (21, 0, 1280, (-2147483648), 2147483647)) := X.1.k rfl (by decide)
    refine z_xil zt193 22 rfl X f21 (by decide) (by omega) (by omega) (fun (x40 : Int32) h41 (h42 : (-2147483648) ≤ x40.toInt) (h43 : x40.toInt ≤ 2147483647) => ?_)
    refine z_xP zt193 23 52 [some (.ref 19)] [.int x40] rfl rfl ?_
    refine z_xri zt193 25 rfl zzr193 ?_
    show z_ev (d + 972) 196 4 [some (.ref 19), none, none, none] [.int x40] M0 _
    refine z_xP zt196 2 8 [some (.ref 19), some (.int x40), none, none] [.int 112, .int x40] rfl rfl ?_
    refine z_xJ zt196 3 rfl rfl (fun (h44 : x40.toInt ≠ 112) => ?_) (fun (h44 : x40.toInt = 112) => ?_)
    · skip
      refine z_xP zt196 10 26 [some (.ref 19), some (.int x40), none, none] [.int 101, .int x40] rfl rfl ?_
      refine z_xJ zt196 11 rfl rfl (fun (h45 : x40.toInt ≠ 101) => ?_) (fun (h45 : x40.toInt = 101) => ?_)
      · skip
        refine z_xP zt196 18 44 [some (.ref 19), some (.int x40), none, none] [.int 116, .int x40] rfl rfl ?_
        refine z_xJ zt196 19 rfl rfl (fun (h46 : x40.toInt ≠ 116) => ?_) (fun (h46 : x40.toInt = 116) => ?_)
        · skip
          refine z_xP zt196 28 66 [some (.ref 19), some (.int x40), none, none] [.int 0] rfl rfl ?_
          refine z_xP zt196 29 70 [some (.ref 19), some (.int x40), some (.int 0), none] [.int 112, .int x40] rfl rfl ?_
          refine z_xJ zt196 30 rfl rfl (fun (h47 : x40.toInt = 112) => ?_) (fun (h47 : x40.toInt ≠ 112) => ?_)
          · skip
            refine z_xP zt196 35 86 [some (.ref 19), some (.int x40), some (.int 0), none] [.int 0] rfl rfl ?_
            refine z_xZ zt196 36 rfl rfl (fun (h48 : (0 : Int) = 0) => ?_) (fun (h48 : (0 : Int) ≠ 0) => absurd h48 (by omega))
            refine z_xP zt196 41 97 [some (.ref 19), some (.int x40), some (.int 0), none] [.ref 19, .ref 19] rfl rfl ?_
            refine z_xgv zt196 42 rfl zo196 zzf12_123 X f19 (by decide) hz0 ?_
            refine z_xP zt196 43 101 [some (.ref 19), some (.int x40), some (.int 0), none] [.int 1, .int zp0, .ref 19] rfl rfl ?_
            refine z_xI zt196 44 rfl rfl (fun (x49 : Int32) (h50 : x49.toInt = zp0.toInt + 1) => ?_) (z_pAdd rfl rfl (by omega) (by omega))
            refine z_xpf zt196 45 rfl zo196 zzf12_123 X f19 (by decide) (by decide) ⟨by omega, by omega⟩ rfl (by decide) zw12_24 (fun M51 X52 e53 h54 => ?_)
            refine z_xP zt196 46 108 [some (.ref 19), some (.int x40), some (.int 0), none] [.int 32, .ref 19] rfl rfl ?_
            refine z_xcV (vs := [.ref 19, .int 32]) (r := []) (L2 := [some (.ref 19), some (.int 32)]) zt196 47 rfl zo196 zzcV12_147 (Or.inl rfl) rfl X52 f19 rfl rfl rfl (Nat.le_of_ble_eq_true rfl) zzm192 (Nat.le_of_ble_eq_true rfl) rfl ?_
            refine z_xP zt192 0 1 [some (.ref 19), some (.int 32)] [.ref 19] rfl rfl ?_
            refine z_xgI zt192 1 rfl zo192 zzf12_136 X52 f19 (by decide) (by decide) rfl (fun (x56 : Int32) h55 (h57 : (-2147483648) ≤ x56.toInt) (h58 : x56.toInt ≤ 2147483647) => ?_)
            refine z_xZ zt192 2 rfl rfl (fun (h59 : 0 ≤ x56.toInt) => ?_) (fun (h59 : x56.toInt < 0) => ?_)
            · skip
              refine z_xP zt192 7 16 [some (.ref 19), some (.int 32)] [.int 0] rfl rfl ?_
              refine z_xrz zt192 8 rfl zzr192 (by decide) (by decide) ?_
              show z_ev (d + 972) 196 111 [some (.ref 19), some (.int x40), some (.int 0), none] [.int 0] M51 _
              refine z_xZ zt196 48 rfl rfl (fun (h60 : (0 : Int) ≠ 0) => absurd h60 (by omega)) (fun (h60 : (0 : Int) = 0) => ?_)
              refine z_xP zt196 49 115 [some (.ref 19), some (.int x40), some (.int 0), none] [.ref 19] rfl rfl ?_
              refine z_xcV (vs := [.ref 19]) (r := []) (L2 := [some (.ref 19)]) zt196 50 rfl zo196 zzcV12_163 (Or.inl rfl) rfl X52 f19 rfl rfl rfl (Nat.le_of_ble_eq_true rfl) zzm194 (Nat.le_of_ble_eq_true rfl) rfl ?_
              refine z_xP zt194 0 2 [some (.ref 19)] [.ref 19, .ref 19] rfl rfl ?_
              refine z_xgv zt194 1 rfl zo194 zzf12_136 X52 f19 (by decide) h55 ?_
              refine z_xZ zt194 2 rfl rfl (fun (h61 : 0 ≤ x56.toInt) => ?_) (fun (h61 : x56.toInt < 0) => absurd h61 (by omega))
              refine z_xP zt194 6 16 [some (.ref 19)] [.ref 19, .ref 19] rfl rfl ?_
              refine z_xgv zt194 7 rfl zo194 zzf12_136 X52 f19 (by decide) h55 ?_
              refine z_xpf zt194 8 rfl zo194 zzf12_136 X52 f19 (by decide) (by decide) ⟨Int32.le_toInt _, Int32.toInt_le _⟩ rfl (by decide) zw12_26 (fun M62 X63 e64 h65 => ?_)
              refine z_xP zt194 9 23 [some (.ref 19)] [.int 0] rfl rfl ?_
              refine z_xrz zt194 10 rfl zzr194 (by decide) (by decide) ?_
              show z_ev (d + 972) 196 118 [some (.ref 19), some (.int x40), some (.int 0), none] [.int 0] M62 _
              refine z_xP zt196 51 119 [some (.ref 19), some (.int x40), some (.int 0), some (.int 0)] [] rfl rfl ?_
              have h66 := (e64.f f19 (by decide) h54)
              exact z_xrv zt196 52 rfl zzr196 (kk M62 X63 (z_OT.ke (z_OT.ke z_OT.refl X.1 e53 rfl) X.1 e64 rfl) x49 h66 ⟨by omega, by omega⟩ (by omega))
            refine z_xP zt192 3 8 [some (.ref 19), some (.int 32)] [.ref 19] rfl rfl ?_
            refine z_xcV (vs := [.ref 19]) (r := []) (L2 := [some (.ref 19)]) zt192 4 rfl zo192 zzcV12_139 (Or.inl rfl) rfl X52 f19 rfl rfl rfl (Nat.le_of_ble_eq_true rfl) zzm193 (Nat.le_of_ble_eq_true rfl) rfl ?_
            refine z_xP zt193 0 1 [some (.ref 19)] [.ref 19] rfl rfl ?_
            refine z_xgv zt193 1 rfl zo193 zzf12_123 X52 f19 (by decide) h54 ?_
            refine z_xP zt193 2 5 [some (.ref 19)] [.ref 19, .int x49] rfl rfl ?_
            have h67 := (e53.f f19 (by decide) h1)
            refine z_xgv zt193 3 rfl zo193 zzf12_126 X52 f19 (by decide) h67 ?_
            refine z_xJ zt193 4 rfl rfl (fun (h68 : x2.toInt ≤ x49.toInt) => ?_) (fun (h68 : x49.toInt < x2.toInt) => ?_)
            · skip
              refine z_xP zt193 24 52 [some (.ref 19)] [.int 0] rfl rfl ?_
              refine z_xri zt193 25 rfl zzr193 ?_
              show z_ev (d + 971) 192 11 [some (.ref 19), some (.int 32)] [.int 0] M51 _
              refine z_xP zt192 5 12 [some (.ref 19), some (.int 32)] [.int 32, .int 0] rfl rfl ?_
              refine z_xJ zt192 6 rfl rfl (fun (h69 : (0 : Int) = 32) => absurd h69 (by omega)) (fun (h69 : (0 : Int) ≠ 32) => ?_)
              refine z_xP zt192 7 16 [some (.ref 19), some (.int 32)] [.int 0] rfl rfl ?_
              refine z_xrz zt192 8 rfl zzr192 (by decide) (by decide) ?_
              show z_ev (d + 972) 196 111 [some (.ref 19), some (.int x40), some (.int 0), none] [.int 0] M51 _
              refine z_xZ zt196 48 rfl rfl (fun (h70 : (0 : Int) ≠ 0) => absurd h70 (by omega)) (fun (h70 : (0 : Int) = 0) => ?_)
              refine z_xP zt196 49 115 [some (.ref 19), some (.int x40), some (.int 0), none] [.ref 19] rfl rfl ?_
              refine z_xcV (vs := [.ref 19]) (r := []) (L2 := [some (.ref 19)]) zt196 50 rfl zo196 zzcV12_163 (Or.inl rfl) rfl X52 f19 rfl rfl rfl (Nat.le_of_ble_eq_true rfl) zzm194 (Nat.le_of_ble_eq_true rfl) rfl ?_
              refine z_xP zt194 0 2 [some (.ref 19)] [.ref 19, .ref 19] rfl rfl ?_
              refine z_xgv zt194 1 rfl zo194 zzf12_136 X52 f19 (by decide) h55 ?_
              refine z_xZ zt194 2 rfl rfl (fun (h71 : 0 ≤ x56.toInt) => absurd h71 (by omega)) (fun (h71 : x56.toInt < 0) => ?_)
              refine z_xP zt194 3 9 [some (.ref 19)] [.ref 19, .ref 19] rfl rfl ?_
              refine z_xgv zt194 4 rfl zo194 zzf12_123 X52 f19 (by decide) h54 ?_
              refine z_xP zt194 5 19 [some (.ref 19)] [.int x49, .ref 19] rfl rfl ?_
              refine z_xpf zt194 8 rfl zo194 zzf12_136 X52 f19 (by decide) (by decide) ⟨Int32.le_toInt _, Int32.toInt_le _⟩ rfl (by decide) zw12_26 (fun M72 X73 e74 h75 => ?_)
              refine z_xP zt194 9 23 [some (.ref 19)] [.int 0] rfl rfl ?_
              refine z_xrz zt194 10 rfl zzr194 (by decide) (by decide) ?_
              show z_ev (d + 972) 196 118 [some (.ref 19), some (.int x40), some (.int 0), none] [.int 0] M72 _
              refine z_xP zt196 51 119 [some (.ref 19), some (.int x40), some (.int 0), some (.int 0)] [] rfl rfl ?_
              have h76 := (e74.f f19 (by decide) h54)
              exact z_xrv zt196 52 rfl zzr196 (kk M72 X73 (z_OT.ke (z_OT.ke z_OT.refl X.1 e53 rfl) X.1 e74 rfl) x49 h76 ⟨by omega, by omega⟩ (by omega))
            refine z_xP zt193 5 12 [some (.ref 19)] [.ref 19] rfl rfl ?_
            have h77 := (e53.f f19 (by decide) h27)
            refine z_xgv zt193 6 rfl zo193 zzf12_129 X52 f19 (by decide) h77 ?_
            refine z_xZ zt193 7 rfl rfl (fun (h78 : x28.toInt = 0) => ?_) (fun (h78 : x28.toInt ≠ 0) => absurd h78 (by omega))
            refine z_xP zt193 14 31 [some (.ref 19)] [.ref 19] rfl rfl ?_
            refine z_xgX (b := 21) zt193 15 rfl zo193 zzf12_13 X52 f19 (by decide) (by decide) rfl ?_
            refine z_xP zt193 16 38 [some (.ref 19)] [.ref 19, .int 160, .ref 21] rfl rfl ?_
            have h79 := (e53.f f19 (by decide) h32)
            refine z_xgv zt193 17 rfl zo193 zzf12_133 X52 f19 (by decide) h79 ?_
            refine z_xI zt193 18 rfl rfl (fun (x80 : Int32) (h81 : x80.toInt = 160 * x33.toInt) => ?_) (z_pMul rfl rfl (by omega) (by omega))
            refine z_xP zt193 19 43 [some (.ref 19)] [.ref 19, .int x80, .ref 21] rfl rfl ?_
            refine z_xgv zt193 20 rfl zo193 zzf12_123 X52 f19 (by decide) h54 ?_
            refine z_xI zt193 21 rfl rfl (fun (x82 : Int32) (h83 : x82.toInt = x80.toInt + x49.toInt) => ?_) (z_pAdd rfl rfl (by omega) (by omega))
            refine z_xil zt193 22 rfl X52 f21 (by decide) (by omega) (by omega) (fun (x84 : Int32) h85 (h86 : (-2147483648) ≤ x84.toInt) (h87 : x84.toInt ≤ 2147483647) => ?_)
            refine z_xP zt193 23 52 [some (.ref 19)] [.int x84] rfl rfl ?_
            refine z_xri zt193 25 rfl zzr193 ?_
            show z_ev (d + 971) 192 11 [some (.ref 19), some (.int 32)] [.int x84] M51 _
            refine z_xP zt192 5 12 [some (.ref 19), some (.int 32)] [.int 32, .int x84] rfl rfl ?_
            refine z_xJ zt192 6 rfl rfl (fun (h88 : x84.toInt = 32) => ?_) (fun (h88 : x84.toInt ≠ 32) => ?_)
            · skip
              refine z_xP zt192 9 19 [some (.ref 19), some (.int 32)] [.ref 19, .ref 19] rfl rfl ?_
              refine z_xgv zt192 10 rfl zo192 zzf12_123 X52 f19 (by decide) h54 ?_
              refine z_xP zt192 11 23 [some (.ref 19), some (.int 32)] [.int 1, .int x49, .ref 19] rfl rfl ?_
              refine z_xI zt192 12 rfl rfl (fun (x89 : Int32) (h90 : x89.toInt = x49.toInt + 1) => ?_) (z_pAdd rfl rfl (by omega) (by omega))
              refine z_xpf zt192 13 rfl zo192 zzf12_123 X52 f19 (by decide) (by decide) ⟨by omega, by omega⟩ rfl (by decide) zw12_24 (fun M91 X92 e93 h94 => ?_)
              refine z_xP zt192 14 28 [some (.ref 19), some (.int 32)] [.int 1] rfl rfl ?_
              refine z_xrz zt192 15 rfl zzr192 (by decide) (by decide) ?_
              show z_ev (d + 972) 196 111 [some (.ref 19), some (.int x40), some (.int 0), none] [.int 1] M91 _
              refine z_xZ zt196 48 rfl rfl (fun (h95 : (1 : Int) ≠ 0) => ?_) (fun (h95 : (1 : Int) = 0) => absurd h95 (by omega))
              refine z_xP zt196 53 123 [some (.ref 19), some (.int x40), some (.int 0), none] [.int 112, .int x40] rfl rfl ?_
              refine z_xJ zt196 54 rfl rfl (fun (h96 : x40.toInt ≠ 112) => absurd h96 (by omega)) (fun (h96 : x40.toInt = 112) => ?_)
              refine z_xP zt196 55 127 [some (.ref 19), some (.int x40), some (.int 0), none] [.ref 19] rfl rfl ?_
              refine z_xgX (b := 27) zt196 56 rfl zo196 zzf12_31 X92 f19 (by decide) (by decide) rfl ?_
              refine z_xP zt196 57 131 [some (.ref 19), some (.int x40), some (.int 0), none] [.ref 19, .ref 27] rfl rfl ?_
              have h97 := (e93.f f19 (by decide) h79)
              refine z_xgv zt196 58 rfl zo196 zzf12_133 X92 f19 (by decide) h97 ?_
              refine z_xP zt196 59 135 [some (.ref 19), some (.int x40), some (.int 0), none] [.ref 19, .int x33, .ref 27] rfl rfl ?_
              refine z_xcV (vs := [.ref 19]) (r := [.int x33, .ref 27]) (L2 := [some (.ref 19), none, none, none, none]) zt196 60 rfl zo196 zzcV12_190 (Or.inl rfl) rfl X92 f19 rfl rfl rfl (Nat.le_of_ble_eq_true rfl) zzm197 (Nat.le_of_ble_eq_true rfl) rfl ?_
              refine zC197 X92.1 h94 ⟨by omega, by omega⟩ (z_GL.go hL X92 (by decide)) (fun x104 M98 X99 h105 h106 z100 h101 h102 h103 => ?_)
              have X107 := X92.go X99 (z_sb (by decide))
              show z_ev (d + 972) 196 138 [some (.ref 19), some (.int x40), some (.int 0), none] [.int x104, .int x33, .ref 27] M98 _
              have f27 : T[27]? = some (.inr (27, 0, 8, (-2147483648), 2147483647)) := X107.1.k rfl (by decide)
              refine z_xis zt196 61 rfl X107 f27 (by decide) (by decide) (by omega) (by omega) (Int32.le_toInt _) (Int32.toInt_le _) (by decide) (fun M109 X110 e111 h112 => ?_)
              have h115 := (e111.f f19 (by decide) (X99.2.f f19 (by decide) h97))
              have q114 := (z_OTA h115 ((e111.1 19 12 0 0 0 0 22 f19 (by decide)).trans ((X99.2.1 19 12 0 0 0 0 22 f19 (by decide)).trans ((e93.1 19 12 0 0 0 0 22 f19 (by decide)).trans (e53.1 19 12 0 0 0 0 22 f19 (by decide))))).symm)
              have o113 := z_OT.st (A := (z_Fv M0 19 22).toInt) (z_OT.ke (z_OT.ke (z_OT.ke z_OT.refl X.1 e53 rfl) X.1 e93 rfl) X.1 X99.2 rfl) X.1 e111 h112 (r := 27) (by decide) (fun _ => by omega) (fun h => absurd h (by decide))
              refine z_xP zt196 62 208 [some (.ref 19), some (.int x40), some (.int 0), none] [] rfl rfl ?_
              have h116 := (e111.f f19 (by decide) h101)
              exact z_xrv zt196 99 rfl zzr196 (kk M109 X110 o113 z100 h116 ⟨by omega, by omega⟩ (by omega))
            refine z_xP zt192 7 16 [some (.ref 19), some (.int 32)] [.int 0] rfl rfl ?_
            refine z_xrz zt192 8 rfl zzr192 (by decide) (by decide) ?_
            show z_ev (d + 972) 196 111 [some (.ref 19), some (.int x40), some (.int 0), none] [.int 0] M51 _
            refine z_xZ zt196 48 rfl rfl (fun (h117 : (0 : Int) ≠ 0) => absurd h117 (by omega)) (fun (h117 : (0 : Int) = 0) => ?_)
            refine z_xP zt196 49 115 [some (.ref 19), some (.int x40), some (.int 0), none] [.ref 19] rfl rfl ?_
            refine z_xcV (vs := [.ref 19]) (r := []) (L2 := [some (.ref 19)]) zt196 50 rfl zo196 zzcV12_163 (Or.inl rfl) rfl X52 f19 rfl rfl rfl (Nat.le_of_ble_eq_true rfl) zzm194 (Nat.le_of_ble_eq_true rfl) rfl ?_
            refine z_xP zt194 0 2 [some (.ref 19)] [.ref 19, .ref 19] rfl rfl ?_
            refine z_xgv zt194 1 rfl zo194 zzf12_136 X52 f19 (by decide) h55 ?_
            refine z_xZ zt194 2 rfl rfl (fun (h118 : 0 ≤ x56.toInt) => absurd h118 (by omega)) (fun (h118 : x56.toInt < 0) => ?_)
            refine z_xP zt194 3 9 [some (.ref 19)] [.ref 19, .ref 19] rfl rfl ?_
            refine z_xgv zt194 4 rfl zo194 zzf12_123 X52 f19 (by decide) h54 ?_
            refine z_xP zt194 5 19 [some (.ref 19)] [.int x49, .ref 19] rfl rfl ?_
            refine z_xpf zt194 8 rfl zo194 zzf12_136 X52 f19 (by decide) (by decide) ⟨Int32.le_toInt _, Int32.toInt_le _⟩ rfl (by decide) zw12_26 (fun M119 X120 e121 h122 => ?_)
            refine z_xP zt194 9 23 [some (.ref 19)] [.int 0] rfl rfl ?_
            refine z_xrz zt194 10 rfl zzr194 (by decide) (by decide) ?_
            show z_ev (d + 972) 196 118 [some (.ref 19), some (.int x40), some (.int 0), none] [.int 0] M119 _
            refine z_xP zt196 51 119 [some (.ref 19), some (.int x40), some (.int 0), some (.int 0)] [] rfl rfl ?_
            have h123 := (e121.f f19 (by decide) h54)
            exact z_xrv zt196 52 rfl zzr196 (kk M119 X120 (z_OT.ke (z_OT.ke z_OT.refl X.1 e53 rfl) X.1 e121 rfl) x49 h123 ⟨by omega, by omega⟩ (by omega))
          refine z_xP zt196 31 76 [some (.ref 19), some (.int x40), some (.int 0), none] [.int 101, .int x40] rfl rfl ?_
          refine z_xJ zt196 32 rfl rfl (fun (h124 : x40.toInt = 101) => ?_) (fun (h124 : x40.toInt ≠ 101) => ?_)
          · skip
            refine z_xP zt196 35 86 [some (.ref 19), some (.int x40), some (.int 0), none] [.int 0] rfl rfl ?_
            refine z_xZ zt196 36 rfl rfl (fun (h125 : (0 : Int) = 0) => ?_) (fun (h125 : (0 : Int) ≠ 0) => absurd h125 (by omega))
            refine z_xP zt196 41 97 [some (.ref 19), some (.int x40), some (.int 0), none] [.ref 19, .ref 19] rfl rfl ?_
            refine z_xgv zt196 42 rfl zo196 zzf12_123 X f19 (by decide) hz0 ?_
            refine z_xP zt196 43 101 [some (.ref 19), some (.int x40), some (.int 0), none] [.int 1, .int zp0, .ref 19] rfl rfl ?_
            refine z_xI zt196 44 rfl rfl (fun (x126 : Int32) (h127 : x126.toInt = zp0.toInt + 1) => ?_) (z_pAdd rfl rfl (by omega) (by omega))
            refine z_xpf zt196 45 rfl zo196 zzf12_123 X f19 (by decide) (by decide) ⟨by omega, by omega⟩ rfl (by decide) zw12_24 (fun M128 X129 e130 h131 => ?_)
            refine z_xP zt196 46 108 [some (.ref 19), some (.int x40), some (.int 0), none] [.int 32, .ref 19] rfl rfl ?_
            refine z_xcV (vs := [.ref 19, .int 32]) (r := []) (L2 := [some (.ref 19), some (.int 32)]) zt196 47 rfl zo196 zzcV12_147 (Or.inl rfl) rfl X129 f19 rfl rfl rfl (Nat.le_of_ble_eq_true rfl) zzm192 (Nat.le_of_ble_eq_true rfl) rfl ?_
            refine z_xP zt192 0 1 [some (.ref 19), some (.int 32)] [.ref 19] rfl rfl ?_
            refine z_xgI zt192 1 rfl zo192 zzf12_136 X129 f19 (by decide) (by decide) rfl (fun (x133 : Int32) h132 (h134 : (-2147483648) ≤ x133.toInt) (h135 : x133.toInt ≤ 2147483647) => ?_)
            refine z_xZ zt192 2 rfl rfl (fun (h136 : 0 ≤ x133.toInt) => ?_) (fun (h136 : x133.toInt < 0) => ?_)
            · skip
              refine z_xP zt192 7 16 [some (.ref 19), some (.int 32)] [.int 0] rfl rfl ?_
              refine z_xrz zt192 8 rfl zzr192 (by decide) (by decide) ?_
              show z_ev (d + 972) 196 111 [some (.ref 19), some (.int x40), some (.int 0), none] [.int 0] M128 _
              refine z_xZ zt196 48 rfl rfl (fun (h137 : (0 : Int) ≠ 0) => absurd h137 (by omega)) (fun (h137 : (0 : Int) = 0) => ?_)
              refine z_xP zt196 49 115 [some (.ref 19), some (.int x40), some (.int 0), none] [.ref 19] rfl rfl ?_
              refine z_xcV (vs := [.ref 19]) (r := []) (L2 := [some (.ref 19)]) zt196 50 rfl zo196 zzcV12_163 (Or.inl rfl) rfl X129 f19 rfl rfl rfl (Nat.le_of_ble_eq_true rfl) zzm194 (Nat.le_of_ble_eq_true rfl) rfl ?_
              refine z_xP zt194 0 2 [some (.ref 19)] [.ref 19, .ref 19] rfl rfl ?_
              refine z_xgv zt194 1 rfl zo194 zzf12_136 X129 f19 (by decide) h132 ?_
              refine z_xZ zt194 2 rfl rfl (fun (h138 : 0 ≤ x133.toInt) => ?_) (fun (h138 : x133.toInt < 0) => absurd h138 (by omega))
              refine z_xP zt194 6 16 [some (.ref 19)] [.ref 19, .ref 19] rfl rfl ?_
              refine z_xgv zt194 7 rfl zo194 zzf12_136 X129 f19 (by decide) h132 ?_
              refine z_xpf zt194 8 rfl zo194 zzf12_136 X129 f19 (by decide) (by decide) ⟨Int32.le_toInt _, Int32.toInt_le _⟩ rfl (by decide) zw12_26 (fun M139 X140 e141 h142 => ?_)
              refine z_xP zt194 9 23 [some (.ref 19)] [.int 0] rfl rfl ?_
              refine z_xrz zt194 10 rfl zzr194 (by decide) (by decide) ?_
              show z_ev (d + 972) 196 118 [some (.ref 19), some (.int x40), some (.int 0), none] [.int 0] M139 _
              refine z_xP zt196 51 119 [some (.ref 19), some (.int x40), some (.int 0), some (.int 0)] [] rfl rfl ?_
              have h143 := (e141.f f19 (by decide) h131)
              exact z_xrv zt196 52 rfl zzr196 (kk M139 X140 (z_OT.ke (z_OT.ke z_OT.refl X.1 e130 rfl) X.1 e141 rfl) x126 h143 ⟨by omega, by omega⟩ (by omega))
            refine z_xP zt192 3 8 [some (.ref 19), some (.int 32)] [.ref 19] rfl rfl ?_
            refine z_xcV (vs := [.ref 19]) (r := []) (L2 := [some (.ref 19)]) zt192 4 rfl zo192 zzcV12_139 (Or.inl rfl) rfl X129 f19 rfl rfl rfl (Nat.le_of_ble_eq_true rfl) zzm193 (Nat.le_of_ble_eq_true rfl) rfl ?_
            refine z_xP zt193 0 1 [some (.ref 19)] [.ref 19] rfl rfl ?_
            refine z_xgv zt193 1 rfl zo193 zzf12_123 X129 f19 (by decide) h131 ?_
            refine z_xP zt193 2 5 [some (.ref 19)] [.ref 19, .int x126] rfl rfl ?_
            have h144 := (e130.f f19 (by decide) h1)
            refine z_xgv zt193 3 rfl zo193 zzf12_126 X129 f19 (by decide) h144 ?_
            refine z_xJ zt193 4 rfl rfl (fun (h145 : x2.toInt ≤ x126.toInt) => ?_) (fun (h145 : x126.toInt < x2.toInt) => ?_)
            · skip
              refine z_xP zt193 24 52 [some (.ref 19)] [.int 0] rfl rfl ?_
              refine z_xri zt193 25 rfl zzr193 ?_
              show z_ev (d + 971) 192 11 [some (.ref 19), some (.int 32)] [.int 0] M128 _
              refine z_xP zt192 5 12 [some (.ref 19), some (.int 32)] [.int 32, .int 0] rfl rfl ?_
              refine z_xJ zt192 6 rfl rfl (fun (h146 : (0 : Int) = 32) => absurd h146 (by omega)) (fun (h146 : (0 : Int) ≠ 32) => ?_)
              refine z_xP zt192 7 16 [some (.ref 19), some (.int 32)] [.int 0] rfl rfl ?_
              refine z_xrz zt192 8 rfl zzr192 (by decide) (by decide) ?_
              show z_ev (d + 972) 196 111 [some (.ref 19), some (.int x40), some (.int 0), none] [.int 0] M128 _
              refine z_xZ zt196 48 rfl rfl (fun (h147 : (0 : Int) ≠ 0) => absurd h147 (by omega)) (fun (h147 : (0 : Int) = 0) => ?_)
              refine z_xP zt196 49 115 [some (.ref 19), some (.int x40), some (.int 0), none] [.ref 19] rfl rfl ?_
              refine z_xcV (vs := [.ref 19]) (r := []) (L2 := [some (.ref 19)]) zt196 50 rfl zo196 zzcV12_163 (Or.inl rfl) rfl X129 f19 rfl rfl rfl (Nat.le_of_ble_eq_true rfl) zzm194 (Nat.le_of_ble_eq_true rfl) rfl ?_
              refine z_xP zt194 0 2 [some (.ref 19)] [.ref 19, .ref 19] rfl rfl ?_
              refine z_xgv zt194 1 rfl zo194 zzf12_136 X129 f19 (by decide) h132 ?_
              refine z_xZ zt194 2 rfl rfl (fun (h148 : 0 ≤ x133.toInt) => absurd h148 (by omega)) (fun (h148 : x133.toInt < 0) => ?_)
              refine z_xP zt194 3 9 [some (.ref 19)] [.ref 19, .ref 19] rfl rfl ?_
              refine z_xgv zt194 4 rfl zo194 zzf12_123 X129 f19 (by decide) h131 ?_
              refine z_xP zt194 5 19 [some (.ref 19)] [.int x126, .ref 19] rfl rfl ?_
              refine z_xpf zt194 8 rfl zo194 zzf12_136 X129 f19 (by decide) (by decide) ⟨Int32.le_toInt _, Int32.toInt_le _⟩ rfl (by decide) zw12_26 (fun M149 X150 e151 h152 => ?_)
              refine z_xP zt194 9 23 [some (.ref 19)] [.int 0] rfl rfl ?_
              refine z_xrz zt194 10 rfl zzr194 (by decide) (by decide) ?_
              show z_ev (d + 972) 196 118 [some (.ref 19), some (.int x40), some (.int 0), none] [.int 0] M149 _
              refine z_xP zt196 51 119 [some (.ref 19), some (.int x40), some (.int 0), some (.int 0)] [] rfl rfl ?_
              have h153 := (e151.f f19 (by decide) h131)
              exact z_xrv zt196 52 rfl zzr196 (kk M149 X150 (z_OT.ke (z_OT.ke z_OT.refl X.1 e130 rfl) X.1 e151 rfl) x126 h153 ⟨by omega, by omega⟩ (by omega))
            refine z_xP zt193 5 12 [some (.ref 19)] [.ref 19] rfl rfl ?_
            have h154 := (e130.f f19 (by decide) h27)
            refine z_xgv zt193 6 rfl zo193 zzf12_129 X129 f19 (by decide) h154 ?_
            refine z_xZ zt193 7 rfl rfl (fun (h155 : x28.toInt = 0) => ?_) (fun (h155 : x28.toInt ≠ 0) => absurd h155 (by omega))
            refine z_xP zt193 14 31 [some (.ref 19)] [.ref 19] rfl rfl ?_
            refine z_xgX (b := 21) zt193 15 rfl zo193 zzf12_13 X129 f19 (by decide) (by decide) rfl ?_
            refine z_xP zt193 16 38 [some (.ref 19)] [.ref 19, .int 160, .ref 21] rfl rfl ?_
            have h156 := (e130.f f19 (by decide) h32)
            refine z_xgv zt193 17 rfl zo193 zzf12_133 X129 f19 (by decide) h156 ?_
            refine z_xI zt193 18 rfl rfl (fun (x157 : Int32) (h158 : x157.toInt = 160 * x33.toInt) => ?_) (z_pMul rfl rfl (by omega) (by omega))
            refine z_xP zt193 19 43 [some (.ref 19)] [.ref 19, .int x157, .ref 21] rfl rfl ?_
            refine z_xgv zt193 20 rfl zo193 zzf12_123 X129 f19 (by decide) h131 ?_
            refine z_xI zt193 21 rfl rfl (fun (x159 : Int32) (h160 : x159.toInt = x157.toInt + x126.toInt) => ?_) (z_pAdd rfl rfl (by omega) (by omega))
            refine z_xil zt193 22 rfl X129 f21 (by decide) (by omega) (by omega) (fun (x161 : Int32) h162 (h163 : (-2147483648) ≤ x161.toInt) (h164 : x161.toInt ≤ 2147483647) => ?_)
            refine z_xP zt193 23 52 [some (.ref 19)] [.int x161] rfl rfl ?_
            refine z_xri zt193 25 rfl zzr193 ?_
            show z_ev (d + 971) 192 11 [some (.ref 19), some (.int 32)] [.int x161] M128 _
            refine z_xP zt192 5 12 [some (.ref 19), some (.int 32)] [.int 32, .int x161] rfl rfl ?_
            refine z_xJ zt192 6 rfl rfl (fun (h165 : x161.toInt = 32) => ?_) (fun (h165 : x161.toInt ≠ 32) => ?_)
            · skip
              refine z_xP zt192 9 19 [some (.ref 19), some (.int 32)] [.ref 19, .ref 19] rfl rfl ?_
              refine z_xgv zt192 10 rfl zo192 zzf12_123 X129 f19 (by decide) h131 ?_
              refine z_xP zt192 11 23 [some (.ref 19), some (.int 32)] [.int 1, .int x126, .ref 19] rfl rfl ?_
              refine z_xI zt192 12 rfl rfl (fun (x166 : Int32) (h167 : x166.toInt = x126.toInt + 1) => ?_) (z_pAdd rfl rfl (by omega) (by omega))
              refine z_xpf zt192 13 rfl zo192 zzf12_123 X129 f19 (by decide) (by decide) ⟨by omega, by omega⟩ rfl (by decide) zw12_24 (fun M168 X169 e170 h171 => ?_)
              refine z_xP zt192 14 28 [some (.ref 19), some (.int 32)] [.int 1] rfl rfl ?_
              refine z_xrz zt192 15 rfl zzr192 (by decide) (by decide) ?_
              show z_ev (d + 972) 196 111 [some (.ref 19), some (.int x40), some (.int 0), none] [.int 1] M168 _
              refine z_xZ zt196 48 rfl rfl (fun (h172 : (1 : Int) ≠ 0) => ?_) (fun (h172 : (1 : Int) = 0) => absurd h172 (by omega))
              refine z_xP zt196 53 123 [some (.ref 19), some (.int x40), some (.int 0), none] [.int 112, .int x40] rfl rfl ?_
              refine z_xJ zt196 54 rfl rfl (fun (h173 : x40.toInt ≠ 112) => ?_) (fun (h173 : x40.toInt = 112) => absurd h173 (by omega))
              refine z_xP zt196 63 145 [some (.ref 19), some (.int x40), some (.int 0), none] [.int 101, .int x40] rfl rfl ?_
              refine z_xJ zt196 64 rfl rfl (fun (h174 : x40.toInt ≠ 101) => absurd h174 (by omega)) (fun (h174 : x40.toInt = 101) => ?_)
              refine z_xP zt196 65 149 [some (.ref 19), some (.int x40), some (.int 0), none] [.ref 19] rfl rfl ?_
              refine z_xgX (b := 28) zt196 66 rfl zo196 zzf12_34 X169 f19 (by decide) (by decide) rfl ?_
              refine z_xP zt196 67 153 [some (.ref 19), some (.int x40), some (.int 0), none] [.ref 19, .ref 28] rfl rfl ?_
              have h175 := (e170.f f19 (by decide) h156)
              refine z_xgv zt196 68 rfl zo196 zzf12_133 X169 f19 (by decide) h175 ?_
              refine z_xP zt196 69 157 [some (.ref 19), some (.int x40), some (.int 0), none] [.ref 19, .int x33, .ref 28] rfl rfl ?_
              refine z_xcV (vs := [.ref 19]) (r := [.int x33, .ref 28]) (L2 := [some (.ref 19), none, none, none, none]) zt196 70 rfl zo196 zzcV12_190 (Or.inl rfl) rfl X169 f19 rfl rfl rfl (Nat.le_of_ble_eq_true rfl) zzm197 (Nat.le_of_ble_eq_true rfl) rfl ?_
              refine zC197 X169.1 h171 ⟨by omega, by omega⟩ (z_GL.go hL X169 (by decide)) (fun x182 M176 X177 h183 h184 z178 h179 h180 h181 => ?_)
              have X185 := X169.go X177 (z_sb (by decide))
              show z_ev (d + 972) 196 160 [some (.ref 19), some (.int x40), some (.int 0), none] [.int x182, .int x33, .ref 28] M176 _
              have f28 : T[28]? = some (.inr (28, 0, 8, (-2147483648), 2147483647)) := X185.1.k rfl (by decide)
              refine z_xis zt196 71 rfl X185 f28 (by decide) (by decide) (by omega) (by omega) (Int32.le_toInt _) (Int32.toInt_le _) (by decide) (fun M187 X188 e189 h190 => ?_)
              have h193 := (e189.f f19 (by decide) (X177.2.f f19 (by decide) h175))
              have q192 := (z_OTA h193 ((e189.1 19 12 0 0 0 0 22 f19 (by decide)).trans ((X177.2.1 19 12 0 0 0 0 22 f19 (by decide)).trans ((e170.1 19 12 0 0 0 0 22 f19 (by decide)).trans (e130.1 19 12 0 0 0 0 22 f19 (by decide))))).symm)
              have o191 := z_OT.st (A := (z_Fv M0 19 22).toInt) (z_OT.ke (z_OT.ke (z_OT.ke z_OT.refl X.1 e130 rfl) X.1 e170 rfl) X.1 X177.2 rfl) X.1 e189 h190 (r := 28) (by decide) (fun _ => by omega) (fun h => absurd h (by decide))
              refine z_xP zt196 72 208 [some (.ref 19), some (.int x40), some (.int 0), none] [] rfl rfl ?_
              have h194 := (e189.f f19 (by decide) h179)
              exact z_xrv zt196 99 rfl zzr196 (kk M187 X188 o191 z178 h194 ⟨by omega, by omega⟩ (by omega))
            refine z_xP zt192 7 16 [some (.ref 19), some (.int 32)] [.int 0] rfl rfl ?_
            refine z_xrz zt192 8 rfl zzr192 (by decide) (by decide) ?_
            show z_ev (d + 972) 196 111 [some (.ref 19), some (.int x40), some (.int 0), none] [.int 0] M128 _
            refine z_xZ zt196 48 rfl rfl (fun (h195 : (0 : Int) ≠ 0) => absurd h195 (by omega)) (fun (h195 : (0 : Int) = 0) => ?_)
            refine z_xP zt196 49 115 [some (.ref 19), some (.int x40), some (.int 0), none] [.ref 19] rfl rfl ?_
            refine z_xcV (vs := [.ref 19]) (r := []) (L2 := [some (.ref 19)]) zt196 50 rfl zo196 zzcV12_163 (Or.inl rfl) rfl X129 f19 rfl rfl rfl (Nat.le_of_ble_eq_true rfl) zzm194 (Nat.le_of_ble_eq_true rfl) rfl ?_
            refine z_xP zt194 0 2 [some (.ref 19)] [.ref 19, .ref 19] rfl rfl ?_
            refine z_xgv zt194 1 rfl zo194 zzf12_136 X129 f19 (by decide) h132 ?_
            refine z_xZ zt194 2 rfl rfl (fun (h196 : 0 ≤ x133.toInt) => absurd h196 (by omega)) (fun (h196 : x133.toInt < 0) => ?_)
            refine z_xP zt194 3 9 [some (.ref 19)] [.ref 19, .ref 19] rfl rfl ?_
            refine z_xgv zt194 4 rfl zo194 zzf12_123 X129 f19 (by decide) h131 ?_
            refine z_xP zt194 5 19 [some (.ref 19)] [.int x126, .ref 19] rfl rfl ?_
            refine z_xpf zt194 8 rfl zo194 zzf12_136 X129 f19 (by decide) (by decide) ⟨Int32.le_toInt _, Int32.toInt_le _⟩ rfl (by decide) zw12_26 (fun M197 X198 e199 h200 => ?_)
            refine z_xP zt194 9 23 [some (.ref 19)] [.int 0] rfl rfl ?_
            refine z_xrz zt194 10 rfl zzr194 (by decide) (by decide) ?_
            show z_ev (d + 972) 196 118 [some (.ref 19), some (.int x40), some (.int 0), none] [.int 0] M197 _
            refine z_xP zt196 51 119 [some (.ref 19), some (.int x40), some (.int 0), some (.int 0)] [] rfl rfl ?_
            have h201 := (e199.f f19 (by decide) h131)
            exact z_xrv zt196 52 rfl zzr196 (kk M197 X198 (z_OT.ke (z_OT.ke z_OT.refl X.1 e130 rfl) X.1 e199 rfl) x126 h201 ⟨by omega, by omega⟩ (by omega))
          refine z_xP zt196 33 82 [some (.ref 19), some (.int x40), some (.int 0), none] [.int 116, .int x40] rfl rfl ?_
          refine z_xJ zt196 34 rfl rfl (fun (h202 : x40.toInt ≠ 116) => ?_) (fun (h202 : x40.toInt = 116) => ?_)
          · skip
            refine z_xP zt196 37 90 [some (.ref 19), some (.int x40), some (.int 0), none] [.ref 19] rfl rfl ?_
            refine z_xcV (vs := [.ref 19]) (r := []) (L2 := [some (.ref 19)]) zt196 38 rfl zo196 zzcV12_163 (Or.inl rfl) rfl X f19 rfl rfl rfl (Nat.le_of_ble_eq_true rfl) zzm194 (Nat.le_of_ble_eq_true rfl) rfl ?_
            refine z_xP zt194 0 2 [some (.ref 19)] [.ref 19, .ref 19] rfl rfl ?_
            refine z_xgI zt194 1 rfl zo194 zzf12_136 X f19 (by decide) (by decide) rfl (fun (x204 : Int32) h203 (h205 : (-2147483648) ≤ x204.toInt) (h206 : x204.toInt ≤ 2147483647) => ?_)
            refine z_xZ zt194 2 rfl rfl (fun (h207 : 0 ≤ x204.toInt) => ?_) (fun (h207 : x204.toInt < 0) => ?_)
            · skip
              refine z_xP zt194 6 16 [some (.ref 19)] [.ref 19, .ref 19] rfl rfl ?_
              refine z_xgv zt194 7 rfl zo194 zzf12_136 X f19 (by decide) h203 ?_
              refine z_xpf zt194 8 rfl zo194 zzf12_136 X f19 (by decide) (by decide) ⟨Int32.le_toInt _, Int32.toInt_le _⟩ rfl (by decide) zw12_26 (fun M208 X209 e210 h211 => ?_)
              refine z_xP zt194 9 23 [some (.ref 19)] [.int 0] rfl rfl ?_
              refine z_xrz zt194 10 rfl zzr194 (by decide) (by decide) ?_
              show z_ev (d + 972) 196 93 [some (.ref 19), some (.int x40), some (.int 0), none] [.int 0] M208 _
              refine z_xP zt196 39 94 [some (.ref 19), some (.int x40), some (.int 0), some (.int 0)] [] rfl rfl ?_
              have h212 := (e210.f f19 (by decide) hz0)
              exact z_xrv zt196 40 rfl zzr196 (kk M208 X209 (z_OT.ke z_OT.refl X.1 e210 rfl) zp0 h212 ⟨by omega, by omega⟩ (by omega))
            refine z_xP zt194 3 9 [some (.ref 19)] [.ref 19, .ref 19] rfl rfl ?_
            refine z_xgv zt194 4 rfl zo194 zzf12_123 X f19 (by decide) hz0 ?_
            refine z_xP zt194 5 19 [some (.ref 19)] [.int zp0, .ref 19] rfl rfl ?_
            refine z_xpf zt194 8 rfl zo194 zzf12_136 X f19 (by decide) (by decide) ⟨Int32.le_toInt _, Int32.toInt_le _⟩ rfl (by decide) zw12_26 (fun M213 X214 e215 h216 => ?_)
            refine z_xP zt194 9 23 [some (.ref 19)] [.int 0] rfl rfl ?_
            refine z_xrz zt194 10 rfl zzr194 (by decide) (by decide) ?_
            show z_ev (d + 972) 196 93 [some (.ref 19), some (.int x40), some (.int 0), none] [.int 0] M213 _
            refine z_xP zt196 39 94 [some (.ref 19), some (.int x40), some (.int 0), some (.int 0)] [] rfl rfl ?_
            have h217 := (e215.f f19 (by decide) hz0)
            exact z_xrv zt196 40 rfl zzr196 (kk M213 X214 (z_OT.ke z_OT.refl X.1 e215 rfl) zp0 h217 ⟨by omega, by omega⟩ (by omega))
          refine z_xP zt196 35 86 [some (.ref 19), some (.int x40), some (.int 0), none] [.int 0] rfl rfl ?_
          refine z_xZ zt196 36 rfl rfl (fun (h218 : (0 : Int) = 0) => ?_) (fun (h218 : (0 : Int) ≠ 0) => absurd h218 (by omega))
          refine z_xP zt196 41 97 [some (.ref 19), some (.int x40), some (.int 0), none] [.ref 19, .ref 19] rfl rfl ?_
          refine z_xgv zt196 42 rfl zo196 zzf12_123 X f19 (by decide) hz0 ?_
          refine z_xP zt196 43 101 [some (.ref 19), some (.int x40), some (.int 0), none] [.int 1, .int zp0, .ref 19] rfl rfl ?_
          refine z_xI zt196 44 rfl rfl (fun (x219 : Int32) (h220 : x219.toInt = zp0.toInt + 1) => ?_) (z_pAdd rfl rfl (by omega) (by omega))
          refine z_xpf zt196 45 rfl zo196 zzf12_123 X f19 (by decide) (by decide) ⟨by omega, by omega⟩ rfl (by decide) zw12_24 (fun M221 X222 e223 h224 => ?_)
          refine z_xP zt196 46 108 [some (.ref 19), some (.int x40), some (.int 0), none] [.int 32, .ref 19] rfl rfl ?_
          refine z_xcV (vs := [.ref 19, .int 32]) (r := []) (L2 := [some (.ref 19), some (.int 32)]) zt196 47 rfl zo196 zzcV12_147 (Or.inl rfl) rfl X222 f19 rfl rfl rfl (Nat.le_of_ble_eq_true rfl) zzm192 (Nat.le_of_ble_eq_true rfl) rfl ?_
          refine z_xP zt192 0 1 [some (.ref 19), some (.int 32)] [.ref 19] rfl rfl ?_
          refine z_xgI zt192 1 rfl zo192 zzf12_136 X222 f19 (by decide) (by decide) rfl (fun (x226 : Int32) h225 (h227 : (-2147483648) ≤ x226.toInt) (h228 : x226.toInt ≤ 2147483647) => ?_)
          refine z_xZ zt192 2 rfl rfl (fun (h229 : 0 ≤ x226.toInt) => ?_) (fun (h229 : x226.toInt < 0) => ?_)
          · skip
            refine z_xP zt192 7 16 [some (.ref 19), some (.int 32)] [.int 0] rfl rfl ?_
            refine z_xrz zt192 8 rfl zzr192 (by decide) (by decide) ?_
            show z_ev (d + 972) 196 111 [some (.ref 19), some (.int x40), some (.int 0), none] [.int 0] M221 _
            refine z_xZ zt196 48 rfl rfl (fun (h230 : (0 : Int) ≠ 0) => absurd h230 (by omega)) (fun (h230 : (0 : Int) = 0) => ?_)
            refine z_xP zt196 49 115 [some (.ref 19), some (.int x40), some (.int 0), none] [.ref 19] rfl rfl ?_
            refine z_xcV (vs := [.ref 19]) (r := []) (L2 := [some (.ref 19)]) zt196 50 rfl zo196 zzcV12_163 (Or.inl rfl) rfl X222 f19 rfl rfl rfl (Nat.le_of_ble_eq_true rfl) zzm194 (Nat.le_of_ble_eq_true rfl) rfl ?_
            refine z_xP zt194 0 2 [some (.ref 19)] [.ref 19, .ref 19] rfl rfl ?_
            refine z_xgv zt194 1 rfl zo194 zzf12_136 X222 f19 (by decide) h225 ?_
            refine z_xZ zt194 2 rfl rfl (fun (h231 : 0 ≤ x226.toInt) => ?_) (fun (h231 : x226.toInt < 0) => absurd h231 (by omega))
            refine z_xP zt194 6 16 [some (.ref 19)] [.ref 19, .ref 19] rfl rfl ?_
            refine z_xgv zt194 7 rfl zo194 zzf12_136 X222 f19 (by decide) h225 ?_
            refine z_xpf zt194 8 rfl zo194 zzf12_136 X222 f19 (by decide) (by decide) ⟨Int32.le_toInt _, Int32.toInt_le _⟩ rfl (by decide) zw12_26 (fun M232 X233 e234 h235 => ?_)
            refine z_xP zt194 9 23 [some (.ref 19)] [.int 0] rfl rfl ?_
            refine z_xrz zt194 10 rfl zzr194 (by decide) (by decide) ?_
            show z_ev (d + 972) 196 118 [some (.ref 19), some (.int x40), some (.int 0), none] [.int 0] M232 _
            refine z_xP zt196 51 119 [some (.ref 19), some (.int x40), some (.int 0), some (.int 0)] [] rfl rfl ?_
            have h236 := (e234.f f19 (by decide) h224)
            exact z_xrv zt196 52 rfl zzr196 (kk M232 X233 (z_OT.ke (z_OT.ke z_OT.refl X.1 e223 rfl) X.1 e234 rfl) x219 h236 ⟨by omega, by omega⟩ (by omega))
          refine z_xP zt192 3 8 [some (.ref 19), some (.int 32)] [.ref 19] rfl rfl ?_
          refine z_xcV (vs := [.ref 19]) (r := []) (L2 := [some (.ref 19)]) zt192 4 rfl zo192 zzcV12_139 (Or.inl rfl) rfl X222 f19 rfl rfl rfl (Nat.le_of_ble_eq_true rfl) zzm193 (Nat.le_of_ble_eq_true rfl) rfl ?_
          refine z_xP zt193 0 1 [some (.ref 19)] [.ref 19] rfl rfl ?_
          refine z_xgv zt193 1 rfl zo193 zzf12_123 X222 f19 (by decide) h224 ?_
          refine z_xP zt193 2 5 [some (.ref 19)] [.ref 19, .int x219] rfl rfl ?_
          have h237 := (e223.f f19 (by decide) h1)
          refine z_xgv zt193 3 rfl zo193 zzf12_126 X222 f19 (by decide) h237 ?_
          refine z_xJ zt193 4 rfl rfl (fun (h238 : x2.toInt ≤ x219.toInt) => ?_) (fun (h238 : x219.toInt < x2.toInt) => ?_)
          · skip
            refine z_xP zt193 24 52 [some (.ref 19)] [.int 0] rfl rfl ?_
            refine z_xri zt193 25 rfl zzr193 ?_
            show z_ev (d + 971) 192 11 [some (.ref 19), some (.int 32)] [.int 0] M221 _
            refine z_xP zt192 5 12 [some (.ref 19), some (.int 32)] [.int 32, .int 0] rfl rfl ?_
            refine z_xJ zt192 6 rfl rfl (fun (h239 : (0 : Int) = 32) => absurd h239 (by omega)) (fun (h239 : (0 : Int) ≠ 32) => ?_)
            refine z_xP zt192 7 16 [some (.ref 19), some (.int 32)] [.int 0] rfl rfl ?_
            refine z_xrz zt192 8 rfl zzr192 (by decide) (by decide) ?_
            show z_ev (d + 972) 196 111 [some (.ref 19), some (.int x40), some (.int 0), none] [.int 0] M221 _
            refine z_xZ zt196 48 rfl rfl (fun (h240 : (0 : Int) ≠ 0) => absurd h240 (by omega)) (fun (h240 : (0 : Int) = 0) => ?_)
            refine z_xP zt196 49 115 [some (.ref 19), some (.int x40), some (.int 0), none] [.ref 19] rfl rfl ?_
            refine z_xcV (vs := [.ref 19]) (r := []) (L2 := [some (.ref 19)]) zt196 50 rfl zo196 zzcV12_163 (Or.inl rfl) rfl X222 f19 rfl rfl rfl (Nat.le_of_ble_eq_true rfl) zzm194 (Nat.le_of_ble_eq_true rfl) rfl ?_
            refine z_xP zt194 0 2 [some (.ref 19)] [.ref 19, .ref 19] rfl rfl ?_
            refine z_xgv zt194 1 rfl zo194 zzf12_136 X222 f19 (by decide) h225 ?_
            refine z_xZ zt194 2 rfl rfl (fun (h241 : 0 ≤ x226.toInt) => absurd h241 (by omega)) (fun (h241 : x226.toInt < 0) => ?_)
            refine z_xP zt194 3 9 [some (.ref 19)] [.ref 19, .ref 19] rfl rfl ?_
            refine z_xgv zt194 4 rfl zo194 zzf12_123 X222 f19 (by decide) h224 ?_
            refine z_xP zt194 5 19 [some (.ref 19)] [.int x219, .ref 19] rfl rfl ?_
            refine z_xpf zt194 8 rfl zo194 zzf12_136 X222 f19 (by decide) (by decide) ⟨Int32.le_toInt _, Int32.toInt_le _⟩ rfl (by decide) zw12_26 (fun M242 X243 e244 h245 => ?_)
            refine z_xP zt194 9 23 [some (.ref 19)] [.int 0] rfl rfl ?_
            refine z_xrz zt194 10 rfl zzr194 (by decide) (by decide) ?_
            show z_ev (d + 972) 196 118 [some (.ref 19), some (.int x40), some (.int 0), none] [.int 0] M242 _
            refine z_xP zt196 51 119 [some (.ref 19), some (.int x40), some (.int 0), some (.int 0)] [] rfl rfl ?_
            have h246 := (e244.f f19 (by decide) h224)
            exact z_xrv zt196 52 rfl zzr196 (kk M242 X243 (z_OT.ke (z_OT.ke z_OT.refl X.1 e223 rfl) X.1 e244 rfl) x219 h246 ⟨by omega, by omega⟩ (by omega))
          refine z_xP zt193 5 12 [some (.ref 19)] [.ref 19] rfl rfl ?_
          have h247 := (e223.f f19 (by decide) h27)
          refine z_xgv zt193 6 rfl zo193 zzf12_129 X222 f19 (by decide) h247 ?_
          refine z_xZ zt193 7 rfl rfl (fun (h248 : x28.toInt = 0) => ?_) (fun (h248 : x28.toInt ≠ 0) => absurd h248 (by omega))
          refine z_xP zt193 14 31 [some (.ref 19)] [.ref 19] rfl rfl ?_
          refine z_xgX (b := 21) zt193 15 rfl zo193 zzf12_13 X222 f19 (by decide) (by decide) rfl ?_
          refine z_xP zt193 16 38 [some (.ref 19)] [.ref 19, .int 160, .ref 21] rfl rfl ?_
          have h249 := (e223.f f19 (by decide) h32)
          refine z_xgv zt193 17 rfl zo193 zzf12_133 X222 f19 (by decide) h249 ?_
          refine z_xI zt193 18 rfl rfl (fun (x250 : Int32) (h251 : x250.toInt = 160 * x33.toInt) => ?_) (z_pMul rfl rfl (by omega) (by omega))
          refine z_xP zt193 19 43 [some (.ref 19)] [.ref 19, .int x250, .ref 21] rfl rfl ?_
          refine z_xgv zt193 20 rfl zo193 zzf12_123 X222 f19 (by decide) h224 ?_
          refine z_xI zt193 21 rfl rfl (fun (x252 : Int32) (h253 : x252.toInt = x250.toInt + x219.toInt) => ?_) (z_pAdd rfl rfl (by omega) (by omega))
          refine z_xil zt193 22 rfl X222 f21 (by decide) (by omega) (by omega) (fun (x254 : Int32) h255 (h256 : (-2147483648) ≤ x254.toInt) (h257 : x254.toInt ≤ 2147483647) => ?_)
          refine z_xP zt193 23 52 [some (.ref 19)] [.int x254] rfl rfl ?_
          refine z_xri zt193 25 rfl zzr193 ?_
          show z_ev (d + 971) 192 11 [some (.ref 19), some (.int 32)] [.int x254] M221 _
          refine z_xP zt192 5 12 [some (.ref 19), some (.int 32)] [.int 32, .int x254] rfl rfl ?_
          refine z_xJ zt192 6 rfl rfl (fun (h258 : x254.toInt = 32) => ?_) (fun (h258 : x254.toInt ≠ 32) => ?_)
          · skip
            refine z_xP zt192 9 19 [some (.ref 19), some (.int 32)] [.ref 19, .ref 19] rfl rfl ?_
            refine z_xgv zt192 10 rfl zo192 zzf12_123 X222 f19 (by decide) h224 ?_
            refine z_xP zt192 11 23 [some (.ref 19), some (.int 32)] [.int 1, .int x219, .ref 19] rfl rfl ?_
            refine z_xI zt192 12 rfl rfl (fun (x259 : Int32) (h260 : x259.toInt = x219.toInt + 1) => ?_) (z_pAdd rfl rfl (by omega) (by omega))
            refine z_xpf zt192 13 rfl zo192 zzf12_123 X222 f19 (by decide) (by decide) ⟨by omega, by omega⟩ rfl (by decide) zw12_24 (fun M261 X262 e263 h264 => ?_)
            refine z_xP zt192 14 28 [some (.ref 19), some (.int 32)] [.int 1] rfl rfl ?_
            refine z_xrz zt192 15 rfl zzr192 (by decide) (by decide) ?_
            show z_ev (d + 972) 196 111 [some (.ref 19), some (.int x40), some (.int 0), none] [.int 1] M261 _
            refine z_xZ zt196 48 rfl rfl (fun (h265 : (1 : Int) ≠ 0) => ?_) (fun (h265 : (1 : Int) = 0) => absurd h265 (by omega))
            refine z_xP zt196 53 123 [some (.ref 19), some (.int x40), some (.int 0), none] [.int 112, .int x40] rfl rfl ?_
            refine z_xJ zt196 54 rfl rfl (fun (h266 : x40.toInt ≠ 112) => ?_) (fun (h266 : x40.toInt = 112) => absurd h266 (by omega))
            refine z_xP zt196 63 145 [some (.ref 19), some (.int x40), some (.int 0), none] [.int 101, .int x40] rfl rfl ?_
            refine z_xJ zt196 64 rfl rfl (fun (h267 : x40.toInt ≠ 101) => ?_) (fun (h267 : x40.toInt = 101) => absurd h267 (by omega))
            refine z_xP zt196 73 165 [some (.ref 19), some (.int x40), some (.int 0), none] [.ref 19] rfl rfl ?_
            refine z_xgX (b := 26) zt196 74 rfl zo196 zzf12_28 X262 f19 (by decide) (by decide) rfl ?_
            refine z_xP zt196 75 171 [some (.ref 19), some (.int x40), some (.int 0), none] [.ref 19, .int 8, .ref 26] rfl rfl ?_
            have h268 := (e263.f f19 (by decide) h249)
            refine z_xgv zt196 76 rfl zo196 zzf12_133 X262 f19 (by decide) h268 ?_
            refine z_xI zt196 77 rfl rfl (fun (x269 : Int32) (h270 : x269.toInt = 8 * x33.toInt) => ?_) (z_pMul rfl rfl (by omega) (by omega))
            refine z_xP zt196 78 176 [some (.ref 19), some (.int x40), some (.int 0), none] [.ref 19, .int x269, .ref 26] rfl rfl ?_
            refine z_xgX (b := 25) zt196 79 rfl zo196 zzf12_25 X262 f19 (by decide) (by decide) rfl ?_
            refine z_xP zt196 80 180 [some (.ref 19), some (.int x40), some (.int 0), none] [.ref 19, .ref 25, .int x269, .ref 26] rfl rfl ?_
            refine z_xgv zt196 81 rfl zo196 zzf12_133 X262 f19 (by decide) h268 ?_
            have f25 : T[25]? = some (.inr (25, 0, 8, 0, 8)) := X262.1.k rfl (by decide)
            refine z_xil zt196 82 rfl X262 f25 (by decide) (by omega) (by omega) (fun (x271 : Int32) h272 (h273 : 0 ≤ x271.toInt) (h274 : x271.toInt ≤ 8) => ?_)
            refine z_xI zt196 83 rfl rfl (fun (x275 : Int32) (h276 : x275.toInt = x269.toInt + x271.toInt) => ?_) (z_pAdd rfl rfl (by omega) (by omega))
            refine z_xP zt196 84 186 [some (.ref 19), some (.int x40), some (.int 0), none] [.ref 19, .int x275, .ref 26] rfl rfl ?_
            refine z_xgv zt196 85 rfl zo196 zzf12_123 X262 f19 (by decide) h264 ?_
            have f26 : T[26]? = some (.inr (26, 0, 64, 0, 160)) := X262.1.k rfl (by decide)
            refine z_xis zt196 86 rfl X262 f26 (by decide) (by decide) (by omega) (by omega) (by omega) (by omega) (by decide) (fun M277 X278 e279 h280 => ?_)
            refine z_xP zt196 87 191 [some (.ref 19), some (.int x40), some (.int 0), none] [.ref 19] rfl rfl ?_
            refine z_xgX (b := 25) zt196 88 rfl zo196 zzf12_25 X278 f19 (by decide) (by decide) rfl ?_
            refine z_xP zt196 89 195 [some (.ref 19), some (.int x40), some (.int 0), none] [.ref 19, .ref 25] rfl rfl ?_
            have h281 := (e279.f f19 (by decide) h268)
            refine z_xgv zt196 90 rfl zo196 zzf12_133 X278 f19 (by decide) h281 ?_
            refine z_xP zt196 91 199 [some (.ref 19), some (.int x40), some (.int 0), none] [.int x33, .ref 25, .int x33, .ref 25] rfl rfl ?_
            refine z_xil zt196 92 rfl X278 f25 (by decide) (by omega) (by omega) (fun (x282 : Int32) h283 (h284 : 0 ≤ x282.toInt) (h285 : x282.toInt ≤ 8) => ?_)
            have h286 := congrArg Int32.toInt (h283.symm.trans ((congrFun (e279.a f25 (by decide)) _).trans h272))
            refine z_xP zt196 93 201 [some (.ref 19), some (.int x40), some (.int 0), none] [.int 1, .int x282, .int x33, .ref 25] rfl rfl ?_
            refine z_xI zt196 94 rfl rfl (fun (x287 : Int32) (h288 : x287.toInt = x282.toInt + 1) => ?_) (z_pAdd rfl rfl (by omega) (by omega))
            refine z_xis zt196 95 rfl X278 f25 (by decide) (by decide) (by omega) (by omega) (by omega) (by omega) (by decide) (fun M289 X290 e291 h292 => ?_)
            have h295 := (e291.f f19 (by decide) h281)
            have q294 := (z_OTA h295 ((e291.1 19 12 0 0 0 0 22 f19 (by decide)).trans ((e279.1 19 12 0 0 0 0 22 f19 (by decide)).trans ((e263.1 19 12 0 0 0 0 22 f19 (by decide)).trans (e223.1 19 12 0 0 0 0 22 f19 (by decide))))).symm)
            have o293 := z_OT.st (A := (z_Fv M0 19 22).toInt) (z_OT.ke (z_OT.ke (z_OT.ke z_OT.refl X.1 e223 rfl) X.1 e263 rfl) X.1 e279 rfl) X.1 e291 h292 (r := 25) (by decide) (fun _ => by omega) (fun h => absurd h (by decide))
            refine z_xP zt196 96 204 [some (.ref 19), some (.int x40), some (.int 0), none] [.ref 19] rfl rfl ?_
            refine z_xcV (vs := [.ref 19]) (r := []) (L2 := [some (.ref 19), none, none]) zt196 97 rfl zo196 zzcV12_169 (Or.inl rfl) rfl X290 f19 rfl rfl rfl (Nat.le_of_ble_eq_true rfl) zzm198 (Nat.le_of_ble_eq_true rfl) rfl ?_
            have h296 := (e291.f f19 (by decide) (e279.f f19 (by decide) h264))
            refine zC198 X290.1 h296 ⟨by omega, by omega⟩ (z_GL.go hL X290 (by decide)) (fun x303 M297 X298 h304 h305 z299 h300 h301 h302 => ?_)
            have X306 := X290.go X298 (z_sb (by decide))
            show z_ev (d + 972) 196 207 [some (.ref 19), some (.int x40), some (.int 0), none] [.int x303] M297 _
            refine z_xP zt196 98 208 [some (.ref 19), some (.int x40), some (.int 0), some (.int x303)] [] rfl rfl ?_
            exact z_xrv zt196 99 rfl zzr196 (kk M297 X306 (z_OT.ke o293 X.1 X298.2 rfl) z299 h300 ⟨by omega, by omega⟩ (by omega))
          refine z_xP zt192 7 16 [some (.ref 19), some (.int 32)] [.int 0] rfl rfl ?_
          refine z_xrz zt192 8 rfl zzr192 (by decide) (by decide) ?_
          show z_ev (d + 972) 196 111 [some (.ref 19), some (.int x40), some (.int 0), none] [.int 0] M221 _
          refine z_xZ zt196 48 rfl rfl (fun (h308 : (0 : Int) ≠ 0) => absurd h308 (by omega)) (fun (h308 : (0 : Int) = 0) => ?_)
          refine z_xP zt196 49 115 [some (.ref 19), some (.int x40), some (.int 0), none] [.ref 19] rfl rfl ?_
          refine z_xcV (vs := [.ref 19]) (r := []) (L2 := [some (.ref 19)]) zt196 50 rfl zo196 zzcV12_163 (Or.inl rfl) rfl X222 f19 rfl rfl rfl (Nat.le_of_ble_eq_true rfl) zzm194 (Nat.le_of_ble_eq_true rfl) rfl ?_
          refine z_xP zt194 0 2 [some (.ref 19)] [.ref 19, .ref 19] rfl rfl ?_
          refine z_xgv zt194 1 rfl zo194 zzf12_136 X222 f19 (by decide) h225 ?_
          refine z_xZ zt194 2 rfl rfl (fun (h309 : 0 ≤ x226.toInt) => absurd h309 (by omega)) (fun (h309 : x226.toInt < 0) => ?_)
          refine z_xP zt194 3 9 [some (.ref 19)] [.ref 19, .ref 19] rfl rfl ?_
          refine z_xgv zt194 4 rfl zo194 zzf12_123 X222 f19 (by decide) h224 ?_
          refine z_xP zt194 5 19 [some (.ref 19)] [.int x219, .ref 19] rfl rfl ?_
          refine z_xpf zt194 8 rfl zo194 zzf12_136 X222 f19 (by decide) (by decide) ⟨Int32.le_toInt _, Int32.toInt_le _⟩ rfl (by decide) zw12_26 (fun M310 X311 e312 h313 => ?_)
          refine z_xP zt194 9 23 [some (.ref 19)] [.int 0] rfl rfl ?_
          refine z_xrz zt194 10 rfl zzr194 (by decide) (by decide) ?_
          show z_ev (d + 972) 196 118 [some (.ref 19), some (.int x40), some (.int 0), none] [.int 0] M310 _
          refine z_xP zt196 51 119 [some (.ref 19), some (.int x40), some (.int 0), some (.int 0)] [] rfl rfl ?_
          have h314 := (e312.f f19 (by decide) h224)
          exact z_xrv zt196 52 rfl zzr196 (kk M310 X311 (z_OT.ke (z_OT.ke z_OT.refl X.1 e223 rfl) X.1 e312 rfl) x219 h314 ⟨by omega, by omega⟩ (by omega))
        refine z_xP zt196 20 48 [some (.ref 19), some (.int x40), none, none] [.ref 19] rfl rfl ?_
        refine z_xgX (b := 25) zt196 21 rfl zo196 zzf12_25 X f19 (by decide) (by decide) rfl ?_
        refine z_xP zt196 22 52 [some (.ref 19), some (.int x40), none, none] [.ref 19, .ref 25] rfl rfl ?_
        refine z_xgv zt196 23 rfl zo196 zzf12_133 X f19 (by decide) h32 ?_
        have f25 : T[25]? = some (.inr (25, 0, 8, 0, 8)) := X.1.k rfl (by decide)
        refine z_xil zt196 24 rfl X f25 (by decide) (by omega) (by omega) (fun (x315 : Int32) h316 (h317 : 0 ≤ x315.toInt) (h318 : x315.toInt ≤ 8) => ?_)
        refine z_xP zt196 25 58 [some (.ref 19), some (.int x40), none, none] [.int 8, .int x315] rfl rfl ?_
        refine z_xJ zt196 26 rfl rfl (fun (h319 : x315.toInt ≠ 8) => ?_) (fun (h319 : x315.toInt = 8) => ?_)
        · skip
          refine z_xP zt196 28 66 [some (.ref 19), some (.int x40), none, none] [.int 0] rfl rfl ?_
          refine z_xP zt196 29 70 [some (.ref 19), some (.int x40), some (.int 0), none] [.int 112, .int x40] rfl rfl ?_
          refine z_xJ zt196 30 rfl rfl (fun (h320 : x40.toInt = 112) => absurd h320 (by omega)) (fun (h320 : x40.toInt ≠ 112) => ?_)
          refine z_xP zt196 31 76 [some (.ref 19), some (.int x40), some (.int 0), none] [.int 101, .int x40] rfl rfl ?_
          refine z_xJ zt196 32 rfl rfl (fun (h321 : x40.toInt = 101) => absurd h321 (by omega)) (fun (h321 : x40.toInt ≠ 101) => ?_)
          refine z_xP zt196 33 82 [some (.ref 19), some (.int x40), some (.int 0), none] [.int 116, .int x40] rfl rfl ?_
          refine z_xJ zt196 34 rfl rfl (fun (h322 : x40.toInt ≠ 116) => absurd h322 (by omega)) (fun (h322 : x40.toInt = 116) => ?_)
          refine z_xP zt196 35 86 [some (.ref 19), some (.int x40), some (.int 0), none] [.int 0] rfl rfl ?_
          refine z_xZ zt196 36 rfl rfl (fun (h323 : (0 : Int) = 0) => ?_) (fun (h323 : (0 : Int) ≠ 0) => absurd h323 (by omega))
          refine z_xP zt196 41 97 [some (.ref 19), some (.int x40), some (.int 0), none] [.ref 19, .ref 19] rfl rfl ?_
          refine z_xgv zt196 42 rfl zo196 zzf12_123 X f19 (by decide) hz0 ?_
          refine z_xP zt196 43 101 [some (.ref 19), some (.int x40), some (.int 0), none] [.int 1, .int zp0, .ref 19] rfl rfl ?_
          refine z_xI zt196 44 rfl rfl (fun (x324 : Int32) (h325 : x324.toInt = zp0.toInt + 1) => ?_) (z_pAdd rfl rfl (by omega) (by omega))
          refine z_xpf zt196 45 rfl zo196 zzf12_123 X f19 (by decide) (by decide) ⟨by omega, by omega⟩ rfl (by decide) zw12_24 (fun M326 X327 e328 h329 => ?_)
          refine z_xP zt196 46 108 [some (.ref 19), some (.int x40), some (.int 0), none] [.int 32, .ref 19] rfl rfl ?_
          refine z_xcV (vs := [.ref 19, .int 32]) (r := []) (L2 := [some (.ref 19), some (.int 32)]) zt196 47 rfl zo196 zzcV12_147 (Or.inl rfl) rfl X327 f19 rfl rfl rfl (Nat.le_of_ble_eq_true rfl) zzm192 (Nat.le_of_ble_eq_true rfl) rfl ?_
          refine z_xP zt192 0 1 [some (.ref 19), some (.int 32)] [.ref 19] rfl rfl ?_
          refine z_xgI zt192 1 rfl zo192 zzf12_136 X327 f19 (by decide) (by decide) rfl (fun (x331 : Int32) h330 (h332 : (-2147483648) ≤ x331.toInt) (h333 : x331.toInt ≤ 2147483647) => ?_)
          refine z_xZ zt192 2 rfl rfl (fun (h334 : 0 ≤ x331.toInt) => ?_) (fun (h334 : x331.toInt < 0) => ?_)
          · skip
            refine z_xP zt192 7 16 [some (.ref 19), some (.int 32)] [.int 0] rfl rfl ?_
            refine z_xrz zt192 8 rfl zzr192 (by decide) (by decide) ?_
            show z_ev (d + 972) 196 111 [some (.ref 19), some (.int x40), some (.int 0), none] [.int 0] M326 _
            refine z_xZ zt196 48 rfl rfl (fun (h335 : (0 : Int) ≠ 0) => absurd h335 (by omega)) (fun (h335 : (0 : Int) = 0) => ?_)
            refine z_xP zt196 49 115 [some (.ref 19), some (.int x40), some (.int 0), none] [.ref 19] rfl rfl ?_
            refine z_xcV (vs := [.ref 19]) (r := []) (L2 := [some (.ref 19)]) zt196 50 rfl zo196 zzcV12_163 (Or.inl rfl) rfl X327 f19 rfl rfl rfl (Nat.le_of_ble_eq_true rfl) zzm194 (Nat.le_of_ble_eq_true rfl) rfl ?_
            refine z_xP zt194 0 2 [some (.ref 19)] [.ref 19, .ref 19] rfl rfl ?_
            refine z_xgv zt194 1 rfl zo194 zzf12_136 X327 f19 (by decide) h330 ?_
            refine z_xZ zt194 2 rfl rfl (fun (h336 : 0 ≤ x331.toInt) => ?_) (fun (h336 : x331.toInt < 0) => absurd h336 (by omega))
            refine z_xP zt194 6 16 [some (.ref 19)] [.ref 19, .ref 19] rfl rfl ?_
            refine z_xgv zt194 7 rfl zo194 zzf12_136 X327 f19 (by decide) h330 ?_
            refine z_xpf zt194 8 rfl zo194 zzf12_136 X327 f19 (by decide) (by decide) ⟨Int32.le_toInt _, Int32.toInt_le _⟩ rfl (by decide) zw12_26 (fun M337 X338 e339 h340 => ?_)
            refine z_xP zt194 9 23 [some (.ref 19)] [.int 0] rfl rfl ?_
            refine z_xrz zt194 10 rfl zzr194 (by decide) (by decide) ?_
            show z_ev (d + 972) 196 118 [some (.ref 19), some (.int x40), some (.int 0), none] [.int 0] M337 _
            refine z_xP zt196 51 119 [some (.ref 19), some (.int x40), some (.int 0), some (.int 0)] [] rfl rfl ?_
            have h341 := (e339.f f19 (by decide) h329)
            exact z_xrv zt196 52 rfl zzr196 (kk M337 X338 (z_OT.ke (z_OT.ke z_OT.refl X.1 e328 rfl) X.1 e339 rfl) x324 h341 ⟨by omega, by omega⟩ (by omega))
          refine z_xP zt192 3 8 [some (.ref 19), some (.int 32)] [.ref 19] rfl rfl ?_
          refine z_xcV (vs := [.ref 19]) (r := []) (L2 := [some (.ref 19)]) zt192 4 rfl zo192 zzcV12_139 (Or.inl rfl) rfl X327 f19 rfl rfl rfl (Nat.le_of_ble_eq_true rfl) zzm193 (Nat.le_of_ble_eq_true rfl) rfl ?_
          refine z_xP zt193 0 1 [some (.ref 19)] [.ref 19] rfl rfl ?_
          refine z_xgv zt193 1 rfl zo193 zzf12_123 X327 f19 (by decide) h329 ?_
          refine z_xP zt193 2 5 [some (.ref 19)] [.ref 19, .int x324] rfl rfl ?_
          have h342 := (e328.f f19 (by decide) h1)
          refine z_xgv zt193 3 rfl zo193 zzf12_126 X327 f19 (by decide) h342 ?_
          refine z_xJ zt193 4 rfl rfl (fun (h343 : x2.toInt ≤ x324.toInt) => ?_) (fun (h343 : x324.toInt < x2.toInt) => ?_)
          · skip
            refine z_xP zt193 24 52 [some (.ref 19)] [.int 0] rfl rfl ?_
            refine z_xri zt193 25 rfl zzr193 ?_
            show z_ev (d + 971) 192 11 [some (.ref 19), some (.int 32)] [.int 0] M326 _
            refine z_xP zt192 5 12 [some (.ref 19), some (.int 32)] [.int 32, .int 0] rfl rfl ?_
            refine z_xJ zt192 6 rfl rfl (fun (h344 : (0 : Int) = 32) => absurd h344 (by omega)) (fun (h344 : (0 : Int) ≠ 32) => ?_)
            refine z_xP zt192 7 16 [some (.ref 19), some (.int 32)] [.int 0] rfl rfl ?_
            refine z_xrz zt192 8 rfl zzr192 (by decide) (by decide) ?_
            show z_ev (d + 972) 196 111 [some (.ref 19), some (.int x40), some (.int 0), none] [.int 0] M326 _
            refine z_xZ zt196 48 rfl rfl (fun (h345 : (0 : Int) ≠ 0) => absurd h345 (by omega)) (fun (h345 : (0 : Int) = 0) => ?_)
            refine z_xP zt196 49 115 [some (.ref 19), some (.int x40), some (.int 0), none] [.ref 19] rfl rfl ?_
            refine z_xcV (vs := [.ref 19]) (r := []) (L2 := [some (.ref 19)]) zt196 50 rfl zo196 zzcV12_163 (Or.inl rfl) rfl X327 f19 rfl rfl rfl (Nat.le_of_ble_eq_true rfl) zzm194 (Nat.le_of_ble_eq_true rfl) rfl ?_
            refine z_xP zt194 0 2 [some (.ref 19)] [.ref 19, .ref 19] rfl rfl ?_
            refine z_xgv zt194 1 rfl zo194 zzf12_136 X327 f19 (by decide) h330 ?_
            refine z_xZ zt194 2 rfl rfl (fun (h346 : 0 ≤ x331.toInt) => absurd h346 (by omega)) (fun (h346 : x331.toInt < 0) => ?_)
            refine z_xP zt194 3 9 [some (.ref 19)] [.ref 19, .ref 19] rfl rfl ?_
            refine z_xgv zt194 4 rfl zo194 zzf12_123 X327 f19 (by decide) h329 ?_
            refine z_xP zt194 5 19 [some (.ref 19)] [.int x324, .ref 19] rfl rfl ?_
            refine z_xpf zt194 8 rfl zo194 zzf12_136 X327 f19 (by decide) (by decide) ⟨Int32.le_toInt _, Int32.toInt_le _⟩ rfl (by decide) zw12_26 (fun M347 X348 e349 h350 => ?_)
            refine z_xP zt194 9 23 [some (.ref 19)] [.int 0] rfl rfl ?_
            refine z_xrz zt194 10 rfl zzr194 (by decide) (by decide) ?_
            show z_ev (d + 972) 196 118 [some (.ref 19), some (.int x40), some (.int 0), none] [.int 0] M347 _
            refine z_xP zt196 51 119 [some (.ref 19), some (.int x40), some (.int 0), some (.int 0)] [] rfl rfl ?_
            have h351 := (e349.f f19 (by decide) h329)
            exact z_xrv zt196 52 rfl zzr196 (kk M347 X348 (z_OT.ke (z_OT.ke z_OT.refl X.1 e328 rfl) X.1 e349 rfl) x324 h351 ⟨by omega, by omega⟩ (by omega))
          refine z_xP zt193 5 12 [some (.ref 19)] [.ref 19] rfl rfl ?_
          have h352 := (e328.f f19 (by decide) h27)
          refine z_xgv zt193 6 rfl zo193 zzf12_129 X327 f19 (by decide) h352 ?_
          refine z_xZ zt193 7 rfl rfl (fun (h353 : x28.toInt = 0) => ?_) (fun (h353 : x28.toInt ≠ 0) => absurd h353 (by omega))
          refine z_xP zt193 14 31 [some (.ref 19)] [.ref 19] rfl rfl ?_
          refine z_xgX (b := 21) zt193 15 rfl zo193 zzf12_13 X327 f19 (by decide) (by decide) rfl ?_
          refine z_xP zt193 16 38 [some (.ref 19)] [.ref 19, .int 160, .ref 21] rfl rfl ?_
          have h354 := (e328.f f19 (by decide) h32)
          refine z_xgv zt193 17 rfl zo193 zzf12_133 X327 f19 (by decide) h354 ?_
          refine z_xI zt193 18 rfl rfl (fun (x355 : Int32) (h356 : x355.toInt = 160 * x33.toInt) => ?_) (z_pMul rfl rfl (by omega) (by omega))
          refine z_xP zt193 19 43 [some (.ref 19)] [.ref 19, .int x355, .ref 21] rfl rfl ?_
          refine z_xgv zt193 20 rfl zo193 zzf12_123 X327 f19 (by decide) h329 ?_
          refine z_xI zt193 21 rfl rfl (fun (x357 : Int32) (h358 : x357.toInt = x355.toInt + x324.toInt) => ?_) (z_pAdd rfl rfl (by omega) (by omega))
          refine z_xil zt193 22 rfl X327 f21 (by decide) (by omega) (by omega) (fun (x359 : Int32) h360 (h361 : (-2147483648) ≤ x359.toInt) (h362 : x359.toInt ≤ 2147483647) => ?_)
          refine z_xP zt193 23 52 [some (.ref 19)] [.int x359] rfl rfl ?_
          refine z_xri zt193 25 rfl zzr193 ?_
          show z_ev (d + 971) 192 11 [some (.ref 19), some (.int 32)] [.int x359] M326 _
          refine z_xP zt192 5 12 [some (.ref 19), some (.int 32)] [.int 32, .int x359] rfl rfl ?_
          refine z_xJ zt192 6 rfl rfl (fun (h363 : x359.toInt = 32) => ?_) (fun (h363 : x359.toInt ≠ 32) => ?_)
          · skip
            refine z_xP zt192 9 19 [some (.ref 19), some (.int 32)] [.ref 19, .ref 19] rfl rfl ?_
            refine z_xgv zt192 10 rfl zo192 zzf12_123 X327 f19 (by decide) h329 ?_
            refine z_xP zt192 11 23 [some (.ref 19), some (.int 32)] [.int 1, .int x324, .ref 19] rfl rfl ?_
            refine z_xI zt192 12 rfl rfl (fun (x364 : Int32) (h365 : x364.toInt = x324.toInt + 1) => ?_) (z_pAdd rfl rfl (by omega) (by omega))
            refine z_xpf zt192 13 rfl zo192 zzf12_123 X327 f19 (by decide) (by decide) ⟨by omega, by omega⟩ rfl (by decide) zw12_24 (fun M366 X367 e368 h369 => ?_)
            refine z_xP zt192 14 28 [some (.ref 19), some (.int 32)] [.int 1] rfl rfl ?_
            refine z_xrz zt192 15 rfl zzr192 (by decide) (by decide) ?_
            show z_ev (d + 972) 196 111 [some (.ref 19), some (.int x40), some (.int 0), none] [.int 1] M366 _
            refine z_xZ zt196 48 rfl rfl (fun (h370 : (1 : Int) ≠ 0) => ?_) (fun (h370 : (1 : Int) = 0) => absurd h370 (by omega))
            refine z_xP zt196 53 123 [some (.ref 19), some (.int x40), some (.int 0), none] [.int 112, .int x40] rfl rfl ?_
            refine z_xJ zt196 54 rfl rfl (fun (h371 : x40.toInt ≠ 112) => ?_) (fun (h371 : x40.toInt = 112) => absurd h371 (by omega))
            refine z_xP zt196 63 145 [some (.ref 19), some (.int x40), some (.int 0), none] [.int 101, .int x40] rfl rfl ?_
            refine z_xJ zt196 64 rfl rfl (fun (h372 : x40.toInt ≠ 101) => ?_) (fun (h372 : x40.toInt = 101) => absurd h372 (by omega))
            refine z_xP zt196 73 165 [some (.ref 19), some (.int x40), some (.int 0), none] [.ref 19] rfl rfl ?_
            refine z_xgX (b := 26) zt196 74 rfl zo196 zzf12_28 X367 f19 (by decide) (by decide) rfl ?_
            refine z_xP zt196 75 171 [some (.ref 19), some (.int x40), some (.int 0), none] [.ref 19, .int 8, .ref 26] rfl rfl ?_
            have h373 := (e368.f f19 (by decide) h354)
            refine z_xgv zt196 76 rfl zo196 zzf12_133 X367 f19 (by decide) h373 ?_
            refine z_xI zt196 77 rfl rfl (fun (x374 : Int32) (h375 : x374.toInt = 8 * x33.toInt) => ?_) (z_pMul rfl rfl (by omega) (by omega))
            refine z_xP zt196 78 176 [some (.ref 19), some (.int x40), some (.int 0), none] [.ref 19, .int x374, .ref 26] rfl rfl ?_
            refine z_xgX (b := 25) zt196 79 rfl zo196 zzf12_25 X367 f19 (by decide) (by decide) rfl ?_
            refine z_xP zt196 80 180 [some (.ref 19), some (.int x40), some (.int 0), none] [.ref 19, .ref 25, .int x374, .ref 26] rfl rfl ?_
            refine z_xgv zt196 81 rfl zo196 zzf12_133 X367 f19 (by decide) h373 ?_
            refine z_xil zt196 82 rfl X367 f25 (by decide) (by omega) (by omega) (fun (x376 : Int32) h377 (h378 : 0 ≤ x376.toInt) (h379 : x376.toInt ≤ 8) => ?_)
            have h380 := congrArg Int32.toInt (h377.symm.trans ((congrFun (e368.a f25 (by decide)) _).trans ((congrFun (e328.a f25 (by decide)) _).trans h316)))
            refine z_xI zt196 83 rfl rfl (fun (x381 : Int32) (h382 : x381.toInt = x374.toInt + x376.toInt) => ?_) (z_pAdd rfl rfl (by omega) (by omega))
            refine z_xP zt196 84 186 [some (.ref 19), some (.int x40), some (.int 0), none] [.ref 19, .int x381, .ref 26] rfl rfl ?_
            refine z_xgv zt196 85 rfl zo196 zzf12_123 X367 f19 (by decide) h369 ?_
            have f26 : T[26]? = some (.inr (26, 0, 64, 0, 160)) := X367.1.k rfl (by decide)
            refine z_xis zt196 86 rfl X367 f26 (by decide) (by decide) (by omega) (by omega) (by omega) (by omega) (by decide) (fun M383 X384 e385 h386 => ?_)
            refine z_xP zt196 87 191 [some (.ref 19), some (.int x40), some (.int 0), none] [.ref 19] rfl rfl ?_
            refine z_xgX (b := 25) zt196 88 rfl zo196 zzf12_25 X384 f19 (by decide) (by decide) rfl ?_
            refine z_xP zt196 89 195 [some (.ref 19), some (.int x40), some (.int 0), none] [.ref 19, .ref 25] rfl rfl ?_
            have h387 := (e385.f f19 (by decide) h373)
            refine z_xgv zt196 90 rfl zo196 zzf12_133 X384 f19 (by decide) h387 ?_
            refine z_xP zt196 91 199 [some (.ref 19), some (.int x40), some (.int 0), none] [.int x33, .ref 25, .int x33, .ref 25] rfl rfl ?_
            refine z_xil zt196 92 rfl X384 f25 (by decide) (by omega) (by omega) (fun (x388 : Int32) h389 (h390 : 0 ≤ x388.toInt) (h391 : x388.toInt ≤ 8) => ?_)
            have h392 := congrArg Int32.toInt (h389.symm.trans ((congrFun (e385.a f25 (by decide)) _).trans ((congrFun (e368.a f25 (by decide)) _).trans ((congrFun (e328.a f25 (by decide)) _).trans h316))))
            refine z_xP zt196 93 201 [some (.ref 19), some (.int x40), some (.int 0), none] [.int 1, .int x388, .int x33, .ref 25] rfl rfl ?_
            refine z_xI zt196 94 rfl rfl (fun (x393 : Int32) (h394 : x393.toInt = x388.toInt + 1) => ?_) (z_pAdd rfl rfl (by omega) (by omega))
            refine z_xis zt196 95 rfl X384 f25 (by decide) (by decide) (by omega) (by omega) (by omega) (by omega) (by decide) (fun M395 X396 e397 h398 => ?_)
            have h401 := (e397.f f19 (by decide) h387)
            have q400 := (z_OTA h401 ((e397.1 19 12 0 0 0 0 22 f19 (by decide)).trans ((e385.1 19 12 0 0 0 0 22 f19 (by decide)).trans ((e368.1 19 12 0 0 0 0 22 f19 (by decide)).trans (e328.1 19 12 0 0 0 0 22 f19 (by decide))))).symm)
            have o399 := z_OT.st (A := (z_Fv M0 19 22).toInt) (z_OT.ke (z_OT.ke (z_OT.ke z_OT.refl X.1 e328 rfl) X.1 e368 rfl) X.1 e385 rfl) X.1 e397 h398 (r := 25) (by decide) (fun _ => by omega) (fun h => absurd h (by decide))
            refine z_xP zt196 96 204 [some (.ref 19), some (.int x40), some (.int 0), none] [.ref 19] rfl rfl ?_
            refine z_xcV (vs := [.ref 19]) (r := []) (L2 := [some (.ref 19), none, none]) zt196 97 rfl zo196 zzcV12_169 (Or.inl rfl) rfl X396 f19 rfl rfl rfl (Nat.le_of_ble_eq_true rfl) zzm198 (Nat.le_of_ble_eq_true rfl) rfl ?_
            have h402 := (e397.f f19 (by decide) (e385.f f19 (by decide) h369))
            refine zC198 X396.1 h402 ⟨by omega, by omega⟩ (z_GL.go hL X396 (by decide)) (fun x409 M403 X404 h410 h411 z405 h406 h407 h408 => ?_)
            have X412 := X396.go X404 (z_sb (by decide))
            show z_ev (d + 972) 196 207 [some (.ref 19), some (.int x40), some (.int 0), none] [.int x409] M403 _
            refine z_xP zt196 98 208 [some (.ref 19), some (.int x40), some (.int 0), some (.int x409)] [] rfl rfl ?_
            exact z_xrv zt196 99 rfl zzr196 (kk M403 X412 (z_OT.ke o399 X.1 X404.2 rfl) z405 h406 ⟨by omega, by omega⟩ (by omega))
          refine z_xP zt192 7 16 [some (.ref 19), some (.int 32)] [.int 0] rfl rfl ?_
          refine z_xrz zt192 8 rfl zzr192 (by decide) (by decide) ?_
          show z_ev (d + 972) 196 111 [some (.ref 19), some (.int x40), some (.int 0), none] [.int 0] M326 _
          refine z_xZ zt196 48 rfl rfl (fun (h414 : (0 : Int) ≠ 0) => absurd h414 (by omega)) (fun (h414 : (0 : Int) = 0) => ?_)
          refine z_xP zt196 49 115 [some (.ref 19), some (.int x40), some (.int 0), none] [.ref 19] rfl rfl ?_
          refine z_xcV (vs := [.ref 19]) (r := []) (L2 := [some (.ref 19)]) zt196 50 rfl zo196 zzcV12_163 (Or.inl rfl) rfl X327 f19 rfl rfl rfl (Nat.le_of_ble_eq_true rfl) zzm194 (Nat.le_of_ble_eq_true rfl) rfl ?_
          refine z_xP zt194 0 2 [some (.ref 19)] [.ref 19, .ref 19] rfl rfl ?_
          refine z_xgv zt194 1 rfl zo194 zzf12_136 X327 f19 (by decide) h330 ?_
          refine z_xZ zt194 2 rfl rfl (fun (h415 : 0 ≤ x331.toInt) => absurd h415 (by omega)) (fun (h415 : x331.toInt < 0) => ?_)
          refine z_xP zt194 3 9 [some (.ref 19)] [.ref 19, .ref 19] rfl rfl ?_
          refine z_xgv zt194 4 rfl zo194 zzf12_123 X327 f19 (by decide) h329 ?_
          refine z_xP zt194 5 19 [some (.ref 19)] [.int x324, .ref 19] rfl rfl ?_
          refine z_xpf zt194 8 rfl zo194 zzf12_136 X327 f19 (by decide) (by decide) ⟨Int32.le_toInt _, Int32.toInt_le _⟩ rfl (by decide) zw12_26 (fun M416 X417 e418 h419 => ?_)
          refine z_xP zt194 9 23 [some (.ref 19)] [.int 0] rfl rfl ?_
          refine z_xrz zt194 10 rfl zzr194 (by decide) (by decide) ?_
          show z_ev (d + 972) 196 118 [some (.ref 19), some (.int x40), some (.int 0), none] [.int 0] M416 _
          refine z_xP zt196 51 119 [some (.ref 19), some (.int x40), some (.int 0), some (.int 0)] [] rfl rfl ?_
          have h420 := (e418.f f19 (by decide) h329)
          exact z_xrv zt196 52 rfl zzr196 (kk M416 X417 (z_OT.ke (z_OT.ke z_OT.refl X.1 e328 rfl) X.1 e418 rfl) x324 h420 ⟨by omega, by omega⟩ (by omega))
        refine z_xP zt196 27 66 [some (.ref 19), some (.int x40), none, none] [.int 1] rfl rfl ?_
        refine z_xP zt196 29 70 [some (.ref 19), some (.int x40), some (.int 1), none] [.int 112, .int x40] rfl rfl ?_
        refine z_xJ zt196 30 rfl rfl (fun (h421 : x40.toInt = 112) => absurd h421 (by omega)) (fun (h421 : x40.toInt ≠ 112) => ?_)
        refine z_xP zt196 31 76 [some (.ref 19), some (.int x40), some (.int 1), none] [.int 101, .int x40] rfl rfl ?_
        refine z_xJ zt196 32 rfl rfl (fun (h422 : x40.toInt = 101) => absurd h422 (by omega)) (fun (h422 : x40.toInt ≠ 101) => ?_)
        refine z_xP zt196 33 82 [some (.ref 19), some (.int x40), some (.int 1), none] [.int 116, .int x40] rfl rfl ?_
        refine z_xJ zt196 34 rfl rfl (fun (h423 : x40.toInt ≠ 116) => absurd h423 (by omega)) (fun (h423 : x40.toInt = 116) => ?_)
        refine z_xP zt196 35 86 [some (.ref 19), some (.int x40), some (.int 1), none] [.int 1] rfl rfl ?_
        refine z_xZ zt196 36 rfl rfl (fun (h424 : (1 : Int) = 0) => absurd h424 (by omega)) (fun (h424 : (1 : Int) ≠ 0) => ?_)
        refine z_xP zt196 37 90 [some (.ref 19), some (.int x40), some (.int 1), none] [.ref 19] rfl rfl ?_
        refine z_xcV (vs := [.ref 19]) (r := []) (L2 := [some (.ref 19)]) zt196 38 rfl zo196 zzcV12_163 (Or.inl rfl) rfl X f19 rfl rfl rfl (Nat.le_of_ble_eq_true rfl) zzm194 (Nat.le_of_ble_eq_true rfl) rfl ?_
        refine z_xP zt194 0 2 [some (.ref 19)] [.ref 19, .ref 19] rfl rfl ?_
        refine z_xgI zt194 1 rfl zo194 zzf12_136 X f19 (by decide) (by decide) rfl (fun (x426 : Int32) h425 (h427 : (-2147483648) ≤ x426.toInt) (h428 : x426.toInt ≤ 2147483647) => ?_)
        refine z_xZ zt194 2 rfl rfl (fun (h429 : 0 ≤ x426.toInt) => ?_) (fun (h429 : x426.toInt < 0) => ?_)
        · skip
          refine z_xP zt194 6 16 [some (.ref 19)] [.ref 19, .ref 19] rfl rfl ?_
          refine z_xgv zt194 7 rfl zo194 zzf12_136 X f19 (by decide) h425 ?_
          refine z_xpf zt194 8 rfl zo194 zzf12_136 X f19 (by decide) (by decide) ⟨Int32.le_toInt _, Int32.toInt_le _⟩ rfl (by decide) zw12_26 (fun M430 X431 e432 h433 => ?_)
          refine z_xP zt194 9 23 [some (.ref 19)] [.int 0] rfl rfl ?_
          refine z_xrz zt194 10 rfl zzr194 (by decide) (by decide) ?_
          show z_ev (d + 972) 196 93 [some (.ref 19), some (.int x40), some (.int 1), none] [.int 0] M430 _
          refine z_xP zt196 39 94 [some (.ref 19), some (.int x40), some (.int 1), some (.int 0)] [] rfl rfl ?_
          have h434 := (e432.f f19 (by decide) hz0)
          exact z_xrv zt196 40 rfl zzr196 (kk M430 X431 (z_OT.ke z_OT.refl X.1 e432 rfl) zp0 h434 ⟨by omega, by omega⟩ (by omega))
        refine z_xP zt194 3 9 [some (.ref 19)] [.ref 19, .ref 19] rfl rfl ?_
        refine z_xgv zt194 4 rfl zo194 zzf12_123 X f19 (by decide) hz0 ?_
        refine z_xP zt194 5 19 [some (.ref 19)] [.int zp0, .ref 19] rfl rfl ?_
        refine z_xpf zt194 8 rfl zo194 zzf12_136 X f19 (by decide) (by decide) ⟨Int32.le_toInt _, Int32.toInt_le _⟩ rfl (by decide) zw12_26 (fun M435 X436 e437 h438 => ?_)
        refine z_xP zt194 9 23 [some (.ref 19)] [.int 0] rfl rfl ?_
        refine z_xrz zt194 10 rfl zzr194 (by decide) (by decide) ?_
        show z_ev (d + 972) 196 93 [some (.ref 19), some (.int x40), some (.int 1), none] [.int 0] M435 _
        refine z_xP zt196 39 94 [some (.ref 19), some (.int x40), some (.int 1), some (.int 0)] [] rfl rfl ?_
        have h439 := (e437.f f19 (by decide) hz0)
        exact z_xrv zt196 40 rfl zzr196 (kk M435 X436 (z_OT.ke z_OT.refl X.1 e437 rfl) zp0 h439 ⟨by omega, by omega⟩ (by omega))
      refine z_xP zt196 12 30 [some (.ref 19), some (.int x40), none, none] [.ref 19] rfl rfl ?_
      refine z_xgX (b := 28) zt196 13 rfl zo196 zzf12_34 X f19 (by decide) (by decide) rfl ?_
      refine z_xP zt196 14 34 [some (.ref 19), some (.int x40), none, none] [.ref 19, .ref 28] rfl rfl ?_
      refine z_xgv zt196 15 rfl zo196 zzf12_133 X f19 (by decide) h32 ?_
      have f28 : T[28]? = some (.inr (28, 0, 8, (-2147483648), 2147483647)) := X.1.k rfl (by decide)
      refine z_xil zt196 16 rfl X f28 (by decide) (by omega) (by omega) (fun (x440 : Int32) h441 (h442 : (-2147483648) ≤ x440.toInt) (h443 : x440.toInt ≤ 2147483647) => ?_)
      refine z_xZ zt196 17 rfl rfl (fun (h444 : 0 < x440.toInt) => ?_) (fun (h444 : x440.toInt ≤ 0) => ?_)
      · skip
        refine z_xP zt196 27 66 [some (.ref 19), some (.int x40), none, none] [.int 1] rfl rfl ?_
        refine z_xP zt196 29 70 [some (.ref 19), some (.int x40), some (.int 1), none] [.int 112, .int x40] rfl rfl ?_
        refine z_xJ zt196 30 rfl rfl (fun (h445 : x40.toInt = 112) => absurd h445 (by omega)) (fun (h445 : x40.toInt ≠ 112) => ?_)
        refine z_xP zt196 31 76 [some (.ref 19), some (.int x40), some (.int 1), none] [.int 101, .int x40] rfl rfl ?_
        refine z_xJ zt196 32 rfl rfl (fun (h446 : x40.toInt = 101) => ?_) (fun (h446 : x40.toInt ≠ 101) => absurd h446 (by omega))
        refine z_xP zt196 35 86 [some (.ref 19), some (.int x40), some (.int 1), none] [.int 1] rfl rfl ?_
        refine z_xZ zt196 36 rfl rfl (fun (h447 : (1 : Int) = 0) => absurd h447 (by omega)) (fun (h447 : (1 : Int) ≠ 0) => ?_)
        refine z_xP zt196 37 90 [some (.ref 19), some (.int x40), some (.int 1), none] [.ref 19] rfl rfl ?_
        refine z_xcV (vs := [.ref 19]) (r := []) (L2 := [some (.ref 19)]) zt196 38 rfl zo196 zzcV12_163 (Or.inl rfl) rfl X f19 rfl rfl rfl (Nat.le_of_ble_eq_true rfl) zzm194 (Nat.le_of_ble_eq_true rfl) rfl ?_
        refine z_xP zt194 0 2 [some (.ref 19)] [.ref 19, .ref 19] rfl rfl ?_
        refine z_xgI zt194 1 rfl zo194 zzf12_136 X f19 (by decide) (by decide) rfl (fun (x449 : Int32) h448 (h450 : (-2147483648) ≤ x449.toInt) (h451 : x449.toInt ≤ 2147483647) => ?_)
        refine z_xZ zt194 2 rfl rfl (fun (h452 : 0 ≤ x449.toInt) => ?_) (fun (h452 : x449.toInt < 0) => ?_)
        · skip
          refine z_xP zt194 6 16 [some (.ref 19)] [.ref 19, .ref 19] rfl rfl ?_
          refine z_xgv zt194 7 rfl zo194 zzf12_136 X f19 (by decide) h448 ?_
          refine z_xpf zt194 8 rfl zo194 zzf12_136 X f19 (by decide) (by decide) ⟨Int32.le_toInt _, Int32.toInt_le _⟩ rfl (by decide) zw12_26 (fun M453 X454 e455 h456 => ?_)
          refine z_xP zt194 9 23 [some (.ref 19)] [.int 0] rfl rfl ?_
          refine z_xrz zt194 10 rfl zzr194 (by decide) (by decide) ?_
          show z_ev (d + 972) 196 93 [some (.ref 19), some (.int x40), some (.int 1), none] [.int 0] M453 _
          refine z_xP zt196 39 94 [some (.ref 19), some (.int x40), some (.int 1), some (.int 0)] [] rfl rfl ?_
          have h457 := (e455.f f19 (by decide) hz0)
          exact z_xrv zt196 40 rfl zzr196 (kk M453 X454 (z_OT.ke z_OT.refl X.1 e455 rfl) zp0 h457 ⟨by omega, by omega⟩ (by omega))
        refine z_xP zt194 3 9 [some (.ref 19)] [.ref 19, .ref 19] rfl rfl ?_
        refine z_xgv zt194 4 rfl zo194 zzf12_123 X f19 (by decide) hz0 ?_
        refine z_xP zt194 5 19 [some (.ref 19)] [.int zp0, .ref 19] rfl rfl ?_
        refine z_xpf zt194 8 rfl zo194 zzf12_136 X f19 (by decide) (by decide) ⟨Int32.le_toInt _, Int32.toInt_le _⟩ rfl (by decide) zw12_26 (fun M458 X459 e460 h461 => ?_)
        refine z_xP zt194 9 23 [some (.ref 19)] [.int 0] rfl rfl ?_
        refine z_xrz zt194 10 rfl zzr194 (by decide) (by decide) ?_
        show z_ev (d + 972) 196 93 [some (.ref 19), some (.int x40), some (.int 1), none] [.int 0] M458 _
        refine z_xP zt196 39 94 [some (.ref 19), some (.int x40), some (.int 1), some (.int 0)] [] rfl rfl ?_
        have h462 := (e460.f f19 (by decide) hz0)
        exact z_xrv zt196 40 rfl zzr196 (kk M458 X459 (z_OT.ke z_OT.refl X.1 e460 rfl) zp0 h462 ⟨by omega, by omega⟩ (by omega))
      refine z_xP zt196 18 44 [some (.ref 19), some (.int x40), none, none] [.int 116, .int x40] rfl rfl ?_
      refine z_xJ zt196 19 rfl rfl (fun (h463 : x40.toInt ≠ 116) => ?_) (fun (h463 : x40.toInt = 116) => absurd h463 (by omega))
      refine z_xP zt196 28 66 [some (.ref 19), some (.int x40), none, none] [.int 0] rfl rfl ?_
      refine z_xP zt196 29 70 [some (.ref 19), some (.int x40), some (.int 0), none] [.int 112, .int x40] rfl rfl ?_
      refine z_xJ zt196 30 rfl rfl (fun (h464 : x40.toInt = 112) => absurd h464 (by omega)) (fun (h464 : x40.toInt ≠ 112) => ?_)
      refine z_xP zt196 31 76 [some (.ref 19), some (.int x40), some (.int 0), none] [.int 101, .int x40] rfl rfl ?_
      refine z_xJ zt196 32 rfl rfl (fun (h465 : x40.toInt = 101) => ?_) (fun (h465 : x40.toInt ≠ 101) => absurd h465 (by omega))
      refine z_xP zt196 35 86 [some (.ref 19), some (.int x40), some (.int 0), none] [.int 0] rfl rfl ?_
      refine z_xZ zt196 36 rfl rfl (fun (h466 : (0 : Int) = 0) => ?_) (fun (h466 : (0 : Int) ≠ 0) => absurd h466 (by omega))
      refine z_xP zt196 41 97 [some (.ref 19), some (.int x40), some (.int 0), none] [.ref 19, .ref 19] rfl rfl ?_
      refine z_xgv zt196 42 rfl zo196 zzf12_123 X f19 (by decide) hz0 ?_
      refine z_xP zt196 43 101 [some (.ref 19), some (.int x40), some (.int 0), none] [.int 1, .int zp0, .ref 19] rfl rfl ?_
      refine z_xI zt196 44 rfl rfl (fun (x467 : Int32) (h468 : x467.toInt = zp0.toInt + 1) => ?_) (z_pAdd rfl rfl (by omega) (by omega))
      refine z_xpf zt196 45 rfl zo196 zzf12_123 X f19 (by decide) (by decide) ⟨by omega, by omega⟩ rfl (by decide) zw12_24 (fun M469 X470 e471 h472 => ?_)
      refine z_xP zt196 46 108 [some (.ref 19), some (.int x40), some (.int 0), none] [.int 32, .ref 19] rfl rfl ?_
      refine z_xcV (vs := [.ref 19, .int 32]) (r := []) (L2 := [some (.ref 19), some (.int 32)]) zt196 47 rfl zo196 zzcV12_147 (Or.inl rfl) rfl X470 f19 rfl rfl rfl (Nat.le_of_ble_eq_true rfl) zzm192 (Nat.le_of_ble_eq_true rfl) rfl ?_
      refine z_xP zt192 0 1 [some (.ref 19), some (.int 32)] [.ref 19] rfl rfl ?_
      refine z_xgI zt192 1 rfl zo192 zzf12_136 X470 f19 (by decide) (by decide) rfl (fun (x474 : Int32) h473 (h475 : (-2147483648) ≤ x474.toInt) (h476 : x474.toInt ≤ 2147483647) => ?_)
      refine z_xZ zt192 2 rfl rfl (fun (h477 : 0 ≤ x474.toInt) => ?_) (fun (h477 : x474.toInt < 0) => ?_)
      · skip
        refine z_xP zt192 7 16 [some (.ref 19), some (.int 32)] [.int 0] rfl rfl ?_
        refine z_xrz zt192 8 rfl zzr192 (by decide) (by decide) ?_
        show z_ev (d + 972) 196 111 [some (.ref 19), some (.int x40), some (.int 0), none] [.int 0] M469 _
        refine z_xZ zt196 48 rfl rfl (fun (h478 : (0 : Int) ≠ 0) => absurd h478 (by omega)) (fun (h478 : (0 : Int) = 0) => ?_)
        refine z_xP zt196 49 115 [some (.ref 19), some (.int x40), some (.int 0), none] [.ref 19] rfl rfl ?_
        refine z_xcV (vs := [.ref 19]) (r := []) (L2 := [some (.ref 19)]) zt196 50 rfl zo196 zzcV12_163 (Or.inl rfl) rfl X470 f19 rfl rfl rfl (Nat.le_of_ble_eq_true rfl) zzm194 (Nat.le_of_ble_eq_true rfl) rfl ?_
        refine z_xP zt194 0 2 [some (.ref 19)] [.ref 19, .ref 19] rfl rfl ?_
        refine z_xgv zt194 1 rfl zo194 zzf12_136 X470 f19 (by decide) h473 ?_
        refine z_xZ zt194 2 rfl rfl (fun (h479 : 0 ≤ x474.toInt) => ?_) (fun (h479 : x474.toInt < 0) => absurd h479 (by omega))
        refine z_xP zt194 6 16 [some (.ref 19)] [.ref 19, .ref 19] rfl rfl ?_
        refine z_xgv zt194 7 rfl zo194 zzf12_136 X470 f19 (by decide) h473 ?_
        refine z_xpf zt194 8 rfl zo194 zzf12_136 X470 f19 (by decide) (by decide) ⟨Int32.le_toInt _, Int32.toInt_le _⟩ rfl (by decide) zw12_26 (fun M480 X481 e482 h483 => ?_)
        refine z_xP zt194 9 23 [some (.ref 19)] [.int 0] rfl rfl ?_
        refine z_xrz zt194 10 rfl zzr194 (by decide) (by decide) ?_
        show z_ev (d + 972) 196 118 [some (.ref 19), some (.int x40), some (.int 0), none] [.int 0] M480 _
        refine z_xP zt196 51 119 [some (.ref 19), some (.int x40), some (.int 0), some (.int 0)] [] rfl rfl ?_
        have h484 := (e482.f f19 (by decide) h472)
        exact z_xrv zt196 52 rfl zzr196 (kk M480 X481 (z_OT.ke (z_OT.ke z_OT.refl X.1 e471 rfl) X.1 e482 rfl) x467 h484 ⟨by omega, by omega⟩ (by omega))
      refine z_xP zt192 3 8 [some (.ref 19), some (.int 32)] [.ref 19] rfl rfl ?_
      refine z_xcV (vs := [.ref 19]) (r := []) (L2 := [some (.ref 19)]) zt192 4 rfl zo192 zzcV12_139 (Or.inl rfl) rfl X470 f19 rfl rfl rfl (Nat.le_of_ble_eq_true rfl) zzm193 (Nat.le_of_ble_eq_true rfl) rfl ?_
      refine z_xP zt193 0 1 [some (.ref 19)] [.ref 19] rfl rfl ?_
      refine z_xgv zt193 1 rfl zo193 zzf12_123 X470 f19 (by decide) h472 ?_
      refine z_xP zt193 2 5 [some (.ref 19)] [.ref 19, .int x467] rfl rfl ?_
      have h485 := (e471.f f19 (by decide) h1)
      refine z_xgv zt193 3 rfl zo193 zzf12_126 X470 f19 (by decide) h485 ?_
      refine z_xJ zt193 4 rfl rfl (fun (h486 : x2.toInt ≤ x467.toInt) => ?_) (fun (h486 : x467.toInt < x2.toInt) => ?_)
      · skip
        refine z_xP zt193 24 52 [some (.ref 19)] [.int 0] rfl rfl ?_
        refine z_xri zt193 25 rfl zzr193 ?_
        show z_ev (d + 971) 192 11 [some (.ref 19), some (.int 32)] [.int 0] M469 _
        refine z_xP zt192 5 12 [some (.ref 19), some (.int 32)] [.int 32, .int 0] rfl rfl ?_
        refine z_xJ zt192 6 rfl rfl (fun (h487 : (0 : Int) = 32) => absurd h487 (by omega)) (fun (h487 : (0 : Int) ≠ 32) => ?_)
        refine z_xP zt192 7 16 [some (.ref 19), some (.int 32)] [.int 0] rfl rfl ?_
        refine z_xrz zt192 8 rfl zzr192 (by decide) (by decide) ?_
        show z_ev (d + 972) 196 111 [some (.ref 19), some (.int x40), some (.int 0), none] [.int 0] M469 _
        refine z_xZ zt196 48 rfl rfl (fun (h488 : (0 : Int) ≠ 0) => absurd h488 (by omega)) (fun (h488 : (0 : Int) = 0) => ?_)
        refine z_xP zt196 49 115 [some (.ref 19), some (.int x40), some (.int 0), none] [.ref 19] rfl rfl ?_
        refine z_xcV (vs := [.ref 19]) (r := []) (L2 := [some (.ref 19)]) zt196 50 rfl zo196 zzcV12_163 (Or.inl rfl) rfl X470 f19 rfl rfl rfl (Nat.le_of_ble_eq_true rfl) zzm194 (Nat.le_of_ble_eq_true rfl) rfl ?_
        refine z_xP zt194 0 2 [some (.ref 19)] [.ref 19, .ref 19] rfl rfl ?_
        refine z_xgv zt194 1 rfl zo194 zzf12_136 X470 f19 (by decide) h473 ?_
        refine z_xZ zt194 2 rfl rfl (fun (h489 : 0 ≤ x474.toInt) => absurd h489 (by omega)) (fun (h489 : x474.toInt < 0) => ?_)
        refine z_xP zt194 3 9 [some (.ref 19)] [.ref 19, .ref 19] rfl rfl ?_
        refine z_xgv zt194 4 rfl zo194 zzf12_123 X470 f19 (by decide) h472 ?_
        refine z_xP zt194 5 19 [some (.ref 19)] [.int x467, .ref 19] rfl rfl ?_
        refine z_xpf zt194 8 rfl zo194 zzf12_136 X470 f19 (by decide) (by decide) ⟨Int32.le_toInt _, Int32.toInt_le _⟩ rfl (by decide) zw12_26 (fun M490 X491 e492 h493 => ?_)
        refine z_xP zt194 9 23 [some (.ref 19)] [.int 0] rfl rfl ?_
        refine z_xrz zt194 10 rfl zzr194 (by decide) (by decide) ?_
        show z_ev (d + 972) 196 118 [some (.ref 19), some (.int x40), some (.int 0), none] [.int 0] M490 _
        refine z_xP zt196 51 119 [some (.ref 19), some (.int x40), some (.int 0), some (.int 0)] [] rfl rfl ?_
        have h494 := (e492.f f19 (by decide) h472)
        exact z_xrv zt196 52 rfl zzr196 (kk M490 X491 (z_OT.ke (z_OT.ke z_OT.refl X.1 e471 rfl) X.1 e492 rfl) x467 h494 ⟨by omega, by omega⟩ (by omega))
      refine z_xP zt193 5 12 [some (.ref 19)] [.ref 19] rfl rfl ?_
      have h495 := (e471.f f19 (by decide) h27)
      refine z_xgv zt193 6 rfl zo193 zzf12_129 X470 f19 (by decide) h495 ?_
      refine z_xZ zt193 7 rfl rfl (fun (h496 : x28.toInt = 0) => ?_) (fun (h496 : x28.toInt ≠ 0) => absurd h496 (by omega))
      refine z_xP zt193 14 31 [some (.ref 19)] [.ref 19] rfl rfl ?_
      refine z_xgX (b := 21) zt193 15 rfl zo193 zzf12_13 X470 f19 (by decide) (by decide) rfl ?_
      refine z_xP zt193 16 38 [some (.ref 19)] [.ref 19, .int 160, .ref 21] rfl rfl ?_
      have h497 := (e471.f f19 (by decide) h32)
      refine z_xgv zt193 17 rfl zo193 zzf12_133 X470 f19 (by decide) h497 ?_
      refine z_xI zt193 18 rfl rfl (fun (x498 : Int32) (h499 : x498.toInt = 160 * x33.toInt) => ?_) (z_pMul rfl rfl (by omega) (by omega))
      refine z_xP zt193 19 43 [some (.ref 19)] [.ref 19, .int x498, .ref 21] rfl rfl ?_
      refine z_xgv zt193 20 rfl zo193 zzf12_123 X470 f19 (by decide) h472 ?_
      refine z_xI zt193 21 rfl rfl (fun (x500 : Int32) (h501 : x500.toInt = x498.toInt + x467.toInt) => ?_) (z_pAdd rfl rfl (by omega) (by omega))
      refine z_xil zt193 22 rfl X470 f21 (by decide) (by omega) (by omega) (fun (x502 : Int32) h503 (h504 : (-2147483648) ≤ x502.toInt) (h505 : x502.toInt ≤ 2147483647) => ?_)
      refine z_xP zt193 23 52 [some (.ref 19)] [.int x502] rfl rfl ?_
      refine z_xri zt193 25 rfl zzr193 ?_
      show z_ev (d + 971) 192 11 [some (.ref 19), some (.int 32)] [.int x502] M469 _
      refine z_xP zt192 5 12 [some (.ref 19), some (.int 32)] [.int 32, .int x502] rfl rfl ?_
      refine z_xJ zt192 6 rfl rfl (fun (h506 : x502.toInt = 32) => ?_) (fun (h506 : x502.toInt ≠ 32) => ?_)
      · skip
        refine z_xP zt192 9 19 [some (.ref 19), some (.int 32)] [.ref 19, .ref 19] rfl rfl ?_
        refine z_xgv zt192 10 rfl zo192 zzf12_123 X470 f19 (by decide) h472 ?_
        refine z_xP zt192 11 23 [some (.ref 19), some (.int 32)] [.int 1, .int x467, .ref 19] rfl rfl ?_
        refine z_xI zt192 12 rfl rfl (fun (x507 : Int32) (h508 : x507.toInt = x467.toInt + 1) => ?_) (z_pAdd rfl rfl (by omega) (by omega))
        refine z_xpf zt192 13 rfl zo192 zzf12_123 X470 f19 (by decide) (by decide) ⟨by omega, by omega⟩ rfl (by decide) zw12_24 (fun M509 X510 e511 h512 => ?_)
        refine z_xP zt192 14 28 [some (.ref 19), some (.int 32)] [.int 1] rfl rfl ?_
        refine z_xrz zt192 15 rfl zzr192 (by decide) (by decide) ?_
        show z_ev (d + 972) 196 111 [some (.ref 19), some (.int x40), some (.int 0), none] [.int 1] M509 _
        refine z_xZ zt196 48 rfl rfl (fun (h513 : (1 : Int) ≠ 0) => ?_) (fun (h513 : (1 : Int) = 0) => absurd h513 (by omega))
        refine z_xP zt196 53 123 [some (.ref 19), some (.int x40), some (.int 0), none] [.int 112, .int x40] rfl rfl ?_
        refine z_xJ zt196 54 rfl rfl (fun (h514 : x40.toInt ≠ 112) => ?_) (fun (h514 : x40.toInt = 112) => absurd h514 (by omega))
        refine z_xP zt196 63 145 [some (.ref 19), some (.int x40), some (.int 0), none] [.int 101, .int x40] rfl rfl ?_
        refine z_xJ zt196 64 rfl rfl (fun (h515 : x40.toInt ≠ 101) => absurd h515 (by omega)) (fun (h515 : x40.toInt = 101) => ?_)
        refine z_xP zt196 65 149 [some (.ref 19), some (.int x40), some (.int 0), none] [.ref 19] rfl rfl ?_
        refine z_xgX (b := 28) zt196 66 rfl zo196 zzf12_34 X510 f19 (by decide) (by decide) rfl ?_
        refine z_xP zt196 67 153 [some (.ref 19), some (.int x40), some (.int 0), none] [.ref 19, .ref 28] rfl rfl ?_
        have h516 := (e511.f f19 (by decide) h497)
        refine z_xgv zt196 68 rfl zo196 zzf12_133 X510 f19 (by decide) h516 ?_
        refine z_xP zt196 69 157 [some (.ref 19), some (.int x40), some (.int 0), none] [.ref 19, .int x33, .ref 28] rfl rfl ?_
        refine z_xcV (vs := [.ref 19]) (r := [.int x33, .ref 28]) (L2 := [some (.ref 19), none, none, none, none]) zt196 70 rfl zo196 zzcV12_190 (Or.inl rfl) rfl X510 f19 rfl rfl rfl (Nat.le_of_ble_eq_true rfl) zzm197 (Nat.le_of_ble_eq_true rfl) rfl ?_
        refine zC197 X510.1 h512 ⟨by omega, by omega⟩ (z_GL.go hL X510 (by decide)) (fun x523 M517 X518 h524 h525 z519 h520 h521 h522 => ?_)
        have X526 := X510.go X518 (z_sb (by decide))
        show z_ev (d + 972) 196 160 [some (.ref 19), some (.int x40), some (.int 0), none] [.int x523, .int x33, .ref 28] M517 _
        refine z_xis zt196 71 rfl X526 f28 (by decide) (by decide) (by omega) (by omega) (Int32.le_toInt _) (Int32.toInt_le _) (by decide) (fun M528 X529 e530 h531 => ?_)
        have h534 := (e530.f f19 (by decide) (X518.2.f f19 (by decide) h516))
        have q533 := (z_OTA h534 ((e530.1 19 12 0 0 0 0 22 f19 (by decide)).trans ((X518.2.1 19 12 0 0 0 0 22 f19 (by decide)).trans ((e511.1 19 12 0 0 0 0 22 f19 (by decide)).trans (e471.1 19 12 0 0 0 0 22 f19 (by decide))))).symm)
        have o532 := z_OT.st (A := (z_Fv M0 19 22).toInt) (z_OT.ke (z_OT.ke (z_OT.ke z_OT.refl X.1 e471 rfl) X.1 e511 rfl) X.1 X518.2 rfl) X.1 e530 h531 (r := 28) (by decide) (fun _ => by omega) (fun h => absurd h (by decide))
        refine z_xP zt196 72 208 [some (.ref 19), some (.int x40), some (.int 0), none] [] rfl rfl ?_
        have h535 := (e530.f f19 (by decide) h520)
        exact z_xrv zt196 99 rfl zzr196 (kk M528 X529 o532 z519 h535 ⟨by omega, by omega⟩ (by omega))
      refine z_xP zt192 7 16 [some (.ref 19), some (.int 32)] [.int 0] rfl rfl ?_
      refine z_xrz zt192 8 rfl zzr192 (by decide) (by decide) ?_
      show z_ev (d + 972) 196 111 [some (.ref 19), some (.int x40), some (.int 0), none] [.int 0] M469 _
      refine z_xZ zt196 48 rfl rfl (fun (h536 : (0 : Int) ≠ 0) => absurd h536 (by omega)) (fun (h536 : (0 : Int) = 0) => ?_)
      refine z_xP zt196 49 115 [some (.ref 19), some (.int x40), some (.int 0), none] [.ref 19] rfl rfl ?_
      refine z_xcV (vs := [.ref 19]) (r := []) (L2 := [some (.ref 19)]) zt196 50 rfl zo196 zzcV12_163 (Or.inl rfl) rfl X470 f19 rfl rfl rfl (Nat.le_of_ble_eq_true rfl) zzm194 (Nat.le_of_ble_eq_true rfl) rfl ?_
      refine z_xP zt194 0 2 [some (.ref 19)] [.ref 19, .ref 19] rfl rfl ?_
      refine z_xgv zt194 1 rfl zo194 zzf12_136 X470 f19 (by decide) h473 ?_
      refine z_xZ zt194 2 rfl rfl (fun (h537 : 0 ≤ x474.toInt) => absurd h537 (by omega)) (fun (h537 : x474.toInt < 0) => ?_)
      refine z_xP zt194 3 9 [some (.ref 19)] [.ref 19, .ref 19] rfl rfl ?_
      refine z_xgv zt194 4 rfl zo194 zzf12_123 X470 f19 (by decide) h472 ?_
      refine z_xP zt194 5 19 [some (.ref 19)] [.int x467, .ref 19] rfl rfl ?_
      refine z_xpf zt194 8 rfl zo194 zzf12_136 X470 f19 (by decide) (by decide) ⟨Int32.le_toInt _, Int32.toInt_le _⟩ rfl (by decide) zw12_26 (fun M538 X539 e540 h541 => ?_)
      refine z_xP zt194 9 23 [some (.ref 19)] [.int 0] rfl rfl ?_
      refine z_xrz zt194 10 rfl zzr194 (by decide) (by decide) ?_
      show z_ev (d + 972) 196 118 [some (.ref 19), some (.int x40), some (.int 0), none] [.int 0] M538 _
      refine z_xP zt196 51 119 [some (.ref 19), some (.int x40), some (.int 0), some (.int 0)] [] rfl rfl ?_
      have h542 := (e540.f f19 (by decide) h472)
      exact z_xrv zt196 52 rfl zzr196 (kk M538 X539 (z_OT.ke (z_OT.ke z_OT.refl X.1 e471 rfl) X.1 e540 rfl) x467 h542 ⟨by omega, by omega⟩ (by omega))
    refine z_xP zt196 4 12 [some (.ref 19), some (.int x40), none, none] [.ref 19] rfl rfl ?_
    refine z_xgX (b := 27) zt196 5 rfl zo196 zzf12_31 X f19 (by decide) (by decide) rfl ?_
    refine z_xP zt196 6 16 [some (.ref 19), some (.int x40), none, none] [.ref 19, .ref 27] rfl rfl ?_
    refine z_xgv zt196 7 rfl zo196 zzf12_133 X f19 (by decide) h32 ?_
    have f27 : T[27]? = some (.inr (27, 0, 8, (-2147483648), 2147483647)) := X.1.k rfl (by decide)
    refine z_xil zt196 8 rfl X f27 (by decide) (by omega) (by omega) (fun (x543 : Int32) h544 (h545 : (-2147483648) ≤ x543.toInt) (h546 : x543.toInt ≤ 2147483647) => ?_)
    refine z_xZ zt196 9 rfl rfl (fun (h547 : 0 < x543.toInt) => ?_) (fun (h547 : x543.toInt ≤ 0) => ?_)
    · skip
      refine z_xP zt196 27 66 [some (.ref 19), some (.int x40), none, none] [.int 1] rfl rfl ?_
      refine z_xP zt196 29 70 [some (.ref 19), some (.int x40), some (.int 1), none] [.int 112, .int x40] rfl rfl ?_
      refine z_xJ zt196 30 rfl rfl (fun (h548 : x40.toInt = 112) => ?_) (fun (h548 : x40.toInt ≠ 112) => absurd h548 (by omega))
      refine z_xP zt196 35 86 [some (.ref 19), some (.int x40), some (.int 1), none] [.int 1] rfl rfl ?_
      refine z_xZ zt196 36 rfl rfl (fun (h549 : (1 : Int) = 0) => absurd h549 (by omega)) (fun (h549 : (1 : Int) ≠ 0) => ?_)
      refine z_xP zt196 37 90 [some (.ref 19), some (.int x40), some (.int 1), none] [.ref 19] rfl rfl ?_
      refine z_xcV (vs := [.ref 19]) (r := []) (L2 := [some (.ref 19)]) zt196 38 rfl zo196 zzcV12_163 (Or.inl rfl) rfl X f19 rfl rfl rfl (Nat.le_of_ble_eq_true rfl) zzm194 (Nat.le_of_ble_eq_true rfl) rfl ?_
      refine z_xP zt194 0 2 [some (.ref 19)] [.ref 19, .ref 19] rfl rfl ?_
      refine z_xgI zt194 1 rfl zo194 zzf12_136 X f19 (by decide) (by decide) rfl (fun (x551 : Int32) h550 (h552 : (-2147483648) ≤ x551.toInt) (h553 : x551.toInt ≤ 2147483647) => ?_)
      refine z_xZ zt194 2 rfl rfl (fun (h554 : 0 ≤ x551.toInt) => ?_) (fun (h554 : x551.toInt < 0) => ?_)
      · skip
        refine z_xP zt194 6 16 [some (.ref 19)] [.ref 19, .ref 19] rfl rfl ?_
        refine z_xgv zt194 7 rfl zo194 zzf12_136 X f19 (by decide) h550 ?_
        refine z_xpf zt194 8 rfl zo194 zzf12_136 X f19 (by decide) (by decide) ⟨Int32.le_toInt _, Int32.toInt_le _⟩ rfl (by decide) zw12_26 (fun M555 X556 e557 h558 => ?_)
        refine z_xP zt194 9 23 [some (.ref 19)] [.int 0] rfl rfl ?_
        refine z_xrz zt194 10 rfl zzr194 (by decide) (by decide) ?_
        show z_ev (d + 972) 196 93 [some (.ref 19), some (.int x40), some (.int 1), none] [.int 0] M555 _
        refine z_xP zt196 39 94 [some (.ref 19), some (.int x40), some (.int 1), some (.int 0)] [] rfl rfl ?_
        have h559 := (e557.f f19 (by decide) hz0)
        exact z_xrv zt196 40 rfl zzr196 (kk M555 X556 (z_OT.ke z_OT.refl X.1 e557 rfl) zp0 h559 ⟨by omega, by omega⟩ (by omega))
      refine z_xP zt194 3 9 [some (.ref 19)] [.ref 19, .ref 19] rfl rfl ?_
      refine z_xgv zt194 4 rfl zo194 zzf12_123 X f19 (by decide) hz0 ?_
      refine z_xP zt194 5 19 [some (.ref 19)] [.int zp0, .ref 19] rfl rfl ?_
      refine z_xpf zt194 8 rfl zo194 zzf12_136 X f19 (by decide) (by decide) ⟨Int32.le_toInt _, Int32.toInt_le _⟩ rfl (by decide) zw12_26 (fun M560 X561 e562 h563 => ?_)
      refine z_xP zt194 9 23 [some (.ref 19)] [.int 0] rfl rfl ?_
      refine z_xrz zt194 10 rfl zzr194 (by decide) (by decide) ?_
      show z_ev (d + 972) 196 93 [some (.ref 19), some (.int x40), some (.int 1), none] [.int 0] M560 _
      refine z_xP zt196 39 94 [some (.ref 19), some (.int x40), some (.int 1), some (.int 0)] [] rfl rfl ?_
      have h564 := (e562.f f19 (by decide) hz0)
      exact z_xrv zt196 40 rfl zzr196 (kk M560 X561 (z_OT.ke z_OT.refl X.1 e562 rfl) zp0 h564 ⟨by omega, by omega⟩ (by omega))
    refine z_xP zt196 10 26 [some (.ref 19), some (.int x40), none, none] [.int 101, .int x40] rfl rfl ?_
    refine z_xJ zt196 11 rfl rfl (fun (h565 : x40.toInt ≠ 101) => ?_) (fun (h565 : x40.toInt = 101) => absurd h565 (by omega))
    refine z_xP zt196 18 44 [some (.ref 19), some (.int x40), none, none] [.int 116, .int x40] rfl rfl ?_
    refine z_xJ zt196 19 rfl rfl (fun (h566 : x40.toInt ≠ 116) => ?_) (fun (h566 : x40.toInt = 116) => absurd h566 (by omega))
    refine z_xP zt196 28 66 [some (.ref 19), some (.int x40), none, none] [.int 0] rfl rfl ?_
    refine z_xP zt196 29 70 [some (.ref 19), some (.int x40), some (.int 0), none] [.int 112, .int x40] rfl rfl ?_
    refine z_xJ zt196 30 rfl rfl (fun (h567 : x40.toInt = 112) => ?_) (fun (h567 : x40.toInt ≠ 112) => absurd h567 (by omega))
    refine z_xP zt196 35 86 [some (.ref 19), some (.int x40), some (.int 0), none] [.int 0] rfl rfl ?_
    refine z_xZ zt196 36 rfl rfl (fun (h568 : (0 : Int) = 0) => ?_) (fun (h568 : (0 : Int) ≠ 0) => absurd h568 (by omega))
    refine z_xP zt196 41 97 [some (.ref 19), some (.int x40), some (.int 0), none] [.ref 19, .ref 19] rfl rfl ?_
    refine z_xgv zt196 42 rfl zo196 zzf12_123 X f19 (by decide) hz0 ?_
    refine z_xP zt196 43 101 [some (.ref 19), some (.int x40), some (.int 0), none] [.int 1, .int zp0, .ref 19] rfl rfl ?_
    refine z_xI zt196 44 rfl rfl (fun (x569 : Int32) (h570 : x569.toInt = zp0.toInt + 1) => ?_) (z_pAdd rfl rfl (by omega) (by omega))
    refine z_xpf zt196 45 rfl zo196 zzf12_123 X f19 (by decide) (by decide) ⟨by omega, by omega⟩ rfl (by decide) zw12_24 (fun M571 X572 e573 h574 => ?_)
    refine z_xP zt196 46 108 [some (.ref 19), some (.int x40), some (.int 0), none] [.int 32, .ref 19] rfl rfl ?_
    refine z_xcV (vs := [.ref 19, .int 32]) (r := []) (L2 := [some (.ref 19), some (.int 32)]) zt196 47 rfl zo196 zzcV12_147 (Or.inl rfl) rfl X572 f19 rfl rfl rfl (Nat.le_of_ble_eq_true rfl) zzm192 (Nat.le_of_ble_eq_true rfl) rfl ?_
    refine z_xP zt192 0 1 [some (.ref 19), some (.int 32)] [.ref 19] rfl rfl ?_
    refine z_xgI zt192 1 rfl zo192 zzf12_136 X572 f19 (by decide) (by decide) rfl (fun (x576 : Int32) h575 (h577 : (-2147483648) ≤ x576.toInt) (h578 : x576.toInt ≤ 2147483647) => ?_)
    refine z_xZ zt192 2 rfl rfl (fun (h579 : 0 ≤ x576.toInt) => ?_) (fun (h579 : x576.toInt < 0) => ?_)
    · skip
      refine z_xP zt192 7 16 [some (.ref 19), some (.int 32)] [.int 0] rfl rfl ?_
      refine z_xrz zt192 8 rfl zzr192 (by decide) (by decide) ?_
      show z_ev (d + 972) 196 111 [some (.ref 19), some (.int x40), some (.int 0), none] [.int 0] M571 _
      refine z_xZ zt196 48 rfl rfl (fun (h580 : (0 : Int) ≠ 0) => absurd h580 (by omega)) (fun (h580 : (0 : Int) = 0) => ?_)
      refine z_xP zt196 49 115 [some (.ref 19), some (.int x40), some (.int 0), none] [.ref 19] rfl rfl ?_
      refine z_xcV (vs := [.ref 19]) (r := []) (L2 := [some (.ref 19)]) zt196 50 rfl zo196 zzcV12_163 (Or.inl rfl) rfl X572 f19 rfl rfl rfl (Nat.le_of_ble_eq_true rfl) zzm194 (Nat.le_of_ble_eq_true rfl) rfl ?_
      refine z_xP zt194 0 2 [some (.ref 19)] [.ref 19, .ref 19] rfl rfl ?_
      refine z_xgv zt194 1 rfl zo194 zzf12_136 X572 f19 (by decide) h575 ?_
      refine z_xZ zt194 2 rfl rfl (fun (h581 : 0 ≤ x576.toInt) => ?_) (fun (h581 : x576.toInt < 0) => absurd h581 (by omega))
      refine z_xP zt194 6 16 [some (.ref 19)] [.ref 19, .ref 19] rfl rfl ?_
      refine z_xgv zt194 7 rfl zo194 zzf12_136 X572 f19 (by decide) h575 ?_
      refine z_xpf zt194 8 rfl zo194 zzf12_136 X572 f19 (by decide) (by decide) ⟨Int32.le_toInt _, Int32.toInt_le _⟩ rfl (by decide) zw12_26 (fun M582 X583 e584 h585 => ?_)
      refine z_xP zt194 9 23 [some (.ref 19)] [.int 0] rfl rfl ?_
      refine z_xrz zt194 10 rfl zzr194 (by decide) (by decide) ?_
      show z_ev (d + 972) 196 118 [some (.ref 19), some (.int x40), some (.int 0), none] [.int 0] M582 _
      refine z_xP zt196 51 119 [some (.ref 19), some (.int x40), some (.int 0), some (.int 0)] [] rfl rfl ?_
      have h586 := (e584.f f19 (by decide) h574)
      exact z_xrv zt196 52 rfl zzr196 (kk M582 X583 (z_OT.ke (z_OT.ke z_OT.refl X.1 e573 rfl) X.1 e584 rfl) x569 h586 ⟨by omega, by omega⟩ (by omega))
    refine z_xP zt192 3 8 [some (.ref 19), some (.int 32)] [.ref 19] rfl rfl ?_
    refine z_xcV (vs := [.ref 19]) (r := []) (L2 := [some (.ref 19)]) zt192 4 rfl zo192 zzcV12_139 (Or.inl rfl) rfl X572 f19 rfl rfl rfl (Nat.le_of_ble_eq_true rfl) zzm193 (Nat.le_of_ble_eq_true rfl) rfl ?_
    refine z_xP zt193 0 1 [some (.ref 19)] [.ref 19] rfl rfl ?_
    refine z_xgv zt193 1 rfl zo193 zzf12_123 X572 f19 (by decide) h574 ?_
    refine z_xP zt193 2 5 [some (.ref 19)] [.ref 19, .int x569] rfl rfl ?_
    have h587 := (e573.f f19 (by decide) h1)
    refine z_xgv zt193 3 rfl zo193 zzf12_126 X572 f19 (by decide) h587 ?_
    refine z_xJ zt193 4 rfl rfl (fun (h588 : x2.toInt ≤ x569.toInt) => ?_) (fun (h588 : x569.toInt < x2.toInt) => ?_)
    · skip
      refine z_xP zt193 24 52 [some (.ref 19)] [.int 0] rfl rfl ?_
      refine z_xri zt193 25 rfl zzr193 ?_
      show z_ev (d + 971) 192 11 [some (.ref 19), some (.int 32)] [.int 0] M571 _
      refine z_xP zt192 5 12 [some (.ref 19), some (.int 32)] [.int 32, .int 0] rfl rfl ?_
      refine z_xJ zt192 6 rfl rfl (fun (h589 : (0 : Int) = 32) => absurd h589 (by omega)) (fun (h589 : (0 : Int) ≠ 32) => ?_)
      refine z_xP zt192 7 16 [some (.ref 19), some (.int 32)] [.int 0] rfl rfl ?_
      refine z_xrz zt192 8 rfl zzr192 (by decide) (by decide) ?_
      show z_ev (d + 972) 196 111 [some (.ref 19), some (.int x40), some (.int 0), none] [.int 0] M571 _
      refine z_xZ zt196 48 rfl rfl (fun (h590 : (0 : Int) ≠ 0) => absurd h590 (by omega)) (fun (h590 : (0 : Int) = 0) => ?_)
      refine z_xP zt196 49 115 [some (.ref 19), some (.int x40), some (.int 0), none] [.ref 19] rfl rfl ?_
      refine z_xcV (vs := [.ref 19]) (r := []) (L2 := [some (.ref 19)]) zt196 50 rfl zo196 zzcV12_163 (Or.inl rfl) rfl X572 f19 rfl rfl rfl (Nat.le_of_ble_eq_true rfl) zzm194 (Nat.le_of_ble_eq_true rfl) rfl ?_
      refine z_xP zt194 0 2 [some (.ref 19)] [.ref 19, .ref 19] rfl rfl ?_
      refine z_xgv zt194 1 rfl zo194 zzf12_136 X572 f19 (by decide) h575 ?_
      refine z_xZ zt194 2 rfl rfl (fun (h591 : 0 ≤ x576.toInt) => absurd h591 (by omega)) (fun (h591 : x576.toInt < 0) => ?_)
      refine z_xP zt194 3 9 [some (.ref 19)] [.ref 19, .ref 19] rfl rfl ?_
      refine z_xgv zt194 4 rfl zo194 zzf12_123 X572 f19 (by decide) h574 ?_
      refine z_xP zt194 5 19 [some (.ref 19)] [.int x569, .ref 19] rfl rfl ?_
      refine z_xpf zt194 8 rfl zo194 zzf12_136 X572 f19 (by decide) (by decide) ⟨Int32.le_toInt _, Int32.toInt_le _⟩ rfl (by decide) zw12_26 (fun M592 X593 e594 h595 => ?_)
      refine z_xP zt194 9 23 [some (.ref 19)] [.int 0] rfl rfl ?_
      refine z_xrz zt194 10 rfl zzr194 (by decide) (by decide) ?_
      show z_ev (d + 972) 196 118 [some (.ref 19), some (.int x40), some (.int 0), none] [.int 0] M592 _
      refine z_xP zt196 51 119 [some (.ref 19), some (.int x40), some (.int 0), some (.int 0)] [] rfl rfl ?_
      have h596 := (e594.f f19 (by decide) h574)
      exact z_xrv zt196 52 rfl zzr196 (kk M592 X593 (z_OT.ke (z_OT.ke z_OT.refl X.1 e573 rfl) X.1 e594 rfl) x569 h596 ⟨by omega, by omega⟩ (by omega))
    refine z_xP zt193 5 12 [some (.ref 19)] [.ref 19] rfl rfl ?_
    have h597 := (e573.f f19 (by decide) h27)
    refine z_xgv zt193 6 rfl zo193 zzf12_129 X572 f19 (by decide) h597 ?_
    refine z_xZ zt193 7 rfl rfl (fun (h598 : x28.toInt = 0) => ?_) (fun (h598 : x28.toInt ≠ 0) => absurd h598 (by omega))
    refine z_xP zt193 14 31 [some (.ref 19)] [.ref 19] rfl rfl ?_
    refine z_xgX (b := 21) zt193 15 rfl zo193 zzf12_13 X572 f19 (by decide) (by decide) rfl ?_
    refine z_xP zt193 16 38 [some (.ref 19)] [.ref 19, .int 160, .ref 21] rfl rfl ?_
    have h599 := (e573.f f19 (by decide) h32)
    refine z_xgv zt193 17 rfl zo193 zzf12_133 X572 f19 (by decide) h599 ?_
    refine z_xI zt193 18 rfl rfl (fun (x600 : Int32) (h601 : x600.toInt = 160 * x33.toInt) => ?_) (z_pMul rfl rfl (by omega) (by omega))
    refine z_xP zt193 19 43 [some (.ref 19)] [.ref 19, .int x600, .ref 21] rfl rfl ?_
    refine z_xgv zt193 20 rfl zo193 zzf12_123 X572 f19 (by decide) h574 ?_
    refine z_xI zt193 21 rfl rfl (fun (x602 : Int32) (h603 : x602.toInt = x600.toInt + x569.toInt) => ?_) (z_pAdd rfl rfl (by omega) (by omega))
    refine z_xil zt193 22 rfl X572 f21 (by decide) (by omega) (by omega) (fun (x604 : Int32) h605 (h606 : (-2147483648) ≤ x604.toInt) (h607 : x604.toInt ≤ 2147483647) => ?_)
    refine z_xP zt193 23 52 [some (.ref 19)] [.int x604] rfl rfl ?_
    refine z_xri zt193 25 rfl zzr193 ?_
    show z_ev (d + 971) 192 11 [some (.ref 19), some (.int 32)] [.int x604] M571 _
    refine z_xP zt192 5 12 [some (.ref 19), some (.int 32)] [.int 32, .int x604] rfl rfl ?_
    refine z_xJ zt192 6 rfl rfl (fun (h608 : x604.toInt = 32) => ?_) (fun (h608 : x604.toInt ≠ 32) => ?_)
    · skip
      refine z_xP zt192 9 19 [some (.ref 19), some (.int 32)] [.ref 19, .ref 19] rfl rfl ?_
      refine z_xgv zt192 10 rfl zo192 zzf12_123 X572 f19 (by decide) h574 ?_
      refine z_xP zt192 11 23 [some (.ref 19), some (.int 32)] [.int 1, .int x569, .ref 19] rfl rfl ?_
      refine z_xI zt192 12 rfl rfl (fun (x609 : Int32) (h610 : x609.toInt = x569.toInt + 1) => ?_) (z_pAdd rfl rfl (by omega) (by omega))
      refine z_xpf zt192 13 rfl zo192 zzf12_123 X572 f19 (by decide) (by decide) ⟨by omega, by omega⟩ rfl (by decide) zw12_24 (fun M611 X612 e613 h614 => ?_)
      refine z_xP zt192 14 28 [some (.ref 19), some (.int 32)] [.int 1] rfl rfl ?_
      refine z_xrz zt192 15 rfl zzr192 (by decide) (by decide) ?_
      show z_ev (d + 972) 196 111 [some (.ref 19), some (.int x40), some (.int 0), none] [.int 1] M611 _
      refine z_xZ zt196 48 rfl rfl (fun (h615 : (1 : Int) ≠ 0) => ?_) (fun (h615 : (1 : Int) = 0) => absurd h615 (by omega))
      refine z_xP zt196 53 123 [some (.ref 19), some (.int x40), some (.int 0), none] [.int 112, .int x40] rfl rfl ?_
      refine z_xJ zt196 54 rfl rfl (fun (h616 : x40.toInt ≠ 112) => absurd h616 (by omega)) (fun (h616 : x40.toInt = 112) => ?_)
      refine z_xP zt196 55 127 [some (.ref 19), some (.int x40), some (.int 0), none] [.ref 19] rfl rfl ?_
      refine z_xgX (b := 27) zt196 56 rfl zo196 zzf12_31 X612 f19 (by decide) (by decide) rfl ?_
      refine z_xP zt196 57 131 [some (.ref 19), some (.int x40), some (.int 0), none] [.ref 19, .ref 27] rfl rfl ?_
      have h617 := (e613.f f19 (by decide) h599)
      refine z_xgv zt196 58 rfl zo196 zzf12_133 X612 f19 (by decide) h617 ?_
      refine z_xP zt196 59 135 [some (.ref 19), some (.int x40), some (.int 0), none] [.ref 19, .int x33, .ref 27] rfl rfl ?_
      refine z_xcV (vs := [.ref 19]) (r := [.int x33, .ref 27]) (L2 := [some (.ref 19), none, none, none, none]) zt196 60 rfl zo196 zzcV12_190 (Or.inl rfl) rfl X612 f19 rfl rfl rfl (Nat.le_of_ble_eq_true rfl) zzm197 (Nat.le_of_ble_eq_true rfl) rfl ?_
      refine zC197 X612.1 h614 ⟨by omega, by omega⟩ (z_GL.go hL X612 (by decide)) (fun x624 M618 X619 h625 h626 z620 h621 h622 h623 => ?_)
      have X627 := X612.go X619 (z_sb (by decide))
      show z_ev (d + 972) 196 138 [some (.ref 19), some (.int x40), some (.int 0), none] [.int x624, .int x33, .ref 27] M618 _
      refine z_xis zt196 61 rfl X627 f27 (by decide) (by decide) (by omega) (by omega) (Int32.le_toInt _) (Int32.toInt_le _) (by decide) (fun M629 X630 e631 h632 => ?_)
      have h635 := (e631.f f19 (by decide) (X619.2.f f19 (by decide) h617))
      have q634 := (z_OTA h635 ((e631.1 19 12 0 0 0 0 22 f19 (by decide)).trans ((X619.2.1 19 12 0 0 0 0 22 f19 (by decide)).trans ((e613.1 19 12 0 0 0 0 22 f19 (by decide)).trans (e573.1 19 12 0 0 0 0 22 f19 (by decide))))).symm)
      have o633 := z_OT.st (A := (z_Fv M0 19 22).toInt) (z_OT.ke (z_OT.ke (z_OT.ke z_OT.refl X.1 e573 rfl) X.1 e613 rfl) X.1 X619.2 rfl) X.1 e631 h632 (r := 27) (by decide) (fun _ => by omega) (fun h => absurd h (by decide))
      refine z_xP zt196 62 208 [some (.ref 19), some (.int x40), some (.int 0), none] [] rfl rfl ?_
      have h636 := (e631.f f19 (by decide) h621)
      exact z_xrv zt196 99 rfl zzr196 (kk M629 X630 o633 z620 h636 ⟨by omega, by omega⟩ (by omega))
    refine z_xP zt192 7 16 [some (.ref 19), some (.int 32)] [.int 0] rfl rfl ?_
    refine z_xrz zt192 8 rfl zzr192 (by decide) (by decide) ?_
    show z_ev (d + 972) 196 111 [some (.ref 19), some (.int x40), some (.int 0), none] [.int 0] M571 _
    refine z_xZ zt196 48 rfl rfl (fun (h637 : (0 : Int) ≠ 0) => absurd h637 (by omega)) (fun (h637 : (0 : Int) = 0) => ?_)
    refine z_xP zt196 49 115 [some (.ref 19), some (.int x40), some (.int 0), none] [.ref 19] rfl rfl ?_
    refine z_xcV (vs := [.ref 19]) (r := []) (L2 := [some (.ref 19)]) zt196 50 rfl zo196 zzcV12_163 (Or.inl rfl) rfl X572 f19 rfl rfl rfl (Nat.le_of_ble_eq_true rfl) zzm194 (Nat.le_of_ble_eq_true rfl) rfl ?_
    refine z_xP zt194 0 2 [some (.ref 19)] [.ref 19, .ref 19] rfl rfl ?_
    refine z_xgv zt194 1 rfl zo194 zzf12_136 X572 f19 (by decide) h575 ?_
    refine z_xZ zt194 2 rfl rfl (fun (h638 : 0 ≤ x576.toInt) => absurd h638 (by omega)) (fun (h638 : x576.toInt < 0) => ?_)
    refine z_xP zt194 3 9 [some (.ref 19)] [.ref 19, .ref 19] rfl rfl ?_
    refine z_xgv zt194 4 rfl zo194 zzf12_123 X572 f19 (by decide) h574 ?_
    refine z_xP zt194 5 19 [some (.ref 19)] [.int x569, .ref 19] rfl rfl ?_
    refine z_xpf zt194 8 rfl zo194 zzf12_136 X572 f19 (by decide) (by decide) ⟨Int32.le_toInt _, Int32.toInt_le _⟩ rfl (by decide) zw12_26 (fun M639 X640 e641 h642 => ?_)
    refine z_xP zt194 9 23 [some (.ref 19)] [.int 0] rfl rfl ?_
    refine z_xrz zt194 10 rfl zzr194 (by decide) (by decide) ?_
    show z_ev (d + 972) 196 118 [some (.ref 19), some (.int x40), some (.int 0), none] [.int 0] M639 _
    refine z_xP zt196 51 119 [some (.ref 19), some (.int x40), some (.int 0), some (.int 0)] [] rfl rfl ?_
    have h643 := (e641.f f19 (by decide) h574)
    exact z_xrv zt196 52 rfl zzr196 (kk M639 X640 (z_OT.ke (z_OT.ke z_OT.refl X.1 e573 rfl) X.1 e641 rfl) x569 h643 ⟨by omega, by omega⟩ (by omega))
  refine z_xP zt193 8 19 [some (.ref 19)] [.ref 19] rfl rfl ?_
  refine z_xgX (b := 20) zt193 9 rfl zo193 zzf12_9 X f19 (by decide) (by decide) rfl ?_
  refine z_xP zt193 10 23 [some (.ref 19)] [.ref 19, .ref 20] rfl rfl ?_
  refine z_xgv zt193 11 rfl zo193 zzf12_123 X f19 (by decide) hz0 ?_
  have f20 : T[20]? = some (.inr (20, 0, 160, (-2147483648), 2147483647)) := X.1.k rfl (by decide)
  refine z_xil zt193 12 rfl X f20 (by decide) (by omega) (by omega) (fun (x644 : Int32) h645 (h646 : (-2147483648) ≤ x644.toInt) (h647 : x644.toInt ≤ 2147483647) => ?_)
  refine z_xP zt193 13 52 [some (.ref 19)] [.int x644] rfl rfl ?_
  refine z_xri zt193 25 rfl zzr193 ?_
  show z_ev (d + 972) 196 4 [some (.ref 19), none, none, none] [.int x644] M0 _
  refine z_xP zt196 2 8 [some (.ref 19), some (.int x644), none, none] [.int 112, .int x644] rfl rfl ?_
  refine z_xJ zt196 3 rfl rfl (fun (h648 : x644.toInt ≠ 112) => ?_) (fun (h648 : x644.toInt = 112) => ?_)
  · skip
    refine z_xP zt196 10 26 [some (.ref 19), some (.int x644), none, none] [.int 101, .int x644] rfl rfl ?_
    refine z_xJ zt196 11 rfl rfl (fun (h649 : x644.toInt ≠ 101) => ?_) (fun (h649 : x644.toInt = 101) => ?_)
    · skip
      refine z_xP zt196 18 44 [some (.ref 19), some (.int x644), none, none] [.int 116, .int x644] rfl rfl ?_
      refine z_xJ zt196 19 rfl rfl (fun (h650 : x644.toInt ≠ 116) => ?_) (fun (h650 : x644.toInt = 116) => ?_)
      · skip
        refine z_xP zt196 28 66 [some (.ref 19), some (.int x644), none, none] [.int 0] rfl rfl ?_
        refine z_xP zt196 29 70 [some (.ref 19), some (.int x644), some (.int 0), none] [.int 112, .int x644] rfl rfl ?_
        refine z_xJ zt196 30 rfl rfl (fun (h651 : x644.toInt = 112) => ?_) (fun (h651 : x644.toInt ≠ 112) => ?_)
        · skip
          refine z_xP zt196 35 86 [some (.ref 19), some (.int x644), some (.int 0), none] [.int 0] rfl rfl ?_
          refine z_xZ zt196 36 rfl rfl (fun (h652 : (0 : Int) = 0) => ?_) (fun (h652 : (0 : Int) ≠ 0) => absurd h652 (by omega))
          refine z_xP zt196 41 97 [some (.ref 19), some (.int x644), some (.int 0), none] [.ref 19, .ref 19] rfl rfl ?_
          refine z_xgv zt196 42 rfl zo196 zzf12_123 X f19 (by decide) hz0 ?_
          refine z_xP zt196 43 101 [some (.ref 19), some (.int x644), some (.int 0), none] [.int 1, .int zp0, .ref 19] rfl rfl ?_
          refine z_xI zt196 44 rfl rfl (fun (x653 : Int32) (h654 : x653.toInt = zp0.toInt + 1) => ?_) (z_pAdd rfl rfl (by omega) (by omega))
          refine z_xpf zt196 45 rfl zo196 zzf12_123 X f19 (by decide) (by decide) ⟨by omega, by omega⟩ rfl (by decide) zw12_24 (fun M655 X656 e657 h658 => ?_)
          refine z_xP zt196 46 108 [some (.ref 19), some (.int x644), some (.int 0), none] [.int 32, .ref 19] rfl rfl ?_
          refine z_xcV (vs := [.ref 19, .int 32]) (r := []) (L2 := [some (.ref 19), some (.int 32)]) zt196 47 rfl zo196 zzcV12_147 (Or.inl rfl) rfl X656 f19 rfl rfl rfl (Nat.le_of_ble_eq_true rfl) zzm192 (Nat.le_of_ble_eq_true rfl) rfl ?_
          refine z_xP zt192 0 1 [some (.ref 19), some (.int 32)] [.ref 19] rfl rfl ?_
          refine z_xgI zt192 1 rfl zo192 zzf12_136 X656 f19 (by decide) (by decide) rfl (fun (x660 : Int32) h659 (h661 : (-2147483648) ≤ x660.toInt) (h662 : x660.toInt ≤ 2147483647) => ?_)
          refine z_xZ zt192 2 rfl rfl (fun (h663 : 0 ≤ x660.toInt) => ?_) (fun (h663 : x660.toInt < 0) => ?_)
          · skip
            refine z_xP zt192 7 16 [some (.ref 19), some (.int 32)] [.int 0] rfl rfl ?_
            refine z_xrz zt192 8 rfl zzr192 (by decide) (by decide) ?_
            show z_ev (d + 972) 196 111 [some (.ref 19), some (.int x644), some (.int 0), none] [.int 0] M655 _
            refine z_xZ zt196 48 rfl rfl (fun (h664 : (0 : Int) ≠ 0) => absurd h664 (by omega)) (fun (h664 : (0 : Int) = 0) => ?_)
            refine z_xP zt196 49 115 [some (.ref 19), some (.int x644), some (.int 0), none] [.ref 19] rfl rfl ?_
            refine z_xcV (vs := [.ref 19]) (r := []) (L2 := [some (.ref 19)]) zt196 50 rfl zo196 zzcV12_163 (Or.inl rfl) rfl X656 f19 rfl rfl rfl (Nat.le_of_ble_eq_true rfl) zzm194 (Nat.le_of_ble_eq_true rfl) rfl ?_
            refine z_xP zt194 0 2 [some (.ref 19)] [.ref 19, .ref 19] rfl rfl ?_
            refine z_xgv zt194 1 rfl zo194 zzf12_136 X656 f19 (by decide) h659 ?_
            refine z_xZ zt194 2 rfl rfl (fun (h665 : 0 ≤ x660.toInt) => ?_) (fun (h665 : x660.toInt < 0) => absurd h665 (by omega))
            refine z_xP zt194 6 16 [some (.ref 19)] [.ref 19, .ref 19] rfl rfl ?_
            refine z_xgv zt194 7 rfl zo194 zzf12_136 X656 f19 (by decide) h659 ?_
            refine z_xpf zt194 8 rfl zo194 zzf12_136 X656 f19 (by decide) (by decide) ⟨Int32.le_toInt _, Int32.toInt_le _⟩ rfl (by decide) zw12_26 (fun M666 X667 e668 h669 => ?_)
            refine z_xP zt194 9 23 [some (.ref 19)] [.int 0] rfl rfl ?_
            refine z_xrz zt194 10 rfl zzr194 (by decide) (by decide) ?_
            show z_ev (d + 972) 196 118 [some (.ref 19), some (.int x644), some (.int 0), none] [.int 0] M666 _
            refine z_xP zt196 51 119 [some (.ref 19), some (.int x644), some (.int 0), some (.int 0)] [] rfl rfl ?_
            have h670 := (e668.f f19 (by decide) h658)
            exact z_xrv zt196 52 rfl zzr196 (kk M666 X667 (z_OT.ke (z_OT.ke z_OT.refl X.1 e657 rfl) X.1 e668 rfl) x653 h670 ⟨by omega, by omega⟩ (by omega))
          refine z_xP zt192 3 8 [some (.ref 19), some (.int 32)] [.ref 19] rfl rfl ?_
          refine z_xcV (vs := [.ref 19]) (r := []) (L2 := [some (.ref 19)]) zt192 4 rfl zo192 zzcV12_139 (Or.inl rfl) rfl X656 f19 rfl rfl rfl (Nat.le_of_ble_eq_true rfl) zzm193 (Nat.le_of_ble_eq_true rfl) rfl ?_
          refine z_xP zt193 0 1 [some (.ref 19)] [.ref 19] rfl rfl ?_
          refine z_xgv zt193 1 rfl zo193 zzf12_123 X656 f19 (by decide) h658 ?_
          refine z_xP zt193 2 5 [some (.ref 19)] [.ref 19, .int x653] rfl rfl ?_
          have h671 := (e657.f f19 (by decide) h1)
          refine z_xgv zt193 3 rfl zo193 zzf12_126 X656 f19 (by decide) h671 ?_
          refine z_xJ zt193 4 rfl rfl (fun (h672 : x2.toInt ≤ x653.toInt) => ?_) (fun (h672 : x653.toInt < x2.toInt) => ?_)
          · skip
            refine z_xP zt193 24 52 [some (.ref 19)] [.int 0] rfl rfl ?_
            refine z_xri zt193 25 rfl zzr193 ?_
            show z_ev (d + 971) 192 11 [some (.ref 19), some (.int 32)] [.int 0] M655 _
            refine z_xP zt192 5 12 [some (.ref 19), some (.int 32)] [.int 32, .int 0] rfl rfl ?_
            refine z_xJ zt192 6 rfl rfl (fun (h673 : (0 : Int) = 32) => absurd h673 (by omega)) (fun (h673 : (0 : Int) ≠ 32) => ?_)
            refine z_xP zt192 7 16 [some (.ref 19), some (.int 32)] [.int 0] rfl rfl ?_
            refine z_xrz zt192 8 rfl zzr192 (by decide) (by decide) ?_
            show z_ev (d + 972) 196 111 [some (.ref 19), some (.int x644), some (.int 0), none] [.int 0] M655 _
            refine z_xZ zt196 48 rfl rfl (fun (h674 : (0 : Int) ≠ 0) => absurd h674 (by omega)) (fun (h674 : (0 : Int) = 0) => ?_)
            refine z_xP zt196 49 115 [some (.ref 19), some (.int x644), some (.int 0), none] [.ref 19] rfl rfl ?_
            refine z_xcV (vs := [.ref 19]) (r := []) (L2 := [some (.ref 19)]) zt196 50 rfl zo196 zzcV12_163 (Or.inl rfl) rfl X656 f19 rfl rfl rfl (Nat.le_of_ble_eq_true rfl) zzm194 (Nat.le_of_ble_eq_true rfl) rfl ?_
            refine z_xP zt194 0 2 [some (.ref 19)] [.ref 19, .ref 19] rfl rfl ?_
            refine z_xgv zt194 1 rfl zo194 zzf12_136 X656 f19 (by decide) h659 ?_
            refine z_xZ zt194 2 rfl rfl (fun (h675 : 0 ≤ x660.toInt) => absurd h675 (by omega)) (fun (h675 : x660.toInt < 0) => ?_)
            refine z_xP zt194 3 9 [some (.ref 19)] [.ref 19, .ref 19] rfl rfl ?_
            refine z_xgv zt194 4 rfl zo194 zzf12_123 X656 f19 (by decide) h658 ?_
            refine z_xP zt194 5 19 [some (.ref 19)] [.int x653, .ref 19] rfl rfl ?_
            refine z_xpf zt194 8 rfl zo194 zzf12_136 X656 f19 (by decide) (by decide) ⟨Int32.le_toInt _, Int32.toInt_le _⟩ rfl (by decide) zw12_26 (fun M676 X677 e678 h679 => ?_)
            refine z_xP zt194 9 23 [some (.ref 19)] [.int 0] rfl rfl ?_
            refine z_xrz zt194 10 rfl zzr194 (by decide) (by decide) ?_
            show z_ev (d + 972) 196 118 [some (.ref 19), some (.int x644), some (.int 0), none] [.int 0] M676 _
            refine z_xP zt196 51 119 [some (.ref 19), some (.int x644), some (.int 0), some (.int 0)] [] rfl rfl ?_
            have h680 := (e678.f f19 (by decide) h658)
            exact z_xrv zt196 52 rfl zzr196 (kk M676 X677 (z_OT.ke (z_OT.ke z_OT.refl X.1 e657 rfl) X.1 e678 rfl) x653 h680 ⟨by omega, by omega⟩ (by omega))
          refine z_xP zt193 5 12 [some (.ref 19)] [.ref 19] rfl rfl ?_
          have h681 := (e657.f f19 (by decide) h27)
          refine z_xgv zt193 6 rfl zo193 zzf12_129 X656 f19 (by decide) h681 ?_
          refine z_xZ zt193 7 rfl rfl (fun (h682 : x28.toInt = 0) => absurd h682 (by omega)) (fun (h682 : x28.toInt ≠ 0) => ?_)
          refine z_xP zt193 8 19 [some (.ref 19)] [.ref 19] rfl rfl ?_
          refine z_xgX (b := 20) zt193 9 rfl zo193 zzf12_9 X656 f19 (by decide) (by decide) rfl ?_
          refine z_xP zt193 10 23 [some (.ref 19)] [.ref 19, .ref 20] rfl rfl ?_
          refine z_xgv zt193 11 rfl zo193 zzf12_123 X656 f19 (by decide) h658 ?_
          refine z_xil zt193 12 rfl X656 f20 (by decide) (by omega) (by omega) (fun (x683 : Int32) h684 (h685 : (-2147483648) ≤ x683.toInt) (h686 : x683.toInt ≤ 2147483647) => ?_)
          refine z_xP zt193 13 52 [some (.ref 19)] [.int x683] rfl rfl ?_
          refine z_xri zt193 25 rfl zzr193 ?_
          show z_ev (d + 971) 192 11 [some (.ref 19), some (.int 32)] [.int x683] M655 _
          refine z_xP zt192 5 12 [some (.ref 19), some (.int 32)] [.int 32, .int x683] rfl rfl ?_
          refine z_xJ zt192 6 rfl rfl (fun (h687 : x683.toInt = 32) => ?_) (fun (h687 : x683.toInt ≠ 32) => ?_)
          · skip
            refine z_xP zt192 9 19 [some (.ref 19), some (.int 32)] [.ref 19, .ref 19] rfl rfl ?_
            refine z_xgv zt192 10 rfl zo192 zzf12_123 X656 f19 (by decide) h658 ?_
            refine z_xP zt192 11 23 [some (.ref 19), some (.int 32)] [.int 1, .int x653, .ref 19] rfl rfl ?_
            refine z_xI zt192 12 rfl rfl (fun (x688 : Int32) (h689 : x688.toInt = x653.toInt + 1) => ?_) (z_pAdd rfl rfl (by omega) (by omega))
            refine z_xpf zt192 13 rfl zo192 zzf12_123 X656 f19 (by decide) (by decide) ⟨by omega, by omega⟩ rfl (by decide) zw12_24 (fun M690 X691 e692 h693 => ?_)
            refine z_xP zt192 14 28 [some (.ref 19), some (.int 32)] [.int 1] rfl rfl ?_
            refine z_xrz zt192 15 rfl zzr192 (by decide) (by decide) ?_
            show z_ev (d + 972) 196 111 [some (.ref 19), some (.int x644), some (.int 0), none] [.int 1] M690 _
            refine z_xZ zt196 48 rfl rfl (fun (h694 : (1 : Int) ≠ 0) => ?_) (fun (h694 : (1 : Int) = 0) => absurd h694 (by omega))
            refine z_xP zt196 53 123 [some (.ref 19), some (.int x644), some (.int 0), none] [.int 112, .int x644] rfl rfl ?_
            refine z_xJ zt196 54 rfl rfl (fun (h695 : x644.toInt ≠ 112) => absurd h695 (by omega)) (fun (h695 : x644.toInt = 112) => ?_)
            refine z_xP zt196 55 127 [some (.ref 19), some (.int x644), some (.int 0), none] [.ref 19] rfl rfl ?_
            refine z_xgX (b := 27) zt196 56 rfl zo196 zzf12_31 X691 f19 (by decide) (by decide) rfl ?_
            refine z_xP zt196 57 131 [some (.ref 19), some (.int x644), some (.int 0), none] [.ref 19, .ref 27] rfl rfl ?_
            refine z_xgI zt196 58 rfl zo196 zzf12_133 X691 f19 (by decide) (by decide) rfl (fun (x697 : Int32) h696 (h698 : 0 ≤ x697.toInt) (h699 : x697.toInt ≤ 7) => ?_)
            refine z_xP zt196 59 135 [some (.ref 19), some (.int x644), some (.int 0), none] [.ref 19, .int x697, .ref 27] rfl rfl ?_
            refine z_xcV (vs := [.ref 19]) (r := [.int x697, .ref 27]) (L2 := [some (.ref 19), none, none, none, none]) zt196 60 rfl zo196 zzcV12_190 (Or.inl rfl) rfl X691 f19 rfl rfl rfl (Nat.le_of_ble_eq_true rfl) zzm197 (Nat.le_of_ble_eq_true rfl) rfl ?_
            refine zC197 X691.1 h693 ⟨by omega, by omega⟩ (z_GL.go hL X691 (by decide)) (fun x706 M700 X701 h707 h708 z702 h703 h704 h705 => ?_)
            have X709 := X691.go X701 (z_sb (by decide))
            show z_ev (d + 972) 196 138 [some (.ref 19), some (.int x644), some (.int 0), none] [.int x706, .int x697, .ref 27] M700 _
            have f27 : T[27]? = some (.inr (27, 0, 8, (-2147483648), 2147483647)) := X709.1.k rfl (by decide)
            refine z_xis zt196 61 rfl X709 f27 (by decide) (by decide) (by omega) (by omega) (Int32.le_toInt _) (Int32.toInt_le _) (by decide) (fun M711 X712 e713 h714 => ?_)
            have h717 := (e713.f f19 (by decide) (X701.2.f f19 (by decide) h696))
            have q716 := (z_OTA h717 ((e713.1 19 12 0 0 0 0 22 f19 (by decide)).trans ((X701.2.1 19 12 0 0 0 0 22 f19 (by decide)).trans ((e692.1 19 12 0 0 0 0 22 f19 (by decide)).trans (e657.1 19 12 0 0 0 0 22 f19 (by decide))))).symm)
            have o715 := z_OT.st (A := (z_Fv M0 19 22).toInt) (z_OT.ke (z_OT.ke (z_OT.ke z_OT.refl X.1 e657 rfl) X.1 e692 rfl) X.1 X701.2 rfl) X.1 e713 h714 (r := 27) (by decide) (fun _ => by omega) (fun h => absurd h (by decide))
            refine z_xP zt196 62 208 [some (.ref 19), some (.int x644), some (.int 0), none] [] rfl rfl ?_
            have h718 := (e713.f f19 (by decide) h703)
            exact z_xrv zt196 99 rfl zzr196 (kk M711 X712 o715 z702 h718 ⟨by omega, by omega⟩ (by omega))
          refine z_xP zt192 7 16 [some (.ref 19), some (.int 32)] [.int 0] rfl rfl ?_
          refine z_xrz zt192 8 rfl zzr192 (by decide) (by decide) ?_
          show z_ev (d + 972) 196 111 [some (.ref 19), some (.int x644), some (.int 0), none] [.int 0] M655 _
          refine z_xZ zt196 48 rfl rfl (fun (h719 : (0 : Int) ≠ 0) => absurd h719 (by omega)) (fun (h719 : (0 : Int) = 0) => ?_)
          refine z_xP zt196 49 115 [some (.ref 19), some (.int x644), some (.int 0), none] [.ref 19] rfl rfl ?_
          refine z_xcV (vs := [.ref 19]) (r := []) (L2 := [some (.ref 19)]) zt196 50 rfl zo196 zzcV12_163 (Or.inl rfl) rfl X656 f19 rfl rfl rfl (Nat.le_of_ble_eq_true rfl) zzm194 (Nat.le_of_ble_eq_true rfl) rfl ?_
          refine z_xP zt194 0 2 [some (.ref 19)] [.ref 19, .ref 19] rfl rfl ?_
          refine z_xgv zt194 1 rfl zo194 zzf12_136 X656 f19 (by decide) h659 ?_
          refine z_xZ zt194 2 rfl rfl (fun (h720 : 0 ≤ x660.toInt) => absurd h720 (by omega)) (fun (h720 : x660.toInt < 0) => ?_)
          refine z_xP zt194 3 9 [some (.ref 19)] [.ref 19, .ref 19] rfl rfl ?_
          refine z_xgv zt194 4 rfl zo194 zzf12_123 X656 f19 (by decide) h658 ?_
          refine z_xP zt194 5 19 [some (.ref 19)] [.int x653, .ref 19] rfl rfl ?_
          refine z_xpf zt194 8 rfl zo194 zzf12_136 X656 f19 (by decide) (by decide) ⟨Int32.le_toInt _, Int32.toInt_le _⟩ rfl (by decide) zw12_26 (fun M721 X722 e723 h724 => ?_)
          refine z_xP zt194 9 23 [some (.ref 19)] [.int 0] rfl rfl ?_
          refine z_xrz zt194 10 rfl zzr194 (by decide) (by decide) ?_
          show z_ev (d + 972) 196 118 [some (.ref 19), some (.int x644), some (.int 0), none] [.int 0] M721 _
          refine z_xP zt196 51 119 [some (.ref 19), some (.int x644), some (.int 0), some (.int 0)] [] rfl rfl ?_
          have h725 := (e723.f f19 (by decide) h658)
          exact z_xrv zt196 52 rfl zzr196 (kk M721 X722 (z_OT.ke (z_OT.ke z_OT.refl X.1 e657 rfl) X.1 e723 rfl) x653 h725 ⟨by omega, by omega⟩ (by omega))
        refine z_xP zt196 31 76 [some (.ref 19), some (.int x644), some (.int 0), none] [.int 101, .int x644] rfl rfl ?_
        refine z_xJ zt196 32 rfl rfl (fun (h726 : x644.toInt = 101) => ?_) (fun (h726 : x644.toInt ≠ 101) => ?_)
        · skip
          refine z_xP zt196 35 86 [some (.ref 19), some (.int x644), some (.int 0), none] [.int 0] rfl rfl ?_
          refine z_xZ zt196 36 rfl rfl (fun (h727 : (0 : Int) = 0) => ?_) (fun (h727 : (0 : Int) ≠ 0) => absurd h727 (by omega))
          refine z_xP zt196 41 97 [some (.ref 19), some (.int x644), some (.int 0), none] [.ref 19, .ref 19] rfl rfl ?_
          refine z_xgv zt196 42 rfl zo196 zzf12_123 X f19 (by decide) hz0 ?_
          refine z_xP zt196 43 101 [some (.ref 19), some (.int x644), some (.int 0), none] [.int 1, .int zp0, .ref 19] rfl rfl ?_
          refine z_xI zt196 44 rfl rfl (fun (x728 : Int32) (h729 : x728.toInt = zp0.toInt + 1) => ?_) (z_pAdd rfl rfl (by omega) (by omega))
          refine z_xpf zt196 45 rfl zo196 zzf12_123 X f19 (by decide) (by decide) ⟨by omega, by omega⟩ rfl (by decide) zw12_24 (fun M730 X731 e732 h733 => ?_)
          refine z_xP zt196 46 108 [some (.ref 19), some (.int x644), some (.int 0), none] [.int 32, .ref 19] rfl rfl ?_
          refine z_xcV (vs := [.ref 19, .int 32]) (r := []) (L2 := [some (.ref 19), some (.int 32)]) zt196 47 rfl zo196 zzcV12_147 (Or.inl rfl) rfl X731 f19 rfl rfl rfl (Nat.le_of_ble_eq_true rfl) zzm192 (Nat.le_of_ble_eq_true rfl) rfl ?_
          refine z_xP zt192 0 1 [some (.ref 19), some (.int 32)] [.ref 19] rfl rfl ?_
          refine z_xgI zt192 1 rfl zo192 zzf12_136 X731 f19 (by decide) (by decide) rfl (fun (x735 : Int32) h734 (h736 : (-2147483648) ≤ x735.toInt) (h737 : x735.toInt ≤ 2147483647) => ?_)
          refine z_xZ zt192 2 rfl rfl (fun (h738 : 0 ≤ x735.toInt) => ?_) (fun (h738 : x735.toInt < 0) => ?_)
          · skip
            refine z_xP zt192 7 16 [some (.ref 19), some (.int 32)] [.int 0] rfl rfl ?_
            refine z_xrz zt192 8 rfl zzr192 (by decide) (by decide) ?_
            show z_ev (d + 972) 196 111 [some (.ref 19), some (.int x644), some (.int 0), none] [.int 0] M730 _
            refine z_xZ zt196 48 rfl rfl (fun (h739 : (0 : Int) ≠ 0) => absurd h739 (by omega)) (fun (h739 : (0 : Int) = 0) => ?_)
            refine z_xP zt196 49 115 [some (.ref 19), some (.int x644), some (.int 0), none] [.ref 19] rfl rfl ?_
            refine z_xcV (vs := [.ref 19]) (r := []) (L2 := [some (.ref 19)]) zt196 50 rfl zo196 zzcV12_163 (Or.inl rfl) rfl X731 f19 rfl rfl rfl (Nat.le_of_ble_eq_true rfl) zzm194 (Nat.le_of_ble_eq_true rfl) rfl ?_
            refine z_xP zt194 0 2 [some (.ref 19)] [.ref 19, .ref 19] rfl rfl ?_
            refine z_xgv zt194 1 rfl zo194 zzf12_136 X731 f19 (by decide) h734 ?_
            refine z_xZ zt194 2 rfl rfl (fun (h740 : 0 ≤ x735.toInt) => ?_) (fun (h740 : x735.toInt < 0) => absurd h740 (by omega))
            refine z_xP zt194 6 16 [some (.ref 19)] [.ref 19, .ref 19] rfl rfl ?_
            refine z_xgv zt194 7 rfl zo194 zzf12_136 X731 f19 (by decide) h734 ?_
            refine z_xpf zt194 8 rfl zo194 zzf12_136 X731 f19 (by decide) (by decide) ⟨Int32.le_toInt _, Int32.toInt_le _⟩ rfl (by decide) zw12_26 (fun M741 X742 e743 h744 => ?_)
            refine z_xP zt194 9 23 [some (.ref 19)] [.int 0] rfl rfl ?_
            refine z_xrz zt194 10 rfl zzr194 (by decide) (by decide) ?_
            show z_ev (d + 972) 196 118 [some (.ref 19), some (.int x644), some (.int 0), none] [.int 0] M741 _
            refine z_xP zt196 51 119 [some (.ref 19), some (.int x644), some (.int 0), some (.int 0)] [] rfl rfl ?_
            have h745 := (e743.f f19 (by decide) h733)
            exact z_xrv zt196 52 rfl zzr196 (kk M741 X742 (z_OT.ke (z_OT.ke z_OT.refl X.1 e732 rfl) X.1 e743 rfl) x728 h745 ⟨by omega, by omega⟩ (by omega))
          refine z_xP zt192 3 8 [some (.ref 19), some (.int 32)] [.ref 19] rfl rfl ?_
          refine z_xcV (vs := [.ref 19]) (r := []) (L2 := [some (.ref 19)]) zt192 4 rfl zo192 zzcV12_139 (Or.inl rfl) rfl X731 f19 rfl rfl rfl (Nat.le_of_ble_eq_true rfl) zzm193 (Nat.le_of_ble_eq_true rfl) rfl ?_
          refine z_xP zt193 0 1 [some (.ref 19)] [.ref 19] rfl rfl ?_
          refine z_xgv zt193 1 rfl zo193 zzf12_123 X731 f19 (by decide) h733 ?_
          refine z_xP zt193 2 5 [some (.ref 19)] [.ref 19, .int x728] rfl rfl ?_
          have h746 := (e732.f f19 (by decide) h1)
          refine z_xgv zt193 3 rfl zo193 zzf12_126 X731 f19 (by decide) h746 ?_
          refine z_xJ zt193 4 rfl rfl (fun (h747 : x2.toInt ≤ x728.toInt) => ?_) (fun (h747 : x728.toInt < x2.toInt) => ?_)
          · skip
            refine z_xP zt193 24 52 [some (.ref 19)] [.int 0] rfl rfl ?_
            refine z_xri zt193 25 rfl zzr193 ?_
            show z_ev (d + 971) 192 11 [some (.ref 19), some (.int 32)] [.int 0] M730 _
            refine z_xP zt192 5 12 [some (.ref 19), some (.int 32)] [.int 32, .int 0] rfl rfl ?_
            refine z_xJ zt192 6 rfl rfl (fun (h748 : (0 : Int) = 32) => absurd h748 (by omega)) (fun (h748 : (0 : Int) ≠ 32) => ?_)
            refine z_xP zt192 7 16 [some (.ref 19), some (.int 32)] [.int 0] rfl rfl ?_
            refine z_xrz zt192 8 rfl zzr192 (by decide) (by decide) ?_
            show z_ev (d + 972) 196 111 [some (.ref 19), some (.int x644), some (.int 0), none] [.int 0] M730 _
            refine z_xZ zt196 48 rfl rfl (fun (h749 : (0 : Int) ≠ 0) => absurd h749 (by omega)) (fun (h749 : (0 : Int) = 0) => ?_)
            refine z_xP zt196 49 115 [some (.ref 19), some (.int x644), some (.int 0), none] [.ref 19] rfl rfl ?_
            refine z_xcV (vs := [.ref 19]) (r := []) (L2 := [some (.ref 19)]) zt196 50 rfl zo196 zzcV12_163 (Or.inl rfl) rfl X731 f19 rfl rfl rfl (Nat.le_of_ble_eq_true rfl) zzm194 (Nat.le_of_ble_eq_true rfl) rfl ?_
            refine z_xP zt194 0 2 [some (.ref 19)] [.ref 19, .ref 19] rfl rfl ?_
            refine z_xgv zt194 1 rfl zo194 zzf12_136 X731 f19 (by decide) h734 ?_
            refine z_xZ zt194 2 rfl rfl (fun (h750 : 0 ≤ x735.toInt) => absurd h750 (by omega)) (fun (h750 : x735.toInt < 0) => ?_)
            refine z_xP zt194 3 9 [some (.ref 19)] [.ref 19, .ref 19] rfl rfl ?_
            refine z_xgv zt194 4 rfl zo194 zzf12_123 X731 f19 (by decide) h733 ?_
            refine z_xP zt194 5 19 [some (.ref 19)] [.int x728, .ref 19] rfl rfl ?_
            refine z_xpf zt194 8 rfl zo194 zzf12_136 X731 f19 (by decide) (by decide) ⟨Int32.le_toInt _, Int32.toInt_le _⟩ rfl (by decide) zw12_26 (fun M751 X752 e753 h754 => ?_)
            refine z_xP zt194 9 23 [some (.ref 19)] [.int 0] rfl rfl ?_
            refine z_xrz zt194 10 rfl zzr194 (by decide) (by decide) ?_
            show z_ev (d + 972) 196 118 [some (.ref 19), some (.int x644), some (.int 0), none] [.int 0] M751 _
            refine z_xP zt196 51 119 [some (.ref 19), some (.int x644), some (.int 0), some (.int 0)] [] rfl rfl ?_
            have h755 := (e753.f f19 (by decide) h733)
            exact z_xrv zt196 52 rfl zzr196 (kk M751 X752 (z_OT.ke (z_OT.ke z_OT.refl X.1 e732 rfl) X.1 e753 rfl) x728 h755 ⟨by omega, by omega⟩ (by omega))
          refine z_xP zt193 5 12 [some (.ref 19)] [.ref 19] rfl rfl ?_
          have h756 := (e732.f f19 (by decide) h27)
          refine z_xgv zt193 6 rfl zo193 zzf12_129 X731 f19 (by decide) h756 ?_
          refine z_xZ zt193 7 rfl rfl (fun (h757 : x28.toInt = 0) => absurd h757 (by omega)) (fun (h757 : x28.toInt ≠ 0) => ?_)
          refine z_xP zt193 8 19 [some (.ref 19)] [.ref 19] rfl rfl ?_
          refine z_xgX (b := 20) zt193 9 rfl zo193 zzf12_9 X731 f19 (by decide) (by decide) rfl ?_
          refine z_xP zt193 10 23 [some (.ref 19)] [.ref 19, .ref 20] rfl rfl ?_
          refine z_xgv zt193 11 rfl zo193 zzf12_123 X731 f19 (by decide) h733 ?_
          refine z_xil zt193 12 rfl X731 f20 (by decide) (by omega) (by omega) (fun (x758 : Int32) h759 (h760 : (-2147483648) ≤ x758.toInt) (h761 : x758.toInt ≤ 2147483647) => ?_)
          refine z_xP zt193 13 52 [some (.ref 19)] [.int x758] rfl rfl ?_
          refine z_xri zt193 25 rfl zzr193 ?_
          show z_ev (d + 971) 192 11 [some (.ref 19), some (.int 32)] [.int x758] M730 _
          refine z_xP zt192 5 12 [some (.ref 19), some (.int 32)] [.int 32, .int x758] rfl rfl ?_
          refine z_xJ zt192 6 rfl rfl (fun (h762 : x758.toInt = 32) => ?_) (fun (h762 : x758.toInt ≠ 32) => ?_)
          · skip
            refine z_xP zt192 9 19 [some (.ref 19), some (.int 32)] [.ref 19, .ref 19] rfl rfl ?_
            refine z_xgv zt192 10 rfl zo192 zzf12_123 X731 f19 (by decide) h733 ?_
            refine z_xP zt192 11 23 [some (.ref 19), some (.int 32)] [.int 1, .int x728, .ref 19] rfl rfl ?_
            refine z_xI zt192 12 rfl rfl (fun (x763 : Int32) (h764 : x763.toInt = x728.toInt + 1) => ?_) (z_pAdd rfl rfl (by omega) (by omega))
            refine z_xpf zt192 13 rfl zo192 zzf12_123 X731 f19 (by decide) (by decide) ⟨by omega, by omega⟩ rfl (by decide) zw12_24 (fun M765 X766 e767 h768 => ?_)
            refine z_xP zt192 14 28 [some (.ref 19), some (.int 32)] [.int 1] rfl rfl ?_
            refine z_xrz zt192 15 rfl zzr192 (by decide) (by decide) ?_
            show z_ev (d + 972) 196 111 [some (.ref 19), some (.int x644), some (.int 0), none] [.int 1] M765 _
            refine z_xZ zt196 48 rfl rfl (fun (h769 : (1 : Int) ≠ 0) => ?_) (fun (h769 : (1 : Int) = 0) => absurd h769 (by omega))
            refine z_xP zt196 53 123 [some (.ref 19), some (.int x644), some (.int 0), none] [.int 112, .int x644] rfl rfl ?_
            refine z_xJ zt196 54 rfl rfl (fun (h770 : x644.toInt ≠ 112) => ?_) (fun (h770 : x644.toInt = 112) => absurd h770 (by omega))
            refine z_xP zt196 63 145 [some (.ref 19), some (.int x644), some (.int 0), none] [.int 101, .int x644] rfl rfl ?_
            refine z_xJ zt196 64 rfl rfl (fun (h771 : x644.toInt ≠ 101) => absurd h771 (by omega)) (fun (h771 : x644.toInt = 101) => ?_)
            refine z_xP zt196 65 149 [some (.ref 19), some (.int x644), some (.int 0), none] [.ref 19] rfl rfl ?_
            refine z_xgX (b := 28) zt196 66 rfl zo196 zzf12_34 X766 f19 (by decide) (by decide) rfl ?_
            refine z_xP zt196 67 153 [some (.ref 19), some (.int x644), some (.int 0), none] [.ref 19, .ref 28] rfl rfl ?_
            refine z_xgI zt196 68 rfl zo196 zzf12_133 X766 f19 (by decide) (by decide) rfl (fun (x773 : Int32) h772 (h774 : 0 ≤ x773.toInt) (h775 : x773.toInt ≤ 7) => ?_)
            refine z_xP zt196 69 157 [some (.ref 19), some (.int x644), some (.int 0), none] [.ref 19, .int x773, .ref 28] rfl rfl ?_
            refine z_xcV (vs := [.ref 19]) (r := [.int x773, .ref 28]) (L2 := [some (.ref 19), none, none, none, none]) zt196 70 rfl zo196 zzcV12_190 (Or.inl rfl) rfl X766 f19 rfl rfl rfl (Nat.le_of_ble_eq_true rfl) zzm197 (Nat.le_of_ble_eq_true rfl) rfl ?_
            refine zC197 X766.1 h768 ⟨by omega, by omega⟩ (z_GL.go hL X766 (by decide)) (fun x782 M776 X777 h783 h784 z778 h779 h780 h781 => ?_)
            have X785 := X766.go X777 (z_sb (by decide))
            show z_ev (d + 972) 196 160 [some (.ref 19), some (.int x644), some (.int 0), none] [.int x782, .int x773, .ref 28] M776 _
            have f28 : T[28]? = some (.inr (28, 0, 8, (-2147483648), 2147483647)) := X785.1.k rfl (by decide)
            refine z_xis zt196 71 rfl X785 f28 (by decide) (by decide) (by omega) (by omega) (Int32.le_toInt _) (Int32.toInt_le _) (by decide) (fun M787 X788 e789 h790 => ?_)
            have h793 := (e789.f f19 (by decide) (X777.2.f f19 (by decide) h772))
            have q792 := (z_OTA h793 ((e789.1 19 12 0 0 0 0 22 f19 (by decide)).trans ((X777.2.1 19 12 0 0 0 0 22 f19 (by decide)).trans ((e767.1 19 12 0 0 0 0 22 f19 (by decide)).trans (e732.1 19 12 0 0 0 0 22 f19 (by decide))))).symm)
            have o791 := z_OT.st (A := (z_Fv M0 19 22).toInt) (z_OT.ke (z_OT.ke (z_OT.ke z_OT.refl X.1 e732 rfl) X.1 e767 rfl) X.1 X777.2 rfl) X.1 e789 h790 (r := 28) (by decide) (fun _ => by omega) (fun h => absurd h (by decide))
            refine z_xP zt196 72 208 [some (.ref 19), some (.int x644), some (.int 0), none] [] rfl rfl ?_
            have h794 := (e789.f f19 (by decide) h779)
            exact z_xrv zt196 99 rfl zzr196 (kk M787 X788 o791 z778 h794 ⟨by omega, by omega⟩ (by omega))
          refine z_xP zt192 7 16 [some (.ref 19), some (.int 32)] [.int 0] rfl rfl ?_
          refine z_xrz zt192 8 rfl zzr192 (by decide) (by decide) ?_
          show z_ev (d + 972) 196 111 [some (.ref 19), some (.int x644), some (.int 0), none] [.int 0] M730 _
          refine z_xZ zt196 48 rfl rfl (fun (h795 : (0 : Int) ≠ 0) => absurd h795 (by omega)) (fun (h795 : (0 : Int) = 0) => ?_)
          refine z_xP zt196 49 115 [some (.ref 19), some (.int x644), some (.int 0), none] [.ref 19] rfl rfl ?_
          refine z_xcV (vs := [.ref 19]) (r := []) (L2 := [some (.ref 19)]) zt196 50 rfl zo196 zzcV12_163 (Or.inl rfl) rfl X731 f19 rfl rfl rfl (Nat.le_of_ble_eq_true rfl) zzm194 (Nat.le_of_ble_eq_true rfl) rfl ?_
          refine z_xP zt194 0 2 [some (.ref 19)] [.ref 19, .ref 19] rfl rfl ?_
          refine z_xgv zt194 1 rfl zo194 zzf12_136 X731 f19 (by decide) h734 ?_
          refine z_xZ zt194 2 rfl rfl (fun (h796 : 0 ≤ x735.toInt) => absurd h796 (by omega)) (fun (h796 : x735.toInt < 0) => ?_)
          refine z_xP zt194 3 9 [some (.ref 19)] [.ref 19, .ref 19] rfl rfl ?_
          refine z_xgv zt194 4 rfl zo194 zzf12_123 X731 f19 (by decide) h733 ?_
          refine z_xP zt194 5 19 [some (.ref 19)] [.int x728, .ref 19] rfl rfl ?_
          refine z_xpf zt194 8 rfl zo194 zzf12_136 X731 f19 (by decide) (by decide) ⟨Int32.le_toInt _, Int32.toInt_le _⟩ rfl (by decide) zw12_26 (fun M797 X798 e799 h800 => ?_)
          refine z_xP zt194 9 23 [some (.ref 19)] [.int 0] rfl rfl ?_
          refine z_xrz zt194 10 rfl zzr194 (by decide) (by decide) ?_
          show z_ev (d + 972) 196 118 [some (.ref 19), some (.int x644), some (.int 0), none] [.int 0] M797 _
          refine z_xP zt196 51 119 [some (.ref 19), some (.int x644), some (.int 0), some (.int 0)] [] rfl rfl ?_
          have h801 := (e799.f f19 (by decide) h733)
          exact z_xrv zt196 52 rfl zzr196 (kk M797 X798 (z_OT.ke (z_OT.ke z_OT.refl X.1 e732 rfl) X.1 e799 rfl) x728 h801 ⟨by omega, by omega⟩ (by omega))
        refine z_xP zt196 33 82 [some (.ref 19), some (.int x644), some (.int 0), none] [.int 116, .int x644] rfl rfl ?_
        refine z_xJ zt196 34 rfl rfl (fun (h802 : x644.toInt ≠ 116) => ?_) (fun (h802 : x644.toInt = 116) => ?_)
        · skip
          refine z_xP zt196 37 90 [some (.ref 19), some (.int x644), some (.int 0), none] [.ref 19] rfl rfl ?_
          refine z_xcV (vs := [.ref 19]) (r := []) (L2 := [some (.ref 19)]) zt196 38 rfl zo196 zzcV12_163 (Or.inl rfl) rfl X f19 rfl rfl rfl (Nat.le_of_ble_eq_true rfl) zzm194 (Nat.le_of_ble_eq_true rfl) rfl ?_
          refine z_xP zt194 0 2 [some (.ref 19)] [.ref 19, .ref 19] rfl rfl ?_
          refine z_xgI zt194 1 rfl zo194 zzf12_136 X f19 (by decide) (by decide) rfl (fun (x804 : Int32) h803 (h805 : (-2147483648) ≤ x804.toInt) (h806 : x804.toInt ≤ 2147483647) => ?_)
          refine z_xZ zt194 2 rfl rfl (fun (h807 : 0 ≤ x804.toInt) => ?_) (fun (h807 : x804.toInt < 0) => ?_)
          · skip
            refine z_xP zt194 6 16 [some (.ref 19)] [.ref 19, .ref 19] rfl rfl ?_
            refine z_xgv zt194 7 rfl zo194 zzf12_136 X f19 (by decide) h803 ?_
            refine z_xpf zt194 8 rfl zo194 zzf12_136 X f19 (by decide) (by decide) ⟨Int32.le_toInt _, Int32.toInt_le _⟩ rfl (by decide) zw12_26 (fun M808 X809 e810 h811 => ?_)
            refine z_xP zt194 9 23 [some (.ref 19)] [.int 0] rfl rfl ?_
            refine z_xrz zt194 10 rfl zzr194 (by decide) (by decide) ?_
            show z_ev (d + 972) 196 93 [some (.ref 19), some (.int x644), some (.int 0), none] [.int 0] M808 _
            refine z_xP zt196 39 94 [some (.ref 19), some (.int x644), some (.int 0), some (.int 0)] [] rfl rfl ?_
            have h812 := (e810.f f19 (by decide) hz0)
            exact z_xrv zt196 40 rfl zzr196 (kk M808 X809 (z_OT.ke z_OT.refl X.1 e810 rfl) zp0 h812 ⟨by omega, by omega⟩ (by omega))
          refine z_xP zt194 3 9 [some (.ref 19)] [.ref 19, .ref 19] rfl rfl ?_
          refine z_xgv zt194 4 rfl zo194 zzf12_123 X f19 (by decide) hz0 ?_
          refine z_xP zt194 5 19 [some (.ref 19)] [.int zp0, .ref 19] rfl rfl ?_
          refine z_xpf zt194 8 rfl zo194 zzf12_136 X f19 (by decide) (by decide) ⟨Int32.le_toInt _, Int32.toInt_le _⟩ rfl (by decide) zw12_26 (fun M813 X814 e815 h816 => ?_)
          refine z_xP zt194 9 23 [some (.ref 19)] [.int 0] rfl rfl ?_
          refine z_xrz zt194 10 rfl zzr194 (by decide) (by decide) ?_
          show z_ev (d + 972) 196 93 [some (.ref 19), some (.int x644), some (.int 0), none] [.int 0] M813 _
          refine z_xP zt196 39 94 [some (.ref 19), some (.int x644), some (.int 0), some (.int 0)] [] rfl rfl ?_
          have h817 := (e815.f f19 (by decide) hz0)
          exact z_xrv zt196 40 rfl zzr196 (kk M813 X814 (z_OT.ke z_OT.refl X.1 e815 rfl) zp0 h817 ⟨by omega, by omega⟩ (by omega))
        refine z_xP zt196 35 86 [some (.ref 19), some (.int x644), some (.int 0), none] [.int 0] rfl rfl ?_
        refine z_xZ zt196 36 rfl rfl (fun (h818 : (0 : Int) = 0) => ?_) (fun (h818 : (0 : Int) ≠ 0) => absurd h818 (by omega))
        refine z_xP zt196 41 97 [some (.ref 19), some (.int x644), some (.int 0), none] [.ref 19, .ref 19] rfl rfl ?_
        refine z_xgv zt196 42 rfl zo196 zzf12_123 X f19 (by decide) hz0 ?_
        refine z_xP zt196 43 101 [some (.ref 19), some (.int x644), some (.int 0), none] [.int 1, .int zp0, .ref 19] rfl rfl ?_
        refine z_xI zt196 44 rfl rfl (fun (x819 : Int32) (h820 : x819.toInt = zp0.toInt + 1) => ?_) (z_pAdd rfl rfl (by omega) (by omega))
        refine z_xpf zt196 45 rfl zo196 zzf12_123 X f19 (by decide) (by decide) ⟨by omega, by omega⟩ rfl (by decide) zw12_24 (fun M821 X822 e823 h824 => ?_)
        refine z_xP zt196 46 108 [some (.ref 19), some (.int x644), some (.int 0), none] [.int 32, .ref 19] rfl rfl ?_
        refine z_xcV (vs := [.ref 19, .int 32]) (r := []) (L2 := [some (.ref 19), some (.int 32)]) zt196 47 rfl zo196 zzcV12_147 (Or.inl rfl) rfl X822 f19 rfl rfl rfl (Nat.le_of_ble_eq_true rfl) zzm192 (Nat.le_of_ble_eq_true rfl) rfl ?_
        refine z_xP zt192 0 1 [some (.ref 19), some (.int 32)] [.ref 19] rfl rfl ?_
        refine z_xgI zt192 1 rfl zo192 zzf12_136 X822 f19 (by decide) (by decide) rfl (fun (x826 : Int32) h825 (h827 : (-2147483648) ≤ x826.toInt) (h828 : x826.toInt ≤ 2147483647) => ?_)
        refine z_xZ zt192 2 rfl rfl (fun (h829 : 0 ≤ x826.toInt) => ?_) (fun (h829 : x826.toInt < 0) => ?_)
        · skip
          refine z_xP zt192 7 16 [some (.ref 19), some (.int 32)] [.int 0] rfl rfl ?_
          refine z_xrz zt192 8 rfl zzr192 (by decide) (by decide) ?_
          show z_ev (d + 972) 196 111 [some (.ref 19), some (.int x644), some (.int 0), none] [.int 0] M821 _
          refine z_xZ zt196 48 rfl rfl (fun (h830 : (0 : Int) ≠ 0) => absurd h830 (by omega)) (fun (h830 : (0 : Int) = 0) => ?_)
          refine z_xP zt196 49 115 [some (.ref 19), some (.int x644), some (.int 0), none] [.ref 19] rfl rfl ?_
          refine z_xcV (vs := [.ref 19]) (r := []) (L2 := [some (.ref 19)]) zt196 50 rfl zo196 zzcV12_163 (Or.inl rfl) rfl X822 f19 rfl rfl rfl (Nat.le_of_ble_eq_true rfl) zzm194 (Nat.le_of_ble_eq_true rfl) rfl ?_
          refine z_xP zt194 0 2 [some (.ref 19)] [.ref 19, .ref 19] rfl rfl ?_
          refine z_xgv zt194 1 rfl zo194 zzf12_136 X822 f19 (by decide) h825 ?_
          refine z_xZ zt194 2 rfl rfl (fun (h831 : 0 ≤ x826.toInt) => ?_) (fun (h831 : x826.toInt < 0) => absurd h831 (by omega))
          refine z_xP zt194 6 16 [some (.ref 19)] [.ref 19, .ref 19] rfl rfl ?_
          refine z_xgv zt194 7 rfl zo194 zzf12_136 X822 f19 (by decide) h825 ?_
          refine z_xpf zt194 8 rfl zo194 zzf12_136 X822 f19 (by decide) (by decide) ⟨Int32.le_toInt _, Int32.toInt_le _⟩ rfl (by decide) zw12_26 (fun M832 X833 e834 h835 => ?_)
          refine z_xP zt194 9 23 [some (.ref 19)] [.int 0] rfl rfl ?_
          refine z_xrz zt194 10 rfl zzr194 (by decide) (by decide) ?_
          show z_ev (d + 972) 196 118 [some (.ref 19), some (.int x644), some (.int 0), none] [.int 0] M832 _
          refine z_xP zt196 51 119 [some (.ref 19), some (.int x644), some (.int 0), some (.int 0)] [] rfl rfl ?_
          have h836 := (e834.f f19 (by decide) h824)
          exact z_xrv zt196 52 rfl zzr196 (kk M832 X833 (z_OT.ke (z_OT.ke z_OT.refl X.1 e823 rfl) X.1 e834 rfl) x819 h836 ⟨by omega, by omega⟩ (by omega))
        refine z_xP zt192 3 8 [some (.ref 19), some (.int 32)] [.ref 19] rfl rfl ?_
        refine z_xcV (vs := [.ref 19]) (r := []) (L2 := [some (.ref 19)]) zt192 4 rfl zo192 zzcV12_139 (Or.inl rfl) rfl X822 f19 rfl rfl rfl (Nat.le_of_ble_eq_true rfl) zzm193 (Nat.le_of_ble_eq_true rfl) rfl ?_
        refine z_xP zt193 0 1 [some (.ref 19)] [.ref 19] rfl rfl ?_
        refine z_xgv zt193 1 rfl zo193 zzf12_123 X822 f19 (by decide) h824 ?_
        refine z_xP zt193 2 5 [some (.ref 19)] [.ref 19, .int x819] rfl rfl ?_
        have h837 := (e823.f f19 (by decide) h1)
        refine z_xgv zt193 3 rfl zo193 zzf12_126 X822 f19 (by decide) h837 ?_
        refine z_xJ zt193 4 rfl rfl (fun (h838 : x2.toInt ≤ x819.toInt) => ?_) (fun (h838 : x819.toInt < x2.toInt) => ?_)
        · skip
          refine z_xP zt193 24 52 [some (.ref 19)] [.int 0] rfl rfl ?_
          refine z_xri zt193 25 rfl zzr193 ?_
          show z_ev (d + 971) 192 11 [some (.ref 19), some (.int 32)] [.int 0] M821 _
          refine z_xP zt192 5 12 [some (.ref 19), some (.int 32)] [.int 32, .int 0] rfl rfl ?_
          refine z_xJ zt192 6 rfl rfl (fun (h839 : (0 : Int) = 32) => absurd h839 (by omega)) (fun (h839 : (0 : Int) ≠ 32) => ?_)
          refine z_xP zt192 7 16 [some (.ref 19), some (.int 32)] [.int 0] rfl rfl ?_
          refine z_xrz zt192 8 rfl zzr192 (by decide) (by decide) ?_
          show z_ev (d + 972) 196 111 [some (.ref 19), some (.int x644), some (.int 0), none] [.int 0] M821 _
          refine z_xZ zt196 48 rfl rfl (fun (h840 : (0 : Int) ≠ 0) => absurd h840 (by omega)) (fun (h840 : (0 : Int) = 0) => ?_)
          refine z_xP zt196 49 115 [some (.ref 19), some (.int x644), some (.int 0), none] [.ref 19] rfl rfl ?_
          refine z_xcV (vs := [.ref 19]) (r := []) (L2 := [some (.ref 19)]) zt196 50 rfl zo196 zzcV12_163 (Or.inl rfl) rfl X822 f19 rfl rfl rfl (Nat.le_of_ble_eq_true rfl) zzm194 (Nat.le_of_ble_eq_true rfl) rfl ?_
          refine z_xP zt194 0 2 [some (.ref 19)] [.ref 19, .ref 19] rfl rfl ?_
          refine z_xgv zt194 1 rfl zo194 zzf12_136 X822 f19 (by decide) h825 ?_
          refine z_xZ zt194 2 rfl rfl (fun (h841 : 0 ≤ x826.toInt) => absurd h841 (by omega)) (fun (h841 : x826.toInt < 0) => ?_)
          refine z_xP zt194 3 9 [some (.ref 19)] [.ref 19, .ref 19] rfl rfl ?_
          refine z_xgv zt194 4 rfl zo194 zzf12_123 X822 f19 (by decide) h824 ?_
          refine z_xP zt194 5 19 [some (.ref 19)] [.int x819, .ref 19] rfl rfl ?_
          refine z_xpf zt194 8 rfl zo194 zzf12_136 X822 f19 (by decide) (by decide) ⟨Int32.le_toInt _, Int32.toInt_le _⟩ rfl (by decide) zw12_26 (fun M842 X843 e844 h845 => ?_)
          refine z_xP zt194 9 23 [some (.ref 19)] [.int 0] rfl rfl ?_
          refine z_xrz zt194 10 rfl zzr194 (by decide) (by decide) ?_
          show z_ev (d + 972) 196 118 [some (.ref 19), some (.int x644), some (.int 0), none] [.int 0] M842 _
          refine z_xP zt196 51 119 [some (.ref 19), some (.int x644), some (.int 0), some (.int 0)] [] rfl rfl ?_
          have h846 := (e844.f f19 (by decide) h824)
          exact z_xrv zt196 52 rfl zzr196 (kk M842 X843 (z_OT.ke (z_OT.ke z_OT.refl X.1 e823 rfl) X.1 e844 rfl) x819 h846 ⟨by omega, by omega⟩ (by omega))
        refine z_xP zt193 5 12 [some (.ref 19)] [.ref 19] rfl rfl ?_
        have h847 := (e823.f f19 (by decide) h27)
        refine z_xgv zt193 6 rfl zo193 zzf12_129 X822 f19 (by decide) h847 ?_
        refine z_xZ zt193 7 rfl rfl (fun (h848 : x28.toInt = 0) => absurd h848 (by omega)) (fun (h848 : x28.toInt ≠ 0) => ?_)
        refine z_xP zt193 8 19 [some (.ref 19)] [.ref 19] rfl rfl ?_
        refine z_xgX (b := 20) zt193 9 rfl zo193 zzf12_9 X822 f19 (by decide) (by decide) rfl ?_
        refine z_xP zt193 10 23 [some (.ref 19)] [.ref 19, .ref 20] rfl rfl ?_
        refine z_xgv zt193 11 rfl zo193 zzf12_123 X822 f19 (by decide) h824 ?_
        refine z_xil zt193 12 rfl X822 f20 (by decide) (by omega) (by omega) (fun (x849 : Int32) h850 (h851 : (-2147483648) ≤ x849.toInt) (h852 : x849.toInt ≤ 2147483647) => ?_)
        refine z_xP zt193 13 52 [some (.ref 19)] [.int x849] rfl rfl ?_
        refine z_xri zt193 25 rfl zzr193 ?_
        show z_ev (d + 971) 192 11 [some (.ref 19), some (.int 32)] [.int x849] M821 _
        refine z_xP zt192 5 12 [some (.ref 19), some (.int 32)] [.int 32, .int x849] rfl rfl ?_
        refine z_xJ zt192 6 rfl rfl (fun (h853 : x849.toInt = 32) => ?_) (fun (h853 : x849.toInt ≠ 32) => ?_)
        · skip
          refine z_xP zt192 9 19 [some (.ref 19), some (.int 32)] [.ref 19, .ref 19] rfl rfl ?_
          refine z_xgv zt192 10 rfl zo192 zzf12_123 X822 f19 (by decide) h824 ?_
          refine z_xP zt192 11 23 [some (.ref 19), some (.int 32)] [.int 1, .int x819, .ref 19] rfl rfl ?_
          refine z_xI zt192 12 rfl rfl (fun (x854 : Int32) (h855 : x854.toInt = x819.toInt + 1) => ?_) (z_pAdd rfl rfl (by omega) (by omega))
          refine z_xpf zt192 13 rfl zo192 zzf12_123 X822 f19 (by decide) (by decide) ⟨by omega, by omega⟩ rfl (by decide) zw12_24 (fun M856 X857 e858 h859 => ?_)
          refine z_xP zt192 14 28 [some (.ref 19), some (.int 32)] [.int 1] rfl rfl ?_
          refine z_xrz zt192 15 rfl zzr192 (by decide) (by decide) ?_
          show z_ev (d + 972) 196 111 [some (.ref 19), some (.int x644), some (.int 0), none] [.int 1] M856 _
          refine z_xZ zt196 48 rfl rfl (fun (h860 : (1 : Int) ≠ 0) => ?_) (fun (h860 : (1 : Int) = 0) => absurd h860 (by omega))
          refine z_xP zt196 53 123 [some (.ref 19), some (.int x644), some (.int 0), none] [.int 112, .int x644] rfl rfl ?_
          refine z_xJ zt196 54 rfl rfl (fun (h861 : x644.toInt ≠ 112) => ?_) (fun (h861 : x644.toInt = 112) => absurd h861 (by omega))
          refine z_xP zt196 63 145 [some (.ref 19), some (.int x644), some (.int 0), none] [.int 101, .int x644] rfl rfl ?_
          refine z_xJ zt196 64 rfl rfl (fun (h862 : x644.toInt ≠ 101) => ?_) (fun (h862 : x644.toInt = 101) => absurd h862 (by omega))
          refine z_xP zt196 73 165 [some (.ref 19), some (.int x644), some (.int 0), none] [.ref 19] rfl rfl ?_
          refine z_xgX (b := 26) zt196 74 rfl zo196 zzf12_28 X857 f19 (by decide) (by decide) rfl ?_
          refine z_xP zt196 75 171 [some (.ref 19), some (.int x644), some (.int 0), none] [.ref 19, .int 8, .ref 26] rfl rfl ?_
          refine z_xgI zt196 76 rfl zo196 zzf12_133 X857 f19 (by decide) (by decide) rfl (fun (x864 : Int32) h863 (h865 : 0 ≤ x864.toInt) (h866 : x864.toInt ≤ 7) => ?_)
          refine z_xI zt196 77 rfl rfl (fun (x867 : Int32) (h868 : x867.toInt = 8 * x864.toInt) => ?_) (z_pMul rfl rfl (by omega) (by omega))
          refine z_xP zt196 78 176 [some (.ref 19), some (.int x644), some (.int 0), none] [.ref 19, .int x867, .ref 26] rfl rfl ?_
          refine z_xgX (b := 25) zt196 79 rfl zo196 zzf12_25 X857 f19 (by decide) (by decide) rfl ?_
          refine z_xP zt196 80 180 [some (.ref 19), some (.int x644), some (.int 0), none] [.ref 19, .ref 25, .int x867, .ref 26] rfl rfl ?_
          refine z_xgv zt196 81 rfl zo196 zzf12_133 X857 f19 (by decide) h863 ?_
          have f25 : T[25]? = some (.inr (25, 0, 8, 0, 8)) := X857.1.k rfl (by decide)
          refine z_xil zt196 82 rfl X857 f25 (by decide) (by omega) (by omega) (fun (x869 : Int32) h870 (h871 : 0 ≤ x869.toInt) (h872 : x869.toInt ≤ 8) => ?_)
          refine z_xI zt196 83 rfl rfl (fun (x873 : Int32) (h874 : x873.toInt = x867.toInt + x869.toInt) => ?_) (z_pAdd rfl rfl (by omega) (by omega))
          refine z_xP zt196 84 186 [some (.ref 19), some (.int x644), some (.int 0), none] [.ref 19, .int x873, .ref 26] rfl rfl ?_
          refine z_xgv zt196 85 rfl zo196 zzf12_123 X857 f19 (by decide) h859 ?_
          have f26 : T[26]? = some (.inr (26, 0, 64, 0, 160)) := X857.1.k rfl (by decide)
          refine z_xis zt196 86 rfl X857 f26 (by decide) (by decide) (by omega) (by omega) (by omega) (by omega) (by decide) (fun M875 X876 e877 h878 => ?_)
          refine z_xP zt196 87 191 [some (.ref 19), some (.int x644), some (.int 0), none] [.ref 19] rfl rfl ?_
          refine z_xgX (b := 25) zt196 88 rfl zo196 zzf12_25 X876 f19 (by decide) (by decide) rfl ?_
          refine z_xP zt196 89 195 [some (.ref 19), some (.int x644), some (.int 0), none] [.ref 19, .ref 25] rfl rfl ?_
          have h879 := (e877.f f19 (by decide) h863)
          refine z_xgv zt196 90 rfl zo196 zzf12_133 X876 f19 (by decide) h879 ?_
          refine z_xP zt196 91 199 [some (.ref 19), some (.int x644), some (.int 0), none] [.int x864, .ref 25, .int x864, .ref 25] rfl rfl ?_
          refine z_xil zt196 92 rfl X876 f25 (by decide) (by omega) (by omega) (fun (x880 : Int32) h881 (h882 : 0 ≤ x880.toInt) (h883 : x880.toInt ≤ 8) => ?_)
          have h884 := congrArg Int32.toInt (h881.symm.trans ((congrFun (e877.a f25 (by decide)) _).trans h870))
          refine z_xP zt196 93 201 [some (.ref 19), some (.int x644), some (.int 0), none] [.int 1, .int x880, .int x864, .ref 25] rfl rfl ?_
          refine z_xI zt196 94 rfl rfl (fun (x885 : Int32) (h886 : x885.toInt = x880.toInt + 1) => ?_) (z_pAdd rfl rfl (by omega) (by omega))
          refine z_xis zt196 95 rfl X876 f25 (by decide) (by decide) (by omega) (by omega) (by omega) (by omega) (by decide) (fun M887 X888 e889 h890 => ?_)
          have h893 := (e889.f f19 (by decide) h879)
          have q892 := (z_OTA h893 ((e889.1 19 12 0 0 0 0 22 f19 (by decide)).trans ((e877.1 19 12 0 0 0 0 22 f19 (by decide)).trans ((e858.1 19 12 0 0 0 0 22 f19 (by decide)).trans (e823.1 19 12 0 0 0 0 22 f19 (by decide))))).symm)
          have o891 := z_OT.st (A := (z_Fv M0 19 22).toInt) (z_OT.ke (z_OT.ke (z_OT.ke z_OT.refl X.1 e823 rfl) X.1 e858 rfl) X.1 e877 rfl) X.1 e889 h890 (r := 25) (by decide) (fun _ => by omega) (fun h => absurd h (by decide))
          refine z_xP zt196 96 204 [some (.ref 19), some (.int x644), some (.int 0), none] [.ref 19] rfl rfl ?_
          refine z_xcV (vs := [.ref 19]) (r := []) (L2 := [some (.ref 19), none, none]) zt196 97 rfl zo196 zzcV12_169 (Or.inl rfl) rfl X888 f19 rfl rfl rfl (Nat.le_of_ble_eq_true rfl) zzm198 (Nat.le_of_ble_eq_true rfl) rfl ?_
          have h894 := (e889.f f19 (by decide) (e877.f f19 (by decide) h859))
          refine zC198 X888.1 h894 ⟨by omega, by omega⟩ (z_GL.go hL X888 (by decide)) (fun x901 M895 X896 h902 h903 z897 h898 h899 h900 => ?_)
          have X904 := X888.go X896 (z_sb (by decide))
          show z_ev (d + 972) 196 207 [some (.ref 19), some (.int x644), some (.int 0), none] [.int x901] M895 _
          refine z_xP zt196 98 208 [some (.ref 19), some (.int x644), some (.int 0), some (.int x901)] [] rfl rfl ?_
          exact z_xrv zt196 99 rfl zzr196 (kk M895 X904 (z_OT.ke o891 X.1 X896.2 rfl) z897 h898 ⟨by omega, by omega⟩ (by omega))
        refine z_xP zt192 7 16 [some (.ref 19), some (.int 32)] [.int 0] rfl rfl ?_
        refine z_xrz zt192 8 rfl zzr192 (by decide) (by decide) ?_
        show z_ev (d + 972) 196 111 [some (.ref 19), some (.int x644), some (.int 0), none] [.int 0] M821 _
        refine z_xZ zt196 48 rfl rfl (fun (h906 : (0 : Int) ≠ 0) => absurd h906 (by omega)) (fun (h906 : (0 : Int) = 0) => ?_)
        refine z_xP zt196 49 115 [some (.ref 19), some (.int x644), some (.int 0), none] [.ref 19] rfl rfl ?_
        refine z_xcV (vs := [.ref 19]) (r := []) (L2 := [some (.ref 19)]) zt196 50 rfl zo196 zzcV12_163 (Or.inl rfl) rfl X822 f19 rfl rfl rfl (Nat.le_of_ble_eq_true rfl) zzm194 (Nat.le_of_ble_eq_true rfl) rfl ?_
        refine z_xP zt194 0 2 [some (.ref 19)] [.ref 19, .ref 19] rfl rfl ?_
        refine z_xgv zt194 1 rfl zo194 zzf12_136 X822 f19 (by decide) h825 ?_
        refine z_xZ zt194 2 rfl rfl (fun (h907 : 0 ≤ x826.toInt) => absurd h907 (by omega)) (fun (h907 : x826.toInt < 0) => ?_)
        refine z_xP zt194 3 9 [some (.ref 19)] [.ref 19, .ref 19] rfl rfl ?_
        refine z_xgv zt194 4 rfl zo194 zzf12_123 X822 f19 (by decide) h824 ?_
        refine z_xP zt194 5 19 [some (.ref 19)] [.int x819, .ref 19] rfl rfl ?_
        refine z_xpf zt194 8 rfl zo194 zzf12_136 X822 f19 (by decide) (by decide) ⟨Int32.le_toInt _, Int32.toInt_le _⟩ rfl (by decide) zw12_26 (fun M908 X909 e910 h911 => ?_)
        refine z_xP zt194 9 23 [some (.ref 19)] [.int 0] rfl rfl ?_
        refine z_xrz zt194 10 rfl zzr194 (by decide) (by decide) ?_
        show z_ev (d + 972) 196 118 [some (.ref 19), some (.int x644), some (.int 0), none] [.int 0] M908 _
        refine z_xP zt196 51 119 [some (.ref 19), some (.int x644), some (.int 0), some (.int 0)] [] rfl rfl ?_
        have h912 := (e910.f f19 (by decide) h824)
        exact z_xrv zt196 52 rfl zzr196 (kk M908 X909 (z_OT.ke (z_OT.ke z_OT.refl X.1 e823 rfl) X.1 e910 rfl) x819 h912 ⟨by omega, by omega⟩ (by omega))
      refine z_xP zt196 20 48 [some (.ref 19), some (.int x644), none, none] [.ref 19] rfl rfl ?_
      refine z_xgX (b := 25) zt196 21 rfl zo196 zzf12_25 X f19 (by decide) (by decide) rfl ?_
      refine z_xP zt196 22 52 [some (.ref 19), some (.int x644), none, none] [.ref 19, .ref 25] rfl rfl ?_
      refine z_xgI zt196 23 rfl zo196 zzf12_133 X f19 (by decide) (by decide) rfl (fun (x914 : Int32) h913 (h915 : 0 ≤ x914.toInt) (h916 : x914.toInt ≤ 7) => ?_)
      have f25 : T[25]? = some (.inr (25, 0, 8, 0, 8)) := X.1.k rfl (by decide)
      refine z_xil zt196 24 rfl X f25 (by decide) (by omega) (by omega) (fun (x917 : Int32) h918 (h919 : 0 ≤ x917.toInt) (h920 : x917.toInt ≤ 8) => ?_)
      refine z_xP zt196 25 58 [some (.ref 19), some (.int x644), none, none] [.int 8, .int x917] rfl rfl ?_
      refine z_xJ zt196 26 rfl rfl (fun (h921 : x917.toInt ≠ 8) => ?_) (fun (h921 : x917.toInt = 8) => ?_)
      · skip
        refine z_xP zt196 28 66 [some (.ref 19), some (.int x644), none, none] [.int 0] rfl rfl ?_
        refine z_xP zt196 29 70 [some (.ref 19), some (.int x644), some (.int 0), none] [.int 112, .int x644] rfl rfl ?_
        refine z_xJ zt196 30 rfl rfl (fun (h922 : x644.toInt = 112) => absurd h922 (by omega)) (fun (h922 : x644.toInt ≠ 112) => ?_)
        refine z_xP zt196 31 76 [some (.ref 19), some (.int x644), some (.int 0), none] [.int 101, .int x644] rfl rfl ?_
        refine z_xJ zt196 32 rfl rfl (fun (h923 : x644.toInt = 101) => absurd h923 (by omega)) (fun (h923 : x644.toInt ≠ 101) => ?_)
        refine z_xP zt196 33 82 [some (.ref 19), some (.int x644), some (.int 0), none] [.int 116, .int x644] rfl rfl ?_
        refine z_xJ zt196 34 rfl rfl (fun (h924 : x644.toInt ≠ 116) => absurd h924 (by omega)) (fun (h924 : x644.toInt = 116) => ?_)
        refine z_xP zt196 35 86 [some (.ref 19), some (.int x644), some (.int 0), none] [.int 0] rfl rfl ?_
        refine z_xZ zt196 36 rfl rfl (fun (h925 : (0 : Int) = 0) => ?_) (fun (h925 : (0 : Int) ≠ 0) => absurd h925 (by omega))
        refine z_xP zt196 41 97 [some (.ref 19), some (.int x644), some (.int 0), none] [.ref 19, .ref 19] rfl rfl ?_
        refine z_xgv zt196 42 rfl zo196 zzf12_123 X f19 (by decide) hz0 ?_
        refine z_xP zt196 43 101 [some (.ref 19), some (.int x644), some (.int 0), none] [.int 1, .int zp0, .ref 19] rfl rfl ?_
        refine z_xI zt196 44 rfl rfl (fun (x926 : Int32) (h927 : x926.toInt = zp0.toInt + 1) => ?_) (z_pAdd rfl rfl (by omega) (by omega))
        refine z_xpf zt196 45 rfl zo196 zzf12_123 X f19 (by decide) (by decide) ⟨by omega, by omega⟩ rfl (by decide) zw12_24 (fun M928 X929 e930 h931 => ?_)
        refine z_xP zt196 46 108 [some (.ref 19), some (.int x644), some (.int 0), none] [.int 32, .ref 19] rfl rfl ?_
        refine z_xcV (vs := [.ref 19, .int 32]) (r := []) (L2 := [some (.ref 19), some (.int 32)]) zt196 47 rfl zo196 zzcV12_147 (Or.inl rfl) rfl X929 f19 rfl rfl rfl (Nat.le_of_ble_eq_true rfl) zzm192 (Nat.le_of_ble_eq_true rfl) rfl ?_
        refine z_xP zt192 0 1 [some (.ref 19), some (.int 32)] [.ref 19] rfl rfl ?_
        refine z_xgI zt192 1 rfl zo192 zzf12_136 X929 f19 (by decide) (by decide) rfl (fun (x933 : Int32) h932 (h934 : (-2147483648) ≤ x933.toInt) (h935 : x933.toInt ≤ 2147483647) => ?_)
        refine z_xZ zt192 2 rfl rfl (fun (h936 : 0 ≤ x933.toInt) => ?_) (fun (h936 : x933.toInt < 0) => ?_)
        · skip
          refine z_xP zt192 7 16 [some (.ref 19), some (.int 32)] [.int 0] rfl rfl ?_
          refine z_xrz zt192 8 rfl zzr192 (by decide) (by decide) ?_
          show z_ev (d + 972) 196 111 [some (.ref 19), some (.int x644), some (.int 0), none] [.int 0] M928 _
          refine z_xZ zt196 48 rfl rfl (fun (h937 : (0 : Int) ≠ 0) => absurd h937 (by omega)) (fun (h937 : (0 : Int) = 0) => ?_)
          refine z_xP zt196 49 115 [some (.ref 19), some (.int x644), some (.int 0), none] [.ref 19] rfl rfl ?_
          refine z_xcV (vs := [.ref 19]) (r := []) (L2 := [some (.ref 19)]) zt196 50 rfl zo196 zzcV12_163 (Or.inl rfl) rfl X929 f19 rfl rfl rfl (Nat.le_of_ble_eq_true rfl) zzm194 (Nat.le_of_ble_eq_true rfl) rfl ?_
          refine z_xP zt194 0 2 [some (.ref 19)] [.ref 19, .ref 19] rfl rfl ?_
          refine z_xgv zt194 1 rfl zo194 zzf12_136 X929 f19 (by decide) h932 ?_
          refine z_xZ zt194 2 rfl rfl (fun (h938 : 0 ≤ x933.toInt) => ?_) (fun (h938 : x933.toInt < 0) => absurd h938 (by omega))
          refine z_xP zt194 6 16 [some (.ref 19)] [.ref 19, .ref 19] rfl rfl ?_
          refine z_xgv zt194 7 rfl zo194 zzf12_136 X929 f19 (by decide) h932 ?_
          refine z_xpf zt194 8 rfl zo194 zzf12_136 X929 f19 (by decide) (by decide) ⟨Int32.le_toInt _, Int32.toInt_le _⟩ rfl (by decide) zw12_26 (fun M939 X940 e941 h942 => ?_)
          refine z_xP zt194 9 23 [some (.ref 19)] [.int 0] rfl rfl ?_
          refine z_xrz zt194 10 rfl zzr194 (by decide) (by decide) ?_
          show z_ev (d + 972) 196 118 [some (.ref 19), some (.int x644), some (.int 0), none] [.int 0] M939 _
          refine z_xP zt196 51 119 [some (.ref 19), some (.int x644), some (.int 0), some (.int 0)] [] rfl rfl ?_
          have h943 := (e941.f f19 (by decide) h931)
          exact z_xrv zt196 52 rfl zzr196 (kk M939 X940 (z_OT.ke (z_OT.ke z_OT.refl X.1 e930 rfl) X.1 e941 rfl) x926 h943 ⟨by omega, by omega⟩ (by omega))
        refine z_xP zt192 3 8 [some (.ref 19), some (.int 32)] [.ref 19] rfl rfl ?_
        refine z_xcV (vs := [.ref 19]) (r := []) (L2 := [some (.ref 19)]) zt192 4 rfl zo192 zzcV12_139 (Or.inl rfl) rfl X929 f19 rfl rfl rfl (Nat.le_of_ble_eq_true rfl) zzm193 (Nat.le_of_ble_eq_true rfl) rfl ?_
        refine z_xP zt193 0 1 [some (.ref 19)] [.ref 19] rfl rfl ?_
        refine z_xgv zt193 1 rfl zo193 zzf12_123 X929 f19 (by decide) h931 ?_
        refine z_xP zt193 2 5 [some (.ref 19)] [.ref 19, .int x926] rfl rfl ?_
        have h944 := (e930.f f19 (by decide) h1)
        refine z_xgv zt193 3 rfl zo193 zzf12_126 X929 f19 (by decide) h944 ?_
        refine z_xJ zt193 4 rfl rfl (fun (h945 : x2.toInt ≤ x926.toInt) => ?_) (fun (h945 : x926.toInt < x2.toInt) => ?_)
        · skip
          refine z_xP zt193 24 52 [some (.ref 19)] [.int 0] rfl rfl ?_
          refine z_xri zt193 25 rfl zzr193 ?_
          show z_ev (d + 971) 192 11 [some (.ref 19), some (.int 32)] [.int 0] M928 _
          refine z_xP zt192 5 12 [some (.ref 19), some (.int 32)] [.int 32, .int 0] rfl rfl ?_
          refine z_xJ zt192 6 rfl rfl (fun (h946 : (0 : Int) = 32) => absurd h946 (by omega)) (fun (h946 : (0 : Int) ≠ 32) => ?_)
          refine z_xP zt192 7 16 [some (.ref 19), some (.int 32)] [.int 0] rfl rfl ?_
          refine z_xrz zt192 8 rfl zzr192 (by decide) (by decide) ?_
          show z_ev (d + 972) 196 111 [some (.ref 19), some (.int x644), some (.int 0), none] [.int 0] M928 _
          refine z_xZ zt196 48 rfl rfl (fun (h947 : (0 : Int) ≠ 0) => absurd h947 (by omega)) (fun (h947 : (0 : Int) = 0) => ?_)
          refine z_xP zt196 49 115 [some (.ref 19), some (.int x644), some (.int 0), none] [.ref 19] rfl rfl ?_
          refine z_xcV (vs := [.ref 19]) (r := []) (L2 := [some (.ref 19)]) zt196 50 rfl zo196 zzcV12_163 (Or.inl rfl) rfl X929 f19 rfl rfl rfl (Nat.le_of_ble_eq_true rfl) zzm194 (Nat.le_of_ble_eq_true rfl) rfl ?_
          refine z_xP zt194 0 2 [some (.ref 19)] [.ref 19, .ref 19] rfl rfl ?_
          refine z_xgv zt194 1 rfl zo194 zzf12_136 X929 f19 (by decide) h932 ?_
          refine z_xZ zt194 2 rfl rfl (fun (h948 : 0 ≤ x933.toInt) => absurd h948 (by omega)) (fun (h948 : x933.toInt < 0) => ?_)
          refine z_xP zt194 3 9 [some (.ref 19)] [.ref 19, .ref 19] rfl rfl ?_
          refine z_xgv zt194 4 rfl zo194 zzf12_123 X929 f19 (by decide) h931 ?_
          refine z_xP zt194 5 19 [some (.ref 19)] [.int x926, .ref 19] rfl rfl ?_
          refine z_xpf zt194 8 rfl zo194 zzf12_136 X929 f19 (by decide) (by decide) ⟨Int32.le_toInt _, Int32.toInt_le _⟩ rfl (by decide) zw12_26 (fun M949 X950 e951 h952 => ?_)
          refine z_xP zt194 9 23 [some (.ref 19)] [.int 0] rfl rfl ?_
          refine z_xrz zt194 10 rfl zzr194 (by decide) (by decide) ?_
          show z_ev (d + 972) 196 118 [some (.ref 19), some (.int x644), some (.int 0), none] [.int 0] M949 _
          refine z_xP zt196 51 119 [some (.ref 19), some (.int x644), some (.int 0), some (.int 0)] [] rfl rfl ?_
          have h953 := (e951.f f19 (by decide) h931)
          exact z_xrv zt196 52 rfl zzr196 (kk M949 X950 (z_OT.ke (z_OT.ke z_OT.refl X.1 e930 rfl) X.1 e951 rfl) x926 h953 ⟨by omega, by omega⟩ (by omega))
        refine z_xP zt193 5 12 [some (.ref 19)] [.ref 19] rfl rfl ?_
        have h954 := (e930.f f19 (by decide) h27)
        refine z_xgv zt193 6 rfl zo193 zzf12_129 X929 f19 (by decide) h954 ?_
        refine z_xZ zt193 7 rfl rfl (fun (h955 : x28.toInt = 0) => absurd h955 (by omega)) (fun (h955 : x28.toInt ≠ 0) => ?_)
        refine z_xP zt193 8 19 [some (.ref 19)] [.ref 19] rfl rfl ?_
        refine z_xgX (b := 20) zt193 9 rfl zo193 zzf12_9 X929 f19 (by decide) (by decide) rfl ?_
        refine z_xP zt193 10 23 [some (.ref 19)] [.ref 19, .ref 20] rfl rfl ?_
        refine z_xgv zt193 11 rfl zo193 zzf12_123 X929 f19 (by decide) h931 ?_
        refine z_xil zt193 12 rfl X929 f20 (by decide) (by omega) (by omega) (fun (x956 : Int32) h957 (h958 : (-2147483648) ≤ x956.toInt) (h959 : x956.toInt ≤ 2147483647) => ?_)
        refine z_xP zt193 13 52 [some (.ref 19)] [.int x956] rfl rfl ?_
        refine z_xri zt193 25 rfl zzr193 ?_
        show z_ev (d + 971) 192 11 [some (.ref 19), some (.int 32)] [.int x956] M928 _
        refine z_xP zt192 5 12 [some (.ref 19), some (.int 32)] [.int 32, .int x956] rfl rfl ?_
        refine z_xJ zt192 6 rfl rfl (fun (h960 : x956.toInt = 32) => ?_) (fun (h960 : x956.toInt ≠ 32) => ?_)
        · skip
          refine z_xP zt192 9 19 [some (.ref 19), some (.int 32)] [.ref 19, .ref 19] rfl rfl ?_
          refine z_xgv zt192 10 rfl zo192 zzf12_123 X929 f19 (by decide) h931 ?_
          refine z_xP zt192 11 23 [some (.ref 19), some (.int 32)] [.int 1, .int x926, .ref 19] rfl rfl ?_
          refine z_xI zt192 12 rfl rfl (fun (x961 : Int32) (h962 : x961.toInt = x926.toInt + 1) => ?_) (z_pAdd rfl rfl (by omega) (by omega))
          refine z_xpf zt192 13 rfl zo192 zzf12_123 X929 f19 (by decide) (by decide) ⟨by omega, by omega⟩ rfl (by decide) zw12_24 (fun M963 X964 e965 h966 => ?_)
          refine z_xP zt192 14 28 [some (.ref 19), some (.int 32)] [.int 1] rfl rfl ?_
          refine z_xrz zt192 15 rfl zzr192 (by decide) (by decide) ?_
          show z_ev (d + 972) 196 111 [some (.ref 19), some (.int x644), some (.int 0), none] [.int 1] M963 _
          refine z_xZ zt196 48 rfl rfl (fun (h967 : (1 : Int) ≠ 0) => ?_) (fun (h967 : (1 : Int) = 0) => absurd h967 (by omega))
          refine z_xP zt196 53 123 [some (.ref 19), some (.int x644), some (.int 0), none] [.int 112, .int x644] rfl rfl ?_
          refine z_xJ zt196 54 rfl rfl (fun (h968 : x644.toInt ≠ 112) => ?_) (fun (h968 : x644.toInt = 112) => absurd h968 (by omega))
          refine z_xP zt196 63 145 [some (.ref 19), some (.int x644), some (.int 0), none] [.int 101, .int x644] rfl rfl ?_
          refine z_xJ zt196 64 rfl rfl (fun (h969 : x644.toInt ≠ 101) => ?_) (fun (h969 : x644.toInt = 101) => absurd h969 (by omega))
          refine z_xP zt196 73 165 [some (.ref 19), some (.int x644), some (.int 0), none] [.ref 19] rfl rfl ?_
          refine z_xgX (b := 26) zt196 74 rfl zo196 zzf12_28 X964 f19 (by decide) (by decide) rfl ?_
          refine z_xP zt196 75 171 [some (.ref 19), some (.int x644), some (.int 0), none] [.ref 19, .int 8, .ref 26] rfl rfl ?_
          have h970 := (e965.f f19 (by decide) (e930.f f19 (by decide) h913))
          refine z_xgv zt196 76 rfl zo196 zzf12_133 X964 f19 (by decide) h970 ?_
          refine z_xI zt196 77 rfl rfl (fun (x971 : Int32) (h972 : x971.toInt = 8 * x914.toInt) => ?_) (z_pMul rfl rfl (by omega) (by omega))
          refine z_xP zt196 78 176 [some (.ref 19), some (.int x644), some (.int 0), none] [.ref 19, .int x971, .ref 26] rfl rfl ?_
          refine z_xgX (b := 25) zt196 79 rfl zo196 zzf12_25 X964 f19 (by decide) (by decide) rfl ?_
          refine z_xP zt196 80 180 [some (.ref 19), some (.int x644), some (.int 0), none] [.ref 19, .ref 25, .int x971, .ref 26] rfl rfl ?_
          refine z_xgv zt196 81 rfl zo196 zzf12_133 X964 f19 (by decide) h970 ?_
          refine z_xil zt196 82 rfl X964 f25 (by decide) (by omega) (by omega) (fun (x973 : Int32) h974 (h975 : 0 ≤ x973.toInt) (h976 : x973.toInt ≤ 8) => ?_)
          have h977 := congrArg Int32.toInt (h974.symm.trans ((congrFun (e965.a f25 (by decide)) _).trans ((congrFun (e930.a f25 (by decide)) _).trans h918)))
          refine z_xI zt196 83 rfl rfl (fun (x978 : Int32) (h979 : x978.toInt = x971.toInt + x973.toInt) => ?_) (z_pAdd rfl rfl (by omega) (by omega))
          refine z_xP zt196 84 186 [some (.ref 19), some (.int x644), some (.int 0), none] [.ref 19, .int x978, .ref 26] rfl rfl ?_
          refine z_xgv zt196 85 rfl zo196 zzf12_123 X964 f19 (by decide) h966 ?_
          have f26 : T[26]? = some (.inr (26, 0, 64, 0, 160)) := X964.1.k rfl (by decide)
          refine z_xis zt196 86 rfl X964 f26 (by decide) (by decide) (by omega) (by omega) (by omega) (by omega) (by decide) (fun M980 X981 e982 h983 => ?_)
          refine z_xP zt196 87 191 [some (.ref 19), some (.int x644), some (.int 0), none] [.ref 19] rfl rfl ?_
          refine z_xgX (b := 25) zt196 88 rfl zo196 zzf12_25 X981 f19 (by decide) (by decide) rfl ?_
          refine z_xP zt196 89 195 [some (.ref 19), some (.int x644), some (.int 0), none] [.ref 19, .ref 25] rfl rfl ?_
          have h984 := (e982.f f19 (by decide) h970)
          refine z_xgv zt196 90 rfl zo196 zzf12_133 X981 f19 (by decide) h984 ?_
          refine z_xP zt196 91 199 [some (.ref 19), some (.int x644), some (.int 0), none] [.int x914, .ref 25, .int x914, .ref 25] rfl rfl ?_
          refine z_xil zt196 92 rfl X981 f25 (by decide) (by omega) (by omega) (fun (x985 : Int32) h986 (h987 : 0 ≤ x985.toInt) (h988 : x985.toInt ≤ 8) => ?_)
          have h989 := congrArg Int32.toInt (h986.symm.trans ((congrFun (e982.a f25 (by decide)) _).trans ((congrFun (e965.a f25 (by decide)) _).trans ((congrFun (e930.a f25 (by decide)) _).trans h918))))
          refine z_xP zt196 93 201 [some (.ref 19), some (.int x644), some (.int 0), none] [.int 1, .int x985, .int x914, .ref 25] rfl rfl ?_
          refine z_xI zt196 94 rfl rfl (fun (x990 : Int32) (h991 : x990.toInt = x985.toInt + 1) => ?_) (z_pAdd rfl rfl (by omega) (by omega))
          refine z_xis zt196 95 rfl X981 f25 (by decide) (by decide) (by omega) (by omega) (by omega) (by omega) (by decide) (fun M992 X993 e994 h995 => ?_)
          have h998 := (e994.f f19 (by decide) h984)
          have q997 := (z_OTA h998 ((e994.1 19 12 0 0 0 0 22 f19 (by decide)).trans ((e982.1 19 12 0 0 0 0 22 f19 (by decide)).trans ((e965.1 19 12 0 0 0 0 22 f19 (by decide)).trans (e930.1 19 12 0 0 0 0 22 f19 (by decide))))).symm)
          have o996 := z_OT.st (A := (z_Fv M0 19 22).toInt) (z_OT.ke (z_OT.ke (z_OT.ke z_OT.refl X.1 e930 rfl) X.1 e965 rfl) X.1 e982 rfl) X.1 e994 h995 (r := 25) (by decide) (fun _ => by omega) (fun h => absurd h (by decide))
          refine z_xP zt196 96 204 [some (.ref 19), some (.int x644), some (.int 0), none] [.ref 19] rfl rfl ?_
          refine z_xcV (vs := [.ref 19]) (r := []) (L2 := [some (.ref 19), none, none]) zt196 97 rfl zo196 zzcV12_169 (Or.inl rfl) rfl X993 f19 rfl rfl rfl (Nat.le_of_ble_eq_true rfl) zzm198 (Nat.le_of_ble_eq_true rfl) rfl ?_
          have h999 := (e994.f f19 (by decide) (e982.f f19 (by decide) h966))
          refine zC198 X993.1 h999 ⟨by omega, by omega⟩ (z_GL.go hL X993 (by decide)) (fun x1006 M1000 X1001 h1007 h1008 z1002 h1003 h1004 h1005 => ?_)
          have X1009 := X993.go X1001 (z_sb (by decide))
          show z_ev (d + 972) 196 207 [some (.ref 19), some (.int x644), some (.int 0), none] [.int x1006] M1000 _
          refine z_xP zt196 98 208 [some (.ref 19), some (.int x644), some (.int 0), some (.int x1006)] [] rfl rfl ?_
          exact z_xrv zt196 99 rfl zzr196 (kk M1000 X1009 (z_OT.ke o996 X.1 X1001.2 rfl) z1002 h1003 ⟨by omega, by omega⟩ (by omega))
        refine z_xP zt192 7 16 [some (.ref 19), some (.int 32)] [.int 0] rfl rfl ?_
        refine z_xrz zt192 8 rfl zzr192 (by decide) (by decide) ?_
        show z_ev (d + 972) 196 111 [some (.ref 19), some (.int x644), some (.int 0), none] [.int 0] M928 _
        refine z_xZ zt196 48 rfl rfl (fun (h1011 : (0 : Int) ≠ 0) => absurd h1011 (by omega)) (fun (h1011 : (0 : Int) = 0) => ?_)
        refine z_xP zt196 49 115 [some (.ref 19), some (.int x644), some (.int 0), none] [.ref 19] rfl rfl ?_
        refine z_xcV (vs := [.ref 19]) (r := []) (L2 := [some (.ref 19)]) zt196 50 rfl zo196 zzcV12_163 (Or.inl rfl) rfl X929 f19 rfl rfl rfl (Nat.le_of_ble_eq_true rfl) zzm194 (Nat.le_of_ble_eq_true rfl) rfl ?_
        refine z_xP zt194 0 2 [some (.ref 19)] [.ref 19, .ref 19] rfl rfl ?_
        refine z_xgv zt194 1 rfl zo194 zzf12_136 X929 f19 (by decide) h932 ?_
        refine z_xZ zt194 2 rfl rfl (fun (h1012 : 0 ≤ x933.toInt) => absurd h1012 (by omega)) (fun (h1012 : x933.toInt < 0) => ?_)
        refine z_xP zt194 3 9 [some (.ref 19)] [.ref 19, .ref 19] rfl rfl ?_
        refine z_xgv zt194 4 rfl zo194 zzf12_123 X929 f19 (by decide) h931 ?_
        refine z_xP zt194 5 19 [some (.ref 19)] [.int x926, .ref 19] rfl rfl ?_
        refine z_xpf zt194 8 rfl zo194 zzf12_136 X929 f19 (by decide) (by decide) ⟨Int32.le_toInt _, Int32.toInt_le _⟩ rfl (by decide) zw12_26 (fun M1013 X1014 e1015 h1016 => ?_)
        refine z_xP zt194 9 23 [some (.ref 19)] [.int 0] rfl rfl ?_
        refine z_xrz zt194 10 rfl zzr194 (by decide) (by decide) ?_
        show z_ev (d + 972) 196 118 [some (.ref 19), some (.int x644), some (.int 0), none] [.int 0] M1013 _
        refine z_xP zt196 51 119 [some (.ref 19), some (.int x644), some (.int 0), some (.int 0)] [] rfl rfl ?_
        have h1017 := (e1015.f f19 (by decide) h931)
        exact z_xrv zt196 52 rfl zzr196 (kk M1013 X1014 (z_OT.ke (z_OT.ke z_OT.refl X.1 e930 rfl) X.1 e1015 rfl) x926 h1017 ⟨by omega, by omega⟩ (by omega))
      refine z_xP zt196 27 66 [some (.ref 19), some (.int x644), none, none] [.int 1] rfl rfl ?_
      refine z_xP zt196 29 70 [some (.ref 19), some (.int x644), some (.int 1), none] [.int 112, .int x644] rfl rfl ?_
      refine z_xJ zt196 30 rfl rfl (fun (h1018 : x644.toInt = 112) => absurd h1018 (by omega)) (fun (h1018 : x644.toInt ≠ 112) => ?_)
      refine z_xP zt196 31 76 [some (.ref 19), some (.int x644), some (.int 1), none] [.int 101, .int x644] rfl rfl ?_
      refine z_xJ zt196 32 rfl rfl (fun (h1019 : x644.toInt = 101) => absurd h1019 (by omega)) (fun (h1019 : x644.toInt ≠ 101) => ?_)
      refine z_xP zt196 33 82 [some (.ref 19), some (.int x644), some (.int 1), none] [.int 116, .int x644] rfl rfl ?_
      refine z_xJ zt196 34 rfl rfl (fun (h1020 : x644.toInt ≠ 116) => absurd h1020 (by omega)) (fun (h1020 : x644.toInt = 116) => ?_)
      refine z_xP zt196 35 86 [some (.ref 19), some (.int x644), some (.int 1), none] [.int 1] rfl rfl ?_
      refine z_xZ zt196 36 rfl rfl (fun (h1021 : (1 : Int) = 0) => absurd h1021 (by omega)) (fun (h1021 : (1 : Int) ≠ 0) => ?_)
      refine z_xP zt196 37 90 [some (.ref 19), some (.int x644), some (.int 1), none] [.ref 19] rfl rfl ?_
      refine z_xcV (vs := [.ref 19]) (r := []) (L2 := [some (.ref 19)]) zt196 38 rfl zo196 zzcV12_163 (Or.inl rfl) rfl X f19 rfl rfl rfl (Nat.le_of_ble_eq_true rfl) zzm194 (Nat.le_of_ble_eq_true rfl) rfl ?_
      refine z_xP zt194 0 2 [some (.ref 19)] [.ref 19, .ref 19] rfl rfl ?_
      refine z_xgI zt194 1 rfl zo194 zzf12_136 X f19 (by decide) (by decide) rfl (fun (x1023 : Int32) h1022 (h1024 : (-2147483648) ≤ x1023.toInt) (h1025 : x1023.toInt ≤ 2147483647) => ?_)
      refine z_xZ zt194 2 rfl rfl (fun (h1026 : 0 ≤ x1023.toInt) => ?_) (fun (h1026 : x1023.toInt < 0) => ?_)
      · skip
        refine z_xP zt194 6 16 [some (.ref 19)] [.ref 19, .ref 19] rfl rfl ?_
        refine z_xgv zt194 7 rfl zo194 zzf12_136 X f19 (by decide) h1022 ?_
        refine z_xpf zt194 8 rfl zo194 zzf12_136 X f19 (by decide) (by decide) ⟨Int32.le_toInt _, Int32.toInt_le _⟩ rfl (by decide) zw12_26 (fun M1027 X1028 e1029 h1030 => ?_)
        refine z_xP zt194 9 23 [some (.ref 19)] [.int 0] rfl rfl ?_
        refine z_xrz zt194 10 rfl zzr194 (by decide) (by decide) ?_
        show z_ev (d + 972) 196 93 [some (.ref 19), some (.int x644), some (.int 1), none] [.int 0] M1027 _
        refine z_xP zt196 39 94 [some (.ref 19), some (.int x644), some (.int 1), some (.int 0)] [] rfl rfl ?_
        have h1031 := (e1029.f f19 (by decide) hz0)
        exact z_xrv zt196 40 rfl zzr196 (kk M1027 X1028 (z_OT.ke z_OT.refl X.1 e1029 rfl) zp0 h1031 ⟨by omega, by omega⟩ (by omega))
      refine z_xP zt194 3 9 [some (.ref 19)] [.ref 19, .ref 19] rfl rfl ?_
      refine z_xgv zt194 4 rfl zo194 zzf12_123 X f19 (by decide) hz0 ?_
      refine z_xP zt194 5 19 [some (.ref 19)] [.int zp0, .ref 19] rfl rfl ?_
      refine z_xpf zt194 8 rfl zo194 zzf12_136 X f19 (by decide) (by decide) ⟨Int32.le_toInt _, Int32.toInt_le _⟩ rfl (by decide) zw12_26 (fun M1032 X1033 e1034 h1035 => ?_)
      refine z_xP zt194 9 23 [some (.ref 19)] [.int 0] rfl rfl ?_
      refine z_xrz zt194 10 rfl zzr194 (by decide) (by decide) ?_
      show z_ev (d + 972) 196 93 [some (.ref 19), some (.int x644), some (.int 1), none] [.int 0] M1032 _
      refine z_xP zt196 39 94 [some (.ref 19), some (.int x644), some (.int 1), some (.int 0)] [] rfl rfl ?_
      have h1036 := (e1034.f f19 (by decide) hz0)
      exact z_xrv zt196 40 rfl zzr196 (kk M1032 X1033 (z_OT.ke z_OT.refl X.1 e1034 rfl) zp0 h1036 ⟨by omega, by omega⟩ (by omega))
    refine z_xP zt196 12 30 [some (.ref 19), some (.int x644), none, none] [.ref 19] rfl rfl ?_
    refine z_xgX (b := 28) zt196 13 rfl zo196 zzf12_34 X f19 (by decide) (by decide) rfl ?_
    refine z_xP zt196 14 34 [some (.ref 19), some (.int x644), none, none] [.ref 19, .ref 28] rfl rfl ?_
    refine z_xgI zt196 15 rfl zo196 zzf12_133 X f19 (by decide) (by decide) rfl (fun (x1038 : Int32) h1037 (h1039 : 0 ≤ x1038.toInt) (h1040 : x1038.toInt ≤ 7) => ?_)
    have f28 : T[28]? = some (.inr (28, 0, 8, (-2147483648), 2147483647)) := X.1.k rfl (by decide)
    refine z_xil zt196 16 rfl X f28 (by decide) (by omega) (by omega) (fun (x1041 : Int32) h1042 (h1043 : (-2147483648) ≤ x1041.toInt) (h1044 : x1041.toInt ≤ 2147483647) => ?_)
    refine z_xZ zt196 17 rfl rfl (fun (h1045 : 0 < x1041.toInt) => ?_) (fun (h1045 : x1041.toInt ≤ 0) => ?_)
    · skip
      refine z_xP zt196 27 66 [some (.ref 19), some (.int x644), none, none] [.int 1] rfl rfl ?_
      refine z_xP zt196 29 70 [some (.ref 19), some (.int x644), some (.int 1), none] [.int 112, .int x644] rfl rfl ?_
      refine z_xJ zt196 30 rfl rfl (fun (h1046 : x644.toInt = 112) => absurd h1046 (by omega)) (fun (h1046 : x644.toInt ≠ 112) => ?_)
      refine z_xP zt196 31 76 [some (.ref 19), some (.int x644), some (.int 1), none] [.int 101, .int x644] rfl rfl ?_
      refine z_xJ zt196 32 rfl rfl (fun (h1047 : x644.toInt = 101) => ?_) (fun (h1047 : x644.toInt ≠ 101) => absurd h1047 (by omega))
      refine z_xP zt196 35 86 [some (.ref 19), some (.int x644), some (.int 1), none] [.int 1] rfl rfl ?_
      refine z_xZ zt196 36 rfl rfl (fun (h1048 : (1 : Int) = 0) => absurd h1048 (by omega)) (fun (h1048 : (1 : Int) ≠ 0) => ?_)
      refine z_xP zt196 37 90 [some (.ref 19), some (.int x644), some (.int 1), none] [.ref 19] rfl rfl ?_
      refine z_xcV (vs := [.ref 19]) (r := []) (L2 := [some (.ref 19)]) zt196 38 rfl zo196 zzcV12_163 (Or.inl rfl) rfl X f19 rfl rfl rfl (Nat.le_of_ble_eq_true rfl) zzm194 (Nat.le_of_ble_eq_true rfl) rfl ?_
      refine z_xP zt194 0 2 [some (.ref 19)] [.ref 19, .ref 19] rfl rfl ?_
      refine z_xgI zt194 1 rfl zo194 zzf12_136 X f19 (by decide) (by decide) rfl (fun (x1050 : Int32) h1049 (h1051 : (-2147483648) ≤ x1050.toInt) (h1052 : x1050.toInt ≤ 2147483647) => ?_)
      refine z_xZ zt194 2 rfl rfl (fun (h1053 : 0 ≤ x1050.toInt) => ?_) (fun (h1053 : x1050.toInt < 0) => ?_)
      · skip
        refine z_xP zt194 6 16 [some (.ref 19)] [.ref 19, .ref 19] rfl rfl ?_
        refine z_xgv zt194 7 rfl zo194 zzf12_136 X f19 (by decide) h1049 ?_
        refine z_xpf zt194 8 rfl zo194 zzf12_136 X f19 (by decide) (by decide) ⟨Int32.le_toInt _, Int32.toInt_le _⟩ rfl (by decide) zw12_26 (fun M1054 X1055 e1056 h1057 => ?_)
        refine z_xP zt194 9 23 [some (.ref 19)] [.int 0] rfl rfl ?_
        refine z_xrz zt194 10 rfl zzr194 (by decide) (by decide) ?_
        show z_ev (d + 972) 196 93 [some (.ref 19), some (.int x644), some (.int 1), none] [.int 0] M1054 _
        refine z_xP zt196 39 94 [some (.ref 19), some (.int x644), some (.int 1), some (.int 0)] [] rfl rfl ?_
        have h1058 := (e1056.f f19 (by decide) hz0)
        exact z_xrv zt196 40 rfl zzr196 (kk M1054 X1055 (z_OT.ke z_OT.refl X.1 e1056 rfl) zp0 h1058 ⟨by omega, by omega⟩ (by omega))
      refine z_xP zt194 3 9 [some (.ref 19)] [.ref 19, .ref 19] rfl rfl ?_
      refine z_xgv zt194 4 rfl zo194 zzf12_123 X f19 (by decide) hz0 ?_
      refine z_xP zt194 5 19 [some (.ref 19)] [.int zp0, .ref 19] rfl rfl ?_
      refine z_xpf zt194 8 rfl zo194 zzf12_136 X f19 (by decide) (by decide) ⟨Int32.le_toInt _, Int32.toInt_le _⟩ rfl (by decide) zw12_26 (fun M1059 X1060 e1061 h1062 => ?_)
      refine z_xP zt194 9 23 [some (.ref 19)] [.int 0] rfl rfl ?_
      refine z_xrz zt194 10 rfl zzr194 (by decide) (by decide) ?_
      show z_ev (d + 972) 196 93 [some (.ref 19), some (.int x644), some (.int 1), none] [.int 0] M1059 _
      refine z_xP zt196 39 94 [some (.ref 19), some (.int x644), some (.int 1), some (.int 0)] [] rfl rfl ?_
      have h1063 := (e1061.f f19 (by decide) hz0)
      exact z_xrv zt196 40 rfl zzr196 (kk M1059 X1060 (z_OT.ke z_OT.refl X.1 e1061 rfl) zp0 h1063 ⟨by omega, by omega⟩ (by omega))
    refine z_xP zt196 18 44 [some (.ref 19), some (.int x644), none, none] [.int 116, .int x644] rfl rfl ?_
    refine z_xJ zt196 19 rfl rfl (fun (h1064 : x644.toInt ≠ 116) => ?_) (fun (h1064 : x644.toInt = 116) => absurd h1064 (by omega))
    refine z_xP zt196 28 66 [some (.ref 19), some (.int x644), none, none] [.int 0] rfl rfl ?_
    refine z_xP zt196 29 70 [some (.ref 19), some (.int x644), some (.int 0), none] [.int 112, .int x644] rfl rfl ?_
    refine z_xJ zt196 30 rfl rfl (fun (h1065 : x644.toInt = 112) => absurd h1065 (by omega)) (fun (h1065 : x644.toInt ≠ 112) => ?_)
    refine z_xP zt196 31 76 [some (.ref 19), some (.int x644), some (.int 0), none] [.int 101, .int x644] rfl rfl ?_
    refine z_xJ zt196 32 rfl rfl (fun (h1066 : x644.toInt = 101) => ?_) (fun (h1066 : x644.toInt ≠ 101) => absurd h1066 (by omega))
    refine z_xP zt196 35 86 [some (.ref 19), some (.int x644), some (.int 0), none] [.int 0] rfl rfl ?_
    refine z_xZ zt196 36 rfl rfl (fun (h1067 : (0 : Int) = 0) => ?_) (fun (h1067 : (0 : Int) ≠ 0) => absurd h1067 (by omega))
    refine z_xP zt196 41 97 [some (.ref 19), some (.int x644), some (.int 0), none] [.ref 19, .ref 19] rfl rfl ?_
    refine z_xgv zt196 42 rfl zo196 zzf12_123 X f19 (by decide) hz0 ?_
    refine z_xP zt196 43 101 [some (.ref 19), some (.int x644), some (.int 0), none] [.int 1, .int zp0, .ref 19] rfl rfl ?_
    refine z_xI zt196 44 rfl rfl (fun (x1068 : Int32) (h1069 : x1068.toInt = zp0.toInt + 1) => ?_) (z_pAdd rfl rfl (by omega) (by omega))
    refine z_xpf zt196 45 rfl zo196 zzf12_123 X f19 (by decide) (by decide) ⟨by omega, by omega⟩ rfl (by decide) zw12_24 (fun M1070 X1071 e1072 h1073 => ?_)
    refine z_xP zt196 46 108 [some (.ref 19), some (.int x644), some (.int 0), none] [.int 32, .ref 19] rfl rfl ?_
    refine z_xcV (vs := [.ref 19, .int 32]) (r := []) (L2 := [some (.ref 19), some (.int 32)]) zt196 47 rfl zo196 zzcV12_147 (Or.inl rfl) rfl X1071 f19 rfl rfl rfl (Nat.le_of_ble_eq_true rfl) zzm192 (Nat.le_of_ble_eq_true rfl) rfl ?_
    refine z_xP zt192 0 1 [some (.ref 19), some (.int 32)] [.ref 19] rfl rfl ?_
    refine z_xgI zt192 1 rfl zo192 zzf12_136 X1071 f19 (by decide) (by decide) rfl (fun (x1075 : Int32) h1074 (h1076 : (-2147483648) ≤ x1075.toInt) (h1077 : x1075.toInt ≤ 2147483647) => ?_)
    refine z_xZ zt192 2 rfl rfl (fun (h1078 : 0 ≤ x1075.toInt) => ?_) (fun (h1078 : x1075.toInt < 0) => ?_)
    · skip
      refine z_xP zt192 7 16 [some (.ref 19), some (.int 32)] [.int 0] rfl rfl ?_
      refine z_xrz zt192 8 rfl zzr192 (by decide) (by decide) ?_
      show z_ev (d + 972) 196 111 [some (.ref 19), some (.int x644), some (.int 0), none] [.int 0] M1070 _
      refine z_xZ zt196 48 rfl rfl (fun (h1079 : (0 : Int) ≠ 0) => absurd h1079 (by omega)) (fun (h1079 : (0 : Int) = 0) => ?_)
      refine z_xP zt196 49 115 [some (.ref 19), some (.int x644), some (.int 0), none] [.ref 19] rfl rfl ?_
      refine z_xcV (vs := [.ref 19]) (r := []) (L2 := [some (.ref 19)]) zt196 50 rfl zo196 zzcV12_163 (Or.inl rfl) rfl X1071 f19 rfl rfl rfl (Nat.le_of_ble_eq_true rfl) zzm194 (Nat.le_of_ble_eq_true rfl) rfl ?_
      refine z_xP zt194 0 2 [some (.ref 19)] [.ref 19, .ref 19] rfl rfl ?_
      refine z_xgv zt194 1 rfl zo194 zzf12_136 X1071 f19 (by decide) h1074 ?_
      refine z_xZ zt194 2 rfl rfl (fun (h1080 : 0 ≤ x1075.toInt) => ?_) (fun (h1080 : x1075.toInt < 0) => absurd h1080 (by omega))
      refine z_xP zt194 6 16 [some (.ref 19)] [.ref 19, .ref 19] rfl rfl ?_
      refine z_xgv zt194 7 rfl zo194 zzf12_136 X1071 f19 (by decide) h1074 ?_
      refine z_xpf zt194 8 rfl zo194 zzf12_136 X1071 f19 (by decide) (by decide) ⟨Int32.le_toInt _, Int32.toInt_le _⟩ rfl (by decide) zw12_26 (fun M1081 X1082 e1083 h1084 => ?_)
      refine z_xP zt194 9 23 [some (.ref 19)] [.int 0] rfl rfl ?_
      refine z_xrz zt194 10 rfl zzr194 (by decide) (by decide) ?_
      show z_ev (d + 972) 196 118 [some (.ref 19), some (.int x644), some (.int 0), none] [.int 0] M1081 _
      refine z_xP zt196 51 119 [some (.ref 19), some (.int x644), some (.int 0), some (.int 0)] [] rfl rfl ?_
      have h1085 := (e1083.f f19 (by decide) h1073)
      exact z_xrv zt196 52 rfl zzr196 (kk M1081 X1082 (z_OT.ke (z_OT.ke z_OT.refl X.1 e1072 rfl) X.1 e1083 rfl) x1068 h1085 ⟨by omega, by omega⟩ (by omega))
    refine z_xP zt192 3 8 [some (.ref 19), some (.int 32)] [.ref 19] rfl rfl ?_
    refine z_xcV (vs := [.ref 19]) (r := []) (L2 := [some (.ref 19)]) zt192 4 rfl zo192 zzcV12_139 (Or.inl rfl) rfl X1071 f19 rfl rfl rfl (Nat.le_of_ble_eq_true rfl) zzm193 (Nat.le_of_ble_eq_true rfl) rfl ?_
    refine z_xP zt193 0 1 [some (.ref 19)] [.ref 19] rfl rfl ?_
    refine z_xgv zt193 1 rfl zo193 zzf12_123 X1071 f19 (by decide) h1073 ?_
    refine z_xP zt193 2 5 [some (.ref 19)] [.ref 19, .int x1068] rfl rfl ?_
    have h1086 := (e1072.f f19 (by decide) h1)
    refine z_xgv zt193 3 rfl zo193 zzf12_126 X1071 f19 (by decide) h1086 ?_
    refine z_xJ zt193 4 rfl rfl (fun (h1087 : x2.toInt ≤ x1068.toInt) => ?_) (fun (h1087 : x1068.toInt < x2.toInt) => ?_)
    · skip
      refine z_xP zt193 24 52 [some (.ref 19)] [.int 0] rfl rfl ?_
      refine z_xri zt193 25 rfl zzr193 ?_
      show z_ev (d + 971) 192 11 [some (.ref 19), some (.int 32)] [.int 0] M1070 _
      refine z_xP zt192 5 12 [some (.ref 19), some (.int 32)] [.int 32, .int 0] rfl rfl ?_
      refine z_xJ zt192 6 rfl rfl (fun (h1088 : (0 : Int) = 32) => absurd h1088 (by omega)) (fun (h1088 : (0 : Int) ≠ 32) => ?_)
      refine z_xP zt192 7 16 [some (.ref 19), some (.int 32)] [.int 0] rfl rfl ?_
      refine z_xrz zt192 8 rfl zzr192 (by decide) (by decide) ?_
      show z_ev (d + 972) 196 111 [some (.ref 19), some (.int x644), some (.int 0), none] [.int 0] M1070 _
      refine z_xZ zt196 48 rfl rfl (fun (h1089 : (0 : Int) ≠ 0) => absurd h1089 (by omega)) (fun (h1089 : (0 : Int) = 0) => ?_)
      refine z_xP zt196 49 115 [some (.ref 19), some (.int x644), some (.int 0), none] [.ref 19] rfl rfl ?_
      refine z_xcV (vs := [.ref 19]) (r := []) (L2 := [some (.ref 19)]) zt196 50 rfl zo196 zzcV12_163 (Or.inl rfl) rfl X1071 f19 rfl rfl rfl (Nat.le_of_ble_eq_true rfl) zzm194 (Nat.le_of_ble_eq_true rfl) rfl ?_
      refine z_xP zt194 0 2 [some (.ref 19)] [.ref 19, .ref 19] rfl rfl ?_
      refine z_xgv zt194 1 rfl zo194 zzf12_136 X1071 f19 (by decide) h1074 ?_
      refine z_xZ zt194 2 rfl rfl (fun (h1090 : 0 ≤ x1075.toInt) => absurd h1090 (by omega)) (fun (h1090 : x1075.toInt < 0) => ?_)
      refine z_xP zt194 3 9 [some (.ref 19)] [.ref 19, .ref 19] rfl rfl ?_
      refine z_xgv zt194 4 rfl zo194 zzf12_123 X1071 f19 (by decide) h1073 ?_
      refine z_xP zt194 5 19 [some (.ref 19)] [.int x1068, .ref 19] rfl rfl ?_
      refine z_xpf zt194 8 rfl zo194 zzf12_136 X1071 f19 (by decide) (by decide) ⟨Int32.le_toInt _, Int32.toInt_le _⟩ rfl (by decide) zw12_26 (fun M1091 X1092 e1093 h1094 => ?_)
      refine z_xP zt194 9 23 [some (.ref 19)] [.int 0] rfl rfl ?_
      refine z_xrz zt194 10 rfl zzr194 (by decide) (by decide) ?_
      show z_ev (d + 972) 196 118 [some (.ref 19), some (.int x644), some (.int 0), none] [.int 0] M1091 _
      refine z_xP zt196 51 119 [some (.ref 19), some (.int x644), some (.int 0), some (.int 0)] [] rfl rfl ?_
      have h1095 := (e1093.f f19 (by decide) h1073)
      exact z_xrv zt196 52 rfl zzr196 (kk M1091 X1092 (z_OT.ke (z_OT.ke z_OT.refl X.1 e1072 rfl) X.1 e1093 rfl) x1068 h1095 ⟨by omega, by omega⟩ (by omega))
    refine z_xP zt193 5 12 [some (.ref 19)] [.ref 19] rfl rfl ?_
    have h1096 := (e1072.f f19 (by decide) h27)
    refine z_xgv zt193 6 rfl zo193 zzf12_129 X1071 f19 (by decide) h1096 ?_
    refine z_xZ zt193 7 rfl rfl (fun (h1097 : x28.toInt = 0) => absurd h1097 (by omega)) (fun (h1097 : x28.toInt ≠ 0) => ?_)
    refine z_xP zt193 8 19 [some (.ref 19)] [.ref 19] rfl rfl ?_
    refine z_xgX (b := 20) zt193 9 rfl zo193 zzf12_9 X1071 f19 (by decide) (by decide) rfl ?_
    refine z_xP zt193 10 23 [some (.ref 19)] [.ref 19, .ref 20] rfl rfl ?_
    refine z_xgv zt193 11 rfl zo193 zzf12_123 X1071 f19 (by decide) h1073 ?_
    refine z_xil zt193 12 rfl X1071 f20 (by decide) (by omega) (by omega) (fun (x1098 : Int32) h1099 (h1100 : (-2147483648) ≤ x1098.toInt) (h1101 : x1098.toInt ≤ 2147483647) => ?_)
    refine z_xP zt193 13 52 [some (.ref 19)] [.int x1098] rfl rfl ?_
    refine z_xri zt193 25 rfl zzr193 ?_
    show z_ev (d + 971) 192 11 [some (.ref 19), some (.int 32)] [.int x1098] M1070 _
    refine z_xP zt192 5 12 [some (.ref 19), some (.int 32)] [.int 32, .int x1098] rfl rfl ?_
    refine z_xJ zt192 6 rfl rfl (fun (h1102 : x1098.toInt = 32) => ?_) (fun (h1102 : x1098.toInt ≠ 32) => ?_)
    · skip
      refine z_xP zt192 9 19 [some (.ref 19), some (.int 32)] [.ref 19, .ref 19] rfl rfl ?_
      refine z_xgv zt192 10 rfl zo192 zzf12_123 X1071 f19 (by decide) h1073 ?_
      refine z_xP zt192 11 23 [some (.ref 19), some (.int 32)] [.int 1, .int x1068, .ref 19] rfl rfl ?_
      refine z_xI zt192 12 rfl rfl (fun (x1103 : Int32) (h1104 : x1103.toInt = x1068.toInt + 1) => ?_) (z_pAdd rfl rfl (by omega) (by omega))
      refine z_xpf zt192 13 rfl zo192 zzf12_123 X1071 f19 (by decide) (by decide) ⟨by omega, by omega⟩ rfl (by decide) zw12_24 (fun M1105 X1106 e1107 h1108 => ?_)
      refine z_xP zt192 14 28 [some (.ref 19), some (.int 32)] [.int 1] rfl rfl ?_
      refine z_xrz zt192 15 rfl zzr192 (by decide) (by decide) ?_
      show z_ev (d + 972) 196 111 [some (.ref 19), some (.int x644), some (.int 0), none] [.int 1] M1105 _
      refine z_xZ zt196 48 rfl rfl (fun (h1109 : (1 : Int) ≠ 0) => ?_) (fun (h1109 : (1 : Int) = 0) => absurd h1109 (by omega))
      refine z_xP zt196 53 123 [some (.ref 19), some (.int x644), some (.int 0), none] [.int 112, .int x644] rfl rfl ?_
      refine z_xJ zt196 54 rfl rfl (fun (h1110 : x644.toInt ≠ 112) => ?_) (fun (h1110 : x644.toInt = 112) => absurd h1110 (by omega))
      refine z_xP zt196 63 145 [some (.ref 19), some (.int x644), some (.int 0), none] [.int 101, .int x644] rfl rfl ?_
      refine z_xJ zt196 64 rfl rfl (fun (h1111 : x644.toInt ≠ 101) => absurd h1111 (by omega)) (fun (h1111 : x644.toInt = 101) => ?_)
      refine z_xP zt196 65 149 [some (.ref 19), some (.int x644), some (.int 0), none] [.ref 19] rfl rfl ?_
      refine z_xgX (b := 28) zt196 66 rfl zo196 zzf12_34 X1106 f19 (by decide) (by decide) rfl ?_
      refine z_xP zt196 67 153 [some (.ref 19), some (.int x644), some (.int 0), none] [.ref 19, .ref 28] rfl rfl ?_
      have h1112 := (e1107.f f19 (by decide) (e1072.f f19 (by decide) h1037))
      refine z_xgv zt196 68 rfl zo196 zzf12_133 X1106 f19 (by decide) h1112 ?_
      refine z_xP zt196 69 157 [some (.ref 19), some (.int x644), some (.int 0), none] [.ref 19, .int x1038, .ref 28] rfl rfl ?_
      refine z_xcV (vs := [.ref 19]) (r := [.int x1038, .ref 28]) (L2 := [some (.ref 19), none, none, none, none]) zt196 70 rfl zo196 zzcV12_190 (Or.inl rfl) rfl X1106 f19 rfl rfl rfl (Nat.le_of_ble_eq_true rfl) zzm197 (Nat.le_of_ble_eq_true rfl) rfl ?_
      refine zC197 X1106.1 h1108 ⟨by omega, by omega⟩ (z_GL.go hL X1106 (by decide)) (fun x1119 M1113 X1114 h1120 h1121 z1115 h1116 h1117 h1118 => ?_)
      have X1122 := X1106.go X1114 (z_sb (by decide))
      show z_ev (d + 972) 196 160 [some (.ref 19), some (.int x644), some (.int 0), none] [.int x1119, .int x1038, .ref 28] M1113 _
      refine z_xis zt196 71 rfl X1122 f28 (by decide) (by decide) (by omega) (by omega) (Int32.le_toInt _) (Int32.toInt_le _) (by decide) (fun M1124 X1125 e1126 h1127 => ?_)
      have h1130 := (e1126.f f19 (by decide) (X1114.2.f f19 (by decide) h1112))
      have q1129 := (z_OTA h1130 ((e1126.1 19 12 0 0 0 0 22 f19 (by decide)).trans ((X1114.2.1 19 12 0 0 0 0 22 f19 (by decide)).trans ((e1107.1 19 12 0 0 0 0 22 f19 (by decide)).trans (e1072.1 19 12 0 0 0 0 22 f19 (by decide))))).symm)
      have o1128 := z_OT.st (A := (z_Fv M0 19 22).toInt) (z_OT.ke (z_OT.ke (z_OT.ke z_OT.refl X.1 e1072 rfl) X.1 e1107 rfl) X.1 X1114.2 rfl) X.1 e1126 h1127 (r := 28) (by decide) (fun _ => by omega) (fun h => absurd h (by decide))
      refine z_xP zt196 72 208 [some (.ref 19), some (.int x644), some (.int 0), none] [] rfl rfl ?_
      have h1131 := (e1126.f f19 (by decide) h1116)
      exact z_xrv zt196 99 rfl zzr196 (kk M1124 X1125 o1128 z1115 h1131 ⟨by omega, by omega⟩ (by omega))
    refine z_xP zt192 7 16 [some (.ref 19), some (.int 32)] [.int 0] rfl rfl ?_
    refine z_xrz zt192 8 rfl zzr192 (by decide) (by decide) ?_
    show z_ev (d + 972) 196 111 [some (.ref 19), some (.int x644), some (.int 0), none] [.int 0] M1070 _
    refine z_xZ zt196 48 rfl rfl (fun (h1132 : (0 : Int) ≠ 0) => absurd h1132 (by omega)) (fun (h1132 : (0 : Int) = 0) => ?_)
    refine z_xP zt196 49 115 [some (.ref 19), some (.int x644), some (.int 0), none] [.ref 19] rfl rfl ?_
    refine z_xcV (vs := [.ref 19]) (r := []) (L2 := [some (.ref 19)]) zt196 50 rfl zo196 zzcV12_163 (Or.inl rfl) rfl X1071 f19 rfl rfl rfl (Nat.le_of_ble_eq_true rfl) zzm194 (Nat.le_of_ble_eq_true rfl) rfl ?_
    refine z_xP zt194 0 2 [some (.ref 19)] [.ref 19, .ref 19] rfl rfl ?_
    refine z_xgv zt194 1 rfl zo194 zzf12_136 X1071 f19 (by decide) h1074 ?_
    refine z_xZ zt194 2 rfl rfl (fun (h1133 : 0 ≤ x1075.toInt) => absurd h1133 (by omega)) (fun (h1133 : x1075.toInt < 0) => ?_)
    refine z_xP zt194 3 9 [some (.ref 19)] [.ref 19, .ref 19] rfl rfl ?_
    refine z_xgv zt194 4 rfl zo194 zzf12_123 X1071 f19 (by decide) h1073 ?_
    refine z_xP zt194 5 19 [some (.ref 19)] [.int x1068, .ref 19] rfl rfl ?_
    refine z_xpf zt194 8 rfl zo194 zzf12_136 X1071 f19 (by decide) (by decide) ⟨Int32.le_toInt _, Int32.toInt_le _⟩ rfl (by decide) zw12_26 (fun M1134 X1135 e1136 h1137 => ?_)
    refine z_xP zt194 9 23 [some (.ref 19)] [.int 0] rfl rfl ?_
    refine z_xrz zt194 10 rfl zzr194 (by decide) (by decide) ?_
    show z_ev (d + 972) 196 118 [some (.ref 19), some (.int x644), some (.int 0), none] [.int 0] M1134 _
    refine z_xP zt196 51 119 [some (.ref 19), some (.int x644), some (.int 0), some (.int 0)] [] rfl rfl ?_
    have h1138 := (e1136.f f19 (by decide) h1073)
    exact z_xrv zt196 52 rfl zzr196 (kk M1134 X1135 (z_OT.ke (z_OT.ke z_OT.refl X.1 e1072 rfl) X.1 e1136 rfl) x1068 h1138 ⟨by omega, by omega⟩ (by omega))
  refine z_xP zt196 4 12 [some (.ref 19), some (.int x644), none, none] [.ref 19] rfl rfl ?_
  refine z_xgX (b := 27) zt196 5 rfl zo196 zzf12_31 X f19 (by decide) (by decide) rfl ?_
  refine z_xP zt196 6 16 [some (.ref 19), some (.int x644), none, none] [.ref 19, .ref 27] rfl rfl ?_
  refine z_xgI zt196 7 rfl zo196 zzf12_133 X f19 (by decide) (by decide) rfl (fun (x1140 : Int32) h1139 (h1141 : 0 ≤ x1140.toInt) (h1142 : x1140.toInt ≤ 7) => ?_)
  have f27 : T[27]? = some (.inr (27, 0, 8, (-2147483648), 2147483647)) := X.1.k rfl (by decide)
  refine z_xil zt196 8 rfl X f27 (by decide) (by omega) (by omega) (fun (x1143 : Int32) h1144 (h1145 : (-2147483648) ≤ x1143.toInt) (h1146 : x1143.toInt ≤ 2147483647) => ?_)
  refine z_xZ zt196 9 rfl rfl (fun (h1147 : 0 < x1143.toInt) => ?_) (fun (h1147 : x1143.toInt ≤ 0) => ?_)
  · skip
    refine z_xP zt196 27 66 [some (.ref 19), some (.int x644), none, none] [.int 1] rfl rfl ?_
    refine z_xP zt196 29 70 [some (.ref 19), some (.int x644), some (.int 1), none] [.int 112, .int x644] rfl rfl ?_
    refine z_xJ zt196 30 rfl rfl (fun (h1148 : x644.toInt = 112) => ?_) (fun (h1148 : x644.toInt ≠ 112) => absurd h1148 (by omega))
    refine z_xP zt196 35 86 [some (.ref 19), some (.int x644), some (.int 1), none] [.int 1] rfl rfl ?_
    refine z_xZ zt196 36 rfl rfl (fun (h1149 : (1 : Int) = 0) => absurd h1149 (by omega)) (fun (h1149 : (1 : Int) ≠ 0) => ?_)
    refine z_xP zt196 37 90 [some (.ref 19), some (.int x644), some (.int 1), none] [.ref 19] rfl rfl ?_
    refine z_xcV (vs := [.ref 19]) (r := []) (L2 := [some (.ref 19)]) zt196 38 rfl zo196 zzcV12_163 (Or.inl rfl) rfl X f19 rfl rfl rfl (Nat.le_of_ble_eq_true rfl) zzm194 (Nat.le_of_ble_eq_true rfl) rfl ?_
    refine z_xP zt194 0 2 [some (.ref 19)] [.ref 19, .ref 19] rfl rfl ?_
    refine z_xgI zt194 1 rfl zo194 zzf12_136 X f19 (by decide) (by decide) rfl (fun (x1151 : Int32) h1150 (h1152 : (-2147483648) ≤ x1151.toInt) (h1153 : x1151.toInt ≤ 2147483647) => ?_)
    refine z_xZ zt194 2 rfl rfl (fun (h1154 : 0 ≤ x1151.toInt) => ?_) (fun (h1154 : x1151.toInt < 0) => ?_)
    · skip
      refine z_xP zt194 6 16 [some (.ref 19)] [.ref 19, .ref 19] rfl rfl ?_
      refine z_xgv zt194 7 rfl zo194 zzf12_136 X f19 (by decide) h1150 ?_
      refine z_xpf zt194 8 rfl zo194 zzf12_136 X f19 (by decide) (by decide) ⟨Int32.le_toInt _, Int32.toInt_le _⟩ rfl (by decide) zw12_26 (fun M1155 X1156 e1157 h1158 => ?_)
      refine z_xP zt194 9 23 [some (.ref 19)] [.int 0] rfl rfl ?_
      refine z_xrz zt194 10 rfl zzr194 (by decide) (by decide) ?_
      show z_ev (d + 972) 196 93 [some (.ref 19), some (.int x644), some (.int 1), none] [.int 0] M1155 _
      refine z_xP zt196 39 94 [some (.ref 19), some (.int x644), some (.int 1), some (.int 0)] [] rfl rfl ?_
      have h1159 := (e1157.f f19 (by decide) hz0)
      exact z_xrv zt196 40 rfl zzr196 (kk M1155 X1156 (z_OT.ke z_OT.refl X.1 e1157 rfl) zp0 h1159 ⟨by omega, by omega⟩ (by omega))
    refine z_xP zt194 3 9 [some (.ref 19)] [.ref 19, .ref 19] rfl rfl ?_
    refine z_xgv zt194 4 rfl zo194 zzf12_123 X f19 (by decide) hz0 ?_
    refine z_xP zt194 5 19 [some (.ref 19)] [.int zp0, .ref 19] rfl rfl ?_
    refine z_xpf zt194 8 rfl zo194 zzf12_136 X f19 (by decide) (by decide) ⟨Int32.le_toInt _, Int32.toInt_le _⟩ rfl (by decide) zw12_26 (fun M1160 X1161 e1162 h1163 => ?_)
    refine z_xP zt194 9 23 [some (.ref 19)] [.int 0] rfl rfl ?_
    refine z_xrz zt194 10 rfl zzr194 (by decide) (by decide) ?_
    show z_ev (d + 972) 196 93 [some (.ref 19), some (.int x644), some (.int 1), none] [.int 0] M1160 _
    refine z_xP zt196 39 94 [some (.ref 19), some (.int x644), some (.int 1), some (.int 0)] [] rfl rfl ?_
    have h1164 := (e1162.f f19 (by decide) hz0)
    exact z_xrv zt196 40 rfl zzr196 (kk M1160 X1161 (z_OT.ke z_OT.refl X.1 e1162 rfl) zp0 h1164 ⟨by omega, by omega⟩ (by omega))
  refine z_xP zt196 10 26 [some (.ref 19), some (.int x644), none, none] [.int 101, .int x644] rfl rfl ?_
  refine z_xJ zt196 11 rfl rfl (fun (h1165 : x644.toInt ≠ 101) => ?_) (fun (h1165 : x644.toInt = 101) => absurd h1165 (by omega))
  refine z_xP zt196 18 44 [some (.ref 19), some (.int x644), none, none] [.int 116, .int x644] rfl rfl ?_
  refine z_xJ zt196 19 rfl rfl (fun (h1166 : x644.toInt ≠ 116) => ?_) (fun (h1166 : x644.toInt = 116) => absurd h1166 (by omega))
  refine z_xP zt196 28 66 [some (.ref 19), some (.int x644), none, none] [.int 0] rfl rfl ?_
  refine z_xP zt196 29 70 [some (.ref 19), some (.int x644), some (.int 0), none] [.int 112, .int x644] rfl rfl ?_
  refine z_xJ zt196 30 rfl rfl (fun (h1167 : x644.toInt = 112) => ?_) (fun (h1167 : x644.toInt ≠ 112) => absurd h1167 (by omega))
  refine z_xP zt196 35 86 [some (.ref 19), some (.int x644), some (.int 0), none] [.int 0] rfl rfl ?_
  refine z_xZ zt196 36 rfl rfl (fun (h1168 : (0 : Int) = 0) => ?_) (fun (h1168 : (0 : Int) ≠ 0) => absurd h1168 (by omega))
  refine z_xP zt196 41 97 [some (.ref 19), some (.int x644), some (.int 0), none] [.ref 19, .ref 19] rfl rfl ?_
  refine z_xgv zt196 42 rfl zo196 zzf12_123 X f19 (by decide) hz0 ?_
  refine z_xP zt196 43 101 [some (.ref 19), some (.int x644), some (.int 0), none] [.int 1, .int zp0, .ref 19] rfl rfl ?_
  refine z_xI zt196 44 rfl rfl (fun (x1169 : Int32) (h1170 : x1169.toInt = zp0.toInt + 1) => ?_) (z_pAdd rfl rfl (by omega) (by omega))
  refine z_xpf zt196 45 rfl zo196 zzf12_123 X f19 (by decide) (by decide) ⟨by omega, by omega⟩ rfl (by decide) zw12_24 (fun M1171 X1172 e1173 h1174 => ?_)
  refine z_xP zt196 46 108 [some (.ref 19), some (.int x644), some (.int 0), none] [.int 32, .ref 19] rfl rfl ?_
  refine z_xcV (vs := [.ref 19, .int 32]) (r := []) (L2 := [some (.ref 19), some (.int 32)]) zt196 47 rfl zo196 zzcV12_147 (Or.inl rfl) rfl X1172 f19 rfl rfl rfl (Nat.le_of_ble_eq_true rfl) zzm192 (Nat.le_of_ble_eq_true rfl) rfl ?_
  refine z_xP zt192 0 1 [some (.ref 19), some (.int 32)] [.ref 19] rfl rfl ?_
  refine z_xgI zt192 1 rfl zo192 zzf12_136 X1172 f19 (by decide) (by decide) rfl (fun (x1176 : Int32) h1175 (h1177 : (-2147483648) ≤ x1176.toInt) (h1178 : x1176.toInt ≤ 2147483647) => ?_)
  refine z_xZ zt192 2 rfl rfl (fun (h1179 : 0 ≤ x1176.toInt) => ?_) (fun (h1179 : x1176.toInt < 0) => ?_)
  · skip
    refine z_xP zt192 7 16 [some (.ref 19), some (.int 32)] [.int 0] rfl rfl ?_
    refine z_xrz zt192 8 rfl zzr192 (by decide) (by decide) ?_
    show z_ev (d + 972) 196 111 [some (.ref 19), some (.int x644), some (.int 0), none] [.int 0] M1171 _
    refine z_xZ zt196 48 rfl rfl (fun (h1180 : (0 : Int) ≠ 0) => absurd h1180 (by omega)) (fun (h1180 : (0 : Int) = 0) => ?_)
    refine z_xP zt196 49 115 [some (.ref 19), some (.int x644), some (.int 0), none] [.ref 19] rfl rfl ?_
    refine z_xcV (vs := [.ref 19]) (r := []) (L2 := [some (.ref 19)]) zt196 50 rfl zo196 zzcV12_163 (Or.inl rfl) rfl X1172 f19 rfl rfl rfl (Nat.le_of_ble_eq_true rfl) zzm194 (Nat.le_of_ble_eq_true rfl) rfl ?_
    refine z_xP zt194 0 2 [some (.ref 19)] [.ref 19, .ref 19] rfl rfl ?_
    refine z_xgv zt194 1 rfl zo194 zzf12_136 X1172 f19 (by decide) h1175 ?_
    refine z_xZ zt194 2 rfl rfl (fun (h1181 : 0 ≤ x1176.toInt) => ?_) (fun (h1181 : x1176.toInt < 0) => absurd h1181 (by omega))
    refine z_xP zt194 6 16 [some (.ref 19)] [.ref 19, .ref 19] rfl rfl ?_
    refine z_xgv zt194 7 rfl zo194 zzf12_136 X1172 f19 (by decide) h1175 ?_
    refine z_xpf zt194 8 rfl zo194 zzf12_136 X1172 f19 (by decide) (by decide) ⟨Int32.le_toInt _, Int32.toInt_le _⟩ rfl (by decide) zw12_26 (fun M1182 X1183 e1184 h1185 => ?_)
    refine z_xP zt194 9 23 [some (.ref 19)] [.int 0] rfl rfl ?_
    refine z_xrz zt194 10 rfl zzr194 (by decide) (by decide) ?_
    show z_ev (d + 972) 196 118 [some (.ref 19), some (.int x644), some (.int 0), none] [.int 0] M1182 _
    refine z_xP zt196 51 119 [some (.ref 19), some (.int x644), some (.int 0), some (.int 0)] [] rfl rfl ?_
    have h1186 := (e1184.f f19 (by decide) h1174)
    exact z_xrv zt196 52 rfl zzr196 (kk M1182 X1183 (z_OT.ke (z_OT.ke z_OT.refl X.1 e1173 rfl) X.1 e1184 rfl) x1169 h1186 ⟨by omega, by omega⟩ (by omega))
  refine z_xP zt192 3 8 [some (.ref 19), some (.int 32)] [.ref 19] rfl rfl ?_
  refine z_xcV (vs := [.ref 19]) (r := []) (L2 := [some (.ref 19)]) zt192 4 rfl zo192 zzcV12_139 (Or.inl rfl) rfl X1172 f19 rfl rfl rfl (Nat.le_of_ble_eq_true rfl) zzm193 (Nat.le_of_ble_eq_true rfl) rfl ?_
  refine z_xP zt193 0 1 [some (.ref 19)] [.ref 19] rfl rfl ?_
  refine z_xgv zt193 1 rfl zo193 zzf12_123 X1172 f19 (by decide) h1174 ?_
  refine z_xP zt193 2 5 [some (.ref 19)] [.ref 19, .int x1169] rfl rfl ?_
  have h1187 := (e1173.f f19 (by decide) h1)
  refine z_xgv zt193 3 rfl zo193 zzf12_126 X1172 f19 (by decide) h1187 ?_
  refine z_xJ zt193 4 rfl rfl (fun (h1188 : x2.toInt ≤ x1169.toInt) => ?_) (fun (h1188 : x1169.toInt < x2.toInt) => ?_)
  · skip
    refine z_xP zt193 24 52 [some (.ref 19)] [.int 0] rfl rfl ?_
    refine z_xri zt193 25 rfl zzr193 ?_
    show z_ev (d + 971) 192 11 [some (.ref 19), some (.int 32)] [.int 0] M1171 _
    refine z_xP zt192 5 12 [some (.ref 19), some (.int 32)] [.int 32, .int 0] rfl rfl ?_
    refine z_xJ zt192 6 rfl rfl (fun (h1189 : (0 : Int) = 32) => absurd h1189 (by omega)) (fun (h1189 : (0 : Int) ≠ 32) => ?_)
    refine z_xP zt192 7 16 [some (.ref 19), some (.int 32)] [.int 0] rfl rfl ?_
    refine z_xrz zt192 8 rfl zzr192 (by decide) (by decide) ?_
    show z_ev (d + 972) 196 111 [some (.ref 19), some (.int x644), some (.int 0), none] [.int 0] M1171 _
    refine z_xZ zt196 48 rfl rfl (fun (h1190 : (0 : Int) ≠ 0) => absurd h1190 (by omega)) (fun (h1190 : (0 : Int) = 0) => ?_)
    refine z_xP zt196 49 115 [some (.ref 19), some (.int x644), some (.int 0), none] [.ref 19] rfl rfl ?_
    refine z_xcV (vs := [.ref 19]) (r := []) (L2 := [some (.ref 19)]) zt196 50 rfl zo196 zzcV12_163 (Or.inl rfl) rfl X1172 f19 rfl rfl rfl (Nat.le_of_ble_eq_true rfl) zzm194 (Nat.le_of_ble_eq_true rfl) rfl ?_
    refine z_xP zt194 0 2 [some (.ref 19)] [.ref 19, .ref 19] rfl rfl ?_
    refine z_xgv zt194 1 rfl zo194 zzf12_136 X1172 f19 (by decide) h1175 ?_
    refine z_xZ zt194 2 rfl rfl (fun (h1191 : 0 ≤ x1176.toInt) => absurd h1191 (by omega)) (fun (h1191 : x1176.toInt < 0) => ?_)
    refine z_xP zt194 3 9 [some (.ref 19)] [.ref 19, .ref 19] rfl rfl ?_
    refine z_xgv zt194 4 rfl zo194 zzf12_123 X1172 f19 (by decide) h1174 ?_
    refine z_xP zt194 5 19 [some (.ref 19)] [.int x1169, .ref 19] rfl rfl ?_
    refine z_xpf zt194 8 rfl zo194 zzf12_136 X1172 f19 (by decide) (by decide) ⟨Int32.le_toInt _, Int32.toInt_le _⟩ rfl (by decide) zw12_26 (fun M1192 X1193 e1194 h1195 => ?_)
    refine z_xP zt194 9 23 [some (.ref 19)] [.int 0] rfl rfl ?_
    refine z_xrz zt194 10 rfl zzr194 (by decide) (by decide) ?_
    show z_ev (d + 972) 196 118 [some (.ref 19), some (.int x644), some (.int 0), none] [.int 0] M1192 _
    refine z_xP zt196 51 119 [some (.ref 19), some (.int x644), some (.int 0), some (.int 0)] [] rfl rfl ?_
    have h1196 := (e1194.f f19 (by decide) h1174)
    exact z_xrv zt196 52 rfl zzr196 (kk M1192 X1193 (z_OT.ke (z_OT.ke z_OT.refl X.1 e1173 rfl) X.1 e1194 rfl) x1169 h1196 ⟨by omega, by omega⟩ (by omega))
  refine z_xP zt193 5 12 [some (.ref 19)] [.ref 19] rfl rfl ?_
  have h1197 := (e1173.f f19 (by decide) h27)
  refine z_xgv zt193 6 rfl zo193 zzf12_129 X1172 f19 (by decide) h1197 ?_
  refine z_xZ zt193 7 rfl rfl (fun (h1198 : x28.toInt = 0) => absurd h1198 (by omega)) (fun (h1198 : x28.toInt ≠ 0) => ?_)
  refine z_xP zt193 8 19 [some (.ref 19)] [.ref 19] rfl rfl ?_
  refine z_xgX (b := 20) zt193 9 rfl zo193 zzf12_9 X1172 f19 (by decide) (by decide) rfl ?_
  refine z_xP zt193 10 23 [some (.ref 19)] [.ref 19, .ref 20] rfl rfl ?_
  refine z_xgv zt193 11 rfl zo193 zzf12_123 X1172 f19 (by decide) h1174 ?_
  refine z_xil zt193 12 rfl X1172 f20 (by decide) (by omega) (by omega) (fun (x1199 : Int32) h1200 (h1201 : (-2147483648) ≤ x1199.toInt) (h1202 : x1199.toInt ≤ 2147483647) => ?_)
  refine z_xP zt193 13 52 [some (.ref 19)] [.int x1199] rfl rfl ?_
  refine z_xri zt193 25 rfl zzr193 ?_
  show z_ev (d + 971) 192 11 [some (.ref 19), some (.int 32)] [.int x1199] M1171 _
  refine z_xP zt192 5 12 [some (.ref 19), some (.int 32)] [.int 32, .int x1199] rfl rfl ?_
  refine z_xJ zt192 6 rfl rfl (fun (h1203 : x1199.toInt = 32) => ?_) (fun (h1203 : x1199.toInt ≠ 32) => ?_)
  · skip
    refine z_xP zt192 9 19 [some (.ref 19), some (.int 32)] [.ref 19, .ref 19] rfl rfl ?_
    refine z_xgv zt192 10 rfl zo192 zzf12_123 X1172 f19 (by decide) h1174 ?_
    refine z_xP zt192 11 23 [some (.ref 19), some (.int 32)] [.int 1, .int x1169, .ref 19] rfl rfl ?_
    refine z_xI zt192 12 rfl rfl (fun (x1204 : Int32) (h1205 : x1204.toInt = x1169.toInt + 1) => ?_) (z_pAdd rfl rfl (by omega) (by omega))
    refine z_xpf zt192 13 rfl zo192 zzf12_123 X1172 f19 (by decide) (by decide) ⟨by omega, by omega⟩ rfl (by decide) zw12_24 (fun M1206 X1207 e1208 h1209 => ?_)
    refine z_xP zt192 14 28 [some (.ref 19), some (.int 32)] [.int 1] rfl rfl ?_
    refine z_xrz zt192 15 rfl zzr192 (by decide) (by decide) ?_
    show z_ev (d + 972) 196 111 [some (.ref 19), some (.int x644), some (.int 0), none] [.int 1] M1206 _
    refine z_xZ zt196 48 rfl rfl (fun (h1210 : (1 : Int) ≠ 0) => ?_) (fun (h1210 : (1 : Int) = 0) => absurd h1210 (by omega))
    refine z_xP zt196 53 123 [some (.ref 19), some (.int x644), some (.int 0), none] [.int 112, .int x644] rfl rfl ?_
    refine z_xJ zt196 54 rfl rfl (fun (h1211 : x644.toInt ≠ 112) => absurd h1211 (by omega)) (fun (h1211 : x644.toInt = 112) => ?_)
    refine z_xP zt196 55 127 [some (.ref 19), some (.int x644), some (.int 0), none] [.ref 19] rfl rfl ?_
    refine z_xgX (b := 27) zt196 56 rfl zo196 zzf12_31 X1207 f19 (by decide) (by decide) rfl ?_
    refine z_xP zt196 57 131 [some (.ref 19), some (.int x644), some (.int 0), none] [.ref 19, .ref 27] rfl rfl ?_
    have h1212 := (e1208.f f19 (by decide) (e1173.f f19 (by decide) h1139))
    refine z_xgv zt196 58 rfl zo196 zzf12_133 X1207 f19 (by decide) h1212 ?_
    refine z_xP zt196 59 135 [some (.ref 19), some (.int x644), some (.int 0), none] [.ref 19, .int x1140, .ref 27] rfl rfl ?_
    refine z_xcV (vs := [.ref 19]) (r := [.int x1140, .ref 27]) (L2 := [some (.ref 19), none, none, none, none]) zt196 60 rfl zo196 zzcV12_190 (Or.inl rfl) rfl X1207 f19 rfl rfl rfl (Nat.le_of_ble_eq_true rfl) zzm197 (Nat.le_of_ble_eq_true rfl) rfl ?_
    refine zC197 X1207.1 h1209 ⟨by omega, by omega⟩ (z_GL.go hL X1207 (by decide)) (fun x1219 M1213 X1214 h1220 h1221 z1215 h1216 h1217 h1218 => ?_)
    have X1222 := X1207.go X1214 (z_sb (by decide))
    show z_ev (d + 972) 196 138 [some (.ref 19), some (.int x644), some (.int 0), none] [.int x1219, .int x1140, .ref 27] M1213 _
    refine z_xis zt196 61 rfl X1222 f27 (by decide) (by decide) (by omega) (by omega) (Int32.le_toInt _) (Int32.toInt_le _) (by decide) (fun M1224 X1225 e1226 h1227 => ?_)
    have h1230 := (e1226.f f19 (by decide) (X1214.2.f f19 (by decide) h1212))
    have q1229 := (z_OTA h1230 ((e1226.1 19 12 0 0 0 0 22 f19 (by decide)).trans ((X1214.2.1 19 12 0 0 0 0 22 f19 (by decide)).trans ((e1208.1 19 12 0 0 0 0 22 f19 (by decide)).trans (e1173.1 19 12 0 0 0 0 22 f19 (by decide))))).symm)
    have o1228 := z_OT.st (A := (z_Fv M0 19 22).toInt) (z_OT.ke (z_OT.ke (z_OT.ke z_OT.refl X.1 e1173 rfl) X.1 e1208 rfl) X.1 X1214.2 rfl) X.1 e1226 h1227 (r := 27) (by decide) (fun _ => by omega) (fun h => absurd h (by decide))
    refine z_xP zt196 62 208 [some (.ref 19), some (.int x644), some (.int 0), none] [] rfl rfl ?_
    have h1231 := (e1226.f f19 (by decide) h1216)
    exact z_xrv zt196 99 rfl zzr196 (kk M1224 X1225 o1228 z1215 h1231 ⟨by omega, by omega⟩ (by omega))
  refine z_xP zt192 7 16 [some (.ref 19), some (.int 32)] [.int 0] rfl rfl ?_
  refine z_xrz zt192 8 rfl zzr192 (by decide) (by decide) ?_
  show z_ev (d + 972) 196 111 [some (.ref 19), some (.int x644), some (.int 0), none] [.int 0] M1171 _
  refine z_xZ zt196 48 rfl rfl (fun (h1232 : (0 : Int) ≠ 0) => absurd h1232 (by omega)) (fun (h1232 : (0 : Int) = 0) => ?_)
  refine z_xP zt196 49 115 [some (.ref 19), some (.int x644), some (.int 0), none] [.ref 19] rfl rfl ?_
  refine z_xcV (vs := [.ref 19]) (r := []) (L2 := [some (.ref 19)]) zt196 50 rfl zo196 zzcV12_163 (Or.inl rfl) rfl X1172 f19 rfl rfl rfl (Nat.le_of_ble_eq_true rfl) zzm194 (Nat.le_of_ble_eq_true rfl) rfl ?_
  refine z_xP zt194 0 2 [some (.ref 19)] [.ref 19, .ref 19] rfl rfl ?_
  refine z_xgv zt194 1 rfl zo194 zzf12_136 X1172 f19 (by decide) h1175 ?_
  refine z_xZ zt194 2 rfl rfl (fun (h1233 : 0 ≤ x1176.toInt) => absurd h1233 (by omega)) (fun (h1233 : x1176.toInt < 0) => ?_)
  refine z_xP zt194 3 9 [some (.ref 19)] [.ref 19, .ref 19] rfl rfl ?_
  refine z_xgv zt194 4 rfl zo194 zzf12_123 X1172 f19 (by decide) h1174 ?_
  refine z_xP zt194 5 19 [some (.ref 19)] [.int x1169, .ref 19] rfl rfl ?_
  refine z_xpf zt194 8 rfl zo194 zzf12_136 X1172 f19 (by decide) (by decide) ⟨Int32.le_toInt _, Int32.toInt_le _⟩ rfl (by decide) zw12_26 (fun M1234 X1235 e1236 h1237 => ?_)
  refine z_xP zt194 9 23 [some (.ref 19)] [.int 0] rfl rfl ?_
  refine z_xrz zt194 10 rfl zzr194 (by decide) (by decide) ?_
  show z_ev (d + 972) 196 118 [some (.ref 19), some (.int x644), some (.int 0), none] [.int 0] M1234 _
  refine z_xP zt196 51 119 [some (.ref 19), some (.int x644), some (.int 0), some (.int 0)] [] rfl rfl ?_
  have h1238 := (e1236.f f19 (by decide) h1174)
  exact z_xrv zt196 52 rfl zzr196 (kk M1234 X1235 (z_OT.ke (z_OT.ke z_OT.refl X.1 e1173 rfl) X.1 e1236 rfl) x1169 h1238 ⟨by omega, by omega⟩ (by omega))
theorem zOB190 {T : List zK} {d : Nat} {K : Option Value → zH → Prop}  {M0 : zH} (hL : z_GL M0) (ha4 : z_G4 M0) (kk : ∀ (x : Int32) (M1 : zH), z_X T zw190 M0 M1 → z_GL M1 → z_OT (z_Fv M0 19 13).toInt M0 M1 → z_G4 M1 → z_OZ M0 M1 → K (some (.int x)) M1) : ∀ n : Nat, (∀ (M : zH) (b1 : Int32) (z0 : Int32) (z1 : Int32) (z2 : Int32), z_X T zw190 M0 M → 0 ≤ b1.toInt ∧ b1.toInt ≤ 7 → z_F M 19 13 = some (.int z0) → 0 ≤ z0.toInt ∧ z0.toInt ≤ 7 → z_F M 19 24 = some (.int z1) → 0 ≤ z1.toInt ∧ z1.toInt ≤ 160 → z_F M 19 22 = some (.int z2) → 0 ≤ z2.toInt ∧ z2.toInt ≤ 7 → z0.toInt = b1.toInt → z2.toInt = b1.toInt → z_GL M → z_F M0 19 13 = some (.int b1) → z_OT (z_Fv M0 19 13).toInt M0 M → z_A4 M b1.toInt → z_Ar M 35 = z_Ar M0 35 → ((((0) * 5 + 3) * 1025 + (160 - z1.toInt)) * 5 + 4) * 9 + (0) < (n : Int) → z_ev (d + 973) 190 80 [some (.ref 19), some (.int b1), none, none, none, none] [] M K) ∧ (∀ (M : zH) (b1 : Int32) (b2 : Int32) (b3 : Int32) (z0 : Int32), z_X T zw190 M0 M → 0 ≤ b1.toInt ∧ b1.toInt ≤ 7 → 0 ≤ b2.toInt ∧ b2.toInt ≤ 160 → 0 ≤ b3.toInt ∧ b3.toInt ≤ 160 → z_F M 19 13 = some (.int z0) → 0 ≤ z0.toInt ∧ z0.toInt ≤ 7 → z0.toInt = b1.toInt → z_GL M → z_F M0 19 13 = some (.int b1) → z_OT (z_Fv M0 19 13).toInt M0 M → z_A4 M b1.toInt → z_Ar M 35 = z_Ar M0 35 → ((((0) * 5 + 2) * 1025 + (160 - b3.toInt)) * 5 + 4) * 9 + (0) < (n : Int) → z_ev (d + 973) 190 146 [some (.ref 19), some (.int b1), some (.int b2), some (.int b3), none, none] [] M K) ∧ (∀ (M : zH) (b1 : Int32) (b2 : Int32) (b3 : Int32) (o4 : Option Value) (o5 : Option Value) (z0 : Int32) (z1 : Int32) (z2 : Int32), z_X T zw190 M0 M → 0 ≤ b1.toInt ∧ b1.toInt ≤ 7 → 0 ≤ b2.toInt ∧ b2.toInt ≤ 160 → 0 ≤ b3.toInt ∧ b3.toInt ≤ 1024 → z_F M 19 13 = some (.int z0) → 0 ≤ z0.toInt ∧ z0.toInt ≤ 7 → z_Ar M 31 b1.toNatClampNeg = z1 → 0 ≤ z1.toInt ∧ z1.toInt ≤ 1024 → z_Ar M 24 b1.toNatClampNeg = z2 → 0 ≤ z2.toInt ∧ z2.toInt ≤ 10 → z0.toInt = b1.toInt → z1.toInt ≤ b3.toInt → z_GL M → z_F M0 19 13 = some (.int b1) → z_OT (z_Fv M0 19 13).toInt M0 M → z_A4 M b1.toInt → z_Ar M 35 = z_Ar M0 35 → ((((0) * 5 + 1) * 1025 + (1024 - b3.toInt)) * 5 + 4) * 9 + (0) < (n : Int) → z_ev (d + 973) 190 191 [some (.ref 19), some (.int b1), some (.int b2), some (.int b3), o4, o5] [] M K) ∧ (∀ (M : zH) (b1 : Int32) (b2 : Int32) (b3 : Int32) (b4 : Int32) (b5 : Int32) (z0 : Int32) (z1 : Int32) (z2 : Int32), z_X T zw190 M0 M → 0 ≤ b1.toInt ∧ b1.toInt ≤ 7 → 0 ≤ b2.toInt ∧ b2.toInt ≤ 160 → 0 ≤ b3.toInt ∧ b3.toInt ≤ 1023 → 0 ≤ b4.toInt ∧ b4.toInt ≤ 255 → 0 ≤ b5.toInt ∧ b5.toInt ≤ 8 → z_F M 19 13 = some (.int z0) → 0 ≤ z0.toInt ∧ z0.toInt ≤ 7 → z_Ar M 31 b1.toNatClampNeg = z1 → 0 ≤ z1.toInt ∧ z1.toInt ≤ 1024 → z_Ar M 24 b1.toNatClampNeg = z2 → 0 ≤ z2.toInt ∧ z2.toInt ≤ 10 → z0.toInt = b1.toInt → z1.toInt ≤ b3.toInt → b3.toInt < 1024 → z_GL M → z_F M0 19 13 = some (.int b1) → z_OT (z_Fv M0 19 13).toInt M0 M → z_A4 M b1.toInt → z_Ar M 35 = z_Ar M0 35 → ((((0) * 5 + 1) * 1025 + (1024 - b3.toInt)) * 5 + 0) * 9 + (8 - b5.toInt) < (n : Int) → z_ev (d + 973) 190 209 [some (.ref 19), some (.int b1), some (.int b2), some (.int b3), some (.int b4), some (.int b5)] [] M K) := by
  intro n
  induction n with
  | zero => exact ⟨(by intros; exfalso; omega), (by intros; exfalso; omega), (by intros; exfalso; omega), (by intros; exfalso; omega)⟩
  | succ n ih =>
    refine ⟨?_, ?_, ?_, ?_⟩
    · skip
      intro M b1 z0 z1 z2 X hh0 hp0 hh2 hp1 hh4 hp2 hh6 hh7 hh8 hl hA0 hO hA4 hZ hE
      refine z_xP zt190 37 83 [some (.ref 19), some (.int b1), none, none, none, none] [.int 59, .ref 19] rfl rfl ?_
      have f19 : T[19]? = some (.inl (12, 0, 0, 0, 0)) := X.1.k rfl (by decide)
      refine z_xcV (vs := [.ref 19, .int 59]) (r := []) (L2 := [some (.ref 19), some (.int 59)]) zt190 38 rfl zo190 zzcV12_147 (Or.inl rfl) rfl X f19 rfl rfl rfl (Nat.le_of_ble_eq_true rfl) zzm192 (Nat.le_of_ble_eq_true rfl) rfl ?_
      refine z_xP zt192 0 1 [some (.ref 19), some (.int 59)] [.ref 19] rfl rfl ?_
      refine z_xgI zt192 1 rfl zo192 zzf12_136 X f19 (by decide) (by decide) rfl (fun (x2 : Int32) h1 (h3 : (-2147483648) ≤ x2.toInt) (h4 : x2.toInt ≤ 2147483647) => ?_)
      refine z_xZ zt192 2 rfl rfl (fun (h5 : 0 ≤ x2.toInt) => ?_) (fun (h5 : x2.toInt < 0) => ?_)
      · skip
        refine z_xP zt192 7 16 [some (.ref 19), some (.int 59)] [.int 0] rfl rfl ?_
        refine z_xrz zt192 8 rfl zzr192 (by decide) (by decide) ?_
        show z_ev (d + 973) 190 86 [some (.ref 19), some (.int b1), none, none, none, none] [.int 0] M _
        refine z_xZ zt190 39 rfl rfl (fun (h6 : (0 : Int) = 0) => ?_) (fun (h6 : (0 : Int) ≠ 0) => absurd h6 (by omega))
        refine z_xP zt190 43 97 [some (.ref 19), some (.int b1), none, none, none, none] [.ref 19] rfl rfl ?_
        refine z_xgv zt190 44 rfl zo190 zzf12_136 X f19 (by decide) h1 ?_
        refine z_xZ zt190 45 rfl rfl (fun (h7 : 0 ≤ x2.toInt) => ?_) (fun (h7 : x2.toInt < 0) => absurd h7 (by omega))
        refine z_xP zt190 54 120 [some (.ref 19), some (.int b1), none, none, none, none] [.ref 19] rfl rfl ?_
        refine z_xgI zt190 55 rfl zo190 zzf12_120 X f19 (by decide) (by decide) rfl (fun (x9 : Int32) h8 (h10 : 0 ≤ x9.toInt) (h11 : x9.toInt ≤ 160) => ?_)
        refine z_xP zt190 56 126 [some (.ref 19), some (.int b1), some (.int x9), none, none, none] [.int 0, .ref 19] rfl rfl ?_
        have q0 : ((0 : Int32)).toInt = 0 := rfl
        refine z_xpf zt190 57 rfl zo190 zzf12_120 X f19 (by decide) (by decide) ⟨by omega, by omega⟩ rfl (by decide) zw12_1 (fun M12 X13 e14 h15 => ?_)
        refine z_xP zt190 58 130 [some (.ref 19), some (.int b1), some (.int x9), none, none, none] [.ref 19] rfl rfl ?_
        have h16 := (e14.f f19 (by decide) h1)
        refine z_xgv zt190 59 rfl zo190 zzf12_136 X13 f19 (by decide) h16 ?_
        refine z_xZ zt190 60 rfl rfl (fun (h17 : x2.toInt < 0) => absurd h17 (by omega)) (fun (h17 : 0 ≤ x2.toInt) => ?_)
        refine z_xP zt190 61 139 [some (.ref 19), some (.int b1), some (.int x9), none, none, none] [.ref 19, .int (-100)] rfl rfl ?_
        refine z_xgv zt190 62 rfl zo190 zzf12_136 X13 f19 (by decide) h16 ?_
        have h18 := z_b32 x2
        refine z_xI zt190 63 rfl rfl (P := fun _ => True) (fun (x19 : Int32) _ => ?_) trivial
        have f23 : T[23]? = some (.inr (23, 0, 80, (-2147483648), 2147483647)) := X13.1.k rfl (by decide)
        have f24 : T[24]? = some (.inr (24, 0, 8, 0, 10)) := X13.1.k rfl (by decide)
        have h21 := (e14.f f19 (by decide) hp0)
        have f31 : T[31]? = some (.inr (31, 0, 8, 0, 1024)) := X13.1.k rfl (by decide)
        have f35 : T[35]? = some (.inr (35, 0, 8, 0, 9)) := X13.1.k rfl (by decide)
        exact z_xri zt190 64 rfl zzr190 (kk x19 M12 X13 (z_GL.ke hl e14 f23 f24 (by decide)) (z_OT.ke hO X.1 e14 rfl) (z_A4.g4 (z_A4.ke hA4 e14 f31 (by decide)) h21 (by omega)) (z_OZ.id ((e14.a f35 (by decide)).trans hZ)))
      refine z_xP zt192 3 8 [some (.ref 19), some (.int 59)] [.ref 19] rfl rfl ?_
      refine z_xcV (vs := [.ref 19]) (r := []) (L2 := [some (.ref 19)]) zt192 4 rfl zo192 zzcV12_139 (Or.inl rfl) rfl X f19 rfl rfl rfl (Nat.le_of_ble_eq_true rfl) zzm193 (Nat.le_of_ble_eq_true rfl) rfl ?_
      refine z_xP zt193 0 1 [some (.ref 19)] [.ref 19] rfl rfl ?_
      refine z_xgv zt193 1 rfl zo193 zzf12_123 X f19 (by decide) hp1 ?_
      refine z_xP zt193 2 5 [some (.ref 19)] [.ref 19, .int z1] rfl rfl ?_
      refine z_xgI zt193 3 rfl zo193 zzf12_126 X f19 (by decide) (by decide) rfl (fun (x23 : Int32) h22 (h24 : 0 ≤ x23.toInt) (h25 : x23.toInt ≤ 160) => ?_)
      refine z_xJ zt193 4 rfl rfl (fun (h26 : x23.toInt ≤ z1.toInt) => ?_) (fun (h26 : z1.toInt < x23.toInt) => ?_)
      · skip
        refine z_xP zt193 24 52 [some (.ref 19)] [.int 0] rfl rfl ?_
        refine z_xri zt193 25 rfl zzr193 ?_
        show z_ev (d + 972) 192 11 [some (.ref 19), some (.int 59)] [.int 0] M _
        refine z_xP zt192 5 12 [some (.ref 19), some (.int 59)] [.int 59, .int 0] rfl rfl ?_
        refine z_xJ zt192 6 rfl rfl (fun (h27 : (0 : Int) = 59) => absurd h27 (by omega)) (fun (h27 : (0 : Int) ≠ 59) => ?_)
        refine z_xP zt192 7 16 [some (.ref 19), some (.int 59)] [.int 0] rfl rfl ?_
        refine z_xrz zt192 8 rfl zzr192 (by decide) (by decide) ?_
        show z_ev (d + 973) 190 86 [some (.ref 19), some (.int b1), none, none, none, none] [.int 0] M _
        refine z_xZ zt190 39 rfl rfl (fun (h28 : (0 : Int) = 0) => ?_) (fun (h28 : (0 : Int) ≠ 0) => absurd h28 (by omega))
        refine z_xP zt190 43 97 [some (.ref 19), some (.int b1), none, none, none, none] [.ref 19] rfl rfl ?_
        refine z_xgv zt190 44 rfl zo190 zzf12_136 X f19 (by decide) h1 ?_
        refine z_xZ zt190 45 rfl rfl (fun (h29 : 0 ≤ x2.toInt) => absurd h29 (by omega)) (fun (h29 : x2.toInt < 0) => ?_)
        refine z_xP zt190 46 104 [some (.ref 19), some (.int b1), none, none, none, none] [.ref 19] rfl rfl ?_
        refine z_xgv zt190 47 rfl zo190 zzf12_123 X f19 (by decide) hp1 ?_
        refine z_xP zt190 48 108 [some (.ref 19), some (.int b1), none, none, none, none] [.ref 19, .int z1] rfl rfl ?_
        refine z_xgv zt190 49 rfl zo190 zzf12_126 X f19 (by decide) h22 ?_
        refine z_xJ zt190 50 rfl rfl (fun (h30 : x23.toInt ≤ z1.toInt) => ?_) (fun (h30 : z1.toInt < x23.toInt) => ?_)
        · skip
          refine z_xP zt190 54 120 [some (.ref 19), some (.int b1), none, none, none, none] [.ref 19] rfl rfl ?_
          refine z_xgI zt190 55 rfl zo190 zzf12_120 X f19 (by decide) (by decide) rfl (fun (x32 : Int32) h31 (h33 : 0 ≤ x32.toInt) (h34 : x32.toInt ≤ 160) => ?_)
          refine z_xP zt190 56 126 [some (.ref 19), some (.int b1), some (.int x32), none, none, none] [.int 0, .ref 19] rfl rfl ?_
          have q0 : ((0 : Int32)).toInt = 0 := rfl
          refine z_xpf zt190 57 rfl zo190 zzf12_120 X f19 (by decide) (by decide) ⟨by omega, by omega⟩ rfl (by decide) zw12_1 (fun M35 X36 e37 h38 => ?_)
          refine z_xP zt190 58 130 [some (.ref 19), some (.int b1), some (.int x32), none, none, none] [.ref 19] rfl rfl ?_
          have h39 := (e37.f f19 (by decide) h1)
          refine z_xgv zt190 59 rfl zo190 zzf12_136 X36 f19 (by decide) h39 ?_
          refine z_xZ zt190 60 rfl rfl (fun (h40 : x2.toInt < 0) => ?_) (fun (h40 : 0 ≤ x2.toInt) => absurd h40 (by omega))
          refine z_xP zt190 65 146 [some (.ref 19), some (.int b1), some (.int x32), some (.int 0), none, none] [] rfl rfl ?_
          have h41 := (e37.f f19 (by decide) hp0)
          have f23 : T[23]? = some (.inr (23, 0, 80, (-2147483648), 2147483647)) := X36.1.k rfl (by decide)
          have f24 : T[24]? = some (.inr (24, 0, 8, 0, 10)) := X36.1.k rfl (by decide)
          have f31 : T[31]? = some (.inr (31, 0, 8, 0, 1024)) := X36.1.k rfl (by decide)
          have f35 : T[35]? = some (.inr (35, 0, 8, 0, 9)) := X36.1.k rfl (by decide)
          have q0 : ((0 : Int32)).toInt = 0 := rfl
          exact ih.2.1 M35 b1 x32 (0) z0 X36 ⟨by omega, by omega⟩ ⟨by omega, by omega⟩ (by decide) h41 ⟨by omega, by omega⟩ (by omega) (z_GL.ke hl e37 f23 f24 (by decide)) hA0 (z_OT.ke hO X.1 e37 rfl) (z_A4.ke hA4 e37 f31 (by decide)) ((e37.a f35 (by decide)).trans hZ) (by omega)
        refine z_xP zt190 51 115 [some (.ref 19), some (.int b1), none, none, none, none] [.ref 19] rfl rfl ?_
        refine z_xcV (vs := [.ref 19]) (r := []) (L2 := [some (.ref 19)]) zt190 52 rfl zo190 zzcV12_163 (Or.inl rfl) rfl X f19 rfl rfl rfl (Nat.le_of_ble_eq_true rfl) zzm194 (Nat.le_of_ble_eq_true rfl) rfl ?_
        refine z_xP zt194 0 2 [some (.ref 19)] [.ref 19, .ref 19] rfl rfl ?_
        refine z_xgv zt194 1 rfl zo194 zzf12_136 X f19 (by decide) h1 ?_
        refine z_xZ zt194 2 rfl rfl (fun (h42 : 0 ≤ x2.toInt) => absurd h42 (by omega)) (fun (h42 : x2.toInt < 0) => ?_)
        refine z_xP zt194 3 9 [some (.ref 19)] [.ref 19, .ref 19] rfl rfl ?_
        refine z_xgv zt194 4 rfl zo194 zzf12_123 X f19 (by decide) hp1 ?_
        refine z_xP zt194 5 19 [some (.ref 19)] [.int z1, .ref 19] rfl rfl ?_
        refine z_xpf zt194 8 rfl zo194 zzf12_136 X f19 (by decide) (by decide) ⟨Int32.le_toInt _, Int32.toInt_le _⟩ rfl (by decide) zw12_26 (fun M43 X44 e45 h46 => ?_)
        refine z_xP zt194 9 23 [some (.ref 19)] [.int 0] rfl rfl ?_
        refine z_xrz zt194 10 rfl zzr194 (by decide) (by decide) ?_
        show z_ev (d + 973) 190 118 [some (.ref 19), some (.int b1), none, none, none, none] [.int 0] M43 _
        refine z_xP zt190 53 119 [some (.ref 19), some (.int b1), some (.int 0), none, none, none] [] rfl rfl ?_
        refine z_xP zt190 54 120 [some (.ref 19), some (.int b1), some (.int 0), none, none, none] [.ref 19] rfl rfl ?_
        refine z_xgI zt190 55 rfl zo190 zzf12_120 X44 f19 (by decide) (by decide) rfl (fun (x48 : Int32) h47 (h49 : 0 ≤ x48.toInt) (h50 : x48.toInt ≤ 160) => ?_)
        refine z_xP zt190 56 126 [some (.ref 19), some (.int b1), some (.int x48), none, none, none] [.int 0, .ref 19] rfl rfl ?_
        have q0 : ((0 : Int32)).toInt = 0 := rfl
        refine z_xpf zt190 57 rfl zo190 zzf12_120 X44 f19 (by decide) (by decide) ⟨by omega, by omega⟩ rfl (by decide) zw12_1 (fun M51 X52 e53 h54 => ?_)
        refine z_xP zt190 58 130 [some (.ref 19), some (.int b1), some (.int x48), none, none, none] [.ref 19] rfl rfl ?_
        have h55 := (e53.f f19 (by decide) h46)
        refine z_xgv zt190 59 rfl zo190 zzf12_136 X52 f19 (by decide) h55 ?_
        refine z_xZ zt190 60 rfl rfl (fun (h56 : z1.toInt < 0) => absurd h56 (by omega)) (fun (h56 : 0 ≤ z1.toInt) => ?_)
        refine z_xP zt190 61 139 [some (.ref 19), some (.int b1), some (.int x48), none, none, none] [.ref 19, .int (-100)] rfl rfl ?_
        refine z_xgv zt190 62 rfl zo190 zzf12_136 X52 f19 (by decide) h55 ?_
        refine z_xI zt190 63 rfl rfl (fun (x57 : Int32) (h58 : x57.toInt = (-100) - z1.toInt) => ?_) (z_pSub rfl rfl (by omega) (by omega))
        have f23 : T[23]? = some (.inr (23, 0, 80, (-2147483648), 2147483647)) := X52.1.k rfl (by decide)
        have f24 : T[24]? = some (.inr (24, 0, 8, 0, 10)) := X52.1.k rfl (by decide)
        have h59 := (e53.f f19 (by decide) (e45.f f19 (by decide) hp0))
        have f31 : T[31]? = some (.inr (31, 0, 8, 0, 1024)) := X52.1.k rfl (by decide)
        have f35 : T[35]? = some (.inr (35, 0, 8, 0, 9)) := X52.1.k rfl (by decide)
        exact z_xri zt190 64 rfl zzr190 (kk x57 M51 X52 (z_GL.ke (z_GL.ke hl e45 f23 f24 (by decide)) e53 f23 f24 (by decide)) (z_OT.ke (z_OT.ke hO X.1 e45 rfl) X.1 e53 rfl) (z_A4.g4 (z_A4.ke (z_A4.ke hA4 e45 f31 (by decide)) e53 f31 (by decide)) h59 (by omega)) (z_OZ.id ((e53.a f35 (by decide)).trans ((e45.a f35 (by decide)).trans hZ))))
      refine z_xP zt193 5 12 [some (.ref 19)] [.ref 19] rfl rfl ?_
      refine z_xgI zt193 6 rfl zo193 zzf12_129 X f19 (by decide) (by decide) rfl (fun (x61 : Int32) h60 (h62 : 0 ≤ x61.toInt) (h63 : x61.toInt ≤ 1) => ?_)
      refine z_xZ zt193 7 rfl rfl (fun (h64 : x61.toInt = 0) => ?_) (fun (h64 : x61.toInt ≠ 0) => ?_)
      · skip
        refine z_xP zt193 14 31 [some (.ref 19)] [.ref 19] rfl rfl ?_
        refine z_xgX (b := 21) zt193 15 rfl zo193 zzf12_13 X f19 (by decide) (by decide) rfl ?_
        refine z_xP zt193 16 38 [some (.ref 19)] [.ref 19, .int 160, .ref 21] rfl rfl ?_
        refine z_xgv zt193 17 rfl zo193 zzf12_133 X f19 (by decide) hp2 ?_
        refine z_xI zt193 18 rfl rfl (fun (x65 : Int32) (h66 : x65.toInt = 160 * z2.toInt) => ?_) (z_pMul rfl rfl (by omega) (by omega))
        refine z_xP zt193 19 43 [some (.ref 19)] [.ref 19, .int x65, .ref 21] rfl rfl ?_
        refine z_xgv zt193 20 rfl zo193 zzf12_123 X f19 (by decide) hp1 ?_
        refine z_xI zt193 21 rfl rfl (fun (x67 : Int32) (h68 : x67.toInt = x65.toInt + z1.toInt) => ?_) (z_pAdd rfl rfl (by omega) (by omega))
        have f21 : T[21]? = some (.inr (21, 0, 1280, (-2147483648), 2147483647)) := X.1.k rfl (by decide)
        refine z_xil zt193 22 rfl X f21 (by decide) (by omega) (by omega) (fun (x69 : Int32) h70 (h71 : (-2147483648) ≤ x69.toInt) (h72 : x69.toInt ≤ 2147483647) => ?_)
        refine z_xP zt193 23 52 [some (.ref 19)] [.int x69] rfl rfl ?_
        refine z_xri zt193 25 rfl zzr193 ?_
        show z_ev (d + 972) 192 11 [some (.ref 19), some (.int 59)] [.int x69] M _
        refine z_xP zt192 5 12 [some (.ref 19), some (.int 59)] [.int 59, .int x69] rfl rfl ?_
        refine z_xJ zt192 6 rfl rfl (fun (h73 : x69.toInt = 59) => ?_) (fun (h73 : x69.toInt ≠ 59) => ?_)
        · skip
          refine z_xP zt192 9 19 [some (.ref 19), some (.int 59)] [.ref 19, .ref 19] rfl rfl ?_
          refine z_xgv zt192 10 rfl zo192 zzf12_123 X f19 (by decide) hp1 ?_
          refine z_xP zt192 11 23 [some (.ref 19), some (.int 59)] [.int 1, .int z1, .ref 19] rfl rfl ?_
          refine z_xI zt192 12 rfl rfl (fun (x74 : Int32) (h75 : x74.toInt = z1.toInt + 1) => ?_) (z_pAdd rfl rfl (by omega) (by omega))
          refine z_xpf zt192 13 rfl zo192 zzf12_123 X f19 (by decide) (by decide) ⟨by omega, by omega⟩ rfl (by decide) zw12_24 (fun M76 X77 e78 h79 => ?_)
          refine z_xP zt192 14 28 [some (.ref 19), some (.int 59)] [.int 1] rfl rfl ?_
          refine z_xrz zt192 15 rfl zzr192 (by decide) (by decide) ?_
          show z_ev (d + 973) 190 86 [some (.ref 19), some (.int b1), none, none, none, none] [.int 1] M76 _
          refine z_xZ zt190 39 rfl rfl (fun (h80 : (1 : Int) = 0) => absurd h80 (by omega)) (fun (h80 : (1 : Int) ≠ 0) => ?_)
          refine z_xP zt190 40 90 [some (.ref 19), some (.int b1), none, none, none, none] [.ref 19] rfl rfl ?_
          refine z_xcV (vs := [.ref 19]) (r := []) (L2 := [some (.ref 19), none, none, none]) zt190 41 rfl zo190 zzcV12_199 (Or.inl rfl) rfl X77 f19 rfl rfl rfl (Nat.le_of_ble_eq_true rfl) zzm196 (Nat.le_of_ble_eq_true rfl) rfl ?_
          have h81 := (e78.f f19 (by decide) hp2)
          have f23 : T[23]? = some (.inr (23, 0, 80, (-2147483648), 2147483647)) := X77.1.k rfl (by decide)
          have f24 : T[24]? = some (.inr (24, 0, 8, 0, 10)) := X77.1.k rfl (by decide)
          refine zOC196 X77.1 h79 ⟨by omega, by omega⟩ (z_GL.ke hl e78 f23 f24 (by decide)) (fun M82 X83 h84 z85 h86 h87 h88 => ?_)
          have X89 := X77.go X83 (z_sb (by decide))
          show z_ev (d + 973) 190 93 [some (.ref 19), some (.int b1), none, none, none, none] [] M82 _
          have q92 := congrArg Int32.toInt (z_Fv.of hA0)
          have o91 := z_OT.tr (A := (z_Fv M0 19 13).toInt) (z_OT.ke hO X.1 e78 rfl) h84 h81 (by omega)
          refine z_xP zt190 42 80 [some (.ref 19), some (.int b1), none, none, none, none] [] rfl rfl ?_
          have h93 := (X83.2.f f19 (by decide) (e78.f f19 (by decide) hp0))
          have h94 := (X83.2.f f19 (by decide) h81)
          have f31 : T[31]? = some (.inr (31, 0, 8, 0, 1024)) := X89.1.k rfl (by decide)
          have f35 : T[35]? = some (.inr (35, 0, 8, 0, 9)) := X89.1.k rfl (by decide)
          exact ih.1 M82 b1 z0 z85 z2 X89 ⟨by omega, by omega⟩ h93 ⟨by omega, by omega⟩ h86 ⟨by omega, by omega⟩ h94 ⟨by omega, by omega⟩ (by omega) (by omega) (z_GL.ke (z_GL.ke hl e78 f23 f24 (by decide)) X83.2 f23 f24 (by decide)) hA0 o91 (z_A4.ke (z_A4.ke hA4 e78 f31 (by decide)) X83.2 f31 (by decide)) ((X83.2.a f35 (by decide)).trans ((e78.a f35 (by decide)).trans hZ)) (by omega)
        refine z_xP zt192 7 16 [some (.ref 19), some (.int 59)] [.int 0] rfl rfl ?_
        refine z_xrz zt192 8 rfl zzr192 (by decide) (by decide) ?_
        show z_ev (d + 973) 190 86 [some (.ref 19), some (.int b1), none, none, none, none] [.int 0] M _
        refine z_xZ zt190 39 rfl rfl (fun (h95 : (0 : Int) = 0) => ?_) (fun (h95 : (0 : Int) ≠ 0) => absurd h95 (by omega))
        refine z_xP zt190 43 97 [some (.ref 19), some (.int b1), none, none, none, none] [.ref 19] rfl rfl ?_
        refine z_xgv zt190 44 rfl zo190 zzf12_136 X f19 (by decide) h1 ?_
        refine z_xZ zt190 45 rfl rfl (fun (h96 : 0 ≤ x2.toInt) => absurd h96 (by omega)) (fun (h96 : x2.toInt < 0) => ?_)
        refine z_xP zt190 46 104 [some (.ref 19), some (.int b1), none, none, none, none] [.ref 19] rfl rfl ?_
        refine z_xgv zt190 47 rfl zo190 zzf12_123 X f19 (by decide) hp1 ?_
        refine z_xP zt190 48 108 [some (.ref 19), some (.int b1), none, none, none, none] [.ref 19, .int z1] rfl rfl ?_
        refine z_xgv zt190 49 rfl zo190 zzf12_126 X f19 (by decide) h22 ?_
        refine z_xJ zt190 50 rfl rfl (fun (h97 : x23.toInt ≤ z1.toInt) => ?_) (fun (h97 : z1.toInt < x23.toInt) => ?_)
        · skip
          refine z_xP zt190 54 120 [some (.ref 19), some (.int b1), none, none, none, none] [.ref 19] rfl rfl ?_
          refine z_xgI zt190 55 rfl zo190 zzf12_120 X f19 (by decide) (by decide) rfl (fun (x99 : Int32) h98 (h100 : 0 ≤ x99.toInt) (h101 : x99.toInt ≤ 160) => ?_)
          refine z_xP zt190 56 126 [some (.ref 19), some (.int b1), some (.int x99), none, none, none] [.int 0, .ref 19] rfl rfl ?_
          have q0 : ((0 : Int32)).toInt = 0 := rfl
          refine z_xpf zt190 57 rfl zo190 zzf12_120 X f19 (by decide) (by decide) ⟨by omega, by omega⟩ rfl (by decide) zw12_1 (fun M102 X103 e104 h105 => ?_)
          refine z_xP zt190 58 130 [some (.ref 19), some (.int b1), some (.int x99), none, none, none] [.ref 19] rfl rfl ?_
          have h106 := (e104.f f19 (by decide) h1)
          refine z_xgv zt190 59 rfl zo190 zzf12_136 X103 f19 (by decide) h106 ?_
          refine z_xZ zt190 60 rfl rfl (fun (h107 : x2.toInt < 0) => ?_) (fun (h107 : 0 ≤ x2.toInt) => absurd h107 (by omega))
          refine z_xP zt190 65 146 [some (.ref 19), some (.int b1), some (.int x99), some (.int 0), none, none] [] rfl rfl ?_
          have h108 := (e104.f f19 (by decide) hp0)
          have f23 : T[23]? = some (.inr (23, 0, 80, (-2147483648), 2147483647)) := X103.1.k rfl (by decide)
          have f24 : T[24]? = some (.inr (24, 0, 8, 0, 10)) := X103.1.k rfl (by decide)
          have f31 : T[31]? = some (.inr (31, 0, 8, 0, 1024)) := X103.1.k rfl (by decide)
          have f35 : T[35]? = some (.inr (35, 0, 8, 0, 9)) := X103.1.k rfl (by decide)
          have q0 : ((0 : Int32)).toInt = 0 := rfl
          exact ih.2.1 M102 b1 x99 (0) z0 X103 ⟨by omega, by omega⟩ ⟨by omega, by omega⟩ (by decide) h108 ⟨by omega, by omega⟩ (by omega) (z_GL.ke hl e104 f23 f24 (by decide)) hA0 (z_OT.ke hO X.1 e104 rfl) (z_A4.ke hA4 e104 f31 (by decide)) ((e104.a f35 (by decide)).trans hZ) (by omega)
        refine z_xP zt190 51 115 [some (.ref 19), some (.int b1), none, none, none, none] [.ref 19] rfl rfl ?_
        refine z_xcV (vs := [.ref 19]) (r := []) (L2 := [some (.ref 19)]) zt190 52 rfl zo190 zzcV12_163 (Or.inl rfl) rfl X f19 rfl rfl rfl (Nat.le_of_ble_eq_true rfl) zzm194 (Nat.le_of_ble_eq_true rfl) rfl ?_
        refine z_xP zt194 0 2 [some (.ref 19)] [.ref 19, .ref 19] rfl rfl ?_
        refine z_xgv zt194 1 rfl zo194 zzf12_136 X f19 (by decide) h1 ?_
        refine z_xZ zt194 2 rfl rfl (fun (h109 : 0 ≤ x2.toInt) => absurd h109 (by omega)) (fun (h109 : x2.toInt < 0) => ?_)
        refine z_xP zt194 3 9 [some (.ref 19)] [.ref 19, .ref 19] rfl rfl ?_
        refine z_xgv zt194 4 rfl zo194 zzf12_123 X f19 (by decide) hp1 ?_
        refine z_xP zt194 5 19 [some (.ref 19)] [.int z1, .ref 19] rfl rfl ?_
        refine z_xpf zt194 8 rfl zo194 zzf12_136 X f19 (by decide) (by decide) ⟨Int32.le_toInt _, Int32.toInt_le _⟩ rfl (by decide) zw12_26 (fun M110 X111 e112 h113 => ?_)
        refine z_xP zt194 9 23 [some (.ref 19)] [.int 0] rfl rfl ?_
        refine z_xrz zt194 10 rfl zzr194 (by decide) (by decide) ?_
        show z_ev (d + 973) 190 118 [some (.ref 19), some (.int b1), none, none, none, none] [.int 0] M110 _
        refine z_xP zt190 53 119 [some (.ref 19), some (.int b1), some (.int 0), none, none, none] [] rfl rfl ?_
        refine z_xP zt190 54 120 [some (.ref 19), some (.int b1), some (.int 0), none, none, none] [.ref 19] rfl rfl ?_
        refine z_xgI zt190 55 rfl zo190 zzf12_120 X111 f19 (by decide) (by decide) rfl (fun (x115 : Int32) h114 (h116 : 0 ≤ x115.toInt) (h117 : x115.toInt ≤ 160) => ?_)
        refine z_xP zt190 56 126 [some (.ref 19), some (.int b1), some (.int x115), none, none, none] [.int 0, .ref 19] rfl rfl ?_
        have q0 : ((0 : Int32)).toInt = 0 := rfl
        refine z_xpf zt190 57 rfl zo190 zzf12_120 X111 f19 (by decide) (by decide) ⟨by omega, by omega⟩ rfl (by decide) zw12_1 (fun M118 X119 e120 h121 => ?_)
        refine z_xP zt190 58 130 [some (.ref 19), some (.int b1), some (.int x115), none, none, none] [.ref 19] rfl rfl ?_
        have h122 := (e120.f f19 (by decide) h113)
        refine z_xgv zt190 59 rfl zo190 zzf12_136 X119 f19 (by decide) h122 ?_
        refine z_xZ zt190 60 rfl rfl (fun (h123 : z1.toInt < 0) => absurd h123 (by omega)) (fun (h123 : 0 ≤ z1.toInt) => ?_)
        refine z_xP zt190 61 139 [some (.ref 19), some (.int b1), some (.int x115), none, none, none] [.ref 19, .int (-100)] rfl rfl ?_
        refine z_xgv zt190 62 rfl zo190 zzf12_136 X119 f19 (by decide) h122 ?_
        refine z_xI zt190 63 rfl rfl (fun (x124 : Int32) (h125 : x124.toInt = (-100) - z1.toInt) => ?_) (z_pSub rfl rfl (by omega) (by omega))
        have f23 : T[23]? = some (.inr (23, 0, 80, (-2147483648), 2147483647)) := X119.1.k rfl (by decide)
        have f24 : T[24]? = some (.inr (24, 0, 8, 0, 10)) := X119.1.k rfl (by decide)
        have h126 := (e120.f f19 (by decide) (e112.f f19 (by decide) hp0))
        have f31 : T[31]? = some (.inr (31, 0, 8, 0, 1024)) := X119.1.k rfl (by decide)
        have f35 : T[35]? = some (.inr (35, 0, 8, 0, 9)) := X119.1.k rfl (by decide)
        exact z_xri zt190 64 rfl zzr190 (kk x124 M118 X119 (z_GL.ke (z_GL.ke hl e112 f23 f24 (by decide)) e120 f23 f24 (by decide)) (z_OT.ke (z_OT.ke hO X.1 e112 rfl) X.1 e120 rfl) (z_A4.g4 (z_A4.ke (z_A4.ke hA4 e112 f31 (by decide)) e120 f31 (by decide)) h126 (by omega)) (z_OZ.id ((e120.a f35 (by decide)).trans ((e112.a f35 (by decide)).trans hZ))))
      refine z_xP zt193 8 19 [some (.ref 19)] [.ref 19] rfl rfl ?_
      refine z_xgX (b := 20) zt193 9 rfl zo193 zzf12_9 X f19 (by decide) (by decide) rfl ?_
      refine z_xP zt193 10 23 [some (.ref 19)] [.ref 19, .ref 20] rfl rfl ?_
      refine z_xgv zt193 11 rfl zo193 zzf12_123 X f19 (by decide) hp1 ?_
      have f20 : T[20]? = some (.inr (20, 0, 160, (-2147483648), 2147483647)) := X.1.k rfl (by decide)
      refine z_xil zt193 12 rfl X f20 (by decide) (by omega) (by omega) (fun (x127 : Int32) h128 (h129 : (-2147483648) ≤ x127.toInt) (h130 : x127.toInt ≤ 2147483647) => ?_)
      refine z_xP zt193 13 52 [some (.ref 19)] [.int x127] rfl rfl ?_
      refine z_xri zt193 25 rfl zzr193 ?_
      show z_ev (d + 972) 192 11 [some (.ref 19), some (.int 59)] [.int x127] M _
      refine z_xP zt192 5 12 [some (.ref 19), some (.int 59)] [.int 59, .int x127] rfl rfl ?_
      refine z_xJ zt192 6 rfl rfl (fun (h131 : x127.toInt = 59) => ?_) (fun (h131 : x127.toInt ≠ 59) => ?_)
      · skip
        refine z_xP zt192 9 19 [some (.ref 19), some (.int 59)] [.ref 19, .ref 19] rfl rfl ?_
        refine z_xgv zt192 10 rfl zo192 zzf12_123 X f19 (by decide) hp1 ?_
        refine z_xP zt192 11 23 [some (.ref 19), some (.int 59)] [.int 1, .int z1, .ref 19] rfl rfl ?_
        refine z_xI zt192 12 rfl rfl (fun (x132 : Int32) (h133 : x132.toInt = z1.toInt + 1) => ?_) (z_pAdd rfl rfl (by omega) (by omega))
        refine z_xpf zt192 13 rfl zo192 zzf12_123 X f19 (by decide) (by decide) ⟨by omega, by omega⟩ rfl (by decide) zw12_24 (fun M134 X135 e136 h137 => ?_)
        refine z_xP zt192 14 28 [some (.ref 19), some (.int 59)] [.int 1] rfl rfl ?_
        refine z_xrz zt192 15 rfl zzr192 (by decide) (by decide) ?_
        show z_ev (d + 973) 190 86 [some (.ref 19), some (.int b1), none, none, none, none] [.int 1] M134 _
        refine z_xZ zt190 39 rfl rfl (fun (h138 : (1 : Int) = 0) => absurd h138 (by omega)) (fun (h138 : (1 : Int) ≠ 0) => ?_)
        refine z_xP zt190 40 90 [some (.ref 19), some (.int b1), none, none, none, none] [.ref 19] rfl rfl ?_
        refine z_xcV (vs := [.ref 19]) (r := []) (L2 := [some (.ref 19), none, none, none]) zt190 41 rfl zo190 zzcV12_199 (Or.inl rfl) rfl X135 f19 rfl rfl rfl (Nat.le_of_ble_eq_true rfl) zzm196 (Nat.le_of_ble_eq_true rfl) rfl ?_
        have h139 := (e136.f f19 (by decide) hp2)
        have f23 : T[23]? = some (.inr (23, 0, 80, (-2147483648), 2147483647)) := X135.1.k rfl (by decide)
        have f24 : T[24]? = some (.inr (24, 0, 8, 0, 10)) := X135.1.k rfl (by decide)
        refine zOC196 X135.1 h137 ⟨by omega, by omega⟩ (z_GL.ke hl e136 f23 f24 (by decide)) (fun M140 X141 h142 z143 h144 h145 h146 => ?_)
        have X147 := X135.go X141 (z_sb (by decide))
        show z_ev (d + 973) 190 93 [some (.ref 19), some (.int b1), none, none, none, none] [] M140 _
        have q150 := congrArg Int32.toInt (z_Fv.of hA0)
        have o149 := z_OT.tr (A := (z_Fv M0 19 13).toInt) (z_OT.ke hO X.1 e136 rfl) h142 h139 (by omega)
        refine z_xP zt190 42 80 [some (.ref 19), some (.int b1), none, none, none, none] [] rfl rfl ?_
        have h151 := (X141.2.f f19 (by decide) (e136.f f19 (by decide) hp0))
        have h152 := (X141.2.f f19 (by decide) h139)
        have f31 : T[31]? = some (.inr (31, 0, 8, 0, 1024)) := X147.1.k rfl (by decide)
        have f35 : T[35]? = some (.inr (35, 0, 8, 0, 9)) := X147.1.k rfl (by decide)
        exact ih.1 M140 b1 z0 z143 z2 X147 ⟨by omega, by omega⟩ h151 ⟨by omega, by omega⟩ h144 ⟨by omega, by omega⟩ h152 ⟨by omega, by omega⟩ (by omega) (by omega) (z_GL.ke (z_GL.ke hl e136 f23 f24 (by decide)) X141.2 f23 f24 (by decide)) hA0 o149 (z_A4.ke (z_A4.ke hA4 e136 f31 (by decide)) X141.2 f31 (by decide)) ((X141.2.a f35 (by decide)).trans ((e136.a f35 (by decide)).trans hZ)) (by omega)
      refine z_xP zt192 7 16 [some (.ref 19), some (.int 59)] [.int 0] rfl rfl ?_
      refine z_xrz zt192 8 rfl zzr192 (by decide) (by decide) ?_
      show z_ev (d + 973) 190 86 [some (.ref 19), some (.int b1), none, none, none, none] [.int 0] M _
      refine z_xZ zt190 39 rfl rfl (fun (h153 : (0 : Int) = 0) => ?_) (fun (h153 : (0 : Int) ≠ 0) => absurd h153 (by omega))
      refine z_xP zt190 43 97 [some (.ref 19), some (.int b1), none, none, none, none] [.ref 19] rfl rfl ?_
      refine z_xgv zt190 44 rfl zo190 zzf12_136 X f19 (by decide) h1 ?_
      refine z_xZ zt190 45 rfl rfl (fun (h154 : 0 ≤ x2.toInt) => absurd h154 (by omega)) (fun (h154 : x2.toInt < 0) => ?_)
      refine z_xP zt190 46 104 [some (.ref 19), some (.int b1), none, none, none, none] [.ref 19] rfl rfl ?_
      refine z_xgv zt190 47 rfl zo190 zzf12_123 X f19 (by decide) hp1 ?_
      refine z_xP zt190 48 108 [some (.ref 19), some (.int b1), none, none, none, none] [.ref 19, .int z1] rfl rfl ?_
      refine z_xgv zt190 49 rfl zo190 zzf12_126 X f19 (by decide) h22 ?_
      refine z_xJ zt190 50 rfl rfl (fun (h155 : x23.toInt ≤ z1.toInt) => ?_) (fun (h155 : z1.toInt < x23.toInt) => ?_)
      · skip
        refine z_xP zt190 54 120 [some (.ref 19), some (.int b1), none, none, none, none] [.ref 19] rfl rfl ?_
        refine z_xgI zt190 55 rfl zo190 zzf12_120 X f19 (by decide) (by decide) rfl (fun (x157 : Int32) h156 (h158 : 0 ≤ x157.toInt) (h159 : x157.toInt ≤ 160) => ?_)
        refine z_xP zt190 56 126 [some (.ref 19), some (.int b1), some (.int x157), none, none, none] [.int 0, .ref 19] rfl rfl ?_
        have q0 : ((0 : Int32)).toInt = 0 := rfl
        refine z_xpf zt190 57 rfl zo190 zzf12_120 X f19 (by decide) (by decide) ⟨by omega, by omega⟩ rfl (by decide) zw12_1 (fun M160 X161 e162 h163 => ?_)
        refine z_xP zt190 58 130 [some (.ref 19), some (.int b1), some (.int x157), none, none, none] [.ref 19] rfl rfl ?_
        have h164 := (e162.f f19 (by decide) h1)
        refine z_xgv zt190 59 rfl zo190 zzf12_136 X161 f19 (by decide) h164 ?_
        refine z_xZ zt190 60 rfl rfl (fun (h165 : x2.toInt < 0) => ?_) (fun (h165 : 0 ≤ x2.toInt) => absurd h165 (by omega))
        refine z_xP zt190 65 146 [some (.ref 19), some (.int b1), some (.int x157), some (.int 0), none, none] [] rfl rfl ?_
        have h166 := (e162.f f19 (by decide) hp0)
        have f23 : T[23]? = some (.inr (23, 0, 80, (-2147483648), 2147483647)) := X161.1.k rfl (by decide)
        have f24 : T[24]? = some (.inr (24, 0, 8, 0, 10)) := X161.1.k rfl (by decide)
        have f31 : T[31]? = some (.inr (31, 0, 8, 0, 1024)) := X161.1.k rfl (by decide)
        have f35 : T[35]? = some (.inr (35, 0, 8, 0, 9)) := X161.1.k rfl (by decide)
        have q0 : ((0 : Int32)).toInt = 0 := rfl
        exact ih.2.1 M160 b1 x157 (0) z0 X161 ⟨by omega, by omega⟩ ⟨by omega, by omega⟩ (by decide) h166 ⟨by omega, by omega⟩ (by omega) (z_GL.ke hl e162 f23 f24 (by decide)) hA0 (z_OT.ke hO X.1 e162 rfl) (z_A4.ke hA4 e162 f31 (by decide)) ((e162.a f35 (by decide)).trans hZ) (by omega)
      refine z_xP zt190 51 115 [some (.ref 19), some (.int b1), none, none, none, none] [.ref 19] rfl rfl ?_
      refine z_xcV (vs := [.ref 19]) (r := []) (L2 := [some (.ref 19)]) zt190 52 rfl zo190 zzcV12_163 (Or.inl rfl) rfl X f19 rfl rfl rfl (Nat.le_of_ble_eq_true rfl) zzm194 (Nat.le_of_ble_eq_true rfl) rfl ?_
      refine z_xP zt194 0 2 [some (.ref 19)] [.ref 19, .ref 19] rfl rfl ?_
      refine z_xgv zt194 1 rfl zo194 zzf12_136 X f19 (by decide) h1 ?_
      refine z_xZ zt194 2 rfl rfl (fun (h167 : 0 ≤ x2.toInt) => absurd h167 (by omega)) (fun (h167 : x2.toInt < 0) => ?_)
      refine z_xP zt194 3 9 [some (.ref 19)] [.ref 19, .ref 19] rfl rfl ?_
      refine z_xgv zt194 4 rfl zo194 zzf12_123 X f19 (by decide) hp1 ?_
      refine z_xP zt194 5 19 [some (.ref 19)] [.int z1, .ref 19] rfl rfl ?_
      refine z_xpf zt194 8 rfl zo194 zzf12_136 X f19 (by decide) (by decide) ⟨Int32.le_toInt _, Int32.toInt_le _⟩ rfl (by decide) zw12_26 (fun M168 X169 e170 h171 => ?_)
      refine z_xP zt194 9 23 [some (.ref 19)] [.int 0] rfl rfl ?_
      refine z_xrz zt194 10 rfl zzr194 (by decide) (by decide) ?_
      show z_ev (d + 973) 190 118 [some (.ref 19), some (.int b1), none, none, none, none] [.int 0] M168 _
      refine z_xP zt190 53 119 [some (.ref 19), some (.int b1), some (.int 0), none, none, none] [] rfl rfl ?_
      refine z_xP zt190 54 120 [some (.ref 19), some (.int b1), some (.int 0), none, none, none] [.ref 19] rfl rfl ?_
      refine z_xgI zt190 55 rfl zo190 zzf12_120 X169 f19 (by decide) (by decide) rfl (fun (x173 : Int32) h172 (h174 : 0 ≤ x173.toInt) (h175 : x173.toInt ≤ 160) => ?_)
      refine z_xP zt190 56 126 [some (.ref 19), some (.int b1), some (.int x173), none, none, none] [.int 0, .ref 19] rfl rfl ?_
      have q0 : ((0 : Int32)).toInt = 0 := rfl
      refine z_xpf zt190 57 rfl zo190 zzf12_120 X169 f19 (by decide) (by decide) ⟨by omega, by omega⟩ rfl (by decide) zw12_1 (fun M176 X177 e178 h179 => ?_)
      refine z_xP zt190 58 130 [some (.ref 19), some (.int b1), some (.int x173), none, none, none] [.ref 19] rfl rfl ?_
      have h180 := (e178.f f19 (by decide) h171)
      refine z_xgv zt190 59 rfl zo190 zzf12_136 X177 f19 (by decide) h180 ?_
      refine z_xZ zt190 60 rfl rfl (fun (h181 : z1.toInt < 0) => absurd h181 (by omega)) (fun (h181 : 0 ≤ z1.toInt) => ?_)
      refine z_xP zt190 61 139 [some (.ref 19), some (.int b1), some (.int x173), none, none, none] [.ref 19, .int (-100)] rfl rfl ?_
      refine z_xgv zt190 62 rfl zo190 zzf12_136 X177 f19 (by decide) h180 ?_
      refine z_xI zt190 63 rfl rfl (fun (x182 : Int32) (h183 : x182.toInt = (-100) - z1.toInt) => ?_) (z_pSub rfl rfl (by omega) (by omega))
      have f23 : T[23]? = some (.inr (23, 0, 80, (-2147483648), 2147483647)) := X177.1.k rfl (by decide)
      have f24 : T[24]? = some (.inr (24, 0, 8, 0, 10)) := X177.1.k rfl (by decide)
      have h184 := (e178.f f19 (by decide) (e170.f f19 (by decide) hp0))
      have f31 : T[31]? = some (.inr (31, 0, 8, 0, 1024)) := X177.1.k rfl (by decide)
      have f35 : T[35]? = some (.inr (35, 0, 8, 0, 9)) := X177.1.k rfl (by decide)
      exact z_xri zt190 64 rfl zzr190 (kk x182 M176 X177 (z_GL.ke (z_GL.ke hl e170 f23 f24 (by decide)) e178 f23 f24 (by decide)) (z_OT.ke (z_OT.ke hO X.1 e170 rfl) X.1 e178 rfl) (z_A4.g4 (z_A4.ke (z_A4.ke hA4 e170 f31 (by decide)) e178 f31 (by decide)) h184 (by omega)) (z_OZ.id ((e178.a f35 (by decide)).trans ((e170.a f35 (by decide)).trans hZ))))
    · skip
      intro M b1 b2 b3 z0 X hh0 hh1 hh2 hp0 hh4 hh5 hl hA0 hO hA4 hZ hE
      refine z_xP zt190 66 148 [some (.ref 19), some (.int b1), some (.int b2), some (.int b3), none, none] [.int b2, .int b3] rfl rfl ?_
      refine z_xJ zt190 67 rfl rfl (fun (h1 : b2.toInt ≤ b3.toInt) => ?_) (fun (h1 : b3.toInt < b2.toInt) => ?_)
      · skip
        refine z_xP zt190 81 176 [some (.ref 19), some (.int b1), some (.int b2), some (.int b3), none, none] [.ref 19] rfl rfl ?_
        have f19 : T[19]? = some (.inl (12, 0, 0, 0, 0)) := X.1.k rfl (by decide)
        refine z_xgX (b := 22) zt190 82 rfl zo190 zzf12_16 X f19 (by decide) (by decide) rfl ?_
        refine z_xP zt190 83 181 [some (.ref 19), some (.int b1), some (.int b2), some (.int b3), none, none] [.int b2, .int b1, .ref 22] rfl rfl ?_
        have f22 : T[22]? = some (.inr (22, 0, 8, 0, 160)) := X.1.k rfl (by decide)
        refine z_xis zt190 84 rfl X f22 (by decide) (by decide) (by omega) (by omega) (by omega) (by omega) (by decide) (fun M2 X3 e4 h5 => ?_)
        refine z_xP zt190 85 183 [some (.ref 19), some (.int b1), some (.int b2), some (.int b3), none, none] [.ref 19] rfl rfl ?_
        refine z_xgX (b := 31) zt190 86 rfl zo190 zzf12_43 X3 f19 (by decide) (by decide) rfl ?_
        refine z_xP zt190 87 188 [some (.ref 19), some (.int b1), some (.int b2), some (.int b3), none, none] [.int 0, .int b1, .ref 31] rfl rfl ?_
        have f31 : T[31]? = some (.inr (31, 0, 8, 0, 1024)) := X3.1.k rfl (by decide)
        have q0 : ((0 : Int32)).toInt = 0 := rfl
        refine z_xis zt190 88 rfl X3 f31 (by decide) (by decide) (by omega) (by omega) (by omega) (by omega) (by decide) (fun M6 X7 e8 h9 => ?_)
        have h10 := z_A4.st (z_A4.ke hA4 e4 f31 (by decide)) h9 rfl (by omega)
        have q12 := congrArg Int32.toInt (z_Fv.of hA0)
        have o11 := z_OT.st (A := (z_Fv M0 19 13).toInt) (z_OT.ke hO X.1 e4 rfl) X.1 e8 h9 (r := 31) (by decide) (fun _ => by omega) (fun h => absurd h (by decide))
        refine z_xP zt190 89 191 [some (.ref 19), some (.int b1), some (.int b2), some (.int 0), none, none] [] rfl rfl ?_
        have h13 := (e8.f f19 (by decide) (e4.f f19 (by decide) hp0))
        have q0 : ((0 : Int32)).toInt = 0 := rfl
        have f24 : T[24]? = some (.inr (24, 0, 8, 0, 10)) := X7.1.k rfl (by decide)
        obtain ⟨x14, h15, h16, h17⟩ := z_W.ae (x := b1) X7.1 f24 (by decide) (by omega) (by omega)
        have f23 : T[23]? = some (.inr (23, 0, 80, (-2147483648), 2147483647)) := X7.1.k rfl (by decide)
        have f35 : T[35]? = some (.inr (35, 0, 8, 0, 9)) := X7.1.k rfl (by decide)
        have q0 : ((0 : Int32)).toInt = 0 := rfl
        exact ih.2.2.1 M6 b1 b2 (0) none none z0 (0) x14 X7 ⟨by omega, by omega⟩ ⟨by omega, by omega⟩ (by decide) h13 ⟨by omega, by omega⟩ (z_upe h9) (by decide) h15 ⟨by omega, by omega⟩ (by omega) (by omega) (z_GL.ke (z_GL.ke hl e4 f23 f24 (by decide)) e8 f23 f24 (by decide)) hA0 o11 h10 ((e8.a f35 (by decide)).trans ((e4.a f35 (by decide)).trans hZ)) (by omega)
      refine z_xP zt190 68 152 [some (.ref 19), some (.int b1), some (.int b2), some (.int b3), none, none] [.ref 19] rfl rfl ?_
      have f19 : T[19]? = some (.inl (12, 0, 0, 0, 0)) := X.1.k rfl (by decide)
      refine z_xgX (b := 21) zt190 69 rfl zo190 zzf12_13 X f19 (by decide) (by decide) rfl ?_
      refine z_xP zt190 70 159 [some (.ref 19), some (.int b1), some (.int b2), some (.int b3), none, none] [.int b1, .int 160, .ref 21] rfl rfl ?_
      refine z_xI zt190 71 rfl rfl (fun (x18 : Int32) (h19 : x18.toInt = 160 * b1.toInt) => ?_) (z_pMul rfl rfl (by omega) (by omega))
      refine z_xP zt190 72 161 [some (.ref 19), some (.int b1), some (.int b2), some (.int b3), none, none] [.int b3, .int x18, .ref 21] rfl rfl ?_
      refine z_xI zt190 73 rfl rfl (fun (x20 : Int32) (h21 : x20.toInt = x18.toInt + b3.toInt) => ?_) (z_pAdd rfl rfl (by omega) (by omega))
      refine z_xP zt190 74 163 [some (.ref 19), some (.int b1), some (.int b2), some (.int b3), none, none] [.ref 19, .int x20, .ref 21] rfl rfl ?_
      refine z_xgX (b := 20) zt190 75 rfl zo190 zzf12_9 X f19 (by decide) (by decide) rfl ?_
      refine z_xP zt190 76 167 [some (.ref 19), some (.int b1), some (.int b2), some (.int b3), none, none] [.int b3, .ref 20, .int x20, .ref 21] rfl rfl ?_
      have f20 : T[20]? = some (.inr (20, 0, 160, (-2147483648), 2147483647)) := X.1.k rfl (by decide)
      refine z_xil zt190 77 rfl X f20 (by decide) (by omega) (by omega) (fun (x22 : Int32) h23 (h24 : (-2147483648) ≤ x22.toInt) (h25 : x22.toInt ≤ 2147483647) => ?_)
      have f21 : T[21]? = some (.inr (21, 0, 1280, (-2147483648), 2147483647)) := X.1.k rfl (by decide)
      refine z_xis zt190 78 rfl X f21 (by decide) (by decide) (by omega) (by omega) (Int32.le_toInt _) (Int32.toInt_le _) (by decide) (fun M26 X27 e28 h29 => ?_)
      refine z_xN zt190 79 rfl rfl (fun (x30 : Int32) (h31 : x30.toInt = b3.toInt + 1) => ?_) (z_pAdd rfl rfl (by omega) (by omega))
      show z_ev (d + 973) 190 172 [some (.ref 19), some (.int b1), some (.int b2), some (.int x30), none, none] [] M26 _
      refine z_xP zt190 80 146 [some (.ref 19), some (.int b1), some (.int b2), some (.int x30), none, none] [] rfl rfl ?_
      have h32 := (e28.f f19 (by decide) hp0)
      have f23 : T[23]? = some (.inr (23, 0, 80, (-2147483648), 2147483647)) := X27.1.k rfl (by decide)
      have f24 : T[24]? = some (.inr (24, 0, 8, 0, 10)) := X27.1.k rfl (by decide)
      have f31 : T[31]? = some (.inr (31, 0, 8, 0, 1024)) := X27.1.k rfl (by decide)
      have f35 : T[35]? = some (.inr (35, 0, 8, 0, 9)) := X27.1.k rfl (by decide)
      exact ih.2.1 M26 b1 b2 x30 z0 X27 ⟨by omega, by omega⟩ ⟨by omega, by omega⟩ ⟨by omega, by omega⟩ h32 ⟨by omega, by omega⟩ (by omega) (z_GL.ke hl e28 f23 f24 (by decide)) hA0 (z_OT.ke hO X.1 e28 rfl) (z_A4.ke hA4 e28 f31 (by decide)) ((e28.a f35 (by decide)).trans hZ) (by omega)
    · skip
      intro M b1 b2 b3 o4 o5 z0 z1 z2 X hh0 hh1 hh2 hp0 hh4 hp1 hh6 hp2 hh8 hh9 hh10 hl hA0 hO hA4 hZ hE
      refine z_xP zt190 90 194 [some (.ref 19), some (.int b1), some (.int b2), some (.int b3), o4, o5] [.ref 19, .int 1, .int b3] rfl rfl ?_
      have f19 : T[19]? = some (.inl (12, 0, 0, 0, 0)) := X.1.k rfl (by decide)
      refine z_xgX (b := 24) zt190 91 rfl zo190 zzf12_22 X f19 (by decide) (by decide) rfl ?_
      refine z_xP zt190 92 198 [some (.ref 19), some (.int b1), some (.int b2), some (.int b3), o4, o5] [.int b1, .ref 24, .int 1, .int b3] rfl rfl ?_
      have f24 : T[24]? = some (.inr (24, 0, 8, 0, 10)) := X.1.k rfl (by decide)
      refine z_xil zt190 93 rfl X f24 (by decide) (by omega) (by omega) (fun (x1 : Int32) h2 (h3 : 0 ≤ x1.toInt) (h4 : x1.toInt ≤ 10) => ?_)
      have h5 := congrArg Int32.toInt (h2.symm.trans hp2)
      refine z_xI zt190 94 rfl rfl (fun (x6 : Int32) (h7 : 1 ≤ x6.toInt ∧ x6.toInt ≤ 1024) => ?_) (z_pShlB (a := 1) (b := 10) (c := 1024) (r := 1024) rfl rfl (by omega) (by omega) (by omega) (by omega) (by decide) (by decide) (by decide) (by decide))
      refine z_xJ zt190 95 rfl rfl (fun (h8 : x6.toInt ≤ b3.toInt) => ?_) (fun (h8 : b3.toInt < x6.toInt) => ?_)
      · skip
        refine z_xP zt190 142 304 [some (.ref 19), some (.int b1), some (.int b2), some (.int b3), o4, o5] [.ref 19] rfl rfl ?_
        refine z_xgX (b := 31) zt190 143 rfl zo190 zzf12_43 X f19 (by decide) (by decide) rfl ?_
        refine z_xP zt190 144 308 [some (.ref 19), some (.int b1), some (.int b2), some (.int b3), o4, o5] [.int b1, .ref 31] rfl rfl ?_
        have f31 : T[31]? = some (.inr (31, 0, 8, 0, 1024)) := X.1.k rfl (by decide)
        refine z_xil zt190 145 rfl X f31 (by decide) (by omega) (by omega) (fun (x9 : Int32) h10 (h11 : 0 ≤ x9.toInt) (h12 : x9.toInt ≤ 1024) => ?_)
        have h13 := congrArg Int32.toInt (h10.symm.trans hp1)
        refine z_xZ zt190 146 rfl rfl (fun (h14 : x9.toInt ≠ 0) => ?_) (fun (h14 : x9.toInt = 0) => ?_)
        · skip
          refine z_xP zt190 151 323 [some (.ref 19), some (.int b1), some (.int b2), some (.int b3), o4, o5] [.ref 19] rfl rfl ?_
          refine z_xgX (b := 35) zt190 152 rfl zo190 zzf12_55 X f19 (by decide) (by decide) rfl ?_
          refine z_xP zt190 153 328 [some (.ref 19), some (.int b1), some (.int b2), some (.int b3), o4, o5] [.int 0, .int b1, .ref 35] rfl rfl ?_
          have f35 : T[35]? = some (.inr (35, 0, 8, 0, 9)) := X.1.k rfl (by decide)
          have q0 : ((0 : Int32)).toInt = 0 := rfl
          refine z_xis zt190 154 rfl X f35 (by decide) (by decide) (by omega) (by omega) (by omega) (by omega) (by decide) (fun M15 X16 e17 h18 => ?_)
          have q20 := congrArg Int32.toInt (z_Fv.of hA0)
          have o19 := z_OT.st (A := (z_Fv M0 19 13).toInt) hO X.1 e17 h18 (r := 35) (by decide) (fun _ => by omega) (fun h => absurd h (by decide))
          refine z_xP zt190 155 331 [some (.ref 19), some (.int b1), some (.int b2), some (.int b3), o4, o5] [.ref 19, .ref 19] rfl rfl ?_
          have h21 := (e17.f f19 (by decide) hp0)
          refine z_xgv zt190 156 rfl zo190 zzf12_110 X16 f19 (by decide) h21 ?_
          refine z_xP zt190 157 335 [some (.ref 19), some (.int b1), some (.int b2), some (.int b3), o4, o5] [.int 1, .int z0, .ref 19] rfl rfl ?_
          refine z_xI zt190 158 rfl rfl (fun (x22 : Int32) (h23 : x22.toInt = z0.toInt + 1) => ?_) (z_pAdd rfl rfl (by omega) (by omega))
          refine z_xpf zt190 159 rfl zo190 zzf12_110 X16 f19 (by decide) (by decide) ⟨by omega, by omega⟩ rfl (by decide) zw12_13 (fun M24 X25 e26 h27 => ?_)
          refine z_xP zt190 160 340 [some (.ref 19), some (.int b1), some (.int b2), some (.int b3), o4, o5] [.int b1] rfl rfl ?_
          have f23 : T[23]? = some (.inr (23, 0, 80, (-2147483648), 2147483647)) := X25.1.k rfl (by decide)
          have h28 := ((congrFun (e26.a f31 (by decide)) _).trans ((congrFun (e17.a f31 (by decide)) _).trans hp1))
          exact z_xri zt190 161 rfl zzr190 (kk b1 M24 X25 (z_GL.ke (z_GL.ke hl e17 f23 f24 (by decide)) e26 f23 f24 (by decide)) (z_OT.ke o19 X.1 e26 rfl) (z_A4.g4 (z_A4.one (x := b1) (z_A4.ke (z_A4.ke hA4 e17 f31 (by decide)) e26 f31 (by decide)) h28 rfl (by omega) (by omega)) h27 (by omega)) ((z_OZ.st (h18.trans (congrArg (fun f => upd f b1.toNatClampNeg (0 : Int32)) hZ))).to (e26.a f35 (by decide))))
        refine z_xP zt190 147 317 [some (.ref 19), some (.int b1), some (.int b2), some (.int b3), o4, o5] [.int b1, .ref 19, .int (-1000)] rfl rfl ?_
        refine z_xcV (vs := [.ref 19, .int b1]) (r := [.int (-1000)]) (L2 := [some (.ref 19), some (.int b1), none, none, none, none]) zt190 148 rfl zo190 zzcV12_206 (Or.inl rfl) rfl X f19 rfl rfl rfl (Nat.le_of_ble_eq_true rfl) zzm206 (Nat.le_of_ble_eq_true rfl) rfl ?_
        refine zC206 X.1 (by omega) (fun x31 M29 X30 h32 h33 => ?_)
        have X34 := X.go X30 (z_sb (by decide))
        show z_ev (d + 973) 190 320 [some (.ref 19), some (.int b1), some (.int b2), some (.int b3), o4, o5] [.int x31, .int (-1000)] M29 _
        refine z_xI zt190 149 rfl rfl (fun (x36 : Int32) (h37 : x36.toInt = (-1000) - x31.toInt) => ?_) (z_pSub rfl rfl (by omega) (by omega))
        have f23 : T[23]? = some (.inr (23, 0, 80, (-2147483648), 2147483647)) := X34.1.k rfl (by decide)
        have h38 := (X30.2.f f19 (by decide) hp0)
        have f35 : T[35]? = some (.inr (35, 0, 8, 0, 9)) := X34.1.k rfl (by decide)
        exact z_xri zt190 150 rfl zzr190 (kk x36 M29 X34 (z_GL.ke hl X30.2 f23 f24 (by decide)) (z_OT.ke hO X.1 X30.2 rfl) (z_A4.g4 (z_A4.ke hA4 X30.2 f31 (by decide)) h38 (by omega)) (z_OZ.id ((X30.2.a f35 (by decide)).trans hZ)))
      refine z_xP zt190 96 209 [some (.ref 19), some (.int b1), some (.int b2), some (.int b3), some (.int 0), some (.int 0)] [] rfl rfl ?_
      have f31 : T[31]? = some (.inr (31, 0, 8, 0, 1024)) := X.1.k rfl (by decide)
      have q0 : ((0 : Int32)).toInt = 0 := rfl
      exact ih.2.2.2 M b1 b2 b3 (0) (0) z0 z1 z2 X ⟨by omega, by omega⟩ ⟨by omega, by omega⟩ ⟨by omega, by omega⟩ (by decide) (by decide) hp0 ⟨by omega, by omega⟩ hp1 ⟨by omega, by omega⟩ hp2 ⟨by omega, by omega⟩ (by omega) (by omega) (by omega) hl hA0 hO hA4 hZ (by omega)
    · skip
      intro M b1 b2 b3 b4 b5 z0 z1 z2 X hh0 hh1 hh2 hh3 hh4 hp0 hh6 hp1 hh8 hp2 hh10 hh11 hh12 hh13 hl hA0 hO hA4 hZ hE
      refine z_xP zt190 97 212 [some (.ref 19), some (.int b1), some (.int b2), some (.int b3), some (.int b4), some (.int b5)] [.ref 19, .int b5] rfl rfl ?_
      have f19 : T[19]? = some (.inl (12, 0, 0, 0, 0)) := X.1.k rfl (by decide)
      refine z_xgX (b := 25) zt190 98 rfl zo190 zzf12_25 X f19 (by decide) (by decide) rfl ?_
      refine z_xP zt190 99 216 [some (.ref 19), some (.int b1), some (.int b2), some (.int b3), some (.int b4), some (.int b5)] [.int b1, .ref 25, .int b5] rfl rfl ?_
      have f25 : T[25]? = some (.inr (25, 0, 8, 0, 8)) := X.1.k rfl (by decide)
      refine z_xil zt190 100 rfl X f25 (by decide) (by omega) (by omega) (fun (x1 : Int32) h2 (h3 : 0 ≤ x1.toInt) (h4 : x1.toInt ≤ 8) => ?_)
      refine z_xJ zt190 101 rfl rfl (fun (h5 : x1.toInt ≤ b5.toInt) => ?_) (fun (h5 : b5.toInt < x1.toInt) => ?_)
      · skip
        refine z_xP zt190 112 251 [some (.ref 19), some (.int b1), some (.int b2), some (.int b3), some (.int b4), some (.int b5)] [.ref 19] rfl rfl ?_
        refine z_xgX (b := 29) zt190 113 rfl zo190 zzf12_37 X f19 (by decide) (by decide) rfl ?_
        refine z_xP zt190 114 258 [some (.ref 19), some (.int b1), some (.int b2), some (.int b3), some (.int b4), some (.int b5)] [.int b1, .int 1024, .ref 29] rfl rfl ?_
        refine z_xI zt190 115 rfl rfl (fun (x6 : Int32) (h7 : x6.toInt = 1024 * b1.toInt) => ?_) (z_pMul rfl rfl (by omega) (by omega))
        refine z_xP zt190 116 260 [some (.ref 19), some (.int b1), some (.int b2), some (.int b3), some (.int b4), some (.int b5)] [.int b3, .int x6, .ref 29] rfl rfl ?_
        refine z_xI zt190 117 rfl rfl (fun (x8 : Int32) (h9 : x8.toInt = x6.toInt + b3.toInt) => ?_) (z_pAdd rfl rfl (by omega) (by omega))
        refine z_xP zt190 118 263 [some (.ref 19), some (.int b1), some (.int b2), some (.int b3), some (.int b4), some (.int b5)] [.int b4, .int x8, .ref 29] rfl rfl ?_
        have f29 : T[29]? = some (.inr (29, 0, 8192, (-2147483648), 2147483647)) := X.1.k rfl (by decide)
        refine z_xis zt190 119 rfl X f29 (by decide) (by decide) (by omega) (by omega) (Int32.le_toInt _) (Int32.toInt_le _) (by decide) (fun M10 X11 e12 h13 => ?_)
        have q15 := congrArg Int32.toInt (z_Fv.of hA0)
        have o14 := z_OT.st (A := (z_Fv M0 19 13).toInt) hO X.1 e12 h13 (r := 29) (by decide) (fun h => absurd h (by decide)) (fun _ => by omega)
        refine z_xP zt190 120 266 [some (.ref 19), some (.int b1), some (.int b2), some (.int b3), some (.int b4), some (.int b5)] [.int b4] rfl rfl ?_
        refine z_xZ zt190 121 rfl rfl (fun (h16 : b4.toInt ≠ 0) => ?_) (fun (h16 : b4.toInt = 0) => ?_)
        · skip
          refine z_xN zt190 140 rfl rfl (fun (x17 : Int32) (h18 : x17.toInt = b3.toInt + 1) => ?_) (z_pAdd rfl rfl (by omega) (by omega))
          show z_ev (d + 973) 190 300 [some (.ref 19), some (.int b1), some (.int b2), some (.int x17), some (.int b4), some (.int b5)] [] M10 _
          refine z_xP zt190 141 191 [some (.ref 19), some (.int b1), some (.int b2), some (.int x17), some (.int b4), some (.int b5)] [] rfl rfl ?_
          have h19 := (e12.f f19 (by decide) hp0)
          have f31 : T[31]? = some (.inr (31, 0, 8, 0, 1024)) := X11.1.k rfl (by decide)
          have h20 := ((congrFun (e12.a f31 (by decide)) _).trans hp1)
          have f24 : T[24]? = some (.inr (24, 0, 8, 0, 10)) := X11.1.k rfl (by decide)
          have h21 := ((congrFun (e12.a f24 (by decide)) _).trans hp2)
          have f23 : T[23]? = some (.inr (23, 0, 80, (-2147483648), 2147483647)) := X11.1.k rfl (by decide)
          have f35 : T[35]? = some (.inr (35, 0, 8, 0, 9)) := X11.1.k rfl (by decide)
          exact ih.2.2.1 M10 b1 b2 x17 (some (.int b4)) (some (.int b5)) z0 z1 z2 X11 ⟨by omega, by omega⟩ ⟨by omega, by omega⟩ ⟨by omega, by omega⟩ h19 ⟨by omega, by omega⟩ h20 ⟨by omega, by omega⟩ h21 ⟨by omega, by omega⟩ (by omega) (by omega) (z_GL.ke hl e12 f23 f24 (by decide)) hA0 o14 (z_A4.ke hA4 e12 f31 (by decide)) ((e12.a f35 (by decide)).trans hZ) (by omega)
        refine z_xP zt190 122 270 [some (.ref 19), some (.int b1), some (.int b2), some (.int b3), some (.int b4), some (.int b5)] [.ref 19] rfl rfl ?_
        refine z_xgX (b := 30) zt190 123 rfl zo190 zzf12_40 X11 f19 (by decide) (by decide) rfl ?_
        refine z_xP zt190 124 277 [some (.ref 19), some (.int b1), some (.int b2), some (.int b3), some (.int b4), some (.int b5)] [.int b1, .int 1024, .ref 30] rfl rfl ?_
        refine z_xI zt190 125 rfl rfl (fun (x22 : Int32) (h23 : x22.toInt = 1024 * b1.toInt) => ?_) (z_pMul rfl rfl (by omega) (by omega))
        refine z_xP zt190 126 279 [some (.ref 19), some (.int b1), some (.int b2), some (.int b3), some (.int b4), some (.int b5)] [.ref 19, .int x22, .ref 30] rfl rfl ?_
        refine z_xgX (b := 31) zt190 127 rfl zo190 zzf12_43 X11 f19 (by decide) (by decide) rfl ?_
        refine z_xP zt190 128 283 [some (.ref 19), some (.int b1), some (.int b2), some (.int b3), some (.int b4), some (.int b5)] [.int b1, .ref 31, .int x22, .ref 30] rfl rfl ?_
        have f31 : T[31]? = some (.inr (31, 0, 8, 0, 1024)) := X11.1.k rfl (by decide)
        refine z_xil zt190 129 rfl X11 f31 (by decide) (by omega) (by omega) (fun (x24 : Int32) h25 (h26 : 0 ≤ x24.toInt) (h27 : x24.toInt ≤ 1024) => ?_)
        have h28 := congrArg Int32.toInt (h25.symm.trans ((congrFun (e12.a f31 (by decide)) _).trans hp1))
        refine z_xI zt190 130 rfl rfl (fun (x29 : Int32) (h30 : x29.toInt = x22.toInt + x24.toInt) => ?_) (z_pAdd rfl rfl (by omega) (by omega))
        refine z_xP zt190 131 286 [some (.ref 19), some (.int b1), some (.int b2), some (.int b3), some (.int b4), some (.int b5)] [.int b3, .int x29, .ref 30] rfl rfl ?_
        have f30 : T[30]? = some (.inr (30, 0, 8192, 0, 1023)) := X11.1.k rfl (by decide)
        refine z_xis zt190 132 rfl X11 f30 (by decide) (by decide) (by omega) (by omega) (by omega) (by omega) (by decide) (fun M31 X32 e33 h34 => ?_)
        have q36 := congrArg Int32.toInt (z_Fv.of hA0)
        have o35 := z_OT.st (A := (z_Fv M0 19 13).toInt) o14 X.1 e33 h34 (r := 30) (by decide) (fun h => absurd h (by decide)) (fun _ => by omega)
        refine z_xP zt190 133 288 [some (.ref 19), some (.int b1), some (.int b2), some (.int b3), some (.int b4), some (.int b5)] [.ref 19] rfl rfl ?_
        refine z_xgX (b := 31) zt190 134 rfl zo190 zzf12_43 X32 f19 (by decide) (by decide) rfl ?_
        refine z_xP zt190 135 293 [some (.ref 19), some (.int b1), some (.int b2), some (.int b3), some (.int b4), some (.int b5)] [.int b1, .ref 31, .int b1, .ref 31] rfl rfl ?_
        refine z_xil zt190 136 rfl X32 f31 (by decide) (by omega) (by omega) (fun (x37 : Int32) h38 (h39 : 0 ≤ x37.toInt) (h40 : x37.toInt ≤ 1024) => ?_)
        have h41 := congrArg Int32.toInt (h38.symm.trans ((congrFun (e33.a f31 (by decide)) _).trans ((congrFun (e12.a f31 (by decide)) _).trans hp1)))
        refine z_xP zt190 137 295 [some (.ref 19), some (.int b1), some (.int b2), some (.int b3), some (.int b4), some (.int b5)] [.int 1, .int x37, .int b1, .ref 31] rfl rfl ?_
        refine z_xI zt190 138 rfl rfl (fun (x42 : Int32) (h43 : x42.toInt = x37.toInt + 1) => ?_) (z_pAdd rfl rfl (by omega) (by omega))
        refine z_xis zt190 139 rfl X32 f31 (by decide) (by decide) (by omega) (by omega) (by omega) (by omega) (by decide) (fun M44 X45 e46 h47 => ?_)
        have h48 := z_A4.st (z_A4.ke (z_A4.ke hA4 e12 f31 (by decide)) e33 f31 (by decide)) h47 rfl (by omega)
        have q50 := congrArg Int32.toInt (z_Fv.of hA0)
        have o49 := z_OT.st (A := (z_Fv M0 19 13).toInt) o35 X.1 e46 h47 (r := 31) (by decide) (fun _ => by omega) (fun h => absurd h (by decide))
        refine z_xN zt190 140 rfl rfl (fun (x51 : Int32) (h52 : x51.toInt = b3.toInt + 1) => ?_) (z_pAdd rfl rfl (by omega) (by omega))
        show z_ev (d + 973) 190 300 [some (.ref 19), some (.int b1), some (.int b2), some (.int x51), some (.int b4), some (.int b5)] [] M44 _
        refine z_xP zt190 141 191 [some (.ref 19), some (.int b1), some (.int b2), some (.int x51), some (.int b4), some (.int b5)] [] rfl rfl ?_
        have h53 := (e46.f f19 (by decide) (e33.f f19 (by decide) (e12.f f19 (by decide) hp0)))
        have f24 : T[24]? = some (.inr (24, 0, 8, 0, 10)) := X45.1.k rfl (by decide)
        have h54 := ((congrFun (e46.a f24 (by decide)) _).trans ((congrFun (e33.a f24 (by decide)) _).trans ((congrFun (e12.a f24 (by decide)) _).trans hp2)))
        have f23 : T[23]? = some (.inr (23, 0, 80, (-2147483648), 2147483647)) := X45.1.k rfl (by decide)
        have f35 : T[35]? = some (.inr (35, 0, 8, 0, 9)) := X45.1.k rfl (by decide)
        exact ih.2.2.1 M44 b1 b2 x51 (some (.int b4)) (some (.int b5)) z0 x42 z2 X45 ⟨by omega, by omega⟩ ⟨by omega, by omega⟩ ⟨by omega, by omega⟩ h53 ⟨by omega, by omega⟩ (z_upe h47) ⟨by omega, by omega⟩ h54 ⟨by omega, by omega⟩ (by omega) (by omega) (z_GL.ke (z_GL.ke (z_GL.ke hl e12 f23 f24 (by decide)) e33 f23 f24 (by decide)) e46 f23 f24 (by decide)) hA0 o49 h48 ((e46.a f35 (by decide)).trans ((e33.a f35 (by decide)).trans ((e12.a f35 (by decide)).trans hZ))) (by omega)
      refine z_xP zt190 102 227 [some (.ref 19), some (.int b1), some (.int b2), some (.int b3), some (.int b4), some (.int b5)] [.int b3, .int b5, .int b1, .ref 19, .int b4] rfl rfl ?_
      refine z_xcV (vs := [.ref 19, .int b1, .int b5, .int b3]) (r := [.int b4]) (L2 := [some (.ref 19), some (.int b1), some (.int b5), some (.int b3)]) zt190 103 rfl zo190 zzcV12_202 (Or.inl rfl) rfl X f19 rfl rfl rfl (Nat.le_of_ble_eq_true rfl) zzm205 (Nat.le_of_ble_eq_true rfl) rfl ?_
      refine zC205 X.1 (by omega) (by omega) hl (fun x57 M55 X56 h58 h59 => ?_)
      have X60 := X.go X56 (z_sb (by decide))
      show z_ev (d + 973) 190 230 [some (.ref 19), some (.int b1), some (.int b2), some (.int b3), some (.int b4), some (.int b5)] [.int x57, .int b4] M55 _
      refine z_xZ zt190 104 rfl rfl (fun (h62 : x57.toInt = 0) => ?_) (fun (h62 : x57.toInt ≠ 0) => ?_)
      · skip
        refine z_xP zt190 106 240 [some (.ref 19), some (.int b1), some (.int b2), some (.int b3), some (.int b4), some (.int b5)] [.int b5, .int 1, .int b4] rfl rfl ?_
        refine z_xI zt190 107 rfl rfl (fun (x63 : Int32) (h64 : 1 ≤ x63.toInt ∧ x63.toInt ≤ 128) => ?_) (z_pShlB (a := 1) (b := 7) (c := 128) (r := 128) rfl rfl (by omega) (by omega) (by omega) (by omega) (by decide) (by decide) (by decide) (by decide))
        refine z_xI zt190 108 rfl rfl (fun (x65 : Int32) (h66 : 0 ≤ x65.toInt ∧ x65.toInt < 256 ∧ b4.toInt ≤ x65.toInt ∧ x63.toInt ≤ x65.toInt) => ?_) (z_pOr 8 rfl rfl (by omega) (by omega) (by decide) (by omega) (by omega) (by decide))
        refine z_xP zt190 109 244 [some (.ref 19), some (.int b1), some (.int b2), some (.int b3), some (.int x65), some (.int b5)] [] rfl rfl ?_
        refine z_xN zt190 110 rfl rfl (fun (x67 : Int32) (h68 : x67.toInt = b5.toInt + 1) => ?_) (z_pAdd rfl rfl (by omega) (by omega))
        show z_ev (d + 973) 190 247 [some (.ref 19), some (.int b1), some (.int b2), some (.int b3), some (.int x65), some (.int x67)] [] M55 _
        refine z_xP zt190 111 209 [some (.ref 19), some (.int b1), some (.int b2), some (.int b3), some (.int x65), some (.int x67)] [] rfl rfl ?_
        have h69 := (X56.2.f f19 (by decide) hp0)
        have f31 : T[31]? = some (.inr (31, 0, 8, 0, 1024)) := X60.1.k rfl (by decide)
        have h70 := ((congrFun (X56.2.a f31 (by decide)) _).trans hp1)
        have f24 : T[24]? = some (.inr (24, 0, 8, 0, 10)) := X60.1.k rfl (by decide)
        have h71 := ((congrFun (X56.2.a f24 (by decide)) _).trans hp2)
        have f23 : T[23]? = some (.inr (23, 0, 80, (-2147483648), 2147483647)) := X60.1.k rfl (by decide)
        have f35 : T[35]? = some (.inr (35, 0, 8, 0, 9)) := X60.1.k rfl (by decide)
        exact ih.2.2.2 M55 b1 b2 b3 x65 x67 z0 z1 z2 X60 ⟨by omega, by omega⟩ ⟨by omega, by omega⟩ ⟨by omega, by omega⟩ ⟨by omega, by omega⟩ ⟨by omega, by omega⟩ h69 ⟨by omega, by omega⟩ h70 ⟨by omega, by omega⟩ h71 ⟨by omega, by omega⟩ (by omega) (by omega) (by omega) (z_GL.ke hl X56.2 f23 f24 (by decide)) hA0 (z_OT.ke hO X.1 X56.2 rfl) (z_A4.ke hA4 X56.2 f31 (by decide)) ((X56.2.a f35 (by decide)).trans hZ) (by omega)
      refine z_xP zt190 105 241 [some (.ref 19), some (.int b1), some (.int b2), some (.int b3), some (.int b4), some (.int b5)] [.int 0, .int b4] rfl rfl ?_
      refine z_xI zt190 108 rfl rfl (fun (x72 : Int32) (h73 : 0 ≤ x72.toInt ∧ x72.toInt < 256 ∧ b4.toInt ≤ x72.toInt ∧ 0 ≤ x72.toInt) => ?_) (z_pOr 8 rfl rfl (by omega) (by omega) (by decide) (by omega) (by omega) (by decide))
      refine z_xP zt190 109 244 [some (.ref 19), some (.int b1), some (.int b2), some (.int b3), some (.int x72), some (.int b5)] [] rfl rfl ?_
      refine z_xN zt190 110 rfl rfl (fun (x74 : Int32) (h75 : x74.toInt = b5.toInt + 1) => ?_) (z_pAdd rfl rfl (by omega) (by omega))
      show z_ev (d + 973) 190 247 [some (.ref 19), some (.int b1), some (.int b2), some (.int b3), some (.int x72), some (.int x74)] [] M55 _
      refine z_xP zt190 111 209 [some (.ref 19), some (.int b1), some (.int b2), some (.int b3), some (.int x72), some (.int x74)] [] rfl rfl ?_
      have h76 := (X56.2.f f19 (by decide) hp0)
      have f31 : T[31]? = some (.inr (31, 0, 8, 0, 1024)) := X60.1.k rfl (by decide)
      have h77 := ((congrFun (X56.2.a f31 (by decide)) _).trans hp1)
      have f24 : T[24]? = some (.inr (24, 0, 8, 0, 10)) := X60.1.k rfl (by decide)
      have h78 := ((congrFun (X56.2.a f24 (by decide)) _).trans hp2)
      have f23 : T[23]? = some (.inr (23, 0, 80, (-2147483648), 2147483647)) := X60.1.k rfl (by decide)
      have f35 : T[35]? = some (.inr (35, 0, 8, 0, 9)) := X60.1.k rfl (by decide)
      exact ih.2.2.2 M55 b1 b2 b3 x72 x74 z0 z1 z2 X60 ⟨by omega, by omega⟩ ⟨by omega, by omega⟩ ⟨by omega, by omega⟩ ⟨by omega, by omega⟩ ⟨by omega, by omega⟩ h76 ⟨by omega, by omega⟩ h77 ⟨by omega, by omega⟩ h78 ⟨by omega, by omega⟩ (by omega) (by omega) (by omega) (z_GL.ke hl X56.2 f23 f24 (by decide)) hA0 (z_OT.ke hO X.1 X56.2 rfl) (z_A4.ke hA4 X56.2 f31 (by decide)) ((X56.2.a f35 (by decide)).trans hZ) (by omega)
theorem zOC190 {T : List zK} {d : Nat} {K : Option Value → zH → Prop}  {M0 : zH} (hW : z_W M0 T) (hL : z_GL M0) (ha4 : z_G4 M0) (kk : ∀ (x : Int32) (M1 : zH), z_X T zw190 M0 M1 → z_GL M1 → z_OT (z_Fv M0 19 13).toInt M0 M1 → z_G4 M1 → z_OZ M0 M1 → K (some (.int x)) M1) : z_ev (d + 973) 190 0 [some (.ref 19), none, none, none, none, none] [] M0 K := by
  have X : z_X T zw190 M0 M0 := .refl hW
  refine z_xP zt190 0 1 [some (.ref 19), none, none, none, none, none] [.ref 19] rfl rfl ?_
  have f19 : T[19]? = some (.inl (12, 0, 0, 0, 0)) := X.1.k rfl (by decide)
  refine z_xgI zt190 1 rfl zo190 zzf12_110 X f19 (by decide) (by decide) rfl (fun (x2 : Int32) h1 (h3 : 0 ≤ x2.toInt) (h4 : x2.toInt ≤ 8) => ?_)
  refine z_xP zt190 2 6 [some (.ref 19), none, none, none, none, none] [.int 8, .int x2] rfl rfl ?_
  refine z_xJ zt190 3 rfl rfl (fun (h5 : x2.toInt ≠ 8) => ?_) (fun (h5 : x2.toInt = 8) => ?_)
  · skip
    refine z_xP zt190 6 13 [some (.ref 19), none, none, none, none, none] [.ref 19] rfl rfl ?_
    refine z_xgv zt190 7 rfl zo190 zzf12_110 X f19 (by decide) h1 ?_
    refine z_xP zt190 8 19 [some (.ref 19), some (.int x2), none, none, none, none] [.int x2, .ref 19] rfl rfl ?_
    refine z_xpf zt190 9 rfl zo190 zzf12_133 X f19 (by decide) (by decide) ⟨by omega, by omega⟩ rfl (by decide) zw12_22 (fun M6 X7 e8 h9 => ?_)
    refine z_xP zt190 10 24 [some (.ref 19), some (.int x2), none, none, none, none] [.int 1, .ref 19] rfl rfl ?_
    have q1 : ((1 : Int32)).toInt = 1 := rfl
    refine z_xpf zt190 11 rfl zo190 zzf12_129 X7 f19 (by decide) (by decide) ⟨by omega, by omega⟩ rfl (by decide) zw12_23 (fun M10 X11 e12 h13 => ?_)
    refine z_xP zt190 12 29 [some (.ref 19), some (.int x2), none, none, none, none] [.int 0, .ref 19] rfl rfl ?_
    have q0 : ((0 : Int32)).toInt = 0 := rfl
    refine z_xpf zt190 13 rfl zo190 zzf12_123 X11 f19 (by decide) (by decide) ⟨by omega, by omega⟩ rfl (by decide) zw12_24 (fun M14 X15 e16 h17 => ?_)
    refine z_xP zt190 14 34 [some (.ref 19), some (.int x2), none, none, none, none] [.ref 19, .ref 19] rfl rfl ?_
    refine z_xgI zt190 15 rfl zo190 zzf12_120 X15 f19 (by decide) (by decide) rfl (fun (x19 : Int32) h18 (h20 : 0 ≤ x19.toInt) (h21 : x19.toInt ≤ 160) => ?_)
    refine z_xpf zt190 16 rfl zo190 zzf12_126 X15 f19 (by decide) (by decide) ⟨by omega, by omega⟩ rfl (by decide) zw12_25 (fun M22 X23 e24 h25 => ?_)
    refine z_xP zt190 17 42 [some (.ref 19), some (.int x2), none, none, none, none] [.int (-1), .ref 19] rfl rfl ?_
    have qm1 : (((-1) : Int32)).toInt = (-1) := rfl
    refine z_xpf zt190 18 rfl zo190 zzf12_136 X23 f19 (by decide) (by decide) ⟨by omega, by omega⟩ rfl (by decide) zw12_26 (fun M26 X27 e28 h29 => ?_)
    refine z_xP zt190 19 47 [some (.ref 19), some (.int x2), none, none, none, none] [.int 0, .ref 19] rfl rfl ?_
    have q0 : ((0 : Int32)).toInt = 0 := rfl
    refine z_xpf zt190 20 rfl zo190 zzf12_160 X27 f19 (by decide) (by decide) ⟨by omega, by omega⟩ rfl (by decide) zw12_27 (fun M30 X31 e32 h33 => ?_)
    refine z_xP zt190 21 52 [some (.ref 19), some (.int x2), none, none, none, none] [.int 0, .ref 19] rfl rfl ?_
    have q0 : ((0 : Int32)).toInt = 0 := rfl
    refine z_xpf zt190 22 rfl zo190 zzf12_183 X31 f19 (by decide) (by decide) ⟨by omega, by omega⟩ rfl (by decide) zw12_28 (fun M34 X35 e36 h37 => ?_)
    refine z_xP zt190 23 56 [some (.ref 19), some (.int x2), none, none, none, none] [.ref 19] rfl rfl ?_
    refine z_xgX (b := 25) zt190 24 rfl zo190 zzf12_25 X35 f19 (by decide) (by decide) rfl ?_
    refine z_xP zt190 25 61 [some (.ref 19), some (.int x2), none, none, none, none] [.int 0, .int x2, .ref 25] rfl rfl ?_
    have f25 : T[25]? = some (.inr (25, 0, 8, 0, 8)) := X35.1.k rfl (by decide)
    have q0 : ((0 : Int32)).toInt = 0 := rfl
    refine z_xis zt190 26 rfl X35 f25 (by decide) (by decide) (by omega) (by omega) (by omega) (by omega) (by decide) (fun M38 X39 e40 h41 => ?_)
    have q43 := congrArg Int32.toInt (z_Fv.of h1)
    have o42 := z_OT.st (A := (z_Fv M0 19 13).toInt) (z_OT.ke (z_OT.ke (z_OT.ke (z_OT.ke (z_OT.ke (z_OT.ke (z_OT.ke z_OT.refl X.1 e8 rfl) X.1 e12 rfl) X.1 e16 rfl) X.1 e24 rfl) X.1 e28 rfl) X.1 e32 rfl) X.1 e36 rfl) X.1 e40 h41 (r := 25) (by decide) (fun _ => by omega) (fun h => absurd h (by decide))
    refine z_xP zt190 27 63 [some (.ref 19), some (.int x2), none, none, none, none] [.ref 19] rfl rfl ?_
    refine z_xgX (b := 27) zt190 28 rfl zo190 zzf12_31 X39 f19 (by decide) (by decide) rfl ?_
    refine z_xP zt190 29 68 [some (.ref 19), some (.int x2), none, none, none, none] [.int 0, .int x2, .ref 27] rfl rfl ?_
    have f27 : T[27]? = some (.inr (27, 0, 8, (-2147483648), 2147483647)) := X39.1.k rfl (by decide)
    have q0 : ((0 : Int32)).toInt = 0 := rfl
    refine z_xis zt190 30 rfl X39 f27 (by decide) (by decide) (by omega) (by omega) (by omega) (by omega) (by decide) (fun M44 X45 e46 h47 => ?_)
    have q49 := congrArg Int32.toInt (z_Fv.of h1)
    have o48 := z_OT.st (A := (z_Fv M0 19 13).toInt) o42 X.1 e46 h47 (r := 27) (by decide) (fun _ => by omega) (fun h => absurd h (by decide))
    refine z_xP zt190 31 70 [some (.ref 19), some (.int x2), none, none, none, none] [.ref 19] rfl rfl ?_
    refine z_xgX (b := 28) zt190 32 rfl zo190 zzf12_34 X45 f19 (by decide) (by decide) rfl ?_
    refine z_xP zt190 33 75 [some (.ref 19), some (.int x2), none, none, none, none] [.int 0, .int x2, .ref 28] rfl rfl ?_
    have f28 : T[28]? = some (.inr (28, 0, 8, (-2147483648), 2147483647)) := X45.1.k rfl (by decide)
    have q0 : ((0 : Int32)).toInt = 0 := rfl
    refine z_xis zt190 34 rfl X45 f28 (by decide) (by decide) (by omega) (by omega) (by omega) (by omega) (by decide) (fun M50 X51 e52 h53 => ?_)
    have q55 := congrArg Int32.toInt (z_Fv.of h1)
    have o54 := z_OT.st (A := (z_Fv M0 19 13).toInt) o48 X.1 e52 h53 (r := 28) (by decide) (fun _ => by omega) (fun h => absurd h (by decide))
    refine z_xP zt190 35 77 [some (.ref 19), some (.int x2), none, none, none, none] [.ref 19] rfl rfl ?_
    refine z_xcV (vs := [.ref 19]) (r := []) (L2 := [some (.ref 19), none, none, none, none]) zt190 36 rfl zo190 zzcV12_196 (Or.inl rfl) rfl X51 f19 rfl rfl rfl (Nat.le_of_ble_eq_true rfl) zzm191 (Nat.le_of_ble_eq_true rfl) rfl ?_
    have h56 := (e52.f f19 (by decide) (e46.f f19 (by decide) (e40.f f19 (by decide) (e36.f f19 (by decide) (e32.f f19 (by decide) (e28.f f19 (by decide) (e24.f f19 (by decide) (e16.f f19 (by decide) (e12.f f19 (by decide) h9)))))))))
    have f23 : T[23]? = some (.inr (23, 0, 80, (-2147483648), 2147483647)) := X51.1.k rfl (by decide)
    have f24 : T[24]? = some (.inr (24, 0, 8, 0, 10)) := X51.1.k rfl (by decide)
    refine zOC191 X51.1 (z_GL.ke (z_GL.ke (z_GL.ke (z_GL.ke (z_GL.ke (z_GL.ke (z_GL.ke (z_GL.ke (z_GL.ke (z_GL.ke hL e8 f23 f24 (by decide)) e12 f23 f24 (by decide)) e16 f23 f24 (by decide)) e24 f23 f24 (by decide)) e28 f23 f24 (by decide)) e32 f23 f24 (by decide)) e36 f23 f24 (by decide)) e40 f23 f24 (by decide)) e46 f23 f24 (by decide)) e52 f23 f24 (by decide)) (fun M57 X58 h59 h60 => ?_)
    have X61 := X51.go X58 (z_sb (by decide))
    show z_ev (d + 973) 190 80 [some (.ref 19), some (.int x2), none, none, none, none] [] M57 _
    have q64 := congrArg Int32.toInt (z_Fv.of h1)
    have o63 := z_OT.tr (A := (z_Fv M0 19 13).toInt) o54 h60 h56 (by omega)
    have h65 := (X58.2.f f19 (by decide) (e52.f f19 (by decide) (e46.f f19 (by decide) (e40.f f19 (by decide) (e36.f f19 (by decide) (e32.f f19 (by decide) (e28.f f19 (by decide) (e24.f f19 (by decide) (e16.f f19 (by decide) (e12.f f19 (by decide) (e8.f f19 (by decide) h1)))))))))))
    obtain ⟨x66, h67, h68, h69⟩ := z_W.fi X61.1 f19 (k := 24) (lo := 0) (hi := 160) (by decide) rfl
    have h70 := (X58.2.f f19 (by decide) h56)
    have f31 : T[31]? = some (.inr (31, 0, 8, 0, 1024)) := X61.1.k rfl (by decide)
    have f35 : T[35]? = some (.inr (35, 0, 8, 0, 9)) := X61.1.k rfl (by decide)
    exact (zOB190 hL ha4 kk 230625).1 M57 x2 x2 x66 x2 X61 ⟨by omega, by omega⟩ h65 ⟨by omega, by omega⟩ h67 ⟨by omega, by omega⟩ h70 ⟨by omega, by omega⟩ (by omega) (by omega) h59 h1 o63 (z_G4.a4 (z_G4.ke (z_G4.ke (z_G4.ke (z_G4.ke (z_G4.ke (z_G4.ke (z_G4.ke (z_G4.ke (z_G4.ke (z_G4.ke (z_G4.ke ha4 e8 f19 f31 (by decide)) e12 f19 f31 (by decide)) e16 f19 f31 (by decide)) e24 f19 f31 (by decide)) e28 f19 f31 (by decide)) e32 f19 f31 (by decide)) e36 f19 f31 (by decide)) e40 f19 f31 (by decide)) e46 f19 f31 (by decide)) e52 f19 f31 (by decide)) X58.2 f19 f31 (by decide)) h65) ((X58.2.a f35 (by decide)).trans ((e52.a f35 (by decide)).trans ((e46.a f35 (by decide)).trans ((e40.a f35 (by decide)).trans ((e36.a f35 (by decide)).trans ((e32.a f35 (by decide)).trans ((e28.a f35 (by decide)).trans ((e24.a f35 (by decide)).trans ((e16.a f35 (by decide)).trans ((e12.a f35 (by decide)).trans ((e8.a f35 (by decide)).trans rfl))))))))))) (by omega)
  refine z_xP zt190 4 11 [some (.ref 19), none, none, none, none, none] [.int (-3)] rfl rfl ?_
  have qm3 : (((-3) : Int32)).toInt = (-3) := rfl
  exact z_xri zt190 5 rfl zzr190 (kk (-3) M0 X hL z_OT.refl ha4 z_OZ.refl)
