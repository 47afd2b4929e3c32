/-! ofWay, taken: both answers the same -/
/-- a field that holds an int -/
def z_Fv (M : zH) (a k : Nat) : Int32 := match z_F M a k with
  | some (.int x) => x
  | _ => 0
theorem z_Fv.of {M : zH} {a k : Nat} {x : Int32} (h : z_F M a k = some (.int x)) : z_Fv M a k = x := by
  unfold z_Fv
  rw [h]
theorem z_fvw {M : zH} {T : List zK} (hW : z_W M T) {a ci : Nat} (hc : 4 ≤ ci ∧ ci ≤ 11) (ha : T[a]? = some (.inl (ci, 0, 0, 0, 0))) : 0 ≤ (z_Fv M a 0).toInt ∧ (z_Fv M a 0).toInt ≤ 7 := by
  obtain ⟨x, h, h0, h1⟩ := hW.fi ha (k := 0) (lo := 0) (hi := 7) (z_nf8 hc (by decide)) (z_fs8 hc)
  rw [z_Fv.of h]
  exact ⟨h0, h1⟩
theorem z_R0a.x {M M1 : zH} {T : List zK} {rs : List Nat} (h : z_R0a M) (hX : z_X T rs M M1) (hr : ¬ 3 ∈ rs) : z_R0a M1 := by
  obtain ⟨f, h1, h2⟩ := h
  refine ⟨f, ?_, h2⟩
  rw [hX.2.2 3 3 (0, 8, -1, 5) (hX.1.k (k := 3) (κ := z_ai 3 8 (-1) 5) rfl (by decide)) hr]
  exact h1
theorem z_upv {M : zH} (h : z_R0a M) {x v : Int32} (hv : z_Ar M 3 x.toNatClampNeg = v) (h0 : 0 ≤ x.toInt) (h1 : x.toInt ≤ 7) : (x.toInt = 0 ∧ v.toInt = -1) ∨ (x.toInt = 1 ∧ v.toInt = 0) ∨ (x.toInt = 2 ∧ v.toInt = 1) ∨ (x.toInt = 3 ∧ v.toInt = 1) ∨ (x.toInt = 4 ∧ v.toInt = 0) ∨ (x.toInt = 5 ∧ v.toInt = 0) ∨ (x.toInt = 6 ∧ v.toInt = 5) ∨ (x.toInt = 7 ∧ v.toInt = 0) := by
  obtain ⟨f, e1, e2⟩ := h
  unfold z_Ar at hv
  rw [e1] at hv
  have hv : f x.toNatClampNeg = v := hv
  have hn : x.toNatClampNeg < 8 := by unfold Int32.toNatClampNeg; omega
  rw [e2 _ hn] at hv
  have hx : x.toInt = (x.toNatClampNeg : Int) := by unfold Int32.toNatClampNeg; omega
  rw [hx, ← hv]
  generalize x.toNatClampNeg = n at hn
  have : ∀ n : Nat, n < 8 → ((n : Int) = 0 ∧ (z_tk3.getD n 0).toInt = -1) ∨ ((n : Int) = 1 ∧ (z_tk3.getD n 0).toInt = 0) ∨ ((n : Int) = 2 ∧ (z_tk3.getD n 0).toInt = 1) ∨ ((n : Int) = 3 ∧ (z_tk3.getD n 0).toInt = 1) ∨ ((n : Int) = 4 ∧ (z_tk3.getD n 0).toInt = 0) ∨ ((n : Int) = 5 ∧ (z_tk3.getD n 0).toInt = 0) ∨ ((n : Int) = 6 ∧ (z_tk3.getD n 0).toInt = 5) ∨ ((n : Int) = 7 ∧ (z_tk3.getD n 0).toInt = 0) := by decide +kernel
  exact this n hn
theorem zRC83 {T : List zK} {d : Nat} {K : Option Value → zH → Prop} {p1 : Int32} {p2 : Int32} {zp0 : Int32} {M0 : zH} (hW : z_W M0 T) (hz0 : z_F M0 4 5 = some (.int zp0)) (bz0 : 0 ≤ zp0.toInt ∧ zp0.toInt ≤ 20) (hG : z_GG T M0) (kk : ∀ (x : Int32) (M1 : zH), z_X T zw83 M0 M1 → (-1) ≤ x.toInt → x.toInt ≤ 9 → ((x.toInt = -1 ∧ (p1.toInt < 0 ∨ zp0.toInt ≤ p1.toInt ∨ p2.toInt < 0 ∨ 2 < p2.toInt)) ∨ (0 ≤ x.toInt ∧ ¬ (p1.toInt < 0 ∨ zp0.toInt ≤ p1.toInt ∨ p2.toInt < 0 ∨ 2 < p2.toInt))) → (0 ≤ x.toInt → ∃ b : Nat, z_O M0 12 p1.toNatClampNeg = some b ∧ (p2.toInt = 0 → z_F M0 b 0 = some (.int x)) ∧ (p2.toInt = 1 → z_F M0 b 1 = some (.int x)) ∧ (p2.toInt = 2 → z_F M0 b 2 = some (.int x))) → ∀ (w0 : Int32), z_F M1 4 5 = some (.int w0) → 0 ≤ w0.toInt ∧ w0.toInt ≤ 20 → w0.toInt = zp0.toInt → K (some (.int x)) M1) : z_ev (d + 1) 83 0 [some (.ref 4), some (.int p1), some (.int p2), none] [] M0 K := by
  have X : z_X T zw83 M0 M0 := .refl hW
  refine z_xP zt83 0 2 [some (.ref 4), some (.int p1), some (.int p2), none] [.int p1, .ref 4] rfl rfl ?_
  have f4 : T[4]? = some (.inl (0, 0, 0, 0, 0)) := X.1.k rfl (by decide)
  refine z_xcV (vs := [.ref 4, .int p1]) (r := []) (L2 := [some (.ref 4), some (.int p1)]) zt83 1 rfl zo83 zzcV0_221 (Or.inl rfl) rfl X f4 rfl rfl rfl (Nat.le_of_ble_eq_true rfl) zzm84 (Nat.le_of_ble_eq_true rfl) rfl ?_
  refine z_xP zt84 0 1 [some (.ref 4), some (.int p1)] [.int p1] rfl rfl ?_
  refine z_xZ zt84 1 rfl rfl (fun (h1 : p1.toInt < 0) => ?_) (fun (h1 : 0 ≤ p1.toInt) => ?_)
  · skip
    refine z_xP zt84 5 22 [some (.ref 4), some (.int p1)] [.null] rfl rfl ?_
    refine z_xrn zt84 10 rfl zzr84 ?_
    show z_ev (d + 1) 83 5 [some (.ref 4), some (.int p1), some (.int p2), none] [.null] M0 _
    refine z_xP zt83 2 10 [some (.ref 4), some (.int p1), some (.int p2), some (.null)] [] rfl rfl ?_
    refine z_xP zt83 3 11 [some (.ref 4), some (.int p1), some (.int p2), some (.null)] [.int (-1)] rfl rfl ?_
    have qm1 : (((-1) : Int32)).toInt = (-1) := rfl
    have qm1 : (((-1) : Int32)).toInt = (-1) := rfl
    have qm1 : (((-1) : Int32)).toInt = (-1) := rfl
    exact z_xri zt83 4 rfl zzr83 (kk (-1) M0 X (by omega) (by omega) (by omega) (fun hx => absurd hx (by omega)) zp0 hz0 ⟨by omega, by omega⟩ (by omega))
  refine z_xP zt84 2 6 [some (.ref 4), some (.int p1)] [.ref 4, .int p1] rfl rfl ?_
  refine z_xgv zt84 3 rfl zo84 zzf0_188 X f4 (by decide) hz0 ?_
  have h2 := z_b32 p1
  refine z_xJ zt84 4 rfl rfl (fun (h3 : p1.toInt < zp0.toInt) => ?_) (fun (h3 : zp0.toInt ≤ p1.toInt) => ?_)
  · skip
    refine z_xP zt84 6 17 [some (.ref 4), some (.int p1)] [.ref 4] rfl rfl ?_
    refine z_xgX (b := 12) zt84 7 rfl zo84 zzf0_27 X f4 (by decide) (by decide) rfl ?_
    refine z_xP zt84 8 21 [some (.ref 4), some (.int p1)] [.int p1, .ref 12] rfl rfl ?_
    have f12 : T[12]? = some (.inr (12, 3, 20, 0, 0)) := X.1.k rfl (by decide)
    refine z_xal zt84 9 rfl X f12 (by decide) (by decide) (by decide) (by omega) (by omega) (fun (a4 : Nat) h5 h6 => ?_) (fun h7 => absurd h7 (z_Gb (hG.go X (by decide)).2.1 hz0 (by omega) (by omega)))
    obtain ⟨c8, w9l, w9u, k10⟩ : ∃ ci, 4 ≤ ci ∧ ci ≤ 11 ∧ T[a4]? = some (.inl (ci, 0, 0, 0, 0)) := h6
    have w9 := And.intro w9l w9u
    refine z_xra zt84 10 rfl zzr84 ?_
    show z_ev (d + 1) 83 5 [some (.ref 4), some (.int p1), some (.int p2), none] [.ref a4] M0 _
    refine z_xP zt83 2 12 [some (.ref 4), some (.int p1), some (.int p2), some (.ref a4)] [] rfl rfl ?_
    refine z_xP zt83 5 13 [some (.ref 4), some (.int p1), some (.int p2), some (.ref a4)] [.int p2] rfl rfl ?_
    by_cases h11 : p2.toInt = 0
    · refine z_xSC zt83 6 (z_sub (k := 0) h11 rfl) 40 rfl rfl ?_
      refine z_xP zt83 7 41 [some (.ref 4), some (.int p1), some (.int p2), some (.ref a4)] [.ref a4] rfl rfl ?_
      refine z_xgI zt83 8 rfl zo83 zzf0_225 X k10 (z_w8 (fun c => c ∈ ([4, 5, 6, 7, 8, 9, 10, 11] : List Nat)) (by decide) (by decide) (by decide) (by decide) (by decide) (by decide) (by decide) (by decide) w9) (z_nf8 w9 (by decide)) (z_fs8 w9) (fun (x13 : Int32) h12 (h14 : 0 ≤ x13.toInt) (h15 : x13.toInt ≤ 7) => ?_)
      exact z_xri zt83 9 rfl zzr83 (kk x13 M0 X (by omega) (by omega) (by omega) (fun _ => ⟨a4, h5, fun _ => h12, fun hk => absurd hk (by omega), fun hk => absurd hk (by omega)⟩) zp0 hz0 ⟨by omega, by omega⟩ (by omega))
    by_cases h16 : p2.toInt = 1
    · refine z_xSC zt83 6 (z_sub (k := 1) h16 rfl) 45 rfl rfl ?_
      refine z_xP zt83 10 46 [some (.ref 4), some (.int p1), some (.int p2), some (.ref a4)] [.ref a4] rfl rfl ?_
      refine z_xgI zt83 11 rfl zo83 zzf0_228 X k10 (z_w8 (fun c => c ∈ ([4, 5, 6, 7, 8, 9, 10, 11] : List Nat)) (by decide) (by decide) (by decide) (by decide) (by decide) (by decide) (by decide) (by decide) w9) (z_nf8 w9 (by decide)) (z_fs8 w9) (fun (x18 : Int32) h17 (h19 : 0 ≤ x18.toInt) (h20 : x18.toInt ≤ 9) => ?_)
      exact z_xri zt83 12 rfl zzr83 (kk x18 M0 X (by omega) (by omega) (by omega) (fun _ => ⟨a4, h5, fun hk => absurd hk (by omega), fun _ => h17, fun hk => absurd hk (by omega)⟩) zp0 hz0 ⟨by omega, by omega⟩ (by omega))
    by_cases h21 : p2.toInt = 2
    · refine z_xSC zt83 6 (z_sub (k := 2) h21 rfl) 50 rfl rfl ?_
      refine z_xP zt83 13 51 [some (.ref 4), some (.int p1), some (.int p2), some (.ref a4)] [.ref a4] rfl rfl ?_
      refine z_xgI zt83 14 rfl zo83 zzf0_231 X k10 (z_w8 (fun c => c ∈ ([4, 5, 6, 7, 8, 9, 10, 11] : List Nat)) (by decide) (by decide) (by decide) (by decide) (by decide) (by decide) (by decide) (by decide) w9) (z_nf8 w9 (by decide)) (z_fs8 w9) (fun (x23 : Int32) h22 (h24 : 0 ≤ x23.toInt) (h25 : x23.toInt ≤ 8) => ?_)
      exact z_xri zt83 15 rfl zzr83 (kk x23 M0 X (by omega) (by omega) (by omega) (fun _ => ⟨a4, h5, fun hk => absurd hk (by omega), fun hk => absurd hk (by omega), fun _ => h22⟩) zp0 hz0 ⟨by omega, by omega⟩ (by omega))
    refine z_xSD zt83 6 rfl rfl (by omega) ?_
    refine z_xP zt83 16 56 [some (.ref 4), some (.int p1), some (.int p2), some (.ref a4)] [.int (-1)] rfl rfl ?_
    have qm1 : (((-1) : Int32)).toInt = (-1) := rfl
    have qm1 : (((-1) : Int32)).toInt = (-1) := rfl
    have qm1 : (((-1) : Int32)).toInt = (-1) := rfl
    exact z_xri zt83 17 rfl zzr83 (kk (-1) M0 X (by omega) (by omega) (by omega) (fun hx => absurd hx (by omega)) zp0 hz0 ⟨by omega, by omega⟩ (by omega))
  refine z_xP zt84 5 22 [some (.ref 4), some (.int p1)] [.null] rfl rfl ?_
  refine z_xrn zt84 10 rfl zzr84 ?_
  show z_ev (d + 1) 83 5 [some (.ref 4), some (.int p1), some (.int p2), none] [.null] M0 _
  refine z_xP zt83 2 10 [some (.ref 4), some (.int p1), some (.int p2), some (.null)] [] rfl rfl ?_
  refine z_xP zt83 3 11 [some (.ref 4), some (.int p1), some (.int p2), some (.null)] [.int (-1)] rfl rfl ?_
  have qm1 : (((-1) : Int32)).toInt = (-1) := rfl
  have qm1 : (((-1) : Int32)).toInt = (-1) := rfl
  have qm1 : (((-1) : Int32)).toInt = (-1) := rfl
  exact z_xri zt83 4 rfl zzr83 (kk (-1) M0 X (by omega) (by omega) (by omega) (fun hx => absurd hx (by omega)) zp0 hz0 ⟨by omega, by omega⟩ (by omega))
theorem zRC236 {T : List zK} {d : Nat} {K : Option Value → zH → Prop} {p1 : Int32} {p2 : Int32} {zp0 : Int32} {M0 : zH} (hW : z_W M0 T) (hz0 : z_F M0 19 21 = some (.int zp0)) (bz0 : 0 ≤ zp0.toInt ∧ zp0.toInt ≤ 20) (kk : ∀ (x : Int32) (M1 : zH), z_X T zw236 M0 M1 → (-1) ≤ x.toInt → x.toInt ≤ 9 → ((x.toInt = -1 ∧ (p1.toInt < 0 ∨ zp0.toInt ≤ p1.toInt ∨ p2.toInt < 0 ∨ 2 < p2.toInt)) ∨ (0 ≤ x.toInt ∧ ¬ (p1.toInt < 0 ∨ zp0.toInt ≤ p1.toInt ∨ p2.toInt < 0 ∨ 2 < p2.toInt))) → (0 ≤ x.toInt → (p2.toInt = 0 → z_Ar M0 36 p1.toNatClampNeg = x) ∧ (p2.toInt = 1 → z_Ar M0 37 p1.toNatClampNeg = x) ∧ (p2.toInt = 2 → z_Ar M0 38 p1.toNatClampNeg = x)) → ∀ (w0 : Int32), z_F M1 19 21 = some (.int w0) → 0 ≤ w0.toInt ∧ w0.toInt ≤ 20 → w0.toInt = zp0.toInt → K (some (.int x)) M1) : z_ev (d + 1) 236 0 [some (.ref 19), some (.int p1), some (.int p2)] [] M0 K := by
  have X : z_X T zw236 M0 M0 := .refl hW
  refine z_xP zt236 0 2 [some (.ref 19), some (.int p1), some (.int p2)] [.int p1, .ref 19] rfl rfl ?_
  have f19 : T[19]? = some (.inl (12, 0, 0, 0, 0)) := X.1.k rfl (by decide)
  refine z_xcV (vs := [.ref 19, .int p1]) (r := []) (L2 := [some (.ref 19), some (.int p1)]) zt236 1 rfl zo236 zzcV12_272 (Or.inl rfl) rfl X f19 rfl rfl rfl (Nat.le_of_ble_eq_true rfl) zzm237 (Nat.le_of_ble_eq_true rfl) rfl ?_
  refine z_xP zt237 0 1 [some (.ref 19), some (.int p1)] [.int p1] rfl rfl ?_
  refine z_xZ zt237 1 rfl rfl (fun (h1 : p1.toInt < 0) => ?_) (fun (h1 : 0 ≤ p1.toInt) => ?_)
  · skip
    refine z_xP zt237 6 17 [some (.ref 19), some (.int p1)] [.int 0] rfl rfl ?_
    refine z_xrz zt237 7 rfl zzr237 (by decide) (by decide) ?_
    show z_ev (d + 1) 236 5 [some (.ref 19), some (.int p1), some (.int p2)] [.int 0] M0 _
    refine z_xZ zt236 2 rfl rfl (fun (h2 : (0 : Int) = 0) => ?_) (fun (h2 : (0 : Int) ≠ 0) => absurd h2 (by omega))
    refine z_xP zt236 9 21 [some (.ref 19), some (.int p1), some (.int p2)] [.int (-1)] rfl rfl ?_
    have qm1 : (((-1) : Int32)).toInt = (-1) := rfl
    have qm1 : (((-1) : Int32)).toInt = (-1) := rfl
    have qm1 : (((-1) : Int32)).toInt = (-1) := rfl
    exact z_xri zt236 10 rfl zzr236 (kk (-1) M0 X (by omega) (by omega) (by omega) (fun hx => absurd hx (by omega)) zp0 hz0 ⟨by omega, by omega⟩ (by omega))
  refine z_xP zt237 2 6 [some (.ref 19), some (.int p1)] [.ref 19, .int p1] rfl rfl ?_
  refine z_xgv zt237 3 rfl zo237 zzf12_269 X f19 (by decide) hz0 ?_
  have h3 := z_b32 p1
  refine z_xJ zt237 4 rfl rfl (fun (h4 : zp0.toInt ≤ p1.toInt) => ?_) (fun (h4 : p1.toInt < zp0.toInt) => ?_)
  · skip
    refine z_xP zt237 6 17 [some (.ref 19), some (.int p1)] [.int 0] rfl rfl ?_
    refine z_xrz zt237 7 rfl zzr237 (by decide) (by decide) ?_
    show z_ev (d + 1) 236 5 [some (.ref 19), some (.int p1), some (.int p2)] [.int 0] M0 _
    refine z_xZ zt236 2 rfl rfl (fun (h5 : (0 : Int) = 0) => ?_) (fun (h5 : (0 : Int) ≠ 0) => absurd h5 (by omega))
    refine z_xP zt236 9 21 [some (.ref 19), some (.int p1), some (.int p2)] [.int (-1)] rfl rfl ?_
    have qm1 : (((-1) : Int32)).toInt = (-1) := rfl
    have qm1 : (((-1) : Int32)).toInt = (-1) := rfl
    have qm1 : (((-1) : Int32)).toInt = (-1) := rfl
    exact z_xri zt236 10 rfl zzr236 (kk (-1) M0 X (by omega) (by omega) (by omega) (fun hx => absurd hx (by omega)) zp0 hz0 ⟨by omega, by omega⟩ (by omega))
  refine z_xP zt237 5 17 [some (.ref 19), some (.int p1)] [.int 1] rfl rfl ?_
  refine z_xrz zt237 7 rfl zzr237 (by decide) (by decide) ?_
  show z_ev (d + 1) 236 5 [some (.ref 19), some (.int p1), some (.int p2)] [.int 1] M0 _
  refine z_xZ zt236 2 rfl rfl (fun (h6 : (1 : Int) = 0) => absurd h6 (by omega)) (fun (h6 : (1 : Int) ≠ 0) => ?_)
  refine z_xP zt236 3 9 [some (.ref 19), some (.int p1), some (.int p2)] [.int p2] rfl rfl ?_
  have h7 := z_b32 p2
  refine z_xL zt236 4 rfl rfl (fun (y8 : Int64) (h9 : y8.toInt = p2.toInt) => ?_) (z_qI2L rfl)
  refine z_xP zt236 5 11 [some (.ref 19), some (.int p1), some (.int p2)] [.long 0, .long y8] rfl rfl ?_
  refine z_xl2 zt236 6 rfl zo236 zkl12_240 ?_
  refine z_xcS (vs := [.long y8, .long 0, .long 2]) (r := []) (L2 := [some (.long y8), none, some (.long 0), none, some (.long 2), none]) zt236 7 rfl zo236 zzcS12_116 (Or.inl rfl) (Nat.le_of_ble_eq_true rfl) rfl rfl (Nat.le_of_ble_eq_true rfl) zzm189 (Nat.le_of_ble_eq_true rfl) rfl ?_
  refine z_xP zt189 0 2 [some (.long y8), none, some (.long 0), none, some (.long 2), none] [.long 0, .long y8] rfl rfl ?_
  refine z_xI zt189 1 rfl rfl (fun (x10 : Int32) (h11 : (x10.toInt < 0 ∧ y8.toInt < 0) ∨ (x10.toInt = 0 ∧ y8.toInt = 0) ∨ (0 < x10.toInt ∧ 0 < y8.toInt)) => ?_) (z_qCmp rfl rfl)
  refine z_xZ zt189 2 rfl rfl (fun (h12 : x10.toInt < 0) => ?_) (fun (h12 : 0 ≤ x10.toInt) => ?_)
  · skip
    refine z_xP zt189 7 18 [some (.long y8), none, some (.long 0), none, some (.long 2), none] [.int 0] rfl rfl ?_
    refine z_xrz zt189 8 rfl zzr189 (by decide) (by decide) ?_
    show z_ev (d + 1) 236 17 [some (.ref 19), some (.int p1), some (.int p2)] [.int 0] M0 _
    refine z_xZ zt236 8 rfl rfl (fun (h13 : (0 : Int) ≠ 0) => absurd h13 (by omega)) (fun (h13 : (0 : Int) = 0) => ?_)
    refine z_xP zt236 9 21 [some (.ref 19), some (.int p1), some (.int p2)] [.int (-1)] rfl rfl ?_
    have qm1 : (((-1) : Int32)).toInt = (-1) := rfl
    have qm1 : (((-1) : Int32)).toInt = (-1) := rfl
    have qm1 : (((-1) : Int32)).toInt = (-1) := rfl
    exact z_xri zt236 10 rfl zzr236 (kk (-1) M0 X (by omega) (by omega) (by omega) (fun hx => absurd hx (by omega)) zp0 hz0 ⟨by omega, by omega⟩ (by omega))
  refine z_xP zt189 3 9 [some (.long y8), none, some (.long 0), none, some (.long 2), none] [.long 2, .long y8] rfl rfl ?_
  refine z_xI zt189 4 rfl rfl (fun (x14 : Int32) (h15 : (x14.toInt < 0 ∧ y8.toInt < 2) ∨ (x14.toInt = 0 ∧ y8.toInt = 2) ∨ (0 < x14.toInt ∧ 2 < y8.toInt)) => ?_) (z_qCmp rfl rfl)
  refine z_xZ zt189 5 rfl rfl (fun (h16 : 0 < x14.toInt) => ?_) (fun (h16 : x14.toInt ≤ 0) => ?_)
  · skip
    refine z_xP zt189 7 18 [some (.long y8), none, some (.long 0), none, some (.long 2), none] [.int 0] rfl rfl ?_
    refine z_xrz zt189 8 rfl zzr189 (by decide) (by decide) ?_
    show z_ev (d + 1) 236 17 [some (.ref 19), some (.int p1), some (.int p2)] [.int 0] M0 _
    refine z_xZ zt236 8 rfl rfl (fun (h17 : (0 : Int) ≠ 0) => absurd h17 (by omega)) (fun (h17 : (0 : Int) = 0) => ?_)
    refine z_xP zt236 9 21 [some (.ref 19), some (.int p1), some (.int p2)] [.int (-1)] rfl rfl ?_
    have qm1 : (((-1) : Int32)).toInt = (-1) := rfl
    have qm1 : (((-1) : Int32)).toInt = (-1) := rfl
    have qm1 : (((-1) : Int32)).toInt = (-1) := rfl
    exact z_xri zt236 10 rfl zzr236 (kk (-1) M0 X (by omega) (by omega) (by omega) (fun hx => absurd hx (by omega)) zp0 hz0 ⟨by omega, by omega⟩ (by omega))
  refine z_xP zt189 6 18 [some (.long y8), none, some (.long 0), none, some (.long 2), none] [.int 1] rfl rfl ?_
  refine z_xrz zt189 8 rfl zzr189 (by decide) (by decide) ?_
  show z_ev (d + 1) 236 17 [some (.ref 19), some (.int p1), some (.int p2)] [.int 1] M0 _
  refine z_xZ zt236 8 rfl rfl (fun (h18 : (1 : Int) ≠ 0) => ?_) (fun (h18 : (1 : Int) = 0) => absurd h18 (by omega))
  refine z_xP zt236 11 23 [some (.ref 19), some (.int p1), some (.int p2)] [.int p2] rfl rfl ?_
  refine z_xZ zt236 12 rfl rfl (fun (h19 : p2.toInt ≠ 0) => ?_) (fun (h19 : p2.toInt = 0) => ?_)
  · skip
    refine z_xP zt236 18 37 [some (.ref 19), some (.int p1), some (.int p2)] [.int 1, .int p2] rfl rfl ?_
    refine z_xJ zt236 19 rfl rfl (fun (h20 : p2.toInt ≠ 1) => ?_) (fun (h20 : p2.toInt = 1) => ?_)
    · skip
      refine z_xP zt236 25 50 [some (.ref 19), some (.int p1), some (.int p2)] [.ref 19] rfl rfl ?_
      refine z_xgX (b := 38) zt236 26 rfl zo236 zzf12_64 X f19 (by decide) (by decide) rfl ?_
      refine z_xP zt236 27 54 [some (.ref 19), some (.int p1), some (.int p2)] [.int p1, .ref 38] rfl rfl ?_
      have f38 : T[38]? = some (.inr (38, 0, 20, 0, 8)) := X.1.k rfl (by decide)
      refine z_xil zt236 28 rfl X f38 (by decide) (by omega) (by omega) (fun (x21 : Int32) h22 (h23 : 0 ≤ x21.toInt) (h24 : x21.toInt ≤ 8) => ?_)
      exact z_xri zt236 29 rfl zzr236 (kk x21 M0 X (by omega) (by omega) (by omega) (fun _ => ⟨fun hk => absurd hk (by omega), fun hk => absurd hk (by omega), fun _ => h22⟩) zp0 hz0 ⟨by omega, by omega⟩ (by omega))
    refine z_xP zt236 20 41 [some (.ref 19), some (.int p1), some (.int p2)] [.ref 19] rfl rfl ?_
    refine z_xgX (b := 37) zt236 21 rfl zo236 zzf12_61 X f19 (by decide) (by decide) rfl ?_
    refine z_xP zt236 22 45 [some (.ref 19), some (.int p1), some (.int p2)] [.int p1, .ref 37] rfl rfl ?_
    have f37 : T[37]? = some (.inr (37, 0, 20, 0, 9)) := X.1.k rfl (by decide)
    refine z_xil zt236 23 rfl X f37 (by decide) (by omega) (by omega) (fun (x25 : Int32) h26 (h27 : 0 ≤ x25.toInt) (h28 : x25.toInt ≤ 9) => ?_)
    refine z_xP zt236 24 55 [some (.ref 19), some (.int p1), some (.int p2)] [.int x25] rfl rfl ?_
    exact z_xri zt236 29 rfl zzr236 (kk x25 M0 X (by omega) (by omega) (by omega) (fun _ => ⟨fun hk => absurd hk (by omega), fun _ => h26, fun hk => absurd hk (by omega)⟩) zp0 hz0 ⟨by omega, by omega⟩ (by omega))
  refine z_xP zt236 13 27 [some (.ref 19), some (.int p1), some (.int p2)] [.ref 19] rfl rfl ?_
  refine z_xgX (b := 36) zt236 14 rfl zo236 zzf12_58 X f19 (by decide) (by decide) rfl ?_
  refine z_xP zt236 15 31 [some (.ref 19), some (.int p1), some (.int p2)] [.int p1, .ref 36] rfl rfl ?_
  have f36 : T[36]? = some (.inr (36, 0, 20, 0, 7)) := X.1.k rfl (by decide)
  refine z_xil zt236 16 rfl X f36 (by decide) (by omega) (by omega) (fun (x29 : Int32) h30 (h31 : 0 ≤ x29.toInt) (h32 : x29.toInt ≤ 7) => ?_)
  refine z_xP zt236 17 55 [some (.ref 19), some (.int p1), some (.int p2)] [.int x29] rfl rfl ?_
  exact z_xri zt236 29 rfl zzr236 (kk x29 M0 X (by omega) (by omega) (by omega) (fun _ => ⟨fun _ => h30, fun hk => absurd hk (by omega), fun hk => absurd hk (by omega)⟩) zp0 hz0 ⟨by omega, by omega⟩ (by omega))
theorem zRB184 {T : List zK} {d : Nat} {K : Option Value → zH → Prop} {a0 : Nat} {ci : Nat} {p1 : Int32} {M0 : zH} (w0 : 4 ≤ ci ∧ ci ≤ 11) (k0 : T[a0]? = some (.inl (ci, 0, 0, 0, 0))) (u1 : 0 ≤ p1.toInt ∧ p1.toInt ≤ 7) (hR0 : z_R0a M0) (hkb : 0 ≤ (z_Fv M0 a0 0).toInt ∧ (z_Fv M0 a0 0).toInt ≤ 7) (kk : ∀ (x : Int32) (M1 : zH), z_X T zw184 M0 M1 → 0 ≤ x.toInt → x.toInt ≤ 1 → ((x.toInt = 1 ∧ (p1.toInt = (z_Fv M0 a0 0).toInt ∨ p1.toInt = 0 ∨ (p1.toInt = 1 ∧ ((z_Fv M0 a0 0).toInt = 2 ∨ (z_Fv M0 a0 0).toInt = 3)) ∨ (p1.toInt = 5 ∧ (z_Fv M0 a0 0).toInt = 6))) ∨ (x.toInt = 0 ∧ ¬ (p1.toInt = (z_Fv M0 a0 0).toInt ∨ p1.toInt = 0 ∨ (p1.toInt = 1 ∧ ((z_Fv M0 a0 0).toInt = 2 ∨ (z_Fv M0 a0 0).toInt = 3)) ∨ (p1.toInt = 5 ∧ (z_Fv M0 a0 0).toInt = 6)))) → K (some (.int x)) M1) : ∀ n : Nat, (∀ (M : zH) (b2 : Int32) (b3 : Int32), z_X T zw184 M0 M → (-1) ≤ b2.toInt ∧ b2.toInt ≤ 7 → 0 ≤ b3.toInt ∧ b3.toInt ≤ 8 → (((p1.toInt = (z_Fv M0 a0 0).toInt ∨ p1.toInt = 0 ∨ (p1.toInt = 1 ∧ ((z_Fv M0 a0 0).toInt = 2 ∨ (z_Fv M0 a0 0).toInt = 3)) ∨ (p1.toInt = 5 ∧ (z_Fv M0 a0 0).toInt = 6)) ∧ 0 ≤ b2.toInt ∧ (p1.toInt = b2.toInt ∨ p1.toInt = 0 ∨ (p1.toInt = 1 ∧ (b2.toInt = 2 ∨ b2.toInt = 3)) ∨ (p1.toInt = 5 ∧ b2.toInt = 6))) ∨ (¬ (p1.toInt = (z_Fv M0 a0 0).toInt ∨ p1.toInt = 0 ∨ (p1.toInt = 1 ∧ ((z_Fv M0 a0 0).toInt = 2 ∨ (z_Fv M0 a0 0).toInt = 3)) ∨ (p1.toInt = 5 ∧ (z_Fv M0 a0 0).toInt = 6)) ∧ (b2.toInt < 0 ∨ ¬ (p1.toInt = b2.toInt ∨ p1.toInt = 0 ∨ (p1.toInt = 1 ∧ (b2.toInt = 2 ∨ b2.toInt = 3)) ∨ (p1.toInt = 5 ∧ b2.toInt = 6))))) → (b2.toInt = -1 ∨ (b2.toInt = 0 ∧ b3.toInt ≤ 2) ∨ ((b2.toInt = 1 ∨ b2.toInt = 4 ∨ b2.toInt = 5 ∨ b2.toInt = 7) ∧ b3.toInt ≤ 1) ∨ ((b2.toInt = 2 ∨ b2.toInt = 3 ∨ b2.toInt = 6) ∧ b3.toInt = 0)) → ((0) * 2 + 0) * 9 + (8 - b3.toInt) < (n : Int) → z_ev d 184 7 [some (.ref a0), some (.int p1), some (.int b2), some (.int b3)] [] M K) := by
  intro n
  induction n with
  | zero => exact by intros; exfalso; omega
  | succ n ih =>
    intro M b2 b3 X hh0 hh1 hh2 hh3 hE
    refine z_xP zt184 3 8 [some (.ref a0), some (.int p1), some (.int b2), some (.int b3)] [.int b3] rfl rfl ?_
    refine z_xgs zt184 4 rfl zo184 zg4_28 ?_
    have f3 : T[3]? = some (.inr (3, 0, 8, (-1), 5)) := X.1.k rfl (by decide)
    refine z_xln zt184 5 rfl X f3 (by decide) (by decide) (fun (x1 : Int32) (h2 : x1.toInt = ((8 : Nat) : Int)) => ?_)
    refine z_xJ zt184 6 rfl rfl (fun (h3 : x1.toInt ≤ b3.toInt) => ?_) (fun (h3 : b3.toInt < x1.toInt) => ?_)
    · skip
      refine z_xP zt184 19 39 [some (.ref a0), some (.int p1), some (.int b2), some (.int b3)] [.int 0] rfl rfl ?_
      have q0 : ((0 : Int32)).toInt = 0 := rfl
      have q0 : ((0 : Int32)).toInt = 0 := rfl
      exact z_xrz zt184 20 rfl zzr184 (by decide) (by decide) (kk 0 M X (by omega) (by omega) (by omega))
    refine z_xP zt184 7 16 [some (.ref a0), some (.int p1), some (.int b2), some (.int b3)] [.int b2] rfl rfl ?_
    refine z_xZ zt184 8 rfl rfl (fun (h4 : b2.toInt < 0) => ?_) (fun (h4 : 0 ≤ b2.toInt) => ?_)
    · skip
      refine z_xP zt184 19 39 [some (.ref a0), some (.int p1), some (.int b2), some (.int b3)] [.int 0] rfl rfl ?_
      have q0 : ((0 : Int32)).toInt = 0 := rfl
      have q0 : ((0 : Int32)).toInt = 0 := rfl
      exact z_xrz zt184 20 rfl zzr184 (by decide) (by decide) (kk 0 M X (by omega) (by omega) (by omega))
    refine z_xP zt184 9 21 [some (.ref a0), some (.int p1), some (.int b2), some (.int b3)] [.int p1, .int b2] rfl rfl ?_
    refine z_xJ zt184 10 rfl rfl (fun (h5 : b2.toInt ≠ p1.toInt) => ?_) (fun (h5 : b2.toInt = p1.toInt) => ?_)
    · skip
      refine z_xgs zt184 13 rfl zo184 zg4_28 ?_
      refine z_xP zt184 14 30 [some (.ref a0), some (.int p1), some (.int b2), some (.int b3)] [.int b2, .ref 3] rfl rfl ?_
      refine z_xil zt184 15 rfl X f3 (by decide) (by omega) (by omega) (fun (x6 : Int32) h7 (h8 : (-1) ≤ x6.toInt) (h9 : x6.toInt ≤ 5) => ?_)
      have h10 := z_upv (z_R0a.x hR0 X (by decide)) h7 (by omega) (by omega)
      refine z_xP zt184 16 32 [some (.ref a0), some (.int p1), some (.int x6), some (.int b3)] [] rfl rfl ?_
      refine z_xN zt184 17 rfl rfl (fun (x11 : Int32) (h12 : x11.toInt = b3.toInt + 1) => ?_) (z_pAdd rfl rfl (by omega) (by omega))
      show z_ev d 184 35 [some (.ref a0), some (.int p1), some (.int x6), some (.int x11)] [] M _
      refine z_xP zt184 18 7 [some (.ref a0), some (.int p1), some (.int x6), some (.int x11)] [] rfl rfl ?_
      exact ih M x6 x11 X ⟨by omega, by omega⟩ ⟨by omega, by omega⟩ (by omega) (by omega) (by omega)
    refine z_xP zt184 11 25 [some (.ref a0), some (.int p1), some (.int b2), some (.int b3)] [.int 1] rfl rfl ?_
    have q1 : ((1 : Int32)).toInt = 1 := rfl
    have q1 : ((1 : Int32)).toInt = 1 := rfl
    exact z_xrz zt184 12 rfl zzr184 (by decide) (by decide) (kk 1 M X (by omega) (by omega) (by omega))
theorem zRC184 {T : List zK} {d : Nat} {K : Option Value → zH → Prop} {a0 : Nat} {ci : Nat} {p1 : Int32} {M0 : zH} (hW : z_W M0 T) (w0 : 4 ≤ ci ∧ ci ≤ 11) (k0 : T[a0]? = some (.inl (ci, 0, 0, 0, 0))) (u1 : 0 ≤ p1.toInt ∧ p1.toInt ≤ 7) (hR0 : z_R0a M0) (hkb : 0 ≤ (z_Fv M0 a0 0).toInt ∧ (z_Fv M0 a0 0).toInt ≤ 7) (kk : ∀ (x : Int32) (M1 : zH), z_X T zw184 M0 M1 → 0 ≤ x.toInt → x.toInt ≤ 1 → ((x.toInt = 1 ∧ (p1.toInt = (z_Fv M0 a0 0).toInt ∨ p1.toInt = 0 ∨ (p1.toInt = 1 ∧ ((z_Fv M0 a0 0).toInt = 2 ∨ (z_Fv M0 a0 0).toInt = 3)) ∨ (p1.toInt = 5 ∧ (z_Fv M0 a0 0).toInt = 6))) ∨ (x.toInt = 0 ∧ ¬ (p1.toInt = (z_Fv M0 a0 0).toInt ∨ p1.toInt = 0 ∨ (p1.toInt = 1 ∧ ((z_Fv M0 a0 0).toInt = 2 ∨ (z_Fv M0 a0 0).toInt = 3)) ∨ (p1.toInt = 5 ∧ (z_Fv M0 a0 0).toInt = 6)))) → K (some (.int x)) M1) : z_ev d 184 0 [some (.ref a0), some (.int p1), none, none] [] M0 K := by
  have X : z_X T zw184 M0 M0 := .refl hW
  refine z_xP zt184 0 1 [some (.ref a0), some (.int p1), none, none] [.ref a0] rfl rfl ?_
  refine z_xgI zt184 1 rfl zo184 zzf4_9 X k0 (z_w8 (fun c => c ∈ ([4, 5, 6, 7, 8, 9, 10, 11] : List Nat)) (by decide) (by decide) (by decide) (by decide) (by decide) (by decide) (by decide) (by decide) w0) (z_nf8 w0 (by decide)) (z_fs8 w0) (fun (x2 : Int32) h1 (h3 : 0 ≤ x2.toInt) (h4 : x2.toInt ≤ 7) => ?_)
  have hkd : (z_Fv M0 a0 0).toInt = x2.toInt := congrArg Int32.toInt (z_Fv.of h1)
  refine z_xP zt184 2 7 [some (.ref a0), some (.int p1), some (.int x2), some (.int 0)] [] rfl rfl ?_
  have q0 : ((0 : Int32)).toInt = 0 := rfl
  exact (zRB184 w0 k0 u1 hR0 hkb kk 18) M0 x2 (0) X ⟨by omega, by omega⟩ (by decide) (by omega) (by omega) (by omega)
theorem zRC183 {T : List zK} {d : Nat} {K : Option Value → zH → Prop} {p1 : Int32} {p2 : Int32} {M0 : zH} (hW : z_W M0 T) (hR0 : z_R0a M0) (hG : z_GG T M0) (kk : ∀ (x : Int32) (M1 : zH), z_X T zw183 M0 M1 → (-12) ≤ x.toInt → x.toInt ≤ 7 → ((x.toInt = -1 ∧ ¬ (0 ≤ p1.toInt ∧ p1.toInt ≤ 5 ∧ 0 ≤ p2.toInt ∧ p2.toInt ≤ 7)) ∨ (0 ≤ p1.toInt ∧ p1.toInt ≤ 5 ∧ 0 ≤ p2.toInt ∧ p2.toInt ≤ 7 ∧ ((x.toInt = -11 ∧ (z_Ar M0 14 p1.toNatClampNeg).toInt = -1) ∨ ((z_Ar M0 14 p1.toNatClampNeg).toInt ≠ -1 ∧ x.toInt ≠ -11 ∧ x.toInt ≠ -1)))) → ((z_Ar M0 14 p1.toNatClampNeg).toInt ≠ -1 ∧ 0 ≤ p1.toInt ∧ p1.toInt ≤ 5 ∧ 0 ≤ p2.toInt ∧ p2.toInt ≤ 7 → (z_O M0 17 p1.toNatClampNeg = none ∧ x.toInt = -12) ∨ ∃ b : Nat, z_O M0 17 p1.toNatClampNeg = some b ∧ ((x.toInt = (z_Fv M0 b 0).toInt ∧ (p2.toInt = (z_Fv M0 b 0).toInt ∨ p2.toInt = 0 ∨ (p2.toInt = 1 ∧ ((z_Fv M0 b 0).toInt = 2 ∨ (z_Fv M0 b 0).toInt = 3)) ∨ (p2.toInt = 5 ∧ (z_Fv M0 b 0).toInt = 6))) ∨ (x.toInt = -12 ∧ ¬ (p2.toInt = (z_Fv M0 b 0).toInt ∨ p2.toInt = 0 ∨ (p2.toInt = 1 ∧ ((z_Fv M0 b 0).toInt = 2 ∨ (z_Fv M0 b 0).toInt = 3)) ∨ (p2.toInt = 5 ∧ (z_Fv M0 b 0).toInt = 6))))) → K (some (.int x)) M1) : z_ev (d + 1) 183 0 [some (.ref 4), some (.int p1), some (.int p2), none] [] M0 K := by
  have X : z_X T zw183 M0 M0 := .refl hW
  refine z_xP zt183 0 1 [some (.ref 4), some (.int p1), some (.int p2), none] [.int p1] rfl rfl ?_
  refine z_xcS (vs := [.int p1]) (r := []) (L2 := [some (.int p1)]) zt183 1 rfl zo183 zzcS0_148 (Or.inl rfl) (Nat.le_of_ble_eq_true rfl) rfl rfl (Nat.le_of_ble_eq_true rfl) zzm58 (Nat.le_of_ble_eq_true rfl) rfl ?_
  refine z_xP zt58 0 1 [some (.int p1)] [.int p1] rfl rfl ?_
  refine z_xZ zt58 1 rfl rfl (fun (h1 : p1.toInt < 0) => ?_) (fun (h1 : 0 ≤ p1.toInt) => ?_)
  · skip
    refine z_xP zt58 5 15 [some (.int p1)] [.int 0] rfl rfl ?_
    refine z_xrz zt58 6 rfl zzr58 (by decide) (by decide) ?_
    show z_ev (d + 1) 183 4 [some (.ref 4), some (.int p1), some (.int p2), none] [.int 0] M0 _
    refine z_xZ zt183 2 rfl rfl (fun (h2 : (0 : Int) = 0) => ?_) (fun (h2 : (0 : Int) ≠ 0) => absurd h2 (by omega))
    refine z_xP zt183 9 20 [some (.ref 4), some (.int p1), some (.int p2), none] [.int (-1)] rfl rfl ?_
    have qm1 : (((-1) : Int32)).toInt = (-1) := rfl
    have qm1 : (((-1) : Int32)).toInt = (-1) := rfl
    have qm1 : (((-1) : Int32)).toInt = (-1) := rfl
    exact z_xri zt183 10 rfl zzr183 (kk (-1) M0 X (by omega) (by omega) (by omega) (fun hx => absurd hx (by omega)))
  refine z_xP zt58 2 7 [some (.int p1)] [.int 6, .int p1] rfl rfl ?_
  refine z_xJ zt58 3 rfl rfl (fun (h3 : 6 ≤ p1.toInt) => ?_) (fun (h3 : p1.toInt < 6) => ?_)
  · skip
    refine z_xP zt58 5 15 [some (.int p1)] [.int 0] rfl rfl ?_
    refine z_xrz zt58 6 rfl zzr58 (by decide) (by decide) ?_
    show z_ev (d + 1) 183 4 [some (.ref 4), some (.int p1), some (.int p2), none] [.int 0] M0 _
    refine z_xZ zt183 2 rfl rfl (fun (h4 : (0 : Int) = 0) => ?_) (fun (h4 : (0 : Int) ≠ 0) => absurd h4 (by omega))
    refine z_xP zt183 9 20 [some (.ref 4), some (.int p1), some (.int p2), none] [.int (-1)] rfl rfl ?_
    have qm1 : (((-1) : Int32)).toInt = (-1) := rfl
    have qm1 : (((-1) : Int32)).toInt = (-1) := rfl
    have qm1 : (((-1) : Int32)).toInt = (-1) := rfl
    exact z_xri zt183 10 rfl zzr183 (kk (-1) M0 X (by omega) (by omega) (by omega) (fun hx => absurd hx (by omega)))
  refine z_xP zt58 4 15 [some (.int p1)] [.int 1] rfl rfl ?_
  refine z_xrz zt58 6 rfl zzr58 (by decide) (by decide) ?_
  show z_ev (d + 1) 183 4 [some (.ref 4), some (.int p1), some (.int p2), none] [.int 1] M0 _
  refine z_xZ zt183 2 rfl rfl (fun (h5 : (1 : Int) = 0) => absurd h5 (by omega)) (fun (h5 : (1 : Int) ≠ 0) => ?_)
  refine z_xP zt183 3 8 [some (.ref 4), some (.int p1), some (.int p2), none] [.int p2] rfl rfl ?_
  refine z_xZ zt183 4 rfl rfl (fun (h6 : p2.toInt < 0) => ?_) (fun (h6 : 0 ≤ p2.toInt) => ?_)
  · skip
    refine z_xP zt183 9 20 [some (.ref 4), some (.int p1), some (.int p2), none] [.int (-1)] rfl rfl ?_
    have qm1 : (((-1) : Int32)).toInt = (-1) := rfl
    have qm1 : (((-1) : Int32)).toInt = (-1) := rfl
    have qm1 : (((-1) : Int32)).toInt = (-1) := rfl
    exact z_xri zt183 10 rfl zzr183 (kk (-1) M0 X (by omega) (by omega) (by omega) (fun hx => absurd hx (by omega)))
  refine z_xP zt183 5 12 [some (.ref 4), some (.int p1), some (.int p2), none] [.int p2] rfl rfl ?_
  refine z_xgs zt183 6 rfl zo183 zg0_185 ?_
  have f3 : T[3]? = some (.inr (3, 0, 8, (-1), 5)) := X.1.k rfl (by decide)
  refine z_xln zt183 7 rfl X f3 (by decide) (by decide) (fun (x7 : Int32) (h8 : x7.toInt = ((8 : Nat) : Int)) => ?_)
  have h9 := z_b32 p2
  refine z_xJ zt183 8 rfl rfl (fun (h10 : p2.toInt < x7.toInt) => ?_) (fun (h10 : x7.toInt ≤ p2.toInt) => ?_)
  · skip
    refine z_xP zt183 11 22 [some (.ref 4), some (.int p1), some (.int p2), none] [.ref 4] rfl rfl ?_
    have f4 : T[4]? = some (.inl (0, 0, 0, 0, 0)) := X.1.k rfl (by decide)
    refine z_xgX (b := 14) zt183 12 rfl zo183 zzf0_35 X f4 (by decide) (by decide) rfl ?_
    refine z_xP zt183 13 26 [some (.ref 4), some (.int p1), some (.int p2), none] [.int p1, .ref 14] rfl rfl ?_
    have f14 : T[14]? = some (.inr (14, 0, 6, (-1), 5)) := X.1.k rfl (by decide)
    refine z_xil zt183 14 rfl X f14 (by decide) (by omega) (by omega) (fun (x11 : Int32) h12 (h13 : (-1) ≤ x11.toInt) (h14 : x11.toInt ≤ 5) => ?_)
    have h15 : (z_Ar M0 14 (p1).toNatClampNeg).toInt = x11.toInt := congrArg Int32.toInt h12
    refine z_xP zt183 15 28 [some (.ref 4), some (.int p1), some (.int p2), none] [.int (-1), .int x11] rfl rfl ?_
    refine z_xJ zt183 16 rfl rfl (fun (h16 : x11.toInt ≠ (-1)) => ?_) (fun (h16 : x11.toInt = (-1)) => ?_)
    · skip
      refine z_xP zt183 19 35 [some (.ref 4), some (.int p1), some (.int p2), none] [.ref 4] rfl rfl ?_
      refine z_xgX (b := 17) zt183 20 rfl zo183 zzf0_45 X f4 (by decide) (by decide) rfl ?_
      refine z_xP zt183 21 39 [some (.ref 4), some (.int p1), some (.int p2), none] [.int p1, .ref 17] rfl rfl ?_
      have f17 : T[17]? = some (.inr (17, 3, 6, 0, 0)) := X.1.k rfl (by decide)
      refine z_xal zt183 22 rfl X f17 (by decide) (by decide) (by decide) (by omega) (by omega) (fun (a17 : Nat) h18 h19 => ?_) (fun h20 => ?_)
      · skip
        obtain ⟨c21, w22l, w22u, k23⟩ : ∃ ci, 4 ≤ ci ∧ ci ≤ 11 ∧ T[a17]? = some (.inl (ci, 0, 0, 0, 0)) := h19
        have w22 := And.intro w22l w22u
        refine z_xP zt183 23 45 [some (.ref 4), some (.int p1), some (.int p2), some (.ref a17)] [] rfl rfl ?_
        refine z_xP zt183 24 47 [some (.ref 4), some (.int p1), some (.int p2), some (.ref a17)] [.int p2, .ref a17] rfl rfl ?_
        refine z_xcV (vs := [.ref a17, .int p2]) (r := []) (L2 := [some (.ref a17), some (.int p2), none, none]) zt183 25 rfl zo183 zzcV0_334 (Or.inr rfl) rfl X k23 (z_w8 (fun c => (([(4, 184), (10, 184), (7, 184), (5, 184), (11, 184), (8, 184), (6, 184), (9, 184)] : List (Nat × Nat)).find? fun t => t.1 == c) = some (c, 184)) rfl rfl rfl rfl rfl rfl rfl rfl w22) rfl rfl (Nat.le_of_ble_eq_true rfl) zzm184 (Nat.le_of_ble_eq_true rfl) rfl ?_
        refine zRC184 X.1 w22 k23 (by omega) hR0 (z_fvw hW w22 k23) (fun x27 M24 X25 h28 h29 h26 => ?_)
        have X30 := X.go X25 (z_sb (by decide))
        show z_ev (d + 1) 183 50 [some (.ref 4), some (.int p1), some (.int p2), some (.ref a17)] [.int x27] M24 _
        refine z_xZ zt183 26 rfl rfl (fun (h32 : x27.toInt = 0) => ?_) (fun (h32 : x27.toInt ≠ 0) => ?_)
        · skip
          refine z_xP zt183 30 62 [some (.ref 4), some (.int p1), some (.int p2), some (.ref a17)] [.int (-12)] rfl rfl ?_
          have qm12 : (((-12) : Int32)).toInt = (-12) := rfl
          have qm12 : (((-12) : Int32)).toInt = (-12) := rfl
          have qm12 : (((-12) : Int32)).toInt = (-12) := rfl
          exact z_xri zt183 31 rfl zzr183 (kk (-12) M24 X30 (by omega) (by omega) (by omega) (fun _ => Or.inr ⟨a17, h18, by omega⟩))
        refine z_xP zt183 27 54 [some (.ref 4), some (.int p1), some (.int p2), some (.ref a17)] [.ref a17] rfl rfl ?_
        refine z_xgI zt183 28 rfl zo183 zzf0_225 X30 k23 (z_w8 (fun c => c ∈ ([4, 5, 6, 7, 8, 9, 10, 11] : List Nat)) (by decide) (by decide) (by decide) (by decide) (by decide) (by decide) (by decide) (by decide) w22) (z_nf8 w22 (by decide)) (z_fs8 w22) (fun (x34 : Int32) h33 (h35 : 0 ≤ x34.toInt) (h36 : x34.toInt ≤ 7) => ?_)
        have hkd : (z_Fv M0 a17 0).toInt = x34.toInt := congrArg Int32.toInt (z_Fv.of ((X30.2.1 a17 _ 0 0 0 0 0 k23 List.not_mem_nil).symm.trans h33))
        refine z_xP zt183 29 62 [some (.ref 4), some (.int p1), some (.int p2), some (.ref a17)] [.int x34] rfl rfl ?_
        exact z_xri zt183 31 rfl zzr183 (kk x34 M24 X30 (by omega) (by omega) (by omega) (fun _ => Or.inr ⟨a17, h18, by omega⟩))
      refine z_xP zt183 23 60 [some (.ref 4), some (.int p1), some (.int p2), some (.null)] [] rfl rfl ?_
      refine z_xP zt183 30 62 [some (.ref 4), some (.int p1), some (.int p2), some (.null)] [.int (-12)] rfl rfl ?_
      have qm12 : (((-12) : Int32)).toInt = (-12) := rfl
      have qm12 : (((-12) : Int32)).toInt = (-12) := rfl
      have qm12 : (((-12) : Int32)).toInt = (-12) := rfl
      exact z_xri zt183 31 rfl zzr183 (kk (-12) M0 X (by omega) (by omega) (by omega) (fun _ => Or.inl ⟨h20, by omega⟩))
    refine z_xP zt183 17 33 [some (.ref 4), some (.int p1), some (.int p2), none] [.int (-11)] rfl rfl ?_
    have qm11 : (((-11) : Int32)).toInt = (-11) := rfl
    have qm11 : (((-11) : Int32)).toInt = (-11) := rfl
    have qm11 : (((-11) : Int32)).toInt = (-11) := rfl
    exact z_xri zt183 18 rfl zzr183 (kk (-11) M0 X (by omega) (by omega) (by omega) (fun hx => absurd hx (by omega)))
  refine z_xP zt183 9 20 [some (.ref 4), some (.int p1), some (.int p2), none] [.int (-1)] rfl rfl ?_
  have qm1 : (((-1) : Int32)).toInt = (-1) := rfl
  have qm1 : (((-1) : Int32)).toInt = (-1) := rfl
  have qm1 : (((-1) : Int32)).toInt = (-1) := rfl
  exact z_xri zt183 10 rfl zzr183 (kk (-1) M0 X (by omega) (by omega) (by omega) (fun hx => absurd hx (by omega)))
theorem zRB291 {T : List zK} {d : Nat} {K : Option Value → zH → Prop} {p1 : Int32} {p2 : Int32} {M0 : zH}  (kk : ∀ (x : Int32) (M1 : zH), z_X T zw291 M0 M1 → (-12) ≤ x.toInt → x.toInt ≤ 7 → ((x.toInt = -1 ∧ ¬ (0 ≤ p1.toInt ∧ p1.toInt ≤ 5 ∧ 0 ≤ p2.toInt ∧ p2.toInt ≤ 7)) ∨ (0 ≤ p1.toInt ∧ p1.toInt ≤ 5 ∧ 0 ≤ p2.toInt ∧ p2.toInt ≤ 7 ∧ ((x.toInt = -11 ∧ (z_Ar M0 49 p1.toNatClampNeg).toInt < 0) ∨ (0 ≤ (z_Ar M0 49 p1.toNatClampNeg).toInt ∧ x.toInt ≠ -11 ∧ x.toInt ≠ -1)))) → (0 ≤ (z_Ar M0 49 p1.toNatClampNeg).toInt ∧ 0 ≤ p1.toInt ∧ p1.toInt ≤ 5 ∧ 0 ≤ p2.toInt ∧ p2.toInt ≤ 7 → (20 ≤ (z_Ar M0 49 p1.toNatClampNeg).toInt ∧ x.toInt = -12) ∨ ((z_Ar M0 49 p1.toNatClampNeg).toInt < 20 ∧ ((x.toInt = (z_Ar M0 36 (z_Ar M0 49 p1.toNatClampNeg).toNatClampNeg).toInt ∧ (p2.toInt = (z_Ar M0 36 (z_Ar M0 49 p1.toNatClampNeg).toNatClampNeg).toInt ∨ p2.toInt = 0 ∨ (p2.toInt = 1 ∧ ((z_Ar M0 36 (z_Ar M0 49 p1.toNatClampNeg).toNatClampNeg).toInt = 2 ∨ (z_Ar M0 36 (z_Ar M0 49 p1.toNatClampNeg).toNatClampNeg).toInt = 3)) ∨ (p2.toInt = 5 ∧ (z_Ar M0 36 (z_Ar M0 49 p1.toNatClampNeg).toNatClampNeg).toInt = 6))) ∨ (x.toInt = -12 ∧ ¬ (p2.toInt = (z_Ar M0 36 (z_Ar M0 49 p1.toNatClampNeg).toNatClampNeg).toInt ∨ p2.toInt = 0 ∨ (p2.toInt = 1 ∧ ((z_Ar M0 36 (z_Ar M0 49 p1.toNatClampNeg).toNatClampNeg).toInt = 2 ∨ (z_Ar M0 36 (z_Ar M0 49 p1.toNatClampNeg).toNatClampNeg).toInt = 3)) ∨ (p2.toInt = 5 ∧ (z_Ar M0 36 (z_Ar M0 49 p1.toNatClampNeg).toNatClampNeg).toInt = 6)))))) → K (some (.int x)) M1) : ∀ n : Nat, (∀ (M : zH) (b3 : Int32) (z0 : Int32), z_X T zw291 M0 M → 0 ≤ p1.toInt ∧ p1.toInt ≤ 5 → 0 ≤ p2.toInt ∧ p2.toInt ≤ 7 → 0 ≤ b3.toInt ∧ b3.toInt ≤ 7 → z_Ar M 49 p1.toNatClampNeg = z0 → 0 ≤ z0.toInt ∧ z0.toInt ≤ 19 → 0 ≤ z0.toInt ∧ z0.toInt < 20 → (((p2.toInt = (z_Ar M0 36 (z_Ar M0 49 p1.toNatClampNeg).toNatClampNeg).toInt ∨ p2.toInt = 0 ∨ (p2.toInt = 1 ∧ ((z_Ar M0 36 (z_Ar M0 49 p1.toNatClampNeg).toNatClampNeg).toInt = 2 ∨ (z_Ar M0 36 (z_Ar M0 49 p1.toNatClampNeg).toNatClampNeg).toInt = 3)) ∨ (p2.toInt = 5 ∧ (z_Ar M0 36 (z_Ar M0 49 p1.toNatClampNeg).toNatClampNeg).toInt = 6)) ∧ (p2.toInt = b3.toInt ∨ p2.toInt = 0 ∨ (p2.toInt = 1 ∧ (b3.toInt = 2 ∨ b3.toInt = 3)) ∨ (p2.toInt = 5 ∧ b3.toInt = 6))) ∨ (¬ (p2.toInt = (z_Ar M0 36 (z_Ar M0 49 p1.toNatClampNeg).toNatClampNeg).toInt ∨ p2.toInt = 0 ∨ (p2.toInt = 1 ∧ ((z_Ar M0 36 (z_Ar M0 49 p1.toNatClampNeg).toNatClampNeg).toInt = 2 ∨ (z_Ar M0 36 (z_Ar M0 49 p1.toNatClampNeg).toNatClampNeg).toInt = 3)) ∨ (p2.toInt = 5 ∧ (z_Ar M0 36 (z_Ar M0 49 p1.toNatClampNeg).toNatClampNeg).toInt = 6)) ∧ ¬ (p2.toInt = b3.toInt ∨ p2.toInt = 0 ∨ (p2.toInt = 1 ∧ (b3.toInt = 2 ∨ b3.toInt = 3)) ∨ (p2.toInt = 5 ∧ b3.toInt = 6)))) → (z_Ar M0 49 p1.toNatClampNeg).toInt = z0.toInt ∧ 0 ≤ (z_Ar M0 36 (z_Ar M0 49 p1.toNatClampNeg).toNatClampNeg).toInt ∧ (z_Ar M0 36 (z_Ar M0 49 p1.toNatClampNeg).toNatClampNeg).toInt ≤ 7 → ((0) * 2 + 0) * 25 + (b3.toInt) < (n : Int) → z_ev (d + 2) 291 59 [some (.ref 19), some (.int p1), some (.int p2), some (.int b3)] [] M K) := by
  intro n
  induction n with
  | zero => exact by intros; exfalso; omega
  | succ n ih =>
    intro M b3 z0 X hh0 hh1 hh2 hp0 hh4 hh5 hh6 hh7 hE
    refine z_xP zt291 34 61 [some (.ref 19), some (.int p1), some (.int p2), some (.int b3)] [.int p2, .int b3] rfl rfl ?_
    refine z_xJ zt291 35 rfl rfl (fun (h1 : b3.toInt = p2.toInt) => ?_) (fun (h1 : b3.toInt ≠ p2.toInt) => ?_)
    · skip
      refine z_xP zt291 41 78 [some (.ref 19), some (.int p1), some (.int p2), some (.int b3)] [.int p2, .int b3] rfl rfl ?_
      refine z_xJ zt291 42 rfl rfl (fun (h2 : b3.toInt ≠ p2.toInt) => ?_) (fun (h2 : b3.toInt = p2.toInt) => ?_)
      · skip
        refine z_xP zt291 51 97 [some (.ref 19), some (.int p1), some (.int p2), some (.int b3)] [.int (-12)] rfl rfl ?_
        have qm12 : (((-12) : Int32)).toInt = (-12) := rfl
        have qm12 : (((-12) : Int32)).toInt = (-12) := rfl
        have qm12 : (((-12) : Int32)).toInt = (-12) := rfl
        exact z_xri zt291 52 rfl zzr291 (kk (-12) M X (by omega) (by omega) (by omega) (by omega))
      refine z_xP zt291 43 82 [some (.ref 19), some (.int p1), some (.int p2), some (.int b3)] [.ref 19] rfl rfl ?_
      have f19 : T[19]? = some (.inl (12, 0, 0, 0, 0)) := X.1.k rfl (by decide)
      refine z_xgX (b := 36) zt291 44 rfl zo291 zzf12_58 X f19 (by decide) (by decide) rfl ?_
      refine z_xP zt291 45 86 [some (.ref 19), some (.int p1), some (.int p2), some (.int b3)] [.ref 19, .ref 36] rfl rfl ?_
      refine z_xgX (b := 49) zt291 46 rfl zo291 zzf12_97 X f19 (by decide) (by decide) rfl ?_
      refine z_xP zt291 47 90 [some (.ref 19), some (.int p1), some (.int p2), some (.int b3)] [.int p1, .ref 49, .ref 36] rfl rfl ?_
      have f49 : T[49]? = some (.inr (49, 0, 6, (-1), 24)) := X.1.k rfl (by decide)
      refine z_xil zt291 48 rfl X f49 (by decide) (by omega) (by omega) (fun (x3 : Int32) h4 (h5 : (-1) ≤ x3.toInt) (h6 : x3.toInt ≤ 24) => ?_)
      have h7 := congrArg Int32.toInt (h4.symm.trans hp0)
      have h8 : (z_Ar M0 49 p1.toNatClampNeg).toInt = x3.toInt := by rw [← X.2.a f49 (by decide), h4]
      have f36 : T[36]? = some (.inr (36, 0, 20, 0, 7)) := X.1.k rfl (by decide)
      refine z_xil zt291 49 rfl X f36 (by decide) (by omega) (by omega) (fun (x9 : Int32) h10 (h11 : 0 ≤ x9.toInt) (h12 : x9.toInt ≤ 7) => ?_)
      have h13 : (z_Ar M0 36 (z_Ar M0 49 p1.toNatClampNeg).toNatClampNeg).toInt = x9.toInt := by rw [← X.2.a f49 (by decide), ← X.2.a f36 (by decide), h4, h10]
      refine z_xP zt291 50 97 [some (.ref 19), some (.int p1), some (.int p2), some (.int b3)] [.int x9] rfl rfl ?_
      exact z_xri zt291 52 rfl zzr291 (kk x9 M X (by omega) (by omega) (by omega) (by omega))
    refine z_xP zt291 36 65 [some (.ref 19), some (.int p1), some (.int p2), some (.int b3)] [.int b3] rfl rfl ?_
    refine z_xZ zt291 37 rfl rfl (fun (h14 : b3.toInt ≤ 0) => ?_) (fun (h14 : 0 < b3.toInt) => ?_)
    · skip
      refine z_xP zt291 41 78 [some (.ref 19), some (.int p1), some (.int p2), some (.int b3)] [.int p2, .int b3] rfl rfl ?_
      refine z_xJ zt291 42 rfl rfl (fun (h15 : b3.toInt ≠ p2.toInt) => ?_) (fun (h15 : b3.toInt = p2.toInt) => ?_)
      · skip
        refine z_xP zt291 51 97 [some (.ref 19), some (.int p1), some (.int p2), some (.int b3)] [.int (-12)] rfl rfl ?_
        have qm12 : (((-12) : Int32)).toInt = (-12) := rfl
        have qm12 : (((-12) : Int32)).toInt = (-12) := rfl
        have qm12 : (((-12) : Int32)).toInt = (-12) := rfl
        exact z_xri zt291 52 rfl zzr291 (kk (-12) M X (by omega) (by omega) (by omega) (by omega))
      refine z_xP zt291 43 82 [some (.ref 19), some (.int p1), some (.int p2), some (.int b3)] [.ref 19] rfl rfl ?_
      have f19 : T[19]? = some (.inl (12, 0, 0, 0, 0)) := X.1.k rfl (by decide)
      refine z_xgX (b := 36) zt291 44 rfl zo291 zzf12_58 X f19 (by decide) (by decide) rfl ?_
      refine z_xP zt291 45 86 [some (.ref 19), some (.int p1), some (.int p2), some (.int b3)] [.ref 19, .ref 36] rfl rfl ?_
      refine z_xgX (b := 49) zt291 46 rfl zo291 zzf12_97 X f19 (by decide) (by decide) rfl ?_
      refine z_xP zt291 47 90 [some (.ref 19), some (.int p1), some (.int p2), some (.int b3)] [.int p1, .ref 49, .ref 36] rfl rfl ?_
      have f49 : T[49]? = some (.inr (49, 0, 6, (-1), 24)) := X.1.k rfl (by decide)
      refine z_xil zt291 48 rfl X f49 (by decide) (by omega) (by omega) (fun (x16 : Int32) h17 (h18 : (-1) ≤ x16.toInt) (h19 : x16.toInt ≤ 24) => ?_)
      have h20 := congrArg Int32.toInt (h17.symm.trans hp0)
      have h21 : (z_Ar M0 49 p1.toNatClampNeg).toInt = x16.toInt := by rw [← X.2.a f49 (by decide), h17]
      have f36 : T[36]? = some (.inr (36, 0, 20, 0, 7)) := X.1.k rfl (by decide)
      refine z_xil zt291 49 rfl X f36 (by decide) (by omega) (by omega) (fun (x22 : Int32) h23 (h24 : 0 ≤ x22.toInt) (h25 : x22.toInt ≤ 7) => ?_)
      have h26 : (z_Ar M0 36 (z_Ar M0 49 p1.toNatClampNeg).toNatClampNeg).toInt = x22.toInt := by rw [← X.2.a f49 (by decide), ← X.2.a f36 (by decide), h17, h23]
      refine z_xP zt291 50 97 [some (.ref 19), some (.int p1), some (.int p2), some (.int b3)] [.int x22] rfl rfl ?_
      exact z_xri zt291 52 rfl zzr291 (kk x22 M X (by omega) (by omega) (by omega) (by omega))
    refine z_xP zt291 38 69 [some (.ref 19), some (.int p1), some (.int p2), some (.int b3)] [.int b3] rfl rfl ?_
    refine z_xcS (vs := [.int b3]) (r := []) (L2 := [some (.int b3)]) zt291 39 rfl zo291 zzcS12_390 (Or.inl rfl) (Nat.le_of_ble_eq_true rfl) rfl rfl (Nat.le_of_ble_eq_true rfl) zzm279 (Nat.le_of_ble_eq_true rfl) rfl ?_
    refine z_xP zt279 0 2 [some (.int b3)] [.int 2, .int b3] rfl rfl ?_
    refine z_xJ zt279 1 rfl rfl (fun (h27 : b3.toInt = 2) => ?_) (fun (h27 : b3.toInt ≠ 2) => ?_)
    · skip
      refine z_xP zt279 4 25 [some (.int b3)] [.int 1] rfl rfl ?_
      refine z_xri zt279 9 rfl zzr279 ?_
      show z_ev (d + 2) 291 72 [some (.ref 19), some (.int p1), some (.int p2), some (.int b3)] [.int 1] M _
      refine z_xP zt291 40 59 [some (.ref 19), some (.int p1), some (.int p2), some (.int 1)] [] rfl rfl ?_
      have f49 : T[49]? = some (.inr (49, 0, 6, (-1), 24)) := X.1.k rfl (by decide)
      have q1 : ((1 : Int32)).toInt = 1 := rfl
      exact ih M (1) z0 X ⟨by omega, by omega⟩ ⟨by omega, by omega⟩ (by decide) hp0 ⟨by omega, by omega⟩ (by omega) (by omega) (by omega) (by omega)
    refine z_xP zt279 2 7 [some (.int b3)] [.int 3, .int b3] rfl rfl ?_
    refine z_xJ zt279 3 rfl rfl (fun (h28 : b3.toInt ≠ 3) => ?_) (fun (h28 : b3.toInt = 3) => ?_)
    · skip
      refine z_xP zt279 5 17 [some (.int b3)] [.int 6, .int b3] rfl rfl ?_
      refine z_xJ zt279 6 rfl rfl (fun (h29 : b3.toInt ≠ 6) => ?_) (fun (h29 : b3.toInt = 6) => ?_)
      · skip
        refine z_xP zt279 8 25 [some (.int b3)] [.int 0] rfl rfl ?_
        refine z_xri zt279 9 rfl zzr279 ?_
        show z_ev (d + 2) 291 72 [some (.ref 19), some (.int p1), some (.int p2), some (.int b3)] [.int 0] M _
        refine z_xP zt291 40 59 [some (.ref 19), some (.int p1), some (.int p2), some (.int 0)] [] rfl rfl ?_
        have f49 : T[49]? = some (.inr (49, 0, 6, (-1), 24)) := X.1.k rfl (by decide)
        have q0 : ((0 : Int32)).toInt = 0 := rfl
        exact ih M (0) z0 X ⟨by omega, by omega⟩ ⟨by omega, by omega⟩ (by decide) hp0 ⟨by omega, by omega⟩ (by omega) (by omega) (by omega) (by omega)
      refine z_xP zt279 7 25 [some (.int b3)] [.int 5] rfl rfl ?_
      refine z_xri zt279 9 rfl zzr279 ?_
      show z_ev (d + 2) 291 72 [some (.ref 19), some (.int p1), some (.int p2), some (.int b3)] [.int 5] M _
      refine z_xP zt291 40 59 [some (.ref 19), some (.int p1), some (.int p2), some (.int 5)] [] rfl rfl ?_
      have f49 : T[49]? = some (.inr (49, 0, 6, (-1), 24)) := X.1.k rfl (by decide)
      have q5 : ((5 : Int32)).toInt = 5 := rfl
      exact ih M (5) z0 X ⟨by omega, by omega⟩ ⟨by omega, by omega⟩ (by decide) hp0 ⟨by omega, by omega⟩ (by omega) (by omega) (by omega) (by omega)
    refine z_xP zt279 4 25 [some (.int b3)] [.int 1] rfl rfl ?_
    refine z_xri zt279 9 rfl zzr279 ?_
    show z_ev (d + 2) 291 72 [some (.ref 19), some (.int p1), some (.int p2), some (.int b3)] [.int 1] M _
    refine z_xP zt291 40 59 [some (.ref 19), some (.int p1), some (.int p2), some (.int 1)] [] rfl rfl ?_
    have f49 : T[49]? = some (.inr (49, 0, 6, (-1), 24)) := X.1.k rfl (by decide)
    have q1 : ((1 : Int32)).toInt = 1 := rfl
    exact ih M (1) z0 X ⟨by omega, by omega⟩ ⟨by omega, by omega⟩ (by decide) hp0 ⟨by omega, by omega⟩ (by omega) (by omega) (by omega) (by omega)
theorem zRC291 {T : List zK} {d : Nat} {K : Option Value → zH → Prop} {p1 : Int32} {p2 : Int32} {M0 : zH} (hW : z_W M0 T)  (kk : ∀ (x : Int32) (M1 : zH), z_X T zw291 M0 M1 → (-12) ≤ x.toInt → x.toInt ≤ 7 → ((x.toInt = -1 ∧ ¬ (0 ≤ p1.toInt ∧ p1.toInt ≤ 5 ∧ 0 ≤ p2.toInt ∧ p2.toInt ≤ 7)) ∨ (0 ≤ p1.toInt ∧ p1.toInt ≤ 5 ∧ 0 ≤ p2.toInt ∧ p2.toInt ≤ 7 ∧ ((x.toInt = -11 ∧ (z_Ar M0 49 p1.toNatClampNeg).toInt < 0) ∨ (0 ≤ (z_Ar M0 49 p1.toNatClampNeg).toInt ∧ x.toInt ≠ -11 ∧ x.toInt ≠ -1)))) → (0 ≤ (z_Ar M0 49 p1.toNatClampNeg).toInt ∧ 0 ≤ p1.toInt ∧ p1.toInt ≤ 5 ∧ 0 ≤ p2.toInt ∧ p2.toInt ≤ 7 → (20 ≤ (z_Ar M0 49 p1.toNatClampNeg).toInt ∧ x.toInt = -12) ∨ ((z_Ar M0 49 p1.toNatClampNeg).toInt < 20 ∧ ((x.toInt = (z_Ar M0 36 (z_Ar M0 49 p1.toNatClampNeg).toNatClampNeg).toInt ∧ (p2.toInt = (z_Ar M0 36 (z_Ar M0 49 p1.toNatClampNeg).toNatClampNeg).toInt ∨ p2.toInt = 0 ∨ (p2.toInt = 1 ∧ ((z_Ar M0 36 (z_Ar M0 49 p1.toNatClampNeg).toNatClampNeg).toInt = 2 ∨ (z_Ar M0 36 (z_Ar M0 49 p1.toNatClampNeg).toNatClampNeg).toInt = 3)) ∨ (p2.toInt = 5 ∧ (z_Ar M0 36 (z_Ar M0 49 p1.toNatClampNeg).toNatClampNeg).toInt = 6))) ∨ (x.toInt = -12 ∧ ¬ (p2.toInt = (z_Ar M0 36 (z_Ar M0 49 p1.toNatClampNeg).toNatClampNeg).toInt ∨ p2.toInt = 0 ∨ (p2.toInt = 1 ∧ ((z_Ar M0 36 (z_Ar M0 49 p1.toNatClampNeg).toNatClampNeg).toInt = 2 ∨ (z_Ar M0 36 (z_Ar M0 49 p1.toNatClampNeg).toNatClampNeg).toInt = 3)) ∨ (p2.toInt = 5 ∧ (z_Ar M0 36 (z_Ar M0 49 p1.toNatClampNeg).toNatClampNeg).toInt = 6)))))) → K (some (.int x)) M1) : z_ev (d + 2) 291 0 [some (.ref 19), some (.int p1), some (.int p2), none] [] M0 K := by
  have X : z_X T zw291 M0 M0 := .refl hW
  refine z_xP zt291 0 1 [some (.ref 19), some (.int p1), some (.int p2), none] [.int p1] rfl rfl ?_
  refine z_xcS (vs := [.int p1]) (r := []) (L2 := [some (.int p1)]) zt291 1 rfl zo291 zzcS12_237 (Or.inl rfl) (Nat.le_of_ble_eq_true rfl) rfl rfl (Nat.le_of_ble_eq_true rfl) zzm225 (Nat.le_of_ble_eq_true rfl) rfl ?_
  refine z_xP zt225 0 1 [some (.int p1)] [.int p1] rfl rfl ?_
  have h1 := z_b32 p1
  refine z_xL zt225 1 rfl rfl (fun (y2 : Int64) (h3 : y2.toInt = p1.toInt) => ?_) (z_qI2L rfl)
  refine z_xP zt225 2 3 [some (.int p1)] [.long 0, .long y2] rfl rfl ?_
  refine z_xl2 zt225 3 rfl zo225 zkl12_318 ?_
  refine z_xcS (vs := [.long y2, .long 0, .long 5]) (r := []) (L2 := [some (.long y2), none, some (.long 0), none, some (.long 5), none]) zt225 4 rfl zo225 zzcS12_116 (Or.inl rfl) (Nat.le_of_ble_eq_true rfl) rfl rfl (Nat.le_of_ble_eq_true rfl) zzm189 (Nat.le_of_ble_eq_true rfl) rfl ?_
  refine z_xP zt189 0 2 [some (.long y2), none, some (.long 0), none, some (.long 5), none] [.long 0, .long y2] rfl rfl ?_
  refine z_xI zt189 1 rfl rfl (fun (x4 : Int32) (h5 : (x4.toInt < 0 ∧ y2.toInt < 0) ∨ (x4.toInt = 0 ∧ y2.toInt = 0) ∨ (0 < x4.toInt ∧ 0 < y2.toInt)) => ?_) (z_qCmp rfl rfl)
  refine z_xZ zt189 2 rfl rfl (fun (h6 : x4.toInt < 0) => ?_) (fun (h6 : 0 ≤ x4.toInt) => ?_)
  · skip
    refine z_xP zt189 7 18 [some (.long y2), none, some (.long 0), none, some (.long 5), none] [.int 0] rfl rfl ?_
    refine z_xrz zt189 8 rfl zzr189 (by decide) (by decide) ?_
    show z_ev (d + 1) 225 9 [some (.int p1)] [.int 0] M0 _
    refine z_xrz zt225 5 rfl zzr225 (by decide) (by decide) ?_
    show z_ev (d + 2) 291 4 [some (.ref 19), some (.int p1), some (.int p2), none] [.int 0] M0 _
    refine z_xZ zt291 2 rfl rfl (fun (h7 : (0 : Int) = 0) => ?_) (fun (h7 : (0 : Int) ≠ 0) => absurd h7 (by omega))
    refine z_xP zt291 9 20 [some (.ref 19), some (.int p1), some (.int p2), none] [.int (-1)] rfl rfl ?_
    have qm1 : (((-1) : Int32)).toInt = (-1) := rfl
    have qm1 : (((-1) : Int32)).toInt = (-1) := rfl
    have qm1 : (((-1) : Int32)).toInt = (-1) := rfl
    exact z_xri zt291 10 rfl zzr291 (kk (-1) M0 X (by omega) (by omega) (by omega) (by omega))
  refine z_xP zt189 3 9 [some (.long y2), none, some (.long 0), none, some (.long 5), none] [.long 5, .long y2] rfl rfl ?_
  refine z_xI zt189 4 rfl rfl (fun (x8 : Int32) (h9 : (x8.toInt < 0 ∧ y2.toInt < 5) ∨ (x8.toInt = 0 ∧ y2.toInt = 5) ∨ (0 < x8.toInt ∧ 5 < y2.toInt)) => ?_) (z_qCmp rfl rfl)
  refine z_xZ zt189 5 rfl rfl (fun (h10 : 0 < x8.toInt) => ?_) (fun (h10 : x8.toInt ≤ 0) => ?_)
  · skip
    refine z_xP zt189 7 18 [some (.long y2), none, some (.long 0), none, some (.long 5), none] [.int 0] rfl rfl ?_
    refine z_xrz zt189 8 rfl zzr189 (by decide) (by decide) ?_
    show z_ev (d + 1) 225 9 [some (.int p1)] [.int 0] M0 _
    refine z_xrz zt225 5 rfl zzr225 (by decide) (by decide) ?_
    show z_ev (d + 2) 291 4 [some (.ref 19), some (.int p1), some (.int p2), none] [.int 0] M0 _
    refine z_xZ zt291 2 rfl rfl (fun (h11 : (0 : Int) = 0) => ?_) (fun (h11 : (0 : Int) ≠ 0) => absurd h11 (by omega))
    refine z_xP zt291 9 20 [some (.ref 19), some (.int p1), some (.int p2), none] [.int (-1)] rfl rfl ?_
    have qm1 : (((-1) : Int32)).toInt = (-1) := rfl
    have qm1 : (((-1) : Int32)).toInt = (-1) := rfl
    have qm1 : (((-1) : Int32)).toInt = (-1) := rfl
    exact z_xri zt291 10 rfl zzr291 (kk (-1) M0 X (by omega) (by omega) (by omega) (by omega))
  refine z_xP zt189 6 18 [some (.long y2), none, some (.long 0), none, some (.long 5), none] [.int 1] rfl rfl ?_
  refine z_xrz zt189 8 rfl zzr189 (by decide) (by decide) ?_
  show z_ev (d + 1) 225 9 [some (.int p1)] [.int 1] M0 _
  refine z_xrz zt225 5 rfl zzr225 (by decide) (by decide) ?_
  show z_ev (d + 2) 291 4 [some (.ref 19), some (.int p1), some (.int p2), none] [.int 1] M0 _
  refine z_xZ zt291 2 rfl rfl (fun (h12 : (1 : Int) = 0) => absurd h12 (by omega)) (fun (h12 : (1 : Int) ≠ 0) => ?_)
  refine z_xP zt291 3 8 [some (.ref 19), some (.int p1), some (.int p2), none] [.int p2] rfl rfl ?_
  have h13 := z_b32 p2
  refine z_xL zt291 4 rfl rfl (fun (y14 : Int64) (h15 : y14.toInt = p2.toInt) => ?_) (z_qI2L rfl)
  refine z_xP zt291 5 10 [some (.ref 19), some (.int p1), some (.int p2), none] [.long 0, .long y14] rfl rfl ?_
  refine z_xl2 zt291 6 rfl zo291 zkl12_265 ?_
  refine z_xcS (vs := [.long y14, .long 0, .long 7]) (r := []) (L2 := [some (.long y14), none, some (.long 0), none, some (.long 7), none]) zt291 7 rfl zo291 zzcS12_116 (Or.inl rfl) (Nat.le_of_ble_eq_true rfl) rfl rfl (Nat.le_of_ble_eq_true rfl) zzm189 (Nat.le_of_ble_eq_true rfl) rfl ?_
  refine z_xP zt189 0 2 [some (.long y14), none, some (.long 0), none, some (.long 7), none] [.long 0, .long y14] rfl rfl ?_
  refine z_xI zt189 1 rfl rfl (fun (x16 : Int32) (h17 : (x16.toInt < 0 ∧ y14.toInt < 0) ∨ (x16.toInt = 0 ∧ y14.toInt = 0) ∨ (0 < x16.toInt ∧ 0 < y14.toInt)) => ?_) (z_qCmp rfl rfl)
  refine z_xZ zt189 2 rfl rfl (fun (h18 : x16.toInt < 0) => ?_) (fun (h18 : 0 ≤ x16.toInt) => ?_)
  · skip
    refine z_xP zt189 7 18 [some (.long y14), none, some (.long 0), none, some (.long 7), none] [.int 0] rfl rfl ?_
    refine z_xrz zt189 8 rfl zzr189 (by decide) (by decide) ?_
    show z_ev (d + 2) 291 16 [some (.ref 19), some (.int p1), some (.int p2), none] [.int 0] M0 _
    refine z_xZ zt291 8 rfl rfl (fun (h19 : (0 : Int) ≠ 0) => absurd h19 (by omega)) (fun (h19 : (0 : Int) = 0) => ?_)
    refine z_xP zt291 9 20 [some (.ref 19), some (.int p1), some (.int p2), none] [.int (-1)] rfl rfl ?_
    have qm1 : (((-1) : Int32)).toInt = (-1) := rfl
    have qm1 : (((-1) : Int32)).toInt = (-1) := rfl
    have qm1 : (((-1) : Int32)).toInt = (-1) := rfl
    exact z_xri zt291 10 rfl zzr291 (kk (-1) M0 X (by omega) (by omega) (by omega) (by omega))
  refine z_xP zt189 3 9 [some (.long y14), none, some (.long 0), none, some (.long 7), none] [.long 7, .long y14] rfl rfl ?_
  refine z_xI zt189 4 rfl rfl (fun (x20 : Int32) (h21 : (x20.toInt < 0 ∧ y14.toInt < 7) ∨ (x20.toInt = 0 ∧ y14.toInt = 7) ∨ (0 < x20.toInt ∧ 7 < y14.toInt)) => ?_) (z_qCmp rfl rfl)
  refine z_xZ zt189 5 rfl rfl (fun (h22 : 0 < x20.toInt) => ?_) (fun (h22 : x20.toInt ≤ 0) => ?_)
  · skip
    refine z_xP zt189 7 18 [some (.long y14), none, some (.long 0), none, some (.long 7), none] [.int 0] rfl rfl ?_
    refine z_xrz zt189 8 rfl zzr189 (by decide) (by decide) ?_
    show z_ev (d + 2) 291 16 [some (.ref 19), some (.int p1), some (.int p2), none] [.int 0] M0 _
    refine z_xZ zt291 8 rfl rfl (fun (h23 : (0 : Int) ≠ 0) => absurd h23 (by omega)) (fun (h23 : (0 : Int) = 0) => ?_)
    refine z_xP zt291 9 20 [some (.ref 19), some (.int p1), some (.int p2), none] [.int (-1)] rfl rfl ?_
    have qm1 : (((-1) : Int32)).toInt = (-1) := rfl
    have qm1 : (((-1) : Int32)).toInt = (-1) := rfl
    have qm1 : (((-1) : Int32)).toInt = (-1) := rfl
    exact z_xri zt291 10 rfl zzr291 (kk (-1) M0 X (by omega) (by omega) (by omega) (by omega))
  refine z_xP zt189 6 18 [some (.long y14), none, some (.long 0), none, some (.long 7), none] [.int 1] rfl rfl ?_
  refine z_xrz zt189 8 rfl zzr189 (by decide) (by decide) ?_
  show z_ev (d + 2) 291 16 [some (.ref 19), some (.int p1), some (.int p2), none] [.int 1] M0 _
  refine z_xZ zt291 8 rfl rfl (fun (h24 : (1 : Int) ≠ 0) => ?_) (fun (h24 : (1 : Int) = 0) => absurd h24 (by omega))
  refine z_xP zt291 11 22 [some (.ref 19), some (.int p1), some (.int p2), none] [.ref 19] rfl rfl ?_
  have f19 : T[19]? = some (.inl (12, 0, 0, 0, 0)) := X.1.k rfl (by decide)
  refine z_xgX (b := 49) zt291 12 rfl zo291 zzf12_97 X f19 (by decide) (by decide) rfl ?_
  refine z_xP zt291 13 26 [some (.ref 19), some (.int p1), some (.int p2), none] [.int p1, .ref 49] rfl rfl ?_
  have f49 : T[49]? = some (.inr (49, 0, 6, (-1), 24)) := X.1.k rfl (by decide)
  refine z_xil zt291 14 rfl X f49 (by decide) (by omega) (by omega) (fun (x25 : Int32) h26 (h27 : (-1) ≤ x25.toInt) (h28 : x25.toInt ≤ 24) => ?_)
  have h29 : (z_Ar M0 49 p1.toNatClampNeg).toInt = x25.toInt := by rw [← X.2.a f49 (by decide), h26]
  refine z_xZ zt291 15 rfl rfl (fun (h30 : 0 ≤ x25.toInt) => ?_) (fun (h30 : x25.toInt < 0) => ?_)
  · skip
    refine z_xP zt291 18 34 [some (.ref 19), some (.int p1), some (.int p2), none] [.ref 19] rfl rfl ?_
    refine z_xgX (b := 49) zt291 19 rfl zo291 zzf12_97 X f19 (by decide) (by decide) rfl ?_
    refine z_xP zt291 20 38 [some (.ref 19), some (.int p1), some (.int p2), none] [.int p1, .ref 49] rfl rfl ?_
    refine z_xil zt291 21 rfl X f49 (by decide) (by omega) (by omega) (fun (x31 : Int32) h32 (h33 : (-1) ≤ x31.toInt) (h34 : x31.toInt ≤ 24) => ?_)
    have h35 := congrArg Int32.toInt (h32.symm.trans h26)
    have h36 : (z_Ar M0 49 p1.toNatClampNeg).toInt = x31.toInt := by rw [← X.2.a f49 (by decide), h32]
    refine z_xP zt291 22 41 [some (.ref 19), some (.int p1), some (.int p2), none] [.int 20, .int x31] rfl rfl ?_
    refine z_xJ zt291 23 rfl rfl (fun (h37 : x31.toInt < 20) => ?_) (fun (h37 : 20 ≤ x31.toInt) => ?_)
    · skip
      refine z_xP zt291 26 48 [some (.ref 19), some (.int p1), some (.int p2), none] [.ref 19] rfl rfl ?_
      refine z_xgX (b := 36) zt291 27 rfl zo291 zzf12_58 X f19 (by decide) (by decide) rfl ?_
      refine z_xP zt291 28 52 [some (.ref 19), some (.int p1), some (.int p2), none] [.ref 19, .ref 36] rfl rfl ?_
      refine z_xgX (b := 49) zt291 29 rfl zo291 zzf12_97 X f19 (by decide) (by decide) rfl ?_
      refine z_xP zt291 30 56 [some (.ref 19), some (.int p1), some (.int p2), none] [.int p1, .ref 49, .ref 36] rfl rfl ?_
      refine z_xil zt291 31 rfl X f49 (by decide) (by omega) (by omega) (fun (x38 : Int32) h39 (h40 : (-1) ≤ x38.toInt) (h41 : x38.toInt ≤ 24) => ?_)
      have h42 := congrArg Int32.toInt (h39.symm.trans h26)
      have h43 : (z_Ar M0 49 p1.toNatClampNeg).toInt = x38.toInt := by rw [← X.2.a f49 (by decide), h39]
      have f36 : T[36]? = some (.inr (36, 0, 20, 0, 7)) := X.1.k rfl (by decide)
      refine z_xil zt291 32 rfl X f36 (by decide) (by omega) (by omega) (fun (x44 : Int32) h45 (h46 : 0 ≤ x44.toInt) (h47 : x44.toInt ≤ 7) => ?_)
      have h48 : (z_Ar M0 36 (z_Ar M0 49 p1.toNatClampNeg).toNatClampNeg).toInt = x44.toInt := by rw [← X.2.a f49 (by decide), ← X.2.a f36 (by decide), h39, h45]
      refine z_xP zt291 33 59 [some (.ref 19), some (.int p1), some (.int p2), some (.int x44)] [] rfl rfl ?_
      exact (zRB291 kk 50) M0 x44 x25 X ⟨by omega, by omega⟩ ⟨by omega, by omega⟩ ⟨by omega, by omega⟩ h26 ⟨by omega, by omega⟩ (by omega) (by omega) (by omega) (by omega)
    refine z_xP zt291 24 46 [some (.ref 19), some (.int p1), some (.int p2), none] [.int (-12)] rfl rfl ?_
    have qm12 : (((-12) : Int32)).toInt = (-12) := rfl
    have qm12 : (((-12) : Int32)).toInt = (-12) := rfl
    have qm12 : (((-12) : Int32)).toInt = (-12) := rfl
    exact z_xri zt291 25 rfl zzr291 (kk (-12) M0 X (by omega) (by omega) (by omega) (by omega))
  refine z_xP zt291 16 32 [some (.ref 19), some (.int p1), some (.int p2), none] [.int (-11)] rfl rfl ?_
  have qm11 : (((-11) : Int32)).toInt = (-11) := rfl
  have qm11 : (((-11) : Int32)).toInt = (-11) := rfl
  have qm11 : (((-11) : Int32)).toInt = (-11) := rfl
  exact z_xri zt291 17 rfl zzr291 (kk (-11) M0 X (by omega) (by omega) (by omega) (by omega))
def z_Q17 (I : zH → Prop) : Prop := ∀ (x1 : Int32) (x2 : Int32) (M : zH), I M → z_ev 2046 83 0 (z_ent [.ref 4, .int x1, .int x2] (z_ml 83)) [] M fun v M1 => (∃ y, v = some (.int y)) ∧ z_ev 2046 236 0 (z_ent [.ref 19, .int x1, .int x2] (z_ml 236)) [] M1 fun v2 M2 => (∃ y, v2 = some (.int y)) ∧ v = v2 ∧ I M2 ∧ M2.length ≤ M.length + 1171 ∧ z_szr M2 ≤ z_szr M + 14000
theorem zSA17 : z_Q17 z_JA := by
  intro x1 x2 M ⟨T, hA, hR⟩
  have hW := hA.1.1
  have k4 : T[4]? = some (.inl (0, 0, 0, 0, 0)) := hW.k rfl (by decide)
  obtain ⟨w, hw, w0, w1⟩ : ∃ w : Int32, z_F M 4 5 = some (.int w) ∧ 0 ≤ w.toInt ∧ w.toInt ≤ 20 := hW.fi k4 (by decide) rfl
  have k36 := hW.k (k := 36) (κ := z_ai 36 20 0 7) rfl (by decide)
  have k37 := hW.k (k := 37) (κ := z_ai 37 20 0 9) rfl (by decide)
  have k38 := hW.k (k := 38) (κ := z_ai 38 20 0 8) rfl (by decide)
  refine z_JA.two (r1 := zw83) (r2 := zw236) (C := fun v v2 => v = v2) hA hR rfl rfl ?_
  rw [zzm83]
  show z_ev 2046 83 0 [some (.ref 4), some (.int x1), some (.int x2), none] [] M _
  refine zRC83 (d := 2045) hW hw ⟨w0, w1⟩ hA.1 fun y M1 X1 _ _ r1 a1 u1 hu1 _ ru1 => ?_
  have hB := z_kee hA X1 (by decide)
  refine ⟨⟨y, rfl⟩, X1, ?_⟩
  rw [zzm236]
  show z_ev 2046 236 0 [some (.ref 19), some (.int x1), some (.int x2)] [] M1 _
  refine zRC236 (d := 2045) hB.1.1 (hB.2.2.2.symm.trans hu1) ⟨by omega, by omega⟩ fun z M2 X2 _ _ r2 a2 u2 _ _ _ => ?_
  have e : y.toInt = z.toInt := by
    by_cases hy : 0 ≤ y.toInt
    · obtain ⟨b2, g1, g2, g3, g4⟩ := a1 hy
      clear a1
      have hz : 0 ≤ z.toInt := by omega
      have hi : ((x1.toNatClampNeg : Nat) : Int) < w.toInt := by unfold Int32.toNatClampNeg; omega
      obtain ⟨b, kd, h1, h2, h3, h4, h5, h6, h7, _⟩ := hR.2.1 w hw x1.toNatClampNeg hi
      obtain ⟨c2, c3, c4⟩ := a2 hz
      rw [h1] at g1
      cases g1
      rw [X1.2.a k36 (by decide)] at c2
      rw [X1.2.a k37 (by decide)] at c3
      rw [X1.2.a k38 (by decide)] at c4
      have hx : x2.toInt = 0 ∨ x2.toInt = 1 ∨ x2.toInt = 2 := by omega
      rcases hx with hx | hx | hx
      · have e1 := (g2 hx).symm.trans h5
        rw [c2 hx] at e1
        cases e1
        rfl
      · have e1 := (g3 hx).symm.trans h6
        rw [c3 hx] at e1
        cases e1
        rfl
      · have e1 := (g4 hx).symm.trans h7
        rw [c4 hx] at e1
        cases e1
        rfl
    · clear a1
      omega
  exact ⟨⟨z, rfl⟩, by rw [Int32.toInt_inj.mp e], X2⟩
def z_Q36 (I : zH → Prop) : Prop := ∀ (x1 : Int32) (x2 : Int32) (M : zH), I M → z_ev 2046 183 0 (z_ent [.ref 4, .int x1, .int x2] (z_ml 183)) [] M fun v M1 => (∃ y, v = some (.int y)) ∧ z_ev 2046 291 0 (z_ent [.ref 19, .int x1, .int x2] (z_ml 291)) [] M1 fun v2 M2 => (∃ y, v2 = some (.int y)) ∧ v = v2 ∧ I M2 ∧ M2.length ≤ M.length + 1171 ∧ z_szr M2 ≤ z_szr M + 14000
theorem zSA36 : z_Q36 z_JA := by
  intro x1 x2 M ⟨T, hA, hR⟩
  have hW := hA.1.1
  have k4 : T[4]? = some (.inl (0, 0, 0, 0, 0)) := hW.k rfl (by decide)
  obtain ⟨w, hw, w0, w1⟩ : ∃ w : Int32, z_F M 4 5 = some (.int w) ∧ 0 ≤ w.toInt ∧ w.toInt ≤ 20 := hW.fi k4 (by decide) rfl
  have k36 := hW.k (k := 36) (κ := z_ai 36 20 0 7) rfl (by decide)
  have k49 := hW.k (k := 49) (κ := z_ai 49 6 (-1) 24) rfl (by decide)
  refine z_JA.two (r1 := zw183) (r2 := zw291) (C := fun v v2 => v = v2) hA hR rfl rfl ?_
  rw [zzm183]
  show z_ev 2046 183 0 [some (.ref 4), some (.int x1), some (.int x2), none] [] M _
  refine zRC183 (d := 2045) hW hR.1.1 hA.1 fun y M1 X1 _ _ r1 a1 => ?_
  have hB := z_kee hA X1 (by decide)
  refine ⟨⟨y, rfl⟩, X1, ?_⟩
  rw [zzm291]
  show z_ev 2046 291 0 [some (.ref 19), some (.int x1), some (.int x2), none] [] M1 _
  refine zRC291 (d := 2044) hB.1.1 fun z M2 X2 _ _ r2 a2 => ?_
  rw [X1.2.a k49 (by decide)] at r2 a2
  rw [X1.2.a k36 (by decide)] at a2
  have e : y.toInt = z.toInt := by
    by_cases hr : 0 ≤ x1.toInt ∧ x1.toInt ≤ 5 ∧ 0 ≤ x2.toInt ∧ x2.toInt ≤ 7
    · have hsh := hR.2.2.1 x1.toNatClampNeg (by unfold Int32.toNatClampNeg; omega)
      unfold z_shf at hsh
      rcases hsh with ⟨q1, q2⟩ | ⟨q1, i, q2, q3, q4, q5⟩ | ⟨q1, q2, q3, q4, q5⟩
      · clear a1 a2
        omega
      · obtain ⟨b, kd, h1, h2, h3, h4, h5, _⟩ := hR.2.1 w hw i (q4 w hw)
        have s1 : (z_Ar M 14 x1.toNatClampNeg).toInt ≠ -1 := by clear a1 a2; omega
        have s2 : 0 ≤ (z_Ar M 49 x1.toNatClampNeg).toInt := by clear a1 a2; omega
        have hi : (z_Ar M 49 x1.toNatClampNeg).toNatClampNeg = i := by
          clear a1 a2
          show (z_Ar M 49 x1.toNatClampNeg).toInt.toNat = i
          omega
        rw [hi] at a2
        have e1 := a1 ⟨s1, hr⟩
        have e2 := a2 ⟨s2, hr⟩
        clear a1 a2
        rcases e1 with ⟨n1, _⟩ | ⟨b2, n1, n2⟩
        · rw [q5, h1] at n1
          cases n1
        · rw [q5, h1] at n1
          cases n1
          rw [z_Fv.of h5] at n2
          generalize (z_Ar M 36 i).toInt = kq at *
          clear h4 h5
          omega
      · have s1 : (z_Ar M 14 x1.toNatClampNeg).toInt ≠ -1 := by clear a1 a2; omega
        have s2 : 0 ≤ (z_Ar M 49 x1.toNatClampNeg).toInt := by clear a1 a2; omega
        have e1 := a1 ⟨s1, hr⟩
        have e2 := a2 ⟨s2, hr⟩
        clear a1 a2
        rcases e1 with ⟨_, n2⟩ | ⟨b2, n1, _⟩
        · omega
        · rw [q5] at n1
          cases n1
    · clear a1 a2
      omega
  exact ⟨⟨z, rfl⟩, by rw [Int32.toInt_inj.mp e], X2⟩
