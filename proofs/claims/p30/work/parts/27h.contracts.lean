/-! contracts of the methods (printed by wip/gen/vparts.py) -/
def zw274 : List Nat := [39, 40, 41, 42, 2229, 2230, 2234, 2235, 2244, 2245]
theorem zC274 {T : List zK} {d : Nat} {K : Option Value → zH → Prop} {p1 : Int32} {p2 : Int32} {p3 : Int32} {M0 : zH} (hW : z_W M0 T)  (kk : ∀ (x : Int32) (M1 : zH), z_X T zw274 M0 M1 → K (some (.int x)) M1) : z_ev (d + 76) 274 0 [some (.ref 19), some (.int p1), some (.int p2), some (.int p3)] [] M0 K := by
  have X : z_X T zw274 M0 M0 := .refl hW
  refine z_xP zt274 0 2 [some (.ref 19), some (.int p1), some (.int p2), some (.int p3)] [.int p1, .ref 19] rfl rfl ?_
  have f19 : T[19]? = some (.inl (12, 0, 0, 0, 0)) := X.1.k rfl (by decide)
  refine z_xcV (vs := [.ref 19, .int p1]) (r := []) (L2 := [some (.ref 19), some (.int p1)]) zt274 1 rfl zo274 zzcV12_209 (Or.inl rfl) rfl X f19 rfl rfl rfl (Nat.le_of_ble_eq_true rfl) zzm209 (Nat.le_of_ble_eq_true rfl) rfl ?_
  refine z_xP zt209 0 1 [some (.ref 19), some (.int p1)] [.int p1] rfl rfl ?_
  refine z_xZ zt209 1 rfl rfl (fun (h1 : p1.toInt < 0) => ?_) (fun (h1 : 0 ≤ p1.toInt) => ?_)
  · skip
    refine z_xP zt209 6 17 [some (.ref 19), some (.int p1)] [.int 0] rfl rfl ?_
    refine z_xrz zt209 7 rfl zzr209 (by decide) (by decide) ?_
    show z_ev (d + 76) 274 5 [some (.ref 19), some (.int p1), some (.int p2), some (.int p3)] [.int 0] M0 _
    refine z_xZ zt274 2 rfl rfl (fun (h2 : (0 : Int) = 0) => ?_) (fun (h2 : (0 : Int) ≠ 0) => absurd h2 (by omega))
    refine z_xP zt274 16 40 [some (.ref 19), some (.int p1), some (.int p2), some (.int p3)] [.int (-1)] rfl rfl ?_
    have qm1 : (((-1) : Int32)).toInt = (-1) := rfl
    exact z_xri zt274 17 rfl zzr274 (kk (-1) M0 X)
  refine z_xP zt209 2 6 [some (.ref 19), some (.int p1)] [.ref 19, .int p1] rfl rfl ?_
  refine z_xgI zt209 3 rfl zo209 zzf12_110 X f19 (by decide) (by decide) rfl (fun (x4 : Int32) h3 (h5 : 0 ≤ x4.toInt) (h6 : x4.toInt ≤ 8) => ?_)
  have h7 := z_b32 p1
  refine z_xJ zt209 4 rfl rfl (fun (h8 : x4.toInt ≤ p1.toInt) => ?_) (fun (h8 : p1.toInt < x4.toInt) => ?_)
  · skip
    refine z_xP zt209 6 17 [some (.ref 19), some (.int p1)] [.int 0] rfl rfl ?_
    refine z_xrz zt209 7 rfl zzr209 (by decide) (by decide) ?_
    show z_ev (d + 76) 274 5 [some (.ref 19), some (.int p1), some (.int p2), some (.int p3)] [.int 0] M0 _
    refine z_xZ zt274 2 rfl rfl (fun (h9 : (0 : Int) = 0) => ?_) (fun (h9 : (0 : Int) ≠ 0) => absurd h9 (by omega))
    refine z_xP zt274 16 40 [some (.ref 19), some (.int p1), some (.int p2), some (.int p3)] [.int (-1)] rfl rfl ?_
    have qm1 : (((-1) : Int32)).toInt = (-1) := rfl
    exact z_xri zt274 17 rfl zzr274 (kk (-1) M0 X)
  refine z_xP zt209 5 17 [some (.ref 19), some (.int p1)] [.int 1] rfl rfl ?_
  refine z_xrz zt209 7 rfl zzr209 (by decide) (by decide) ?_
  show z_ev (d + 76) 274 5 [some (.ref 19), some (.int p1), some (.int p2), some (.int p3)] [.int 1] M0 _
  refine z_xZ zt274 2 rfl rfl (fun (h10 : (1 : Int) = 0) => absurd h10 (by omega)) (fun (h10 : (1 : Int) ≠ 0) => ?_)
  refine z_xP zt274 3 11 [some (.ref 19), some (.int p1), some (.int p2), some (.int p3)] [.int p1, .ref 19, .ref 19] rfl rfl ?_
  refine z_xcV (vs := [.ref 19, .int p1]) (r := [.ref 19]) (L2 := [some (.ref 19), some (.int p1)]) zt274 4 rfl zo274 zzcV12_209 (Or.inl rfl) rfl X f19 rfl rfl rfl (Nat.le_of_ble_eq_true rfl) zzm209 (Nat.le_of_ble_eq_true rfl) rfl ?_
  refine z_xP zt209 0 1 [some (.ref 19), some (.int p1)] [.int p1] rfl rfl ?_
  refine z_xZ zt209 1 rfl rfl (fun (h11 : p1.toInt < 0) => absurd h11 (by omega)) (fun (h11 : 0 ≤ p1.toInt) => ?_)
  refine z_xP zt209 2 6 [some (.ref 19), some (.int p1)] [.ref 19, .int p1] rfl rfl ?_
  refine z_xgv zt209 3 rfl zo209 zzf12_110 X f19 (by decide) h3 ?_
  refine z_xJ zt209 4 rfl rfl (fun (h12 : x4.toInt ≤ p1.toInt) => ?_) (fun (h12 : p1.toInt < x4.toInt) => ?_)
  · skip
    refine z_xP zt209 6 17 [some (.ref 19), some (.int p1)] [.int 0] rfl rfl ?_
    refine z_xrz zt209 7 rfl zzr209 (by decide) (by decide) ?_
    show z_ev (d + 76) 274 14 [some (.ref 19), some (.int p1), some (.int p2), some (.int p3)] [.int 0, .ref 19] M0 _
    refine z_xZ zt274 5 rfl rfl (fun (h13 : (0 : Int) = 0) => ?_) (fun (h13 : (0 : Int) ≠ 0) => absurd h13 (by omega))
    refine z_xP zt274 7 22 [some (.ref 19), some (.int p1), some (.int p2), some (.int p3)] [.int 0, .ref 19] rfl rfl ?_
    refine z_xP zt274 8 23 [some (.ref 19), some (.int p1), some (.int p2), some (.int p3)] [.int p2, .int 0, .ref 19] rfl rfl ?_
    refine z_xcV (vs := [.ref 19, .int 0, .int p2]) (r := []) (L2 := [some (.ref 19), some (.int 0), some (.int p2)]) zt274 9 rfl zo274 zzcV12_225 (Or.inl rfl) rfl X f19 rfl rfl rfl (Nat.le_of_ble_eq_true rfl) zzm218 (Nat.le_of_ble_eq_true rfl) rfl ?_
    refine z_xP zt218 0 1 [some (.ref 19), some (.int 0), some (.int p2)] [.int p2] rfl rfl ?_
    refine z_xZ zt218 1 rfl rfl (fun (h14 : p2.toInt < 0) => ?_) (fun (h14 : 0 ≤ p2.toInt) => ?_)
    · skip
      refine z_xP zt218 8 19 [some (.ref 19), some (.int 0), some (.int p2)] [.int 0] rfl rfl ?_
      refine z_xrz zt218 9 rfl zzr218 (by decide) (by decide) ?_
      show z_ev (d + 76) 274 26 [some (.ref 19), some (.int p1), some (.int p2), some (.int p3)] [.int 0] M0 _
      refine z_xZ zt274 10 rfl rfl (fun (h15 : (0 : Int) = 0) => ?_) (fun (h15 : (0 : Int) ≠ 0) => absurd h15 (by omega))
      refine z_xP zt274 16 40 [some (.ref 19), some (.int p1), some (.int p2), some (.int p3)] [.int (-1)] rfl rfl ?_
      have qm1 : (((-1) : Int32)).toInt = (-1) := rfl
      exact z_xri zt274 17 rfl zzr274 (kk (-1) M0 X)
    refine z_xP zt218 2 6 [some (.ref 19), some (.int 0), some (.int p2)] [.ref 19, .int p2] rfl rfl ?_
    refine z_xgX (b := 24) zt218 3 rfl zo218 zzf12_22 X f19 (by decide) (by decide) rfl ?_
    refine z_xP zt218 4 10 [some (.ref 19), some (.int 0), some (.int p2)] [.int 0, .ref 24, .int p2] rfl rfl ?_
    have f24 : T[24]? = some (.inr (24, 0, 8, 0, 10)) := X.1.k rfl (by decide)
    refine z_xil zt218 5 rfl X f24 (by decide) (by decide) (by decide) (fun (x16 : Int32) h17 (h18 : 0 ≤ x16.toInt) (h19 : x16.toInt ≤ 10) => ?_)
    have h20 := z_b32 p2
    refine z_xJ zt218 6 rfl rfl (fun (h21 : x16.toInt ≤ p2.toInt) => ?_) (fun (h21 : p2.toInt < x16.toInt) => ?_)
    · skip
      refine z_xP zt218 8 19 [some (.ref 19), some (.int 0), some (.int p2)] [.int 0] rfl rfl ?_
      refine z_xrz zt218 9 rfl zzr218 (by decide) (by decide) ?_
      show z_ev (d + 76) 274 26 [some (.ref 19), some (.int p1), some (.int p2), some (.int p3)] [.int 0] M0 _
      refine z_xZ zt274 10 rfl rfl (fun (h22 : (0 : Int) = 0) => ?_) (fun (h22 : (0 : Int) ≠ 0) => absurd h22 (by omega))
      refine z_xP zt274 16 40 [some (.ref 19), some (.int p1), some (.int p2), some (.int p3)] [.int (-1)] rfl rfl ?_
      have qm1 : (((-1) : Int32)).toInt = (-1) := rfl
      exact z_xri zt274 17 rfl zzr274 (kk (-1) M0 X)
    refine z_xP zt218 7 19 [some (.ref 19), some (.int 0), some (.int p2)] [.int 1] rfl rfl ?_
    refine z_xrz zt218 9 rfl zzr218 (by decide) (by decide) ?_
    show z_ev (d + 76) 274 26 [some (.ref 19), some (.int p1), some (.int p2), some (.int p3)] [.int 1] M0 _
    refine z_xZ zt274 10 rfl rfl (fun (h23 : (1 : Int) = 0) => absurd h23 (by omega)) (fun (h23 : (1 : Int) ≠ 0) => ?_)
    refine z_xP zt274 11 30 [some (.ref 19), some (.int p1), some (.int p2), some (.int p3)] [.int p3] rfl rfl ?_
    have h24 := z_b32 p3
    refine z_xL zt274 12 rfl rfl (fun (y25 : Int64) (h26 : y25.toInt = p3.toInt) => ?_) (z_qI2L rfl)
    refine z_xP zt274 13 33 [some (.ref 19), some (.int p1), some (.int p2), some (.int p3)] [.long 1, .long 0, .long y25] rfl rfl ?_
    refine z_xcS (vs := [.long y25, .long 0, .long 1]) (r := []) (L2 := [some (.long y25), none, some (.long 0), none, some (.long 1), none]) zt274 14 rfl zo274 zzcS12_116 (Or.inl rfl) (Nat.le_of_ble_eq_true rfl) rfl rfl (Nat.le_of_ble_eq_true rfl) zzm189 (Nat.le_of_ble_eq_true rfl) rfl ?_
    refine z_xP zt189 0 2 [some (.long y25), none, some (.long 0), none, some (.long 1), none] [.long 0, .long y25] rfl rfl ?_
    refine z_xI zt189 1 rfl rfl (fun (x27 : Int32) (h28 : (x27.toInt < 0 ∧ y25.toInt < 0) ∨ (x27.toInt = 0 ∧ y25.toInt = 0) ∨ (0 < x27.toInt ∧ 0 < y25.toInt)) => ?_) (z_qCmp rfl rfl)
    refine z_xZ zt189 2 rfl rfl (fun (h29 : x27.toInt < 0) => ?_) (fun (h29 : 0 ≤ x27.toInt) => ?_)
    · skip
      refine z_xP zt189 7 18 [some (.long y25), none, some (.long 0), none, some (.long 1), none] [.int 0] rfl rfl ?_
      refine z_xrz zt189 8 rfl zzr189 (by decide) (by decide) ?_
      show z_ev (d + 76) 274 36 [some (.ref 19), some (.int p1), some (.int p2), some (.int p3)] [.int 0] M0 _
      refine z_xZ zt274 15 rfl rfl (fun (h30 : (0 : Int) ≠ 0) => absurd h30 (by omega)) (fun (h30 : (0 : Int) = 0) => ?_)
      refine z_xP zt274 16 40 [some (.ref 19), some (.int p1), some (.int p2), some (.int p3)] [.int (-1)] rfl rfl ?_
      have qm1 : (((-1) : Int32)).toInt = (-1) := rfl
      exact z_xri zt274 17 rfl zzr274 (kk (-1) M0 X)
    refine z_xP zt189 3 9 [some (.long y25), none, some (.long 0), none, some (.long 1), none] [.long 1, .long y25] rfl rfl ?_
    refine z_xI zt189 4 rfl rfl (fun (x31 : Int32) (h32 : (x31.toInt < 0 ∧ y25.toInt < 1) ∨ (x31.toInt = 0 ∧ y25.toInt = 1) ∨ (0 < x31.toInt ∧ 1 < y25.toInt)) => ?_) (z_qCmp rfl rfl)
    refine z_xZ zt189 5 rfl rfl (fun (h33 : 0 < x31.toInt) => ?_) (fun (h33 : x31.toInt ≤ 0) => ?_)
    · skip
      refine z_xP zt189 7 18 [some (.long y25), none, some (.long 0), none, some (.long 1), none] [.int 0] rfl rfl ?_
      refine z_xrz zt189 8 rfl zzr189 (by decide) (by decide) ?_
      show z_ev (d + 76) 274 36 [some (.ref 19), some (.int p1), some (.int p2), some (.int p3)] [.int 0] M0 _
      refine z_xZ zt274 15 rfl rfl (fun (h34 : (0 : Int) ≠ 0) => absurd h34 (by omega)) (fun (h34 : (0 : Int) = 0) => ?_)
      refine z_xP zt274 16 40 [some (.ref 19), some (.int p1), some (.int p2), some (.int p3)] [.int (-1)] rfl rfl ?_
      have qm1 : (((-1) : Int32)).toInt = (-1) := rfl
      exact z_xri zt274 17 rfl zzr274 (kk (-1) M0 X)
    refine z_xP zt189 6 18 [some (.long y25), none, some (.long 0), none, some (.long 1), none] [.int 1] rfl rfl ?_
    refine z_xrz zt189 8 rfl zzr189 (by decide) (by decide) ?_
    show z_ev (d + 76) 274 36 [some (.ref 19), some (.int p1), some (.int p2), some (.int p3)] [.int 1] M0 _
    refine z_xZ zt274 15 rfl rfl (fun (h35 : (1 : Int) ≠ 0) => ?_) (fun (h35 : (1 : Int) = 0) => absurd h35 (by omega))
    refine z_xP zt274 18 42 [some (.ref 19), some (.int p1), some (.int p2), some (.int p3)] [.ref 19] rfl rfl ?_
    refine z_xgX (b := 24) zt274 19 rfl zo274 zzf12_22 X f19 (by decide) (by decide) rfl ?_
    refine z_xP zt274 20 46 [some (.ref 19), some (.int p1), some (.int p2), some (.int p3)] [.int p1, .ref 24] rfl rfl ?_
    refine z_xil zt274 21 rfl X f24 (by decide) (by omega) (by omega) (fun (x36 : Int32) h37 (h38 : 0 ≤ x36.toInt) (h39 : x36.toInt ≤ 10) => ?_)
    refine z_xP zt274 22 49 [some (.ref 19), some (.int p1), some (.int p2), some (.int p3)] [.int 6, .int x36] rfl rfl ?_
    refine z_xJ zt274 23 rfl rfl (fun (h40 : x36.toInt ≤ 6) => ?_) (fun (h40 : 6 < x36.toInt) => ?_)
    · skip
      refine z_xP zt274 26 57 [some (.ref 19), some (.int p1), some (.int p2), some (.int p3)] [.int p1, .ref 19] rfl rfl ?_
      refine z_xcV (vs := [.ref 19, .int p1]) (r := []) (L2 := [some (.ref 19), some (.int p1), none]) zt274 27 rfl zo274 zzcV12_255 (Or.inl rfl) rfl X f19 rfl rfl rfl (Nat.le_of_ble_eq_true rfl) zzm229 (Nat.le_of_ble_eq_true rfl) rfl ?_
      obtain ⟨x41, h42, h43, h44⟩ := z_W.fi X.1 f19 (k := 29) (lo := 0) (hi := 7) (by decide) rfl
      refine zC229 X.1 (by omega) h42 ⟨by omega, by omega⟩ (fun M45 X46 z47 h48 h49 h50 => ?_)
      have X51 := X.go X46 (z_sb (by decide))
      show z_ev (d + 76) 274 60 [some (.ref 19), some (.int p1), some (.int p2), some (.int p3)] [] M45 _
      have h53 : z47 = p1 := z_sub (c := p1.toInt) (by omega) rfl
      have h54 := h48
      rw [h53] at h54
      refine z_xP zt274 28 62 [some (.ref 19), some (.int p1), some (.int p2), some (.int p3)] [.int 0, .ref 19] rfl rfl ?_
      have q0 : ((0 : Int32)).toInt = 0 := rfl
      refine z_xpf zt274 29 rfl zo274 zzf12_371 X51 f19 (by decide) (by decide) ⟨by omega, by omega⟩ rfl (by decide) zw12_44 (fun M55 X56 e57 h58 => ?_)
      refine z_xP zt274 30 68 [some (.ref 19), some (.int p1), some (.int p2), some (.int p3)] [.int (-2), .ref 19] rfl rfl ?_
      have qm2 : (((-2) : Int32)).toInt = (-2) := rfl
      refine z_xpf zt274 31 rfl zo274 zzf12_374 X56 f19 (by decide) (by decide) ⟨by omega, by omega⟩ rfl (by decide) zw12_45 (fun M59 X60 e61 h62 => ?_)
      refine z_xP zt274 32 74 [some (.ref 19), some (.int p1), some (.int p2), some (.int p3)] [.ref 19, .int 0, .ref 19] rfl rfl ?_
      refine z_xcV (vs := [.ref 19]) (r := [.int 0, .ref 19]) (L2 := [some (.ref 19)]) zt274 33 rfl zo274 zzcV12_248 (Or.inl rfl) rfl X60 f19 rfl rfl rfl (Nat.le_of_ble_eq_true rfl) zzm240 (Nat.le_of_ble_eq_true rfl) rfl ?_
      refine z_xP zt240 0 2 [some (.ref 19)] [.ref 19, .int 1] rfl rfl ?_
      refine z_xgX (b := 24) zt240 1 rfl zo240 zzf12_22 X60 f19 (by decide) (by decide) rfl ?_
      refine z_xP zt240 2 6 [some (.ref 19)] [.ref 19, .ref 24, .int 1] rfl rfl ?_
      have h63 := (e61.f f19 (by decide) (e57.f f19 (by decide) h54))
      refine z_xgv zt240 3 rfl zo240 zzf12_242 X60 f19 (by decide) h63 ?_
      refine z_xil zt240 4 rfl X60 f24 (by decide) (by omega) (by omega) (fun (x64 : Int32) h65 (h66 : 0 ≤ x64.toInt) (h67 : x64.toInt ≤ 10) => ?_)
      have h68 := congrArg Int32.toInt (h65.symm.trans ((congrFun (e61.a f24 (by decide)) _).trans ((congrFun (e57.a f24 (by decide)) _).trans ((congrFun (X46.2.a f24 (by decide)) _).trans h37))))
      refine z_xI zt240 5 rfl rfl (fun (x69 : Int32) (h70 : 1 ≤ x69.toInt ∧ x69.toInt ≤ 64) => ?_) (z_pShlB (a := 1) (b := 6) (c := 64) (r := 64) rfl rfl (by omega) (by omega) (by omega) (by omega) (by decide) (by decide) (by decide) (by decide))
      refine z_xP zt240 6 12 [some (.ref 19)] [.int 1, .int x69] rfl rfl ?_
      refine z_xI zt240 7 rfl rfl (fun (x71 : Int32) (h72 : x71.toInt = x69.toInt - 1) => ?_) (z_pSub rfl rfl (by omega) (by omega))
      refine z_xri zt240 8 rfl zzr240 ?_
      show z_ev (d + 76) 274 77 [some (.ref 19), some (.int p1), some (.int p2), some (.int p3)] [.int x71, .int 0, .ref 19] M59 _
      refine z_xP zt274 34 79 [some (.ref 19), some (.int p1), some (.int p2), some (.int p3)] [.int p2, .int 0, .int x71, .int 0, .ref 19] rfl rfl ?_
      refine z_xcV (vs := [.ref 19, .int 0, .int x71, .int 0, .int p2]) (r := []) (L2 := [some (.ref 19), some (.int 0), some (.int x71), some (.int 0), some (.int p2), none]) zt274 35 rfl zo274 zzcV12_377 (Or.inl rfl) rfl X60 f19 rfl rfl rfl (Nat.le_of_ble_eq_true rfl) zzm275 (Nat.le_of_ble_eq_true rfl) rfl ?_
      have q0 : ((0 : Int32)).toInt = 0 := rfl
      have h73 := ((congrFun (e61.a f24 (by decide)) _).trans ((congrFun (e57.a f24 (by decide)) _).trans ((congrFun (X46.2.a f24 (by decide)) _).trans h37)))
      have q0 : ((0 : Int32)).toInt = 0 := rfl
      refine zC275 X60.1 (by decide) (by omega) (by omega) h63 ⟨by omega, by omega⟩ h73 ⟨by omega, by omega⟩ (by have h6 := z_pcn6 (x := x71) (by omega) (by omega); constructor <;> omega) (fun M74 X75 z76 h77 h78 h79 => ?_)
      have X80 := X60.go X75 (z_sb (by decide))
      show z_ev (d + 76) 274 82 [some (.ref 19), some (.int p1), some (.int p2), some (.int p3)] [] M74 _
      refine z_xP zt274 36 83 [some (.ref 19), some (.int p1), some (.int p2), some (.int p3)] [.int p3] rfl rfl ?_
      refine z_xZ zt274 37 rfl rfl (fun (h82 : p3.toInt ≠ 0) => ?_) (fun (h82 : p3.toInt = 0) => ?_)
      · skip
        refine z_xP zt274 41 94 [some (.ref 19), some (.int p1), some (.int p2), some (.int p3)] [.ref 19] rfl rfl ?_
        refine z_xgI zt274 42 rfl zo274 zzf12_374 X80 f19 (by decide) (by decide) rfl (fun (x84 : Int32) h83 (h85 : (-2147483648) ≤ x84.toInt) (h86 : x84.toInt ≤ 2147483647) => ?_)
        exact z_xri zt274 43 rfl zzr274 (kk x84 M74 X80)
      refine z_xP zt274 38 87 [some (.ref 19), some (.int p1), some (.int p2), some (.int p3)] [.ref 19] rfl rfl ?_
      refine z_xgI zt274 39 rfl zo274 zzf12_371 X80 f19 (by decide) (by decide) rfl (fun (x88 : Int32) h87 (h89 : (-2147483648) ≤ x88.toInt) (h90 : x88.toInt ≤ 2147483647) => ?_)
      refine z_xP zt274 40 97 [some (.ref 19), some (.int p1), some (.int p2), some (.int p3)] [.int x88] rfl rfl ?_
      exact z_xri zt274 43 rfl zzr274 (kk x88 M74 X80)
    refine z_xP zt274 24 54 [some (.ref 19), some (.int p1), some (.int p2), some (.int p3)] [.int (-4)] rfl rfl ?_
    have qm4 : (((-4) : Int32)).toInt = (-4) := rfl
    exact z_xri zt274 25 rfl zzr274 (kk (-4) M0 X)
  refine z_xP zt209 5 17 [some (.ref 19), some (.int p1)] [.int 1] rfl rfl ?_
  refine z_xrz zt209 7 rfl zzr209 (by decide) (by decide) ?_
  show z_ev (d + 76) 274 14 [some (.ref 19), some (.int p1), some (.int p2), some (.int p3)] [.int 1, .ref 19] M0 _
  refine z_xZ zt274 5 rfl rfl (fun (h91 : (1 : Int) = 0) => absurd h91 (by omega)) (fun (h91 : (1 : Int) ≠ 0) => ?_)
  refine z_xP zt274 6 22 [some (.ref 19), some (.int p1), some (.int p2), some (.int p3)] [.int p1, .ref 19] rfl rfl ?_
  refine z_xP zt274 8 23 [some (.ref 19), some (.int p1), some (.int p2), some (.int p3)] [.int p2, .int p1, .ref 19] rfl rfl ?_
  refine z_xcV (vs := [.ref 19, .int p1, .int p2]) (r := []) (L2 := [some (.ref 19), some (.int p1), some (.int p2)]) zt274 9 rfl zo274 zzcV12_225 (Or.inl rfl) rfl X f19 rfl rfl rfl (Nat.le_of_ble_eq_true rfl) zzm218 (Nat.le_of_ble_eq_true rfl) rfl ?_
  refine z_xP zt218 0 1 [some (.ref 19), some (.int p1), some (.int p2)] [.int p2] rfl rfl ?_
  refine z_xZ zt218 1 rfl rfl (fun (h92 : p2.toInt < 0) => ?_) (fun (h92 : 0 ≤ p2.toInt) => ?_)
  · skip
    refine z_xP zt218 8 19 [some (.ref 19), some (.int p1), some (.int p2)] [.int 0] rfl rfl ?_
    refine z_xrz zt218 9 rfl zzr218 (by decide) (by decide) ?_
    show z_ev (d + 76) 274 26 [some (.ref 19), some (.int p1), some (.int p2), some (.int p3)] [.int 0] M0 _
    refine z_xZ zt274 10 rfl rfl (fun (h93 : (0 : Int) = 0) => ?_) (fun (h93 : (0 : Int) ≠ 0) => absurd h93 (by omega))
    refine z_xP zt274 16 40 [some (.ref 19), some (.int p1), some (.int p2), some (.int p3)] [.int (-1)] rfl rfl ?_
    have qm1 : (((-1) : Int32)).toInt = (-1) := rfl
    exact z_xri zt274 17 rfl zzr274 (kk (-1) M0 X)
  refine z_xP zt218 2 6 [some (.ref 19), some (.int p1), some (.int p2)] [.ref 19, .int p2] rfl rfl ?_
  refine z_xgX (b := 24) zt218 3 rfl zo218 zzf12_22 X f19 (by decide) (by decide) rfl ?_
  refine z_xP zt218 4 10 [some (.ref 19), some (.int p1), some (.int p2)] [.int p1, .ref 24, .int p2] rfl rfl ?_
  have f24 : T[24]? = some (.inr (24, 0, 8, 0, 10)) := X.1.k rfl (by decide)
  refine z_xil zt218 5 rfl X f24 (by decide) (by omega) (by omega) (fun (x94 : Int32) h95 (h96 : 0 ≤ x94.toInt) (h97 : x94.toInt ≤ 10) => ?_)
  have h98 := z_b32 p2
  refine z_xJ zt218 6 rfl rfl (fun (h99 : x94.toInt ≤ p2.toInt) => ?_) (fun (h99 : p2.toInt < x94.toInt) => ?_)
  · skip
    refine z_xP zt218 8 19 [some (.ref 19), some (.int p1), some (.int p2)] [.int 0] rfl rfl ?_
    refine z_xrz zt218 9 rfl zzr218 (by decide) (by decide) ?_
    show z_ev (d + 76) 274 26 [some (.ref 19), some (.int p1), some (.int p2), some (.int p3)] [.int 0] M0 _
    refine z_xZ zt274 10 rfl rfl (fun (h100 : (0 : Int) = 0) => ?_) (fun (h100 : (0 : Int) ≠ 0) => absurd h100 (by omega))
    refine z_xP zt274 16 40 [some (.ref 19), some (.int p1), some (.int p2), some (.int p3)] [.int (-1)] rfl rfl ?_
    have qm1 : (((-1) : Int32)).toInt = (-1) := rfl
    exact z_xri zt274 17 rfl zzr274 (kk (-1) M0 X)
  refine z_xP zt218 7 19 [some (.ref 19), some (.int p1), some (.int p2)] [.int 1] rfl rfl ?_
  refine z_xrz zt218 9 rfl zzr218 (by decide) (by decide) ?_
  show z_ev (d + 76) 274 26 [some (.ref 19), some (.int p1), some (.int p2), some (.int p3)] [.int 1] M0 _
  refine z_xZ zt274 10 rfl rfl (fun (h101 : (1 : Int) = 0) => absurd h101 (by omega)) (fun (h101 : (1 : Int) ≠ 0) => ?_)
  refine z_xP zt274 11 30 [some (.ref 19), some (.int p1), some (.int p2), some (.int p3)] [.int p3] rfl rfl ?_
  have h102 := z_b32 p3
  refine z_xL zt274 12 rfl rfl (fun (y103 : Int64) (h104 : y103.toInt = p3.toInt) => ?_) (z_qI2L rfl)
  refine z_xP zt274 13 33 [some (.ref 19), some (.int p1), some (.int p2), some (.int p3)] [.long 1, .long 0, .long y103] rfl rfl ?_
  refine z_xcS (vs := [.long y103, .long 0, .long 1]) (r := []) (L2 := [some (.long y103), none, some (.long 0), none, some (.long 1), none]) zt274 14 rfl zo274 zzcS12_116 (Or.inl rfl) (Nat.le_of_ble_eq_true rfl) rfl rfl (Nat.le_of_ble_eq_true rfl) zzm189 (Nat.le_of_ble_eq_true rfl) rfl ?_
  refine z_xP zt189 0 2 [some (.long y103), none, some (.long 0), none, some (.long 1), none] [.long 0, .long y103] rfl rfl ?_
  refine z_xI zt189 1 rfl rfl (fun (x105 : Int32) (h106 : (x105.toInt < 0 ∧ y103.toInt < 0) ∨ (x105.toInt = 0 ∧ y103.toInt = 0) ∨ (0 < x105.toInt ∧ 0 < y103.toInt)) => ?_) (z_qCmp rfl rfl)
  refine z_xZ zt189 2 rfl rfl (fun (h107 : x105.toInt < 0) => ?_) (fun (h107 : 0 ≤ x105.toInt) => ?_)
  · skip
    refine z_xP zt189 7 18 [some (.long y103), none, some (.long 0), none, some (.long 1), none] [.int 0] rfl rfl ?_
    refine z_xrz zt189 8 rfl zzr189 (by decide) (by decide) ?_
    show z_ev (d + 76) 274 36 [some (.ref 19), some (.int p1), some (.int p2), some (.int p3)] [.int 0] M0 _
    refine z_xZ zt274 15 rfl rfl (fun (h108 : (0 : Int) ≠ 0) => absurd h108 (by omega)) (fun (h108 : (0 : Int) = 0) => ?_)
    refine z_xP zt274 16 40 [some (.ref 19), some (.int p1), some (.int p2), some (.int p3)] [.int (-1)] rfl rfl ?_
    have qm1 : (((-1) : Int32)).toInt = (-1) := rfl
    exact z_xri zt274 17 rfl zzr274 (kk (-1) M0 X)
  refine z_xP zt189 3 9 [some (.long y103), none, some (.long 0), none, some (.long 1), none] [.long 1, .long y103] rfl rfl ?_
  refine z_xI zt189 4 rfl rfl (fun (x109 : Int32) (h110 : (x109.toInt < 0 ∧ y103.toInt < 1) ∨ (x109.toInt = 0 ∧ y103.toInt = 1) ∨ (0 < x109.toInt ∧ 1 < y103.toInt)) => ?_) (z_qCmp rfl rfl)
  refine z_xZ zt189 5 rfl rfl (fun (h111 : 0 < x109.toInt) => ?_) (fun (h111 : x109.toInt ≤ 0) => ?_)
  · skip
    refine z_xP zt189 7 18 [some (.long y103), none, some (.long 0), none, some (.long 1), none] [.int 0] rfl rfl ?_
    refine z_xrz zt189 8 rfl zzr189 (by decide) (by decide) ?_
    show z_ev (d + 76) 274 36 [some (.ref 19), some (.int p1), some (.int p2), some (.int p3)] [.int 0] M0 _
    refine z_xZ zt274 15 rfl rfl (fun (h112 : (0 : Int) ≠ 0) => absurd h112 (by omega)) (fun (h112 : (0 : Int) = 0) => ?_)
    refine z_xP zt274 16 40 [some (.ref 19), some (.int p1), some (.int p2), some (.int p3)] [.int (-1)] rfl rfl ?_
    have qm1 : (((-1) : Int32)).toInt = (-1) := rfl
    exact z_xri zt274 17 rfl zzr274 (kk (-1) M0 X)
  refine z_xP zt189 6 18 [some (.long y103), none, some (.long 0), none, some (.long 1), none] [.int 1] rfl rfl ?_
  refine z_xrz zt189 8 rfl zzr189 (by decide) (by decide) ?_
  show z_ev (d + 76) 274 36 [some (.ref 19), some (.int p1), some (.int p2), some (.int p3)] [.int 1] M0 _
  refine z_xZ zt274 15 rfl rfl (fun (h113 : (1 : Int) ≠ 0) => ?_) (fun (h113 : (1 : Int) = 0) => absurd h113 (by omega))
  refine z_xP zt274 18 42 [some (.ref 19), some (.int p1), some (.int p2), some (.int p3)] [.ref 19] rfl rfl ?_
  refine z_xgX (b := 24) zt274 19 rfl zo274 zzf12_22 X f19 (by decide) (by decide) rfl ?_
  refine z_xP zt274 20 46 [some (.ref 19), some (.int p1), some (.int p2), some (.int p3)] [.int p1, .ref 24] rfl rfl ?_
  refine z_xil zt274 21 rfl X f24 (by decide) (by omega) (by omega) (fun (x114 : Int32) h115 (h116 : 0 ≤ x114.toInt) (h117 : x114.toInt ≤ 10) => ?_)
  have h118 := congrArg Int32.toInt (h115.symm.trans h95)
  refine z_xP zt274 22 49 [some (.ref 19), some (.int p1), some (.int p2), some (.int p3)] [.int 6, .int x114] rfl rfl ?_
  refine z_xJ zt274 23 rfl rfl (fun (h119 : x114.toInt ≤ 6) => ?_) (fun (h119 : 6 < x114.toInt) => ?_)
  · skip
    refine z_xP zt274 26 57 [some (.ref 19), some (.int p1), some (.int p2), some (.int p3)] [.int p1, .ref 19] rfl rfl ?_
    refine z_xcV (vs := [.ref 19, .int p1]) (r := []) (L2 := [some (.ref 19), some (.int p1), none]) zt274 27 rfl zo274 zzcV12_255 (Or.inl rfl) rfl X f19 rfl rfl rfl (Nat.le_of_ble_eq_true rfl) zzm229 (Nat.le_of_ble_eq_true rfl) rfl ?_
    obtain ⟨x120, h121, h122, h123⟩ := z_W.fi X.1 f19 (k := 29) (lo := 0) (hi := 7) (by decide) rfl
    refine zC229 X.1 (by omega) h121 ⟨by omega, by omega⟩ (fun M124 X125 z126 h127 h128 h129 => ?_)
    have X130 := X.go X125 (z_sb (by decide))
    show z_ev (d + 76) 274 60 [some (.ref 19), some (.int p1), some (.int p2), some (.int p3)] [] M124 _
    have h132 : z126 = p1 := z_sub (c := p1.toInt) (by omega) rfl
    have h133 := h127
    rw [h132] at h133
    refine z_xP zt274 28 62 [some (.ref 19), some (.int p1), some (.int p2), some (.int p3)] [.int 0, .ref 19] rfl rfl ?_
    have q0 : ((0 : Int32)).toInt = 0 := rfl
    refine z_xpf zt274 29 rfl zo274 zzf12_371 X130 f19 (by decide) (by decide) ⟨by omega, by omega⟩ rfl (by decide) zw12_44 (fun M134 X135 e136 h137 => ?_)
    refine z_xP zt274 30 68 [some (.ref 19), some (.int p1), some (.int p2), some (.int p3)] [.int (-2), .ref 19] rfl rfl ?_
    have qm2 : (((-2) : Int32)).toInt = (-2) := rfl
    refine z_xpf zt274 31 rfl zo274 zzf12_374 X135 f19 (by decide) (by decide) ⟨by omega, by omega⟩ rfl (by decide) zw12_45 (fun M138 X139 e140 h141 => ?_)
    refine z_xP zt274 32 74 [some (.ref 19), some (.int p1), some (.int p2), some (.int p3)] [.ref 19, .int 0, .ref 19] rfl rfl ?_
    refine z_xcV (vs := [.ref 19]) (r := [.int 0, .ref 19]) (L2 := [some (.ref 19)]) zt274 33 rfl zo274 zzcV12_248 (Or.inl rfl) rfl X139 f19 rfl rfl rfl (Nat.le_of_ble_eq_true rfl) zzm240 (Nat.le_of_ble_eq_true rfl) rfl ?_
    refine z_xP zt240 0 2 [some (.ref 19)] [.ref 19, .int 1] rfl rfl ?_
    refine z_xgX (b := 24) zt240 1 rfl zo240 zzf12_22 X139 f19 (by decide) (by decide) rfl ?_
    refine z_xP zt240 2 6 [some (.ref 19)] [.ref 19, .ref 24, .int 1] rfl rfl ?_
    have h142 := (e140.f f19 (by decide) (e136.f f19 (by decide) h133))
    refine z_xgv zt240 3 rfl zo240 zzf12_242 X139 f19 (by decide) h142 ?_
    refine z_xil zt240 4 rfl X139 f24 (by decide) (by omega) (by omega) (fun (x143 : Int32) h144 (h145 : 0 ≤ x143.toInt) (h146 : x143.toInt ≤ 10) => ?_)
    have h147 := congrArg Int32.toInt (h144.symm.trans ((congrFun (e140.a f24 (by decide)) _).trans ((congrFun (e136.a f24 (by decide)) _).trans ((congrFun (X125.2.a f24 (by decide)) _).trans h95))))
    refine z_xI zt240 5 rfl rfl (fun (x148 : Int32) (h149 : 1 ≤ x148.toInt ∧ x148.toInt ≤ 64) => ?_) (z_pShlB (a := 1) (b := 6) (c := 64) (r := 64) rfl rfl (by omega) (by omega) (by omega) (by omega) (by decide) (by decide) (by decide) (by decide))
    refine z_xP zt240 6 12 [some (.ref 19)] [.int 1, .int x148] rfl rfl ?_
    refine z_xI zt240 7 rfl rfl (fun (x150 : Int32) (h151 : x150.toInt = x148.toInt - 1) => ?_) (z_pSub rfl rfl (by omega) (by omega))
    refine z_xri zt240 8 rfl zzr240 ?_
    show z_ev (d + 76) 274 77 [some (.ref 19), some (.int p1), some (.int p2), some (.int p3)] [.int x150, .int 0, .ref 19] M138 _
    refine z_xP zt274 34 79 [some (.ref 19), some (.int p1), some (.int p2), some (.int p3)] [.int p2, .int 0, .int x150, .int 0, .ref 19] rfl rfl ?_
    refine z_xcV (vs := [.ref 19, .int 0, .int x150, .int 0, .int p2]) (r := []) (L2 := [some (.ref 19), some (.int 0), some (.int x150), some (.int 0), some (.int p2), none]) zt274 35 rfl zo274 zzcV12_377 (Or.inl rfl) rfl X139 f19 rfl rfl rfl (Nat.le_of_ble_eq_true rfl) zzm275 (Nat.le_of_ble_eq_true rfl) rfl ?_
    have q0 : ((0 : Int32)).toInt = 0 := rfl
    have h152 := ((congrFun (e140.a f24 (by decide)) _).trans ((congrFun (e136.a f24 (by decide)) _).trans ((congrFun (X125.2.a f24 (by decide)) _).trans h95)))
    have q0 : ((0 : Int32)).toInt = 0 := rfl
    refine zC275 X139.1 (by decide) (by omega) (by omega) h142 ⟨by omega, by omega⟩ h152 ⟨by omega, by omega⟩ (by have h6 := z_pcn6 (x := x150) (by omega) (by omega); constructor <;> omega) (fun M153 X154 z155 h156 h157 h158 => ?_)
    have X159 := X139.go X154 (z_sb (by decide))
    show z_ev (d + 76) 274 82 [some (.ref 19), some (.int p1), some (.int p2), some (.int p3)] [] M153 _
    refine z_xP zt274 36 83 [some (.ref 19), some (.int p1), some (.int p2), some (.int p3)] [.int p3] rfl rfl ?_
    refine z_xZ zt274 37 rfl rfl (fun (h161 : p3.toInt ≠ 0) => ?_) (fun (h161 : p3.toInt = 0) => ?_)
    · skip
      refine z_xP zt274 41 94 [some (.ref 19), some (.int p1), some (.int p2), some (.int p3)] [.ref 19] rfl rfl ?_
      refine z_xgI zt274 42 rfl zo274 zzf12_374 X159 f19 (by decide) (by decide) rfl (fun (x163 : Int32) h162 (h164 : (-2147483648) ≤ x163.toInt) (h165 : x163.toInt ≤ 2147483647) => ?_)
      exact z_xri zt274 43 rfl zzr274 (kk x163 M153 X159)
    refine z_xP zt274 38 87 [some (.ref 19), some (.int p1), some (.int p2), some (.int p3)] [.ref 19] rfl rfl ?_
    refine z_xgI zt274 39 rfl zo274 zzf12_371 X159 f19 (by decide) (by decide) rfl (fun (x167 : Int32) h166 (h168 : (-2147483648) ≤ x167.toInt) (h169 : x167.toInt ≤ 2147483647) => ?_)
    refine z_xP zt274 40 97 [some (.ref 19), some (.int p1), some (.int p2), some (.int p3)] [.int x167] rfl rfl ?_
    exact z_xri zt274 43 rfl zzr274 (kk x167 M153 X159)
  refine z_xP zt274 24 54 [some (.ref 19), some (.int p1), some (.int p2), some (.int p3)] [.int (-4)] rfl rfl ?_
  have qm4 : (((-4) : Int32)).toInt = (-4) := rfl
  exact z_xri zt274 25 rfl zzr274 (kk (-4) M0 X)
def zw278 : List Nat := [48, 2247]
theorem zC278 {T : List zK} {d : Nat} {K : Option Value → zH → Prop} {p1 : Int32} {zp0 : Int32} {M0 : zH} (hW : z_W M0 T) (hz0 : z_F M0 19 47 = some (.int zp0)) (bz0 : 0 ≤ zp0.toInt ∧ zp0.toInt ≤ 1000000) (kk : ∀ (M1 : zH), z_X T zw278 M0 M1 → ∀ (w0 : Int32), z_F M1 19 47 = some (.int w0) → 0 ≤ w0.toInt ∧ w0.toInt ≤ 1000001 → w0.toInt = zp0.toInt + 1 → K none M1) : z_ev d 278 0 [some (.ref 19), some (.int p1)] [] M0 K := by
  have X : z_X T zw278 M0 M0 := .refl hW
  refine z_xP zt278 0 1 [some (.ref 19), some (.int p1)] [.ref 19] rfl rfl ?_
  have f19 : T[19]? = some (.inl (12, 0, 0, 0, 0)) := X.1.k rfl (by decide)
  refine z_xgv zt278 1 rfl zo278 zzf12_381 X f19 (by decide) hz0 ?_
  refine z_xP zt278 2 6 [some (.ref 19), some (.int p1)] [.int 24, .int zp0] rfl rfl ?_
  refine z_xJ zt278 3 rfl rfl (fun (h1 : 24 ≤ zp0.toInt) => ?_) (fun (h1 : zp0.toInt < 24) => ?_)
  · skip
    refine z_xP zt278 10 21 [some (.ref 19), some (.int p1)] [.ref 19, .ref 19] rfl rfl ?_
    refine z_xgv zt278 11 rfl zo278 zzf12_381 X f19 (by decide) hz0 ?_
    refine z_xP zt278 12 25 [some (.ref 19), some (.int p1)] [.int 1, .int zp0, .ref 19] rfl rfl ?_
    refine z_xI zt278 13 rfl rfl (fun (x2 : Int32) (h3 : x2.toInt = zp0.toInt + 1) => ?_) (z_pAdd rfl rfl (by omega) (by omega))
    refine z_xpf zt278 14 rfl zo278 zzf12_381 X f19 (by decide) (by decide) ⟨Int32.le_toInt _, Int32.toInt_le _⟩ rfl (by decide) zw12_47 (fun M4 X5 e6 h7 => ?_)
    exact z_xrv zt278 15 rfl zzr278 (kk M4 X5 x2 h7 ⟨by omega, by omega⟩ (by omega))
  refine z_xP zt278 4 10 [some (.ref 19), some (.int p1)] [.ref 19] rfl rfl ?_
  refine z_xgX (b := 48) zt278 5 rfl zo278 zzf12_94 X f19 (by decide) (by decide) rfl ?_
  refine z_xP zt278 6 14 [some (.ref 19), some (.int p1)] [.ref 19, .ref 48] rfl rfl ?_
  refine z_xgv zt278 7 rfl zo278 zzf12_381 X f19 (by decide) hz0 ?_
  refine z_xP zt278 8 18 [some (.ref 19), some (.int p1)] [.int p1, .int zp0, .ref 48] rfl rfl ?_
  have f48 : T[48]? = some (.inr (48, 0, 24, (-2147483648), 2147483647)) := X.1.k rfl (by decide)
  refine z_xis zt278 9 rfl X f48 (by decide) (by decide) (by omega) (by omega) (Int32.le_toInt _) (Int32.toInt_le _) (by decide) (fun M8 X9 e10 h11 => ?_)
  refine z_xP zt278 10 21 [some (.ref 19), some (.int p1)] [.ref 19, .ref 19] rfl rfl ?_
  have h12 := (e10.f f19 (by decide) hz0)
  refine z_xgv zt278 11 rfl zo278 zzf12_381 X9 f19 (by decide) h12 ?_
  refine z_xP zt278 12 25 [some (.ref 19), some (.int p1)] [.int 1, .int zp0, .ref 19] rfl rfl ?_
  refine z_xI zt278 13 rfl rfl (fun (x13 : Int32) (h14 : x13.toInt = zp0.toInt + 1) => ?_) (z_pAdd rfl rfl (by omega) (by omega))
  refine z_xpf zt278 14 rfl zo278 zzf12_381 X9 f19 (by decide) (by decide) ⟨Int32.le_toInt _, Int32.toInt_le _⟩ rfl (by decide) zw12_47 (fun M15 X16 e17 h18 => ?_)
  exact z_xrv zt278 15 rfl zzr278 (kk M15 X16 x13 h18 ⟨by omega, by omega⟩ (by omega))
def zw277 : List Nat := [48, 2247]
def zQ277 (T : List zK) (N : Nat) : Prop := ∀ {d : Nat} {K : Option Value → zH → Prop} {p1 : Int32} {p2 : Int32} {zp0 : Int32}  {M0 : zH} (hW : z_W M0 T) (u1 : 0 ≤ p1.toInt ∧ p1.toInt ≤ 7) (hz0 : z_F M0 19 47 = some (.int zp0)) (bz0 : 0 ≤ zp0.toInt ∧ zp0.toInt ≤ 1000000) (hb0 : zp0.toInt + 2 * p1.toInt ≤ 900000) (hm : p1.toInt < (N : Int)) (hd : p1.toInt ≤ (d : Int)) (kk : ∀ (x : Int32) (M1 : zH), z_X T zw277 M0 M1 → ∀ (w0 : Int32), z_F M1 19 47 = some (.int w0) → 0 ≤ w0.toInt ∧ w0.toInt ≤ 2000000 → zp0.toInt ≤ w0.toInt → w0.toInt ≤ zp0.toInt + 1 * p1.toInt + 1 → K (some (.int x)) M1), z_ev (d + 4) 277 0 [some (.ref 19), some (.int p1), some (.int p2)] [] M0 K
theorem zC277r {T : List zK} {d : Nat} {K : Option Value → zH → Prop} {p1 : Int32} {p2 : Int32} {zp0 : Int32} {N : Nat} {M0 : zH} (hW : z_W M0 T) (u1 : 0 ≤ p1.toInt ∧ p1.toInt ≤ 7) (hz0 : z_F M0 19 47 = some (.int zp0)) (bz0 : 0 ≤ zp0.toInt ∧ zp0.toInt ≤ 1000000) (hb0 : zp0.toInt + 2 * p1.toInt ≤ 900000) (ih277 : zQ277 T N) (hm : p1.toInt < (N : Int) + 1) (hd : p1.toInt ≤ (d : Int)) (kk : ∀ (x : Int32) (M1 : zH), z_X T zw277 M0 M1 → ∀ (w0 : Int32), z_F M1 19 47 = some (.int w0) → 0 ≤ w0.toInt ∧ w0.toInt ≤ 2000000 → zp0.toInt ≤ w0.toInt → w0.toInt ≤ zp0.toInt + 1 * p1.toInt + 1 → K (some (.int x)) M1) : z_ev (d + 4) 277 0 [some (.ref 19), some (.int p1), some (.int p2)] [] M0 K := by
  have X : z_X T zw277 M0 M0 := .refl hW
  refine z_xP zt277 0 1 [some (.ref 19), some (.int p1), some (.int p2)] [.int p1] rfl rfl ?_
  by_cases h1 : p1.toInt = 0
  · refine z_xSC zt277 1 (z_sub (k := 0) h1 rfl) 36 rfl rfl ?_
    refine z_xP zt277 2 38 [some (.ref 19), some (.int p1), some (.int p2)] [.int 1, .ref 19] rfl rfl ?_
    have f19 : T[19]? = some (.inl (12, 0, 0, 0, 0)) := X.1.k rfl (by decide)
    refine z_xcV (vs := [.ref 19, .int 1]) (r := []) (L2 := [some (.ref 19), some (.int 1)]) zt277 3 rfl zo277 zzcV12_384 (Or.inl rfl) rfl X f19 rfl rfl rfl (Nat.le_of_ble_eq_true rfl) zzm278 (Nat.le_of_ble_eq_true rfl) rfl ?_
    have q1 : ((1 : Int32)).toInt = 1 := rfl
    have q1 : ((1 : Int32)).toInt = 1 := rfl
    refine zC278 X.1 hz0 ⟨by omega, by omega⟩ (fun M2 X3 z4 h5 h6 h7 => ?_)
    have X8 := X.go X3 (z_sb (by decide))
    show z_ev (d + 4) 277 41 [some (.ref 19), some (.int p1), some (.int p2)] [] M2 _
    refine z_xP zt277 4 43 [some (.ref 19), some (.int p1), some (.int p2)] [.ref 19, .int p2] rfl rfl ?_
    refine z_xgI zt277 5 rfl zo277 zzf12_387 X8 f19 (by decide) (by decide) rfl (fun (x11 : Int32) h10 (h12 : 0 ≤ x11.toInt) (h13 : x11.toInt ≤ 19) => ?_)
    have h14 := z_b32 p2
    refine z_xI zt277 6 rfl rfl (P := fun _ => True) (fun (x15 : Int32) _ => ?_) trivial
    exact z_xri zt277 7 rfl zzr277 (kk x15 M2 X8 z4 h5 ⟨by omega, by omega⟩ (by omega) (by omega))
  by_cases h17 : p1.toInt = 1
  · refine z_xSC zt277 1 (z_sub (k := 1) h17 rfl) 48 rfl rfl ?_
    refine z_xP zt277 8 51 [some (.ref 19), some (.int p1), some (.int p2)] [.int 20, .ref 19] rfl rfl ?_
    have f19 : T[19]? = some (.inl (12, 0, 0, 0, 0)) := X.1.k rfl (by decide)
    refine z_xcV (vs := [.ref 19, .int 20]) (r := []) (L2 := [some (.ref 19), some (.int 20)]) zt277 9 rfl zo277 zzcV12_384 (Or.inl rfl) rfl X f19 rfl rfl rfl (Nat.le_of_ble_eq_true rfl) zzm278 (Nat.le_of_ble_eq_true rfl) rfl ?_
    have q20 : ((20 : Int32)).toInt = 20 := rfl
    have q20 : ((20 : Int32)).toInt = 20 := rfl
    refine zC278 X.1 hz0 ⟨by omega, by omega⟩ (fun M18 X19 z20 h21 h22 h23 => ?_)
    have X24 := X.go X19 (z_sb (by decide))
    show z_ev (d + 4) 277 54 [some (.ref 19), some (.int p1), some (.int p2)] [] M18 _
    refine z_xP zt277 10 56 [some (.ref 19), some (.int p1), some (.int p2)] [.int 1, .ref 19] rfl rfl ?_
    refine z_xcS (vs := [.int 1]) (r := [.ref 19]) (L2 := [some (.int 1)]) zt277 11 rfl zo277 zzcS12_390 (Or.inl rfl) (Nat.le_of_ble_eq_true rfl) rfl rfl (Nat.le_of_ble_eq_true rfl) zzm279 (Nat.le_of_ble_eq_true rfl) rfl ?_
    refine z_xP zt279 0 2 [some (.int 1)] [.int 2, .int 1] rfl rfl ?_
    refine z_xJ zt279 1 rfl rfl (fun (h26 : (1 : Int) = 2) => absurd h26 (by omega)) (fun (h26 : (1 : Int) ≠ 2) => ?_)
    refine z_xP zt279 2 7 [some (.int 1)] [.int 3, .int 1] rfl rfl ?_
    refine z_xJ zt279 3 rfl rfl (fun (h27 : (1 : Int) ≠ 3) => ?_) (fun (h27 : (1 : Int) = 3) => absurd h27 (by omega))
    refine z_xP zt279 5 17 [some (.int 1)] [.int 6, .int 1] rfl rfl ?_
    refine z_xJ zt279 6 rfl rfl (fun (h28 : (1 : Int) ≠ 6) => ?_) (fun (h28 : (1 : Int) = 6) => absurd h28 (by omega))
    refine z_xP zt279 8 25 [some (.int 1)] [.int 0] rfl rfl ?_
    refine z_xri zt279 9 rfl zzr279 ?_
    show z_ev (d + 4) 277 59 [some (.ref 19), some (.int p1), some (.int p2)] [.int 0, .ref 19] M18 _
    refine z_xP zt277 12 60 [some (.ref 19), some (.int p1), some (.int p2)] [.int p2, .int 0, .ref 19] rfl rfl ?_
    obtain ⟨d29, hdd29⟩ : ∃ e, d = e + 1 := ⟨d - 1, by omega⟩
    subst hdd29
    refine z_xcV (vs := [.ref 19, .int 0, .int p2]) (r := []) (L2 := [some (.ref 19), some (.int 0), some (.int p2)]) zt277 13 rfl zo277 zzcV12_393 (Or.inl rfl) rfl X24 f19 rfl rfl rfl (Nat.le_of_ble_eq_true rfl) zzm277 (Nat.le_of_ble_eq_true rfl) rfl ?_
    have q0 : ((0 : Int32)).toInt = 0 := rfl
    have h30 := z_b32 p2
    refine ih277 X24.1 (by decide) h21 ⟨by omega, by omega⟩ (by omega) (by omega) (by omega) (fun x38 M31 X32 z33 h34 h35 h36 h37 => ?_)
    have X39 := X24.go X32 (z_sb (by decide))
    show z_ev (d29 + 1 + 4) 277 63 [some (.ref 19), some (.int p1), some (.int p2)] [.int x38] M31 _
    refine z_xP zt277 14 64 [some (.ref 19), some (.int p1), some (.int p2)] [.int 1, .int x38] rfl rfl ?_
    have h41 := z_b32 x38
    refine z_xI zt277 15 rfl rfl (P := fun _ => True) (fun (x42 : Int32) _ => ?_) trivial
    exact z_xri zt277 16 rfl zzr277 (kk x42 M31 X39 z33 h34 ⟨by omega, by omega⟩ (by omega) (by omega))
  by_cases h44 : p1.toInt = 2
  · refine z_xSC zt277 1 (z_sub (k := 2) h44 rfl) 84 rfl rfl ?_
    refine z_xP zt277 26 86 [some (.ref 19), some (.int p1), some (.int p2)] [.int p1, .ref 19] rfl rfl ?_
    refine z_xcS (vs := [.int p1]) (r := [.ref 19]) (L2 := [some (.int p1)]) zt277 27 rfl zo277 zzcS12_390 (Or.inl rfl) (Nat.le_of_ble_eq_true rfl) rfl rfl (Nat.le_of_ble_eq_true rfl) zzm279 (Nat.le_of_ble_eq_true rfl) rfl ?_
    refine z_xP zt279 0 2 [some (.int p1)] [.int 2, .int p1] rfl rfl ?_
    refine z_xJ zt279 1 rfl rfl (fun (h45 : p1.toInt = 2) => ?_) (fun (h45 : p1.toInt ≠ 2) => absurd h45 (by omega))
    refine z_xP zt279 4 25 [some (.int p1)] [.int 1] rfl rfl ?_
    refine z_xri zt279 9 rfl zzr279 ?_
    show z_ev (d + 4) 277 89 [some (.ref 19), some (.int p1), some (.int p2)] [.int 1, .ref 19] M0 _
    refine z_xP zt277 28 90 [some (.ref 19), some (.int p1), some (.int p2)] [.int p2, .int 1, .ref 19] rfl rfl ?_
    have f19 : T[19]? = some (.inl (12, 0, 0, 0, 0)) := X.1.k rfl (by decide)
    obtain ⟨d46, hdd46⟩ : ∃ e, d = e + 1 := ⟨d - 1, by omega⟩
    subst hdd46
    refine z_xcV (vs := [.ref 19, .int 1, .int p2]) (r := []) (L2 := [some (.ref 19), some (.int 1), some (.int p2)]) zt277 29 rfl zo277 zzcV12_393 (Or.inl rfl) rfl X f19 rfl rfl rfl (Nat.le_of_ble_eq_true rfl) zzm277 (Nat.le_of_ble_eq_true rfl) rfl ?_
    have q1 : ((1 : Int32)).toInt = 1 := rfl
    have h47 := z_b32 p2
    refine ih277 X.1 (by decide) hz0 ⟨by omega, by omega⟩ (by omega) (by omega) (by omega) (fun x55 M48 X49 z50 h51 h52 h53 h54 => ?_)
    have X56 := X.go X49 (z_sb (by decide))
    show z_ev (d46 + 1 + 4) 277 93 [some (.ref 19), some (.int p1), some (.int p2)] [.int x55] M48 _
    exact z_xri zt277 30 rfl zzr277 (kk x55 M48 X56 z50 h51 ⟨by omega, by omega⟩ (by omega) (by omega))
  by_cases h58 : p1.toInt = 3
  · refine z_xSC zt277 1 (z_sub (k := 3) h58 rfl) 84 rfl rfl ?_
    refine z_xP zt277 26 86 [some (.ref 19), some (.int p1), some (.int p2)] [.int p1, .ref 19] rfl rfl ?_
    refine z_xcS (vs := [.int p1]) (r := [.ref 19]) (L2 := [some (.int p1)]) zt277 27 rfl zo277 zzcS12_390 (Or.inl rfl) (Nat.le_of_ble_eq_true rfl) rfl rfl (Nat.le_of_ble_eq_true rfl) zzm279 (Nat.le_of_ble_eq_true rfl) rfl ?_
    refine z_xP zt279 0 2 [some (.int p1)] [.int 2, .int p1] rfl rfl ?_
    refine z_xJ zt279 1 rfl rfl (fun (h59 : p1.toInt = 2) => absurd h59 (by omega)) (fun (h59 : p1.toInt ≠ 2) => ?_)
    refine z_xP zt279 2 7 [some (.int p1)] [.int 3, .int p1] rfl rfl ?_
    refine z_xJ zt279 3 rfl rfl (fun (h60 : p1.toInt ≠ 3) => absurd h60 (by omega)) (fun (h60 : p1.toInt = 3) => ?_)
    refine z_xP zt279 4 25 [some (.int p1)] [.int 1] rfl rfl ?_
    refine z_xri zt279 9 rfl zzr279 ?_
    show z_ev (d + 4) 277 89 [some (.ref 19), some (.int p1), some (.int p2)] [.int 1, .ref 19] M0 _
    refine z_xP zt277 28 90 [some (.ref 19), some (.int p1), some (.int p2)] [.int p2, .int 1, .ref 19] rfl rfl ?_
    have f19 : T[19]? = some (.inl (12, 0, 0, 0, 0)) := X.1.k rfl (by decide)
    obtain ⟨d61, hdd61⟩ : ∃ e, d = e + 1 := ⟨d - 1, by omega⟩
    subst hdd61
    refine z_xcV (vs := [.ref 19, .int 1, .int p2]) (r := []) (L2 := [some (.ref 19), some (.int 1), some (.int p2)]) zt277 29 rfl zo277 zzcV12_393 (Or.inl rfl) rfl X f19 rfl rfl rfl (Nat.le_of_ble_eq_true rfl) zzm277 (Nat.le_of_ble_eq_true rfl) rfl ?_
    have q1 : ((1 : Int32)).toInt = 1 := rfl
    have h62 := z_b32 p2
    refine ih277 X.1 (by decide) hz0 ⟨by omega, by omega⟩ (by omega) (by omega) (by omega) (fun x70 M63 X64 z65 h66 h67 h68 h69 => ?_)
    have X71 := X.go X64 (z_sb (by decide))
    show z_ev (d61 + 1 + 4) 277 93 [some (.ref 19), some (.int p1), some (.int p2)] [.int x70] M63 _
    exact z_xri zt277 30 rfl zzr277 (kk x70 M63 X71 z65 h66 ⟨by omega, by omega⟩ (by omega) (by omega))
  by_cases h73 : p1.toInt = 4
  · refine z_xSC zt277 1 (z_sub (k := 4) h73 rfl) 66 rfl rfl ?_
    refine z_xP zt277 17 69 [some (.ref 19), some (.int p1), some (.int p2)] [.int 50, .ref 19] rfl rfl ?_
    have f19 : T[19]? = some (.inl (12, 0, 0, 0, 0)) := X.1.k rfl (by decide)
    refine z_xcV (vs := [.ref 19, .int 50]) (r := []) (L2 := [some (.ref 19), some (.int 50)]) zt277 18 rfl zo277 zzcV12_384 (Or.inl rfl) rfl X f19 rfl rfl rfl (Nat.le_of_ble_eq_true rfl) zzm278 (Nat.le_of_ble_eq_true rfl) rfl ?_
    have q50 : ((50 : Int32)).toInt = 50 := rfl
    have q50 : ((50 : Int32)).toInt = 50 := rfl
    refine zC278 X.1 hz0 ⟨by omega, by omega⟩ (fun M74 X75 z76 h77 h78 h79 => ?_)
    have X80 := X.go X75 (z_sb (by decide))
    show z_ev (d + 4) 277 72 [some (.ref 19), some (.int p1), some (.int p2)] [] M74 _
    refine z_xP zt277 19 74 [some (.ref 19), some (.int p1), some (.int p2)] [.int 4, .ref 19] rfl rfl ?_
    refine z_xcS (vs := [.int 4]) (r := [.ref 19]) (L2 := [some (.int 4)]) zt277 20 rfl zo277 zzcS12_390 (Or.inl rfl) (Nat.le_of_ble_eq_true rfl) rfl rfl (Nat.le_of_ble_eq_true rfl) zzm279 (Nat.le_of_ble_eq_true rfl) rfl ?_
    refine z_xP zt279 0 2 [some (.int 4)] [.int 2, .int 4] rfl rfl ?_
    refine z_xJ zt279 1 rfl rfl (fun (h82 : (4 : Int) = 2) => absurd h82 (by omega)) (fun (h82 : (4 : Int) ≠ 2) => ?_)
    refine z_xP zt279 2 7 [some (.int 4)] [.int 3, .int 4] rfl rfl ?_
    refine z_xJ zt279 3 rfl rfl (fun (h83 : (4 : Int) ≠ 3) => ?_) (fun (h83 : (4 : Int) = 3) => absurd h83 (by omega))
    refine z_xP zt279 5 17 [some (.int 4)] [.int 6, .int 4] rfl rfl ?_
    refine z_xJ zt279 6 rfl rfl (fun (h84 : (4 : Int) ≠ 6) => ?_) (fun (h84 : (4 : Int) = 6) => absurd h84 (by omega))
    refine z_xP zt279 8 25 [some (.int 4)] [.int 0] rfl rfl ?_
    refine z_xri zt279 9 rfl zzr279 ?_
    show z_ev (d + 4) 277 77 [some (.ref 19), some (.int p1), some (.int p2)] [.int 0, .ref 19] M74 _
    refine z_xP zt277 21 78 [some (.ref 19), some (.int p1), some (.int p2)] [.int p2, .int 0, .ref 19] rfl rfl ?_
    obtain ⟨d85, hdd85⟩ : ∃ e, d = e + 1 := ⟨d - 1, by omega⟩
    subst hdd85
    refine z_xcV (vs := [.ref 19, .int 0, .int p2]) (r := []) (L2 := [some (.ref 19), some (.int 0), some (.int p2)]) zt277 22 rfl zo277 zzcV12_393 (Or.inl rfl) rfl X80 f19 rfl rfl rfl (Nat.le_of_ble_eq_true rfl) zzm277 (Nat.le_of_ble_eq_true rfl) rfl ?_
    have q0 : ((0 : Int32)).toInt = 0 := rfl
    have h86 := z_b32 p2
    refine ih277 X80.1 (by decide) h77 ⟨by omega, by omega⟩ (by omega) (by omega) (by omega) (fun x94 M87 X88 z89 h90 h91 h92 h93 => ?_)
    have X95 := X80.go X88 (z_sb (by decide))
    show z_ev (d85 + 1 + 4) 277 81 [some (.ref 19), some (.int p1), some (.int p2)] [.int x94] M87 _
    refine z_xP zt277 23 82 [some (.ref 19), some (.int p1), some (.int p2)] [.int 5, .int x94] rfl rfl ?_
    refine z_xI zt277 24 rfl rfl (P := fun _ => True) (fun (x97 : Int32) _ => ?_) trivial
    exact z_xri zt277 25 rfl zzr277 (kk x97 M87 X95 z89 h90 ⟨by omega, by omega⟩ (by omega) (by omega))
  refine z_xSD zt277 1 rfl rfl (by omega) ?_
  refine z_xP zt277 26 86 [some (.ref 19), some (.int p1), some (.int p2)] [.int p1, .ref 19] rfl rfl ?_
  refine z_xcS (vs := [.int p1]) (r := [.ref 19]) (L2 := [some (.int p1)]) zt277 27 rfl zo277 zzcS12_390 (Or.inl rfl) (Nat.le_of_ble_eq_true rfl) rfl rfl (Nat.le_of_ble_eq_true rfl) zzm279 (Nat.le_of_ble_eq_true rfl) rfl ?_
  refine z_xP zt279 0 2 [some (.int p1)] [.int 2, .int p1] rfl rfl ?_
  refine z_xJ zt279 1 rfl rfl (fun (h99 : p1.toInt = 2) => absurd h99 (by omega)) (fun (h99 : p1.toInt ≠ 2) => ?_)
  refine z_xP zt279 2 7 [some (.int p1)] [.int 3, .int p1] rfl rfl ?_
  refine z_xJ zt279 3 rfl rfl (fun (h100 : p1.toInt ≠ 3) => ?_) (fun (h100 : p1.toInt = 3) => absurd h100 (by omega))
  refine z_xP zt279 5 17 [some (.int p1)] [.int 6, .int p1] rfl rfl ?_
  refine z_xJ zt279 6 rfl rfl (fun (h101 : p1.toInt ≠ 6) => ?_) (fun (h101 : p1.toInt = 6) => ?_)
  · skip
    refine z_xP zt279 8 25 [some (.int p1)] [.int 0] rfl rfl ?_
    refine z_xri zt279 9 rfl zzr279 ?_
    show z_ev (d + 4) 277 89 [some (.ref 19), some (.int p1), some (.int p2)] [.int 0, .ref 19] M0 _
    refine z_xP zt277 28 90 [some (.ref 19), some (.int p1), some (.int p2)] [.int p2, .int 0, .ref 19] rfl rfl ?_
    have f19 : T[19]? = some (.inl (12, 0, 0, 0, 0)) := X.1.k rfl (by decide)
    obtain ⟨d102, hdd102⟩ : ∃ e, d = e + 1 := ⟨d - 1, by omega⟩
    subst hdd102
    refine z_xcV (vs := [.ref 19, .int 0, .int p2]) (r := []) (L2 := [some (.ref 19), some (.int 0), some (.int p2)]) zt277 29 rfl zo277 zzcV12_393 (Or.inl rfl) rfl X f19 rfl rfl rfl (Nat.le_of_ble_eq_true rfl) zzm277 (Nat.le_of_ble_eq_true rfl) rfl ?_
    have q0 : ((0 : Int32)).toInt = 0 := rfl
    have h103 := z_b32 p2
    refine ih277 X.1 (by decide) hz0 ⟨by omega, by omega⟩ (by omega) (by omega) (by omega) (fun x111 M104 X105 z106 h107 h108 h109 h110 => ?_)
    have X112 := X.go X105 (z_sb (by decide))
    show z_ev (d102 + 1 + 4) 277 93 [some (.ref 19), some (.int p1), some (.int p2)] [.int x111] M104 _
    exact z_xri zt277 30 rfl zzr277 (kk x111 M104 X112 z106 h107 ⟨by omega, by omega⟩ (by omega) (by omega))
  refine z_xP zt279 7 25 [some (.int p1)] [.int 5] rfl rfl ?_
  refine z_xri zt279 9 rfl zzr279 ?_
  show z_ev (d + 4) 277 89 [some (.ref 19), some (.int p1), some (.int p2)] [.int 5, .ref 19] M0 _
  refine z_xP zt277 28 90 [some (.ref 19), some (.int p1), some (.int p2)] [.int p2, .int 5, .ref 19] rfl rfl ?_
  have f19 : T[19]? = some (.inl (12, 0, 0, 0, 0)) := X.1.k rfl (by decide)
  obtain ⟨d114, hdd114⟩ : ∃ e, d = e + 1 := ⟨d - 1, by omega⟩
  subst hdd114
  refine z_xcV (vs := [.ref 19, .int 5, .int p2]) (r := []) (L2 := [some (.ref 19), some (.int 5), some (.int p2)]) zt277 29 rfl zo277 zzcV12_393 (Or.inl rfl) rfl X f19 rfl rfl rfl (Nat.le_of_ble_eq_true rfl) zzm277 (Nat.le_of_ble_eq_true rfl) rfl ?_
  have q5 : ((5 : Int32)).toInt = 5 := rfl
  have h115 := z_b32 p2
  refine ih277 X.1 (by decide) hz0 ⟨by omega, by omega⟩ (by omega) (by omega) (by omega) (fun x123 M116 X117 z118 h119 h120 h121 h122 => ?_)
  have X124 := X.go X117 (z_sb (by decide))
  show z_ev (d114 + 1 + 4) 277 93 [some (.ref 19), some (.int p1), some (.int p2)] [.int x123] M116 _
  exact z_xri zt277 30 rfl zzr277 (kk x123 M116 X124 z118 h119 ⟨by omega, by omega⟩ (by omega) (by omega))
theorem zR277 {T : List zK} : ∀ N : Nat, zQ277 T N := by
  intro N
  induction N with
  | zero => exact (by unfold zQ277; intros; exfalso; omega)
  | succ N ih =>
      intro d K p1 p2 zp0 M0 hW u1 hz0 bz0 hb0 hm hd kk
      exact zC277r hW u1 hz0 bz0 hb0 ih (by omega) hd kk
theorem zC277 {T : List zK} {d : Nat} {K : Option Value → zH → Prop} {p1 : Int32} {p2 : Int32} {zp0 : Int32} {M0 : zH} (hW : z_W M0 T) (u1 : 0 ≤ p1.toInt ∧ p1.toInt ≤ 7) (hz0 : z_F M0 19 47 = some (.int zp0)) (bz0 : 0 ≤ zp0.toInt ∧ zp0.toInt ≤ 1000000) (hb0 : zp0.toInt + 2 * p1.toInt ≤ 900000) (kk : ∀ (x : Int32) (M1 : zH), z_X T zw277 M0 M1 → ∀ (w0 : Int32), z_F M1 19 47 = some (.int w0) → 0 ≤ w0.toInt ∧ w0.toInt ≤ 2000000 → zp0.toInt ≤ w0.toInt → w0.toInt ≤ zp0.toInt + 1 * p1.toInt + 1 → K (some (.int x)) M1) : z_ev (d + 11) 277 0 [some (.ref 19), some (.int p1), some (.int p2)] [] M0 K := by
  have h : zQ277 T 8 := zR277 8
  unfold zQ277 at h
  exact h (d := d + 7) (K := K) hW u1 hz0 bz0 hb0 (by omega) (by omega) kk
def zw280 : List Nat := [48, 2247]
def zQ280 (T : List zK) (N : Nat) : Prop := ∀ {d : Nat} {K : Option Value → zH → Prop} {p1 : Int32} {p2 : Int32} {zp0 : Int32}  {M0 : zH} (hW : z_W M0 T) (u1 : 0 ≤ p1.toInt ∧ p1.toInt ≤ 7) (hz0 : z_F M0 19 47 = some (.int zp0)) (bz0 : 0 ≤ zp0.toInt ∧ zp0.toInt ≤ 1000000) (hb0 : zp0.toInt + 20 * p1.toInt ≤ 500000) (hm : p1.toInt < (N : Int)) (hd : p1.toInt ≤ (d : Int)) (kk : ∀ (x : Int32) (M1 : zH), z_X T zw280 M0 M1 → ∀ (w0 : Int32), z_F M1 19 47 = some (.int w0) → 0 ≤ w0.toInt ∧ w0.toInt ≤ 2000000 → zp0.toInt ≤ w0.toInt → w0.toInt ≤ zp0.toInt + 9 * p1.toInt + 10 → K (some (.int x)) M1), z_ev (d + 16) 280 0 [some (.ref 19), some (.int p1), some (.int p2), none] [] M0 K
theorem zC280r {T : List zK} {d : Nat} {K : Option Value → zH → Prop} {p1 : Int32} {p2 : Int32} {zp0 : Int32} {N : Nat} {M0 : zH} (hW : z_W M0 T) (u1 : 0 ≤ p1.toInt ∧ p1.toInt ≤ 7) (hz0 : z_F M0 19 47 = some (.int zp0)) (bz0 : 0 ≤ zp0.toInt ∧ zp0.toInt ≤ 1000000) (hb0 : zp0.toInt + 20 * p1.toInt ≤ 500000) (ih280 : zQ280 T N) (hm : p1.toInt < (N : Int) + 1) (hd : p1.toInt ≤ (d : Int)) (kk : ∀ (x : Int32) (M1 : zH), z_X T zw280 M0 M1 → ∀ (w0 : Int32), z_F M1 19 47 = some (.int w0) → 0 ≤ w0.toInt ∧ w0.toInt ≤ 2000000 → zp0.toInt ≤ w0.toInt → w0.toInt ≤ zp0.toInt + 9 * p1.toInt + 10 → K (some (.int x)) M1) : z_ev (d + 16) 280 0 [some (.ref 19), some (.int p1), some (.int p2), none] [] M0 K := by
  have X : z_X T zw280 M0 M0 := .refl hW
  refine z_xP zt280 0 1 [some (.ref 19), some (.int p1), some (.int p2), none] [.int p1] rfl rfl ?_
  by_cases h1 : p1.toInt = 0
  · refine z_xSC zt280 1 (z_sub (k := 0) h1 rfl) 44 rfl rfl ?_
    refine z_xP zt280 2 47 [some (.ref 19), some (.int p1), some (.int p2), none] [.int 10, .ref 19] rfl rfl ?_
    have f19 : T[19]? = some (.inl (12, 0, 0, 0, 0)) := X.1.k rfl (by decide)
    refine z_xcV (vs := [.ref 19, .int 10]) (r := []) (L2 := [some (.ref 19), some (.int 10)]) zt280 3 rfl zo280 zzcV12_384 (Or.inl rfl) rfl X f19 rfl rfl rfl (Nat.le_of_ble_eq_true rfl) zzm278 (Nat.le_of_ble_eq_true rfl) rfl ?_
    have q10 : ((10 : Int32)).toInt = 10 := rfl
    have q10 : ((10 : Int32)).toInt = 10 := rfl
    refine zC278 X.1 hz0 ⟨by omega, by omega⟩ (fun M2 X3 z4 h5 h6 h7 => ?_)
    have X8 := X.go X3 (z_sb (by decide))
    show z_ev (d + 16) 280 50 [some (.ref 19), some (.int p1), some (.int p2), none] [] M2 _
    refine z_xP zt280 4 52 [some (.ref 19), some (.int p1), some (.int p2), none] [.ref 19, .ref 19] rfl rfl ?_
    refine z_xgX (b := 36) zt280 5 rfl zo280 zzf12_58 X8 f19 (by decide) (by decide) rfl ?_
    refine z_xP zt280 6 56 [some (.ref 19), some (.int p1), some (.int p2), none] [.ref 19, .ref 36, .ref 19] rfl rfl ?_
    refine z_xgI zt280 7 rfl zo280 zzf12_387 X8 f19 (by decide) (by decide) rfl (fun (x11 : Int32) h10 (h12 : 0 ≤ x11.toInt) (h13 : x11.toInt ≤ 19) => ?_)
    have f36 : T[36]? = some (.inr (36, 0, 20, 0, 7)) := X8.1.k rfl (by decide)
    refine z_xil zt280 8 rfl X8 f36 (by decide) (by omega) (by omega) (fun (x14 : Int32) h15 (h16 : 0 ≤ x14.toInt) (h17 : x14.toInt ≤ 7) => ?_)
    refine z_xP zt280 9 61 [some (.ref 19), some (.int p1), some (.int p2), none] [.int p2, .int x14, .ref 19] rfl rfl ?_
    refine z_xcV (vs := [.ref 19, .int x14, .int p2]) (r := []) (L2 := [some (.ref 19), some (.int x14), some (.int p2)]) zt280 10 rfl zo280 zzcV12_393 (Or.inl rfl) rfl X8 f19 rfl rfl rfl (Nat.le_of_ble_eq_true rfl) zzm277 (Nat.le_of_ble_eq_true rfl) rfl ?_
    refine zC277 X8.1 (by omega) h5 ⟨by omega, by omega⟩ (by omega) (fun x25 M18 X19 z20 h21 h22 h23 h24 => ?_)
    have X26 := X8.go X19 (z_sb (by decide))
    show z_ev (d + 16) 280 64 [some (.ref 19), some (.int p1), some (.int p2), none] [.int x25] M18 _
    refine z_xP zt280 11 65 [some (.ref 19), some (.int p1), some (.int p2), none] [.int 2, .int x25] rfl rfl ?_
    have h28 := z_b32 x25
    refine z_xI zt280 12 rfl rfl (P := fun _ => True) (fun (x29 : Int32) _ => ?_) trivial
    exact z_xri zt280 13 rfl zzr280 (kk x29 M18 X26 z20 h21 ⟨by omega, by omega⟩ (by omega) (by omega))
  by_cases h31 : p1.toInt = 1
  · refine z_xSC zt280 1 (z_sub (k := 1) h31 rfl) 144 rfl rfl ?_
    refine z_xP zt280 50 146 [some (.ref 19), some (.int p1), some (.int p2), none] [.int p1, .ref 19] rfl rfl ?_
    refine z_xcS (vs := [.int p1]) (r := [.ref 19]) (L2 := [some (.int p1)]) zt280 51 rfl zo280 zzcS12_390 (Or.inl rfl) (Nat.le_of_ble_eq_true rfl) rfl rfl (Nat.le_of_ble_eq_true rfl) zzm279 (Nat.le_of_ble_eq_true rfl) rfl ?_
    refine z_xP zt279 0 2 [some (.int p1)] [.int 2, .int p1] rfl rfl ?_
    refine z_xJ zt279 1 rfl rfl (fun (h32 : p1.toInt = 2) => absurd h32 (by omega)) (fun (h32 : p1.toInt ≠ 2) => ?_)
    refine z_xP zt279 2 7 [some (.int p1)] [.int 3, .int p1] rfl rfl ?_
    refine z_xJ zt279 3 rfl rfl (fun (h33 : p1.toInt ≠ 3) => ?_) (fun (h33 : p1.toInt = 3) => absurd h33 (by omega))
    refine z_xP zt279 5 17 [some (.int p1)] [.int 6, .int p1] rfl rfl ?_
    refine z_xJ zt279 6 rfl rfl (fun (h34 : p1.toInt ≠ 6) => ?_) (fun (h34 : p1.toInt = 6) => absurd h34 (by omega))
    refine z_xP zt279 8 25 [some (.int p1)] [.int 0] rfl rfl ?_
    refine z_xri zt279 9 rfl zzr279 ?_
    show z_ev (d + 16) 280 149 [some (.ref 19), some (.int p1), some (.int p2), none] [.int 0, .ref 19] M0 _
    refine z_xP zt280 52 150 [some (.ref 19), some (.int p1), some (.int p2), none] [.int p2, .int 0, .ref 19] rfl rfl ?_
    have f19 : T[19]? = some (.inl (12, 0, 0, 0, 0)) := X.1.k rfl (by decide)
    obtain ⟨d35, hdd35⟩ : ∃ e, d = e + 1 := ⟨d - 1, by omega⟩
    subst hdd35
    refine z_xcV (vs := [.ref 19, .int 0, .int p2]) (r := []) (L2 := [some (.ref 19), some (.int 0), some (.int p2), none]) zt280 53 rfl zo280 zzcV12_396 (Or.inl rfl) rfl X f19 rfl rfl rfl (Nat.le_of_ble_eq_true rfl) zzm280 (Nat.le_of_ble_eq_true rfl) rfl ?_
    have q0 : ((0 : Int32)).toInt = 0 := rfl
    have h36 := z_b32 p2
    refine ih280 X.1 (by decide) hz0 ⟨by omega, by omega⟩ (by omega) (by omega) (by omega) (fun x44 M37 X38 z39 h40 h41 h42 h43 => ?_)
    have X45 := X.go X38 (z_sb (by decide))
    show z_ev (d35 + 1 + 16) 280 153 [some (.ref 19), some (.int p1), some (.int p2), none] [.int x44] M37 _
    exact z_xri zt280 54 rfl zzr280 (kk x44 M37 X45 z39 h40 ⟨by omega, by omega⟩ (by omega) (by omega))
  by_cases h47 : p1.toInt = 2
  · refine z_xSC zt280 1 (z_sub (k := 2) h47 rfl) 67 rfl rfl ?_
    refine z_xP zt280 14 70 [some (.ref 19), some (.int p1), some (.int p2), none] [.int 30, .ref 19] rfl rfl ?_
    have f19 : T[19]? = some (.inl (12, 0, 0, 0, 0)) := X.1.k rfl (by decide)
    refine z_xcV (vs := [.ref 19, .int 30]) (r := []) (L2 := [some (.ref 19), some (.int 30)]) zt280 15 rfl zo280 zzcV12_384 (Or.inl rfl) rfl X f19 rfl rfl rfl (Nat.le_of_ble_eq_true rfl) zzm278 (Nat.le_of_ble_eq_true rfl) rfl ?_
    have q30 : ((30 : Int32)).toInt = 30 := rfl
    have q30 : ((30 : Int32)).toInt = 30 := rfl
    refine zC278 X.1 hz0 ⟨by omega, by omega⟩ (fun M48 X49 z50 h51 h52 h53 => ?_)
    have X54 := X.go X49 (z_sb (by decide))
    show z_ev (d + 16) 280 73 [some (.ref 19), some (.int p1), some (.int p2), none] [] M48 _
    refine z_xP zt280 16 75 [some (.ref 19), some (.int p1), some (.int p2), none] [.int 2, .ref 19] rfl rfl ?_
    refine z_xcS (vs := [.int 2]) (r := [.ref 19]) (L2 := [some (.int 2)]) zt280 17 rfl zo280 zzcS12_390 (Or.inl rfl) (Nat.le_of_ble_eq_true rfl) rfl rfl (Nat.le_of_ble_eq_true rfl) zzm279 (Nat.le_of_ble_eq_true rfl) rfl ?_
    refine z_xP zt279 0 2 [some (.int 2)] [.int 2, .int 2] rfl rfl ?_
    refine z_xJ zt279 1 rfl rfl (fun (h56 : (2 : Int) = 2) => ?_) (fun (h56 : (2 : Int) ≠ 2) => absurd h56 (by omega))
    refine z_xP zt279 4 25 [some (.int 2)] [.int 1] rfl rfl ?_
    refine z_xri zt279 9 rfl zzr279 ?_
    show z_ev (d + 16) 280 78 [some (.ref 19), some (.int p1), some (.int p2), none] [.int 1, .ref 19] M48 _
    refine z_xP zt280 18 79 [some (.ref 19), some (.int p1), some (.int p2), none] [.int p2, .int 1, .ref 19] rfl rfl ?_
    obtain ⟨d57, hdd57⟩ : ∃ e, d = e + 1 := ⟨d - 1, by omega⟩
    subst hdd57
    refine z_xcV (vs := [.ref 19, .int 1, .int p2]) (r := []) (L2 := [some (.ref 19), some (.int 1), some (.int p2), none]) zt280 19 rfl zo280 zzcV12_396 (Or.inl rfl) rfl X54 f19 rfl rfl rfl (Nat.le_of_ble_eq_true rfl) zzm280 (Nat.le_of_ble_eq_true rfl) rfl ?_
    have q1 : ((1 : Int32)).toInt = 1 := rfl
    have h58 := z_b32 p2
    refine ih280 X54.1 (by decide) h51 ⟨by omega, by omega⟩ (by omega) (by omega) (by omega) (fun x66 M59 X60 z61 h62 h63 h64 h65 => ?_)
    have X67 := X54.go X60 (z_sb (by decide))
    show z_ev (d57 + 1 + 16) 280 82 [some (.ref 19), some (.int p1), some (.int p2), none] [.int x66] M59 _
    refine z_xP zt280 20 86 [some (.ref 19), some (.int p1), some (.int p2), some (.int x66)] [.ref 19, .ref 19, .int x66] rfl rfl ?_
    refine z_xgX (b := 36) zt280 21 rfl zo280 zzf12_58 X67 f19 (by decide) (by decide) rfl ?_
    refine z_xP zt280 22 90 [some (.ref 19), some (.int p1), some (.int p2), some (.int x66)] [.ref 19, .ref 36, .ref 19, .int x66] rfl rfl ?_
    refine z_xgI zt280 23 rfl zo280 zzf12_387 X67 f19 (by decide) (by decide) rfl (fun (x70 : Int32) h69 (h71 : 0 ≤ x70.toInt) (h72 : x70.toInt ≤ 19) => ?_)
    have f36 : T[36]? = some (.inr (36, 0, 20, 0, 7)) := X67.1.k rfl (by decide)
    refine z_xil zt280 24 rfl X67 f36 (by decide) (by omega) (by omega) (fun (x73 : Int32) h74 (h75 : 0 ≤ x73.toInt) (h76 : x73.toInt ≤ 7) => ?_)
    refine z_xP zt280 25 95 [some (.ref 19), some (.int p1), some (.int p2), some (.int x66)] [.int 2, .int x73, .ref 19, .int x66] rfl rfl ?_
    refine z_xcV (vs := [.ref 19, .int x73, .int 2]) (r := [.int x66]) (L2 := [some (.ref 19), some (.int x73), some (.int 2)]) zt280 26 rfl zo280 zzcV12_393 (Or.inl rfl) rfl X67 f19 rfl rfl rfl (Nat.le_of_ble_eq_true rfl) zzm277 (Nat.le_of_ble_eq_true rfl) rfl ?_
    have q2 : ((2 : Int32)).toInt = 2 := rfl
    have q2 : ((2 : Int32)).toInt = 2 := rfl
    refine zC277 X67.1 (by omega) h62 ⟨by omega, by omega⟩ (by omega) (fun x84 M77 X78 z79 h80 h81 h82 h83 => ?_)
    have X85 := X67.go X78 (z_sb (by decide))
    show z_ev (d57 + 1 + 16) 280 98 [some (.ref 19), some (.int p1), some (.int p2), some (.int x66)] [.int x84, .int x66] M77 _
    have h87 := z_b32 x66
    have h88 := z_b32 x84
    refine z_xI zt280 27 rfl rfl (P := fun _ => True) (fun (x89 : Int32) _ => ?_) trivial
    exact z_xri zt280 28 rfl zzr280 (kk x89 M77 X85 z79 h80 ⟨by omega, by omega⟩ (by omega) (by omega))
  by_cases h91 : p1.toInt = 3
  · refine z_xSC zt280 1 (z_sub (k := 3) h91 rfl) 144 rfl rfl ?_
    refine z_xP zt280 50 146 [some (.ref 19), some (.int p1), some (.int p2), none] [.int p1, .ref 19] rfl rfl ?_
    refine z_xcS (vs := [.int p1]) (r := [.ref 19]) (L2 := [some (.int p1)]) zt280 51 rfl zo280 zzcS12_390 (Or.inl rfl) (Nat.le_of_ble_eq_true rfl) rfl rfl (Nat.le_of_ble_eq_true rfl) zzm279 (Nat.le_of_ble_eq_true rfl) rfl ?_
    refine z_xP zt279 0 2 [some (.int p1)] [.int 2, .int p1] rfl rfl ?_
    refine z_xJ zt279 1 rfl rfl (fun (h92 : p1.toInt = 2) => absurd h92 (by omega)) (fun (h92 : p1.toInt ≠ 2) => ?_)
    refine z_xP zt279 2 7 [some (.int p1)] [.int 3, .int p1] rfl rfl ?_
    refine z_xJ zt279 3 rfl rfl (fun (h93 : p1.toInt ≠ 3) => absurd h93 (by omega)) (fun (h93 : p1.toInt = 3) => ?_)
    refine z_xP zt279 4 25 [some (.int p1)] [.int 1] rfl rfl ?_
    refine z_xri zt279 9 rfl zzr279 ?_
    show z_ev (d + 16) 280 149 [some (.ref 19), some (.int p1), some (.int p2), none] [.int 1, .ref 19] M0 _
    refine z_xP zt280 52 150 [some (.ref 19), some (.int p1), some (.int p2), none] [.int p2, .int 1, .ref 19] rfl rfl ?_
    have f19 : T[19]? = some (.inl (12, 0, 0, 0, 0)) := X.1.k rfl (by decide)
    obtain ⟨d94, hdd94⟩ : ∃ e, d = e + 1 := ⟨d - 1, by omega⟩
    subst hdd94
    refine z_xcV (vs := [.ref 19, .int 1, .int p2]) (r := []) (L2 := [some (.ref 19), some (.int 1), some (.int p2), none]) zt280 53 rfl zo280 zzcV12_396 (Or.inl rfl) rfl X f19 rfl rfl rfl (Nat.le_of_ble_eq_true rfl) zzm280 (Nat.le_of_ble_eq_true rfl) rfl ?_
    have q1 : ((1 : Int32)).toInt = 1 := rfl
    have h95 := z_b32 p2
    refine ih280 X.1 (by decide) hz0 ⟨by omega, by omega⟩ (by omega) (by omega) (by omega) (fun x103 M96 X97 z98 h99 h100 h101 h102 => ?_)
    have X104 := X.go X97 (z_sb (by decide))
    show z_ev (d94 + 1 + 16) 280 153 [some (.ref 19), some (.int p1), some (.int p2), none] [.int x103] M96 _
    exact z_xri zt280 54 rfl zzr280 (kk x103 M96 X104 z98 h99 ⟨by omega, by omega⟩ (by omega) (by omega))
  by_cases h106 : p1.toInt = 4
  · refine z_xSC zt280 1 (z_sub (k := 4) h106 rfl) 144 rfl rfl ?_
    refine z_xP zt280 50 146 [some (.ref 19), some (.int p1), some (.int p2), none] [.int p1, .ref 19] rfl rfl ?_
    refine z_xcS (vs := [.int p1]) (r := [.ref 19]) (L2 := [some (.int p1)]) zt280 51 rfl zo280 zzcS12_390 (Or.inl rfl) (Nat.le_of_ble_eq_true rfl) rfl rfl (Nat.le_of_ble_eq_true rfl) zzm279 (Nat.le_of_ble_eq_true rfl) rfl ?_
    refine z_xP zt279 0 2 [some (.int p1)] [.int 2, .int p1] rfl rfl ?_
    refine z_xJ zt279 1 rfl rfl (fun (h107 : p1.toInt = 2) => absurd h107 (by omega)) (fun (h107 : p1.toInt ≠ 2) => ?_)
    refine z_xP zt279 2 7 [some (.int p1)] [.int 3, .int p1] rfl rfl ?_
    refine z_xJ zt279 3 rfl rfl (fun (h108 : p1.toInt ≠ 3) => ?_) (fun (h108 : p1.toInt = 3) => absurd h108 (by omega))
    refine z_xP zt279 5 17 [some (.int p1)] [.int 6, .int p1] rfl rfl ?_
    refine z_xJ zt279 6 rfl rfl (fun (h109 : p1.toInt ≠ 6) => ?_) (fun (h109 : p1.toInt = 6) => absurd h109 (by omega))
    refine z_xP zt279 8 25 [some (.int p1)] [.int 0] rfl rfl ?_
    refine z_xri zt279 9 rfl zzr279 ?_
    show z_ev (d + 16) 280 149 [some (.ref 19), some (.int p1), some (.int p2), none] [.int 0, .ref 19] M0 _
    refine z_xP zt280 52 150 [some (.ref 19), some (.int p1), some (.int p2), none] [.int p2, .int 0, .ref 19] rfl rfl ?_
    have f19 : T[19]? = some (.inl (12, 0, 0, 0, 0)) := X.1.k rfl (by decide)
    obtain ⟨d110, hdd110⟩ : ∃ e, d = e + 1 := ⟨d - 1, by omega⟩
    subst hdd110
    refine z_xcV (vs := [.ref 19, .int 0, .int p2]) (r := []) (L2 := [some (.ref 19), some (.int 0), some (.int p2), none]) zt280 53 rfl zo280 zzcV12_396 (Or.inl rfl) rfl X f19 rfl rfl rfl (Nat.le_of_ble_eq_true rfl) zzm280 (Nat.le_of_ble_eq_true rfl) rfl ?_
    have q0 : ((0 : Int32)).toInt = 0 := rfl
    have h111 := z_b32 p2
    refine ih280 X.1 (by decide) hz0 ⟨by omega, by omega⟩ (by omega) (by omega) (by omega) (fun x119 M112 X113 z114 h115 h116 h117 h118 => ?_)
    have X120 := X.go X113 (z_sb (by decide))
    show z_ev (d110 + 1 + 16) 280 153 [some (.ref 19), some (.int p1), some (.int p2), none] [.int x119] M112 _
    exact z_xri zt280 54 rfl zzr280 (kk x119 M112 X120 z114 h115 ⟨by omega, by omega⟩ (by omega) (by omega))
  by_cases h122 : p1.toInt = 5
  · refine z_xSC zt280 1 (z_sub (k := 5) h122 rfl) 100 rfl rfl ?_
    refine z_xP zt280 29 103 [some (.ref 19), some (.int p1), some (.int p2), none] [.int 60, .ref 19] rfl rfl ?_
    have f19 : T[19]? = some (.inl (12, 0, 0, 0, 0)) := X.1.k rfl (by decide)
    refine z_xcV (vs := [.ref 19, .int 60]) (r := []) (L2 := [some (.ref 19), some (.int 60)]) zt280 30 rfl zo280 zzcV12_384 (Or.inl rfl) rfl X f19 rfl rfl rfl (Nat.le_of_ble_eq_true rfl) zzm278 (Nat.le_of_ble_eq_true rfl) rfl ?_
    have q60 : ((60 : Int32)).toInt = 60 := rfl
    have q60 : ((60 : Int32)).toInt = 60 := rfl
    refine zC278 X.1 hz0 ⟨by omega, by omega⟩ (fun M123 X124 z125 h126 h127 h128 => ?_)
    have X129 := X.go X124 (z_sb (by decide))
    show z_ev (d + 16) 280 106 [some (.ref 19), some (.int p1), some (.int p2), none] [] M123 _
    refine z_xP zt280 31 108 [some (.ref 19), some (.int p1), some (.int p2), none] [.int 5, .ref 19] rfl rfl ?_
    refine z_xcS (vs := [.int 5]) (r := [.ref 19]) (L2 := [some (.int 5)]) zt280 32 rfl zo280 zzcS12_390 (Or.inl rfl) (Nat.le_of_ble_eq_true rfl) rfl rfl (Nat.le_of_ble_eq_true rfl) zzm279 (Nat.le_of_ble_eq_true rfl) rfl ?_
    refine z_xP zt279 0 2 [some (.int 5)] [.int 2, .int 5] rfl rfl ?_
    refine z_xJ zt279 1 rfl rfl (fun (h131 : (5 : Int) = 2) => absurd h131 (by omega)) (fun (h131 : (5 : Int) ≠ 2) => ?_)
    refine z_xP zt279 2 7 [some (.int 5)] [.int 3, .int 5] rfl rfl ?_
    refine z_xJ zt279 3 rfl rfl (fun (h132 : (5 : Int) ≠ 3) => ?_) (fun (h132 : (5 : Int) = 3) => absurd h132 (by omega))
    refine z_xP zt279 5 17 [some (.int 5)] [.int 6, .int 5] rfl rfl ?_
    refine z_xJ zt279 6 rfl rfl (fun (h133 : (5 : Int) ≠ 6) => ?_) (fun (h133 : (5 : Int) = 6) => absurd h133 (by omega))
    refine z_xP zt279 8 25 [some (.int 5)] [.int 0] rfl rfl ?_
    refine z_xri zt279 9 rfl zzr279 ?_
    show z_ev (d + 16) 280 111 [some (.ref 19), some (.int p1), some (.int p2), none] [.int 0, .ref 19] M123 _
    refine z_xP zt280 33 112 [some (.ref 19), some (.int p1), some (.int p2), none] [.int p2, .int 0, .ref 19] rfl rfl ?_
    obtain ⟨d134, hdd134⟩ : ∃ e, d = e + 1 := ⟨d - 1, by omega⟩
    subst hdd134
    refine z_xcV (vs := [.ref 19, .int 0, .int p2]) (r := []) (L2 := [some (.ref 19), some (.int 0), some (.int p2), none]) zt280 34 rfl zo280 zzcV12_396 (Or.inl rfl) rfl X129 f19 rfl rfl rfl (Nat.le_of_ble_eq_true rfl) zzm280 (Nat.le_of_ble_eq_true rfl) rfl ?_
    have q0 : ((0 : Int32)).toInt = 0 := rfl
    have h135 := z_b32 p2
    refine ih280 X129.1 (by decide) h126 ⟨by omega, by omega⟩ (by omega) (by omega) (by omega) (fun x143 M136 X137 z138 h139 h140 h141 h142 => ?_)
    have X144 := X129.go X137 (z_sb (by decide))
    show z_ev (d134 + 1 + 16) 280 115 [some (.ref 19), some (.int p1), some (.int p2), none] [.int x143] M136 _
    have h146 := z_b32 x143
    refine z_xI zt280 35 rfl rfl (P := fun _ => True) (fun (x147 : Int32) _ => ?_) trivial
    exact z_xri zt280 36 rfl zzr280 (kk x147 M136 X144 z138 h139 ⟨by omega, by omega⟩ (by omega) (by omega))
  by_cases h149 : p1.toInt = 6
  · refine z_xSC zt280 1 (z_sub (k := 6) h149 rfl) 117 rfl rfl ?_
    refine z_xP zt280 37 120 [some (.ref 19), some (.int p1), some (.int p2), none] [.int 71, .ref 19] rfl rfl ?_
    have f19 : T[19]? = some (.inl (12, 0, 0, 0, 0)) := X.1.k rfl (by decide)
    refine z_xcV (vs := [.ref 19, .int 71]) (r := []) (L2 := [some (.ref 19), some (.int 71)]) zt280 38 rfl zo280 zzcV12_384 (Or.inl rfl) rfl X f19 rfl rfl rfl (Nat.le_of_ble_eq_true rfl) zzm278 (Nat.le_of_ble_eq_true rfl) rfl ?_
    have q71 : ((71 : Int32)).toInt = 71 := rfl
    have q71 : ((71 : Int32)).toInt = 71 := rfl
    refine zC278 X.1 hz0 ⟨by omega, by omega⟩ (fun M150 X151 z152 h153 h154 h155 => ?_)
    have X156 := X.go X151 (z_sb (by decide))
    show z_ev (d + 16) 280 123 [some (.ref 19), some (.int p1), some (.int p2), none] [] M150 _
    refine z_xP zt280 39 126 [some (.ref 19), some (.int p1), some (.int p2), none] [.int 6, .ref 19] rfl rfl ?_
    refine z_xcS (vs := [.int 6]) (r := [.ref 19]) (L2 := [some (.int 6)]) zt280 40 rfl zo280 zzcS12_390 (Or.inl rfl) (Nat.le_of_ble_eq_true rfl) rfl rfl (Nat.le_of_ble_eq_true rfl) zzm279 (Nat.le_of_ble_eq_true rfl) rfl ?_
    refine z_xP zt279 0 2 [some (.int 6)] [.int 2, .int 6] rfl rfl ?_
    refine z_xJ zt279 1 rfl rfl (fun (h158 : (6 : Int) = 2) => absurd h158 (by omega)) (fun (h158 : (6 : Int) ≠ 2) => ?_)
    refine z_xP zt279 2 7 [some (.int 6)] [.int 3, .int 6] rfl rfl ?_
    refine z_xJ zt279 3 rfl rfl (fun (h159 : (6 : Int) ≠ 3) => ?_) (fun (h159 : (6 : Int) = 3) => absurd h159 (by omega))
    refine z_xP zt279 5 17 [some (.int 6)] [.int 6, .int 6] rfl rfl ?_
    refine z_xJ zt279 6 rfl rfl (fun (h160 : (6 : Int) ≠ 6) => absurd h160 (by omega)) (fun (h160 : (6 : Int) = 6) => ?_)
    refine z_xP zt279 7 25 [some (.int 6)] [.int 5] rfl rfl ?_
    refine z_xri zt279 9 rfl zzr279 ?_
    show z_ev (d + 16) 280 129 [some (.ref 19), some (.int p1), some (.int p2), none] [.int 5, .ref 19] M150 _
    refine z_xP zt280 41 130 [some (.ref 19), some (.int p1), some (.int p2), none] [.int p2, .int 5, .ref 19] rfl rfl ?_
    obtain ⟨d161, hdd161⟩ : ∃ e, d = e + 1 := ⟨d - 1, by omega⟩
    subst hdd161
    refine z_xcV (vs := [.ref 19, .int 5, .int p2]) (r := []) (L2 := [some (.ref 19), some (.int 5), some (.int p2), none]) zt280 42 rfl zo280 zzcV12_396 (Or.inl rfl) rfl X156 f19 rfl rfl rfl (Nat.le_of_ble_eq_true rfl) zzm280 (Nat.le_of_ble_eq_true rfl) rfl ?_
    have q5 : ((5 : Int32)).toInt = 5 := rfl
    have h162 := z_b32 p2
    refine ih280 X156.1 (by decide) h153 ⟨by omega, by omega⟩ (by omega) (by omega) (by omega) (fun x170 M163 X164 z165 h166 h167 h168 h169 => ?_)
    have X171 := X156.go X164 (z_sb (by decide))
    show z_ev (d161 + 1 + 16) 280 133 [some (.ref 19), some (.int p1), some (.int p2), none] [.int x170] M163 _
    refine z_xP zt280 43 134 [some (.ref 19), some (.int p1), some (.int p2), none] [.ref 19, .int x170] rfl rfl ?_
    refine z_xgX (b := 38) zt280 44 rfl zo280 zzf12_64 X171 f19 (by decide) (by decide) rfl ?_
    refine z_xP zt280 45 138 [some (.ref 19), some (.int p1), some (.int p2), none] [.ref 19, .ref 38, .int x170] rfl rfl ?_
    refine z_xgI zt280 46 rfl zo280 zzf12_387 X171 f19 (by decide) (by decide) rfl (fun (x174 : Int32) h173 (h175 : 0 ≤ x174.toInt) (h176 : x174.toInt ≤ 19) => ?_)
    have f38 : T[38]? = some (.inr (38, 0, 20, 0, 8)) := X171.1.k rfl (by decide)
    refine z_xil zt280 47 rfl X171 f38 (by decide) (by omega) (by omega) (fun (x177 : Int32) h178 (h179 : 0 ≤ x177.toInt) (h180 : x177.toInt ≤ 8) => ?_)
    have h181 := z_b32 x170
    refine z_xI zt280 48 rfl rfl (P := fun _ => True) (fun (x182 : Int32) _ => ?_) trivial
    exact z_xri zt280 49 rfl zzr280 (kk x182 M163 X171 z165 h166 ⟨by omega, by omega⟩ (by omega) (by omega))
  refine z_xSD zt280 1 rfl rfl (by omega) ?_
  refine z_xP zt280 50 146 [some (.ref 19), some (.int p1), some (.int p2), none] [.int p1, .ref 19] rfl rfl ?_
  refine z_xcS (vs := [.int p1]) (r := [.ref 19]) (L2 := [some (.int p1)]) zt280 51 rfl zo280 zzcS12_390 (Or.inl rfl) (Nat.le_of_ble_eq_true rfl) rfl rfl (Nat.le_of_ble_eq_true rfl) zzm279 (Nat.le_of_ble_eq_true rfl) rfl ?_
  refine z_xP zt279 0 2 [some (.int p1)] [.int 2, .int p1] rfl rfl ?_
  refine z_xJ zt279 1 rfl rfl (fun (h184 : p1.toInt = 2) => absurd h184 (by omega)) (fun (h184 : p1.toInt ≠ 2) => ?_)
  refine z_xP zt279 2 7 [some (.int p1)] [.int 3, .int p1] rfl rfl ?_
  refine z_xJ zt279 3 rfl rfl (fun (h185 : p1.toInt ≠ 3) => ?_) (fun (h185 : p1.toInt = 3) => absurd h185 (by omega))
  refine z_xP zt279 5 17 [some (.int p1)] [.int 6, .int p1] rfl rfl ?_
  refine z_xJ zt279 6 rfl rfl (fun (h186 : p1.toInt ≠ 6) => ?_) (fun (h186 : p1.toInt = 6) => absurd h186 (by omega))
  refine z_xP zt279 8 25 [some (.int p1)] [.int 0] rfl rfl ?_
  refine z_xri zt279 9 rfl zzr279 ?_
  show z_ev (d + 16) 280 149 [some (.ref 19), some (.int p1), some (.int p2), none] [.int 0, .ref 19] M0 _
  refine z_xP zt280 52 150 [some (.ref 19), some (.int p1), some (.int p2), none] [.int p2, .int 0, .ref 19] rfl rfl ?_
  have f19 : T[19]? = some (.inl (12, 0, 0, 0, 0)) := X.1.k rfl (by decide)
  obtain ⟨d187, hdd187⟩ : ∃ e, d = e + 1 := ⟨d - 1, by omega⟩
  subst hdd187
  refine z_xcV (vs := [.ref 19, .int 0, .int p2]) (r := []) (L2 := [some (.ref 19), some (.int 0), some (.int p2), none]) zt280 53 rfl zo280 zzcV12_396 (Or.inl rfl) rfl X f19 rfl rfl rfl (Nat.le_of_ble_eq_true rfl) zzm280 (Nat.le_of_ble_eq_true rfl) rfl ?_
  have q0 : ((0 : Int32)).toInt = 0 := rfl
  have h188 := z_b32 p2
  refine ih280 X.1 (by decide) hz0 ⟨by omega, by omega⟩ (by omega) (by omega) (by omega) (fun x196 M189 X190 z191 h192 h193 h194 h195 => ?_)
  have X197 := X.go X190 (z_sb (by decide))
  show z_ev (d187 + 1 + 16) 280 153 [some (.ref 19), some (.int p1), some (.int p2), none] [.int x196] M189 _
  exact z_xri zt280 54 rfl zzr280 (kk x196 M189 X197 z191 h192 ⟨by omega, by omega⟩ (by omega) (by omega))
theorem zR280 {T : List zK} : ∀ N : Nat, zQ280 T N := by
  intro N
  induction N with
  | zero => exact (by unfold zQ280; intros; exfalso; omega)
  | succ N ih =>
      intro d K p1 p2 zp0 M0 hW u1 hz0 bz0 hb0 hm hd kk
      exact zC280r hW u1 hz0 bz0 hb0 ih (by omega) hd kk
theorem zC280 {T : List zK} {d : Nat} {K : Option Value → zH → Prop} {p1 : Int32} {p2 : Int32} {zp0 : Int32} {M0 : zH} (hW : z_W M0 T) (u1 : 0 ≤ p1.toInt ∧ p1.toInt ≤ 7) (hz0 : z_F M0 19 47 = some (.int zp0)) (bz0 : 0 ≤ zp0.toInt ∧ zp0.toInt ≤ 1000000) (hb0 : zp0.toInt + 20 * p1.toInt ≤ 500000) (kk : ∀ (x : Int32) (M1 : zH), z_X T zw280 M0 M1 → ∀ (w0 : Int32), z_F M1 19 47 = some (.int w0) → 0 ≤ w0.toInt ∧ w0.toInt ≤ 2000000 → zp0.toInt ≤ w0.toInt → w0.toInt ≤ zp0.toInt + 9 * p1.toInt + 10 → K (some (.int x)) M1) : z_ev (d + 23) 280 0 [some (.ref 19), some (.int p1), some (.int p2), none] [] M0 K := by
  have h : zQ280 T 8 := zR280 8
  unfold zQ280 at h
  exact h (d := d + 7) (K := K) hW u1 hz0 bz0 hb0 (by omega) (by omega) kk
def zw281 : List Nat := [48, 2247]
def zQ281 (T : List zK) (N : Nat) : Prop := ∀ {d : Nat} {K : Option Value → zH → Prop} {p1 : Int32} {p2 : Int32} {zp0 : Int32}  {M0 : zH} (hW : z_W M0 T) (u1 : 0 ≤ p1.toInt ∧ p1.toInt ≤ 7) (hz0 : z_F M0 19 47 = some (.int zp0)) (bz0 : 0 ≤ zp0.toInt ∧ zp0.toInt ≤ 1000000) (hb0 : zp0.toInt + 2 * p1.toInt ≤ 500000) (hm : p1.toInt < (N : Int)) (hd : p1.toInt ≤ (d : Int)) (kk : ∀ (x : Int32) (M1 : zH), z_X T zw281 M0 M1 → ∀ (w0 : Int32), z_F M1 19 47 = some (.int w0) → 0 ≤ w0.toInt ∧ w0.toInt ≤ 2000000 → zp0.toInt ≤ w0.toInt → w0.toInt ≤ zp0.toInt + 1 * p1.toInt + 1 → K (some (.int x)) M1), z_ev (d + 4) 281 0 [some (.ref 19), some (.int p1), some (.int p2)] [] M0 K
theorem zC281r {T : List zK} {d : Nat} {K : Option Value → zH → Prop} {p1 : Int32} {p2 : Int32} {zp0 : Int32} {N : Nat} {M0 : zH} (hW : z_W M0 T) (u1 : 0 ≤ p1.toInt ∧ p1.toInt ≤ 7) (hz0 : z_F M0 19 47 = some (.int zp0)) (bz0 : 0 ≤ zp0.toInt ∧ zp0.toInt ≤ 1000000) (hb0 : zp0.toInt + 2 * p1.toInt ≤ 500000) (ih281 : zQ281 T N) (hm : p1.toInt < (N : Int) + 1) (hd : p1.toInt ≤ (d : Int)) (kk : ∀ (x : Int32) (M1 : zH), z_X T zw281 M0 M1 → ∀ (w0 : Int32), z_F M1 19 47 = some (.int w0) → 0 ≤ w0.toInt ∧ w0.toInt ≤ 2000000 → zp0.toInt ≤ w0.toInt → w0.toInt ≤ zp0.toInt + 1 * p1.toInt + 1 → K (some (.int x)) M1) : z_ev (d + 4) 281 0 [some (.ref 19), some (.int p1), some (.int p2)] [] M0 K := by
  have X : z_X T zw281 M0 M0 := .refl hW
  refine z_xP zt281 0 1 [some (.ref 19), some (.int p1), some (.int p2)] [.int p1] rfl rfl ?_
  by_cases h1 : p1.toInt = 0
  · refine z_xSC zt281 1 (z_sub (k := 0) h1 rfl) 36 rfl rfl ?_
    refine z_xP zt281 2 39 [some (.ref 19), some (.int p1), some (.int p2)] [.int 11, .ref 19] rfl rfl ?_
    have f19 : T[19]? = some (.inl (12, 0, 0, 0, 0)) := X.1.k rfl (by decide)
    refine z_xcV (vs := [.ref 19, .int 11]) (r := []) (L2 := [some (.ref 19), some (.int 11)]) zt281 3 rfl zo281 zzcV12_384 (Or.inl rfl) rfl X f19 rfl rfl rfl (Nat.le_of_ble_eq_true rfl) zzm278 (Nat.le_of_ble_eq_true rfl) rfl ?_
    have q11 : ((11 : Int32)).toInt = 11 := rfl
    have q11 : ((11 : Int32)).toInt = 11 := rfl
    refine zC278 X.1 hz0 ⟨by omega, by omega⟩ (fun M2 X3 z4 h5 h6 h7 => ?_)
    have X8 := X.go X3 (z_sb (by decide))
    show z_ev (d + 4) 281 42 [some (.ref 19), some (.int p1), some (.int p2)] [] M2 _
    refine z_xP zt281 4 44 [some (.ref 19), some (.int p1), some (.int p2)] [.ref 19, .int p2] rfl rfl ?_
    refine z_xgI zt281 5 rfl zo281 zzf12_387 X8 f19 (by decide) (by decide) rfl (fun (x11 : Int32) h10 (h12 : 0 ≤ x11.toInt) (h13 : x11.toInt ≤ 19) => ?_)
    refine z_xI zt281 6 rfl rfl (P := fun _ => True) (fun (x14 : Int32) _ => ?_) trivial
    exact z_xri zt281 7 rfl zzr281 (kk x14 M2 X8 z4 h5 ⟨by omega, by omega⟩ (by omega) (by omega))
  by_cases h16 : p1.toInt = 3
  · refine z_xSC zt281 1 (z_sub (k := 3) h16 rfl) 49 rfl rfl ?_
    refine z_xP zt281 8 52 [some (.ref 19), some (.int p1), some (.int p2)] [.int 40, .ref 19] rfl rfl ?_
    have f19 : T[19]? = some (.inl (12, 0, 0, 0, 0)) := X.1.k rfl (by decide)
    refine z_xcV (vs := [.ref 19, .int 40]) (r := []) (L2 := [some (.ref 19), some (.int 40)]) zt281 9 rfl zo281 zzcV12_384 (Or.inl rfl) rfl X f19 rfl rfl rfl (Nat.le_of_ble_eq_true rfl) zzm278 (Nat.le_of_ble_eq_true rfl) rfl ?_
    have q40 : ((40 : Int32)).toInt = 40 := rfl
    have q40 : ((40 : Int32)).toInt = 40 := rfl
    refine zC278 X.1 hz0 ⟨by omega, by omega⟩ (fun M17 X18 z19 h20 h21 h22 => ?_)
    have X23 := X.go X18 (z_sb (by decide))
    show z_ev (d + 4) 281 55 [some (.ref 19), some (.int p1), some (.int p2)] [] M17 _
    refine z_xP zt281 10 57 [some (.ref 19), some (.int p1), some (.int p2)] [.int 3, .ref 19] rfl rfl ?_
    refine z_xcS (vs := [.int 3]) (r := [.ref 19]) (L2 := [some (.int 3)]) zt281 11 rfl zo281 zzcS12_390 (Or.inl rfl) (Nat.le_of_ble_eq_true rfl) rfl rfl (Nat.le_of_ble_eq_true rfl) zzm279 (Nat.le_of_ble_eq_true rfl) rfl ?_
    refine z_xP zt279 0 2 [some (.int 3)] [.int 2, .int 3] rfl rfl ?_
    refine z_xJ zt279 1 rfl rfl (fun (h25 : (3 : Int) = 2) => absurd h25 (by omega)) (fun (h25 : (3 : Int) ≠ 2) => ?_)
    refine z_xP zt279 2 7 [some (.int 3)] [.int 3, .int 3] rfl rfl ?_
    refine z_xJ zt279 3 rfl rfl (fun (h26 : (3 : Int) ≠ 3) => absurd h26 (by omega)) (fun (h26 : (3 : Int) = 3) => ?_)
    refine z_xP zt279 4 25 [some (.int 3)] [.int 1] rfl rfl ?_
    refine z_xri zt279 9 rfl zzr279 ?_
    show z_ev (d + 4) 281 60 [some (.ref 19), some (.int p1), some (.int p2)] [.int 1, .ref 19] M17 _
    refine z_xP zt281 12 61 [some (.ref 19), some (.int p1), some (.int p2)] [.int p2, .int 1, .ref 19] rfl rfl ?_
    obtain ⟨d27, hdd27⟩ : ∃ e, d = e + 1 := ⟨d - 1, by omega⟩
    subst hdd27
    refine z_xcV (vs := [.ref 19, .int 1, .int p2]) (r := []) (L2 := [some (.ref 19), some (.int 1), some (.int p2)]) zt281 13 rfl zo281 zzcV12_399 (Or.inl rfl) rfl X23 f19 rfl rfl rfl (Nat.le_of_ble_eq_true rfl) zzm281 (Nat.le_of_ble_eq_true rfl) rfl ?_
    have q1 : ((1 : Int32)).toInt = 1 := rfl
    have h28 := z_b32 p2
    refine ih281 X23.1 (by decide) h20 ⟨by omega, by omega⟩ (by omega) (by omega) (by omega) (fun x36 M29 X30 z31 h32 h33 h34 h35 => ?_)
    have X37 := X23.go X30 (z_sb (by decide))
    show z_ev (d27 + 1 + 4) 281 64 [some (.ref 19), some (.int p1), some (.int p2)] [.int x36] M29 _
    refine z_xP zt281 14 65 [some (.ref 19), some (.int p1), some (.int p2)] [.int 3, .int x36] rfl rfl ?_
    have h39 := z_b32 x36
    refine z_xI zt281 15 rfl rfl (P := fun _ => True) (fun (x40 : Int32) _ => ?_) trivial
    exact z_xri zt281 16 rfl zzr281 (kk x40 M29 X37 z31 h32 ⟨by omega, by omega⟩ (by omega) (by omega))
  by_cases h42 : p1.toInt = 6
  · refine z_xSC zt281 1 (z_sub (k := 6) h42 rfl) 67 rfl rfl ?_
    refine z_xP zt281 17 70 [some (.ref 19), some (.int p1), some (.int p2)] [.int 70, .ref 19] rfl rfl ?_
    have f19 : T[19]? = some (.inl (12, 0, 0, 0, 0)) := X.1.k rfl (by decide)
    refine z_xcV (vs := [.ref 19, .int 70]) (r := []) (L2 := [some (.ref 19), some (.int 70)]) zt281 18 rfl zo281 zzcV12_384 (Or.inl rfl) rfl X f19 rfl rfl rfl (Nat.le_of_ble_eq_true rfl) zzm278 (Nat.le_of_ble_eq_true rfl) rfl ?_
    have q70 : ((70 : Int32)).toInt = 70 := rfl
    have q70 : ((70 : Int32)).toInt = 70 := rfl
    refine zC278 X.1 hz0 ⟨by omega, by omega⟩ (fun M43 X44 z45 h46 h47 h48 => ?_)
    have X49 := X.go X44 (z_sb (by decide))
    show z_ev (d + 4) 281 73 [some (.ref 19), some (.int p1), some (.int p2)] [] M43 _
    refine z_xP zt281 19 76 [some (.ref 19), some (.int p1), some (.int p2)] [.int 6, .ref 19] rfl rfl ?_
    refine z_xcS (vs := [.int 6]) (r := [.ref 19]) (L2 := [some (.int 6)]) zt281 20 rfl zo281 zzcS12_390 (Or.inl rfl) (Nat.le_of_ble_eq_true rfl) rfl rfl (Nat.le_of_ble_eq_true rfl) zzm279 (Nat.le_of_ble_eq_true rfl) rfl ?_
    refine z_xP zt279 0 2 [some (.int 6)] [.int 2, .int 6] rfl rfl ?_
    refine z_xJ zt279 1 rfl rfl (fun (h51 : (6 : Int) = 2) => absurd h51 (by omega)) (fun (h51 : (6 : Int) ≠ 2) => ?_)
    refine z_xP zt279 2 7 [some (.int 6)] [.int 3, .int 6] rfl rfl ?_
    refine z_xJ zt279 3 rfl rfl (fun (h52 : (6 : Int) ≠ 3) => ?_) (fun (h52 : (6 : Int) = 3) => absurd h52 (by omega))
    refine z_xP zt279 5 17 [some (.int 6)] [.int 6, .int 6] rfl rfl ?_
    refine z_xJ zt279 6 rfl rfl (fun (h53 : (6 : Int) ≠ 6) => absurd h53 (by omega)) (fun (h53 : (6 : Int) = 6) => ?_)
    refine z_xP zt279 7 25 [some (.int 6)] [.int 5] rfl rfl ?_
    refine z_xri zt279 9 rfl zzr279 ?_
    show z_ev (d + 4) 281 79 [some (.ref 19), some (.int p1), some (.int p2)] [.int 5, .ref 19] M43 _
    refine z_xP zt281 21 81 [some (.ref 19), some (.int p1), some (.int p2)] [.int 1, .int p2, .int 5, .ref 19] rfl rfl ?_
    have h54 := z_b32 p2
    refine z_xI zt281 22 rfl rfl (P := fun _ => True) (fun (x55 : Int32) _ => ?_) trivial
    obtain ⟨d57, hdd57⟩ : ∃ e, d = e + 1 := ⟨d - 1, by omega⟩
    subst hdd57
    refine z_xcV (vs := [.ref 19, .int 5, .int x55]) (r := []) (L2 := [some (.ref 19), some (.int 5), some (.int x55)]) zt281 23 rfl zo281 zzcV12_399 (Or.inl rfl) rfl X49 f19 rfl rfl rfl (Nat.le_of_ble_eq_true rfl) zzm281 (Nat.le_of_ble_eq_true rfl) rfl ?_
    have q5 : ((5 : Int32)).toInt = 5 := rfl
    have h58 := z_b32 x55
    refine ih281 X49.1 (by decide) h46 ⟨by omega, by omega⟩ (by omega) (by omega) (by omega) (fun x66 M59 X60 z61 h62 h63 h64 h65 => ?_)
    have X67 := X49.go X60 (z_sb (by decide))
    show z_ev (d57 + 1 + 4) 281 85 [some (.ref 19), some (.int p1), some (.int p2)] [.int x66] M59 _
    exact z_xri zt281 24 rfl zzr281 (kk x66 M59 X67 z61 h62 ⟨by omega, by omega⟩ (by omega) (by omega))
  refine z_xSL zt281 1 rfl (by decide) (z_lsd (List.forall_mem_cons.mpr ⟨show (0 : Int) ≠ p1.toInt from by omega, (List.forall_mem_cons.mpr ⟨show (3 : Int) ≠ p1.toInt from by omega, (List.forall_mem_cons.mpr ⟨show (6 : Int) ≠ p1.toInt from by omega, (List.forall_mem_nil _)⟩)⟩)⟩)) rfl ?_
  refine z_xP zt281 25 88 [some (.ref 19), some (.int p1), some (.int p2)] [.int p1, .ref 19] rfl rfl ?_
  refine z_xcS (vs := [.int p1]) (r := [.ref 19]) (L2 := [some (.int p1)]) zt281 26 rfl zo281 zzcS12_390 (Or.inl rfl) (Nat.le_of_ble_eq_true rfl) rfl rfl (Nat.le_of_ble_eq_true rfl) zzm279 (Nat.le_of_ble_eq_true rfl) rfl ?_
  refine z_xP zt279 0 2 [some (.int p1)] [.int 2, .int p1] rfl rfl ?_
  refine z_xJ zt279 1 rfl rfl (fun (h69 : p1.toInt = 2) => ?_) (fun (h69 : p1.toInt ≠ 2) => ?_)
  · skip
    refine z_xP zt279 4 25 [some (.int p1)] [.int 1] rfl rfl ?_
    refine z_xri zt279 9 rfl zzr279 ?_
    show z_ev (d + 4) 281 91 [some (.ref 19), some (.int p1), some (.int p2)] [.int 1, .ref 19] M0 _
    refine z_xP zt281 27 92 [some (.ref 19), some (.int p1), some (.int p2)] [.int p2, .int 1, .ref 19] rfl rfl ?_
    have f19 : T[19]? = some (.inl (12, 0, 0, 0, 0)) := X.1.k rfl (by decide)
    obtain ⟨d70, hdd70⟩ : ∃ e, d = e + 1 := ⟨d - 1, by omega⟩
    subst hdd70
    refine z_xcV (vs := [.ref 19, .int 1, .int p2]) (r := []) (L2 := [some (.ref 19), some (.int 1), some (.int p2)]) zt281 28 rfl zo281 zzcV12_399 (Or.inl rfl) rfl X f19 rfl rfl rfl (Nat.le_of_ble_eq_true rfl) zzm281 (Nat.le_of_ble_eq_true rfl) rfl ?_
    have q1 : ((1 : Int32)).toInt = 1 := rfl
    have h71 := z_b32 p2
    refine ih281 X.1 (by decide) hz0 ⟨by omega, by omega⟩ (by omega) (by omega) (by omega) (fun x79 M72 X73 z74 h75 h76 h77 h78 => ?_)
    have X80 := X.go X73 (z_sb (by decide))
    show z_ev (d70 + 1 + 4) 281 95 [some (.ref 19), some (.int p1), some (.int p2)] [.int x79] M72 _
    exact z_xri zt281 29 rfl zzr281 (kk x79 M72 X80 z74 h75 ⟨by omega, by omega⟩ (by omega) (by omega))
  refine z_xP zt279 2 7 [some (.int p1)] [.int 3, .int p1] rfl rfl ?_
  refine z_xJ zt279 3 rfl rfl (fun (h82 : p1.toInt ≠ 3) => ?_) (fun (h82 : p1.toInt = 3) => ?_)
  · skip
    refine z_xP zt279 5 17 [some (.int p1)] [.int 6, .int p1] rfl rfl ?_
    refine z_xJ zt279 6 rfl rfl (fun (h83 : p1.toInt ≠ 6) => ?_) (fun (h83 : p1.toInt = 6) => ?_)
    · skip
      refine z_xP zt279 8 25 [some (.int p1)] [.int 0] rfl rfl ?_
      refine z_xri zt279 9 rfl zzr279 ?_
      show z_ev (d + 4) 281 91 [some (.ref 19), some (.int p1), some (.int p2)] [.int 0, .ref 19] M0 _
      refine z_xP zt281 27 92 [some (.ref 19), some (.int p1), some (.int p2)] [.int p2, .int 0, .ref 19] rfl rfl ?_
      have f19 : T[19]? = some (.inl (12, 0, 0, 0, 0)) := X.1.k rfl (by decide)
      obtain ⟨d84, hdd84⟩ : ∃ e, d = e + 1 := ⟨d - 1, by omega⟩
      subst hdd84
      refine z_xcV (vs := [.ref 19, .int 0, .int p2]) (r := []) (L2 := [some (.ref 19), some (.int 0), some (.int p2)]) zt281 28 rfl zo281 zzcV12_399 (Or.inl rfl) rfl X f19 rfl rfl rfl (Nat.le_of_ble_eq_true rfl) zzm281 (Nat.le_of_ble_eq_true rfl) rfl ?_
      have q0 : ((0 : Int32)).toInt = 0 := rfl
      have h85 := z_b32 p2
      refine ih281 X.1 (by decide) hz0 ⟨by omega, by omega⟩ (by omega) (by omega) (by omega) (fun x93 M86 X87 z88 h89 h90 h91 h92 => ?_)
      have X94 := X.go X87 (z_sb (by decide))
      show z_ev (d84 + 1 + 4) 281 95 [some (.ref 19), some (.int p1), some (.int p2)] [.int x93] M86 _
      exact z_xri zt281 29 rfl zzr281 (kk x93 M86 X94 z88 h89 ⟨by omega, by omega⟩ (by omega) (by omega))
    refine z_xP zt279 7 25 [some (.int p1)] [.int 5] rfl rfl ?_
    refine z_xri zt279 9 rfl zzr279 ?_
    show z_ev (d + 4) 281 91 [some (.ref 19), some (.int p1), some (.int p2)] [.int 5, .ref 19] M0 _
    refine z_xP zt281 27 92 [some (.ref 19), some (.int p1), some (.int p2)] [.int p2, .int 5, .ref 19] rfl rfl ?_
    have f19 : T[19]? = some (.inl (12, 0, 0, 0, 0)) := X.1.k rfl (by decide)
    obtain ⟨d96, hdd96⟩ : ∃ e, d = e + 1 := ⟨d - 1, by omega⟩
    subst hdd96
    refine z_xcV (vs := [.ref 19, .int 5, .int p2]) (r := []) (L2 := [some (.ref 19), some (.int 5), some (.int p2)]) zt281 28 rfl zo281 zzcV12_399 (Or.inl rfl) rfl X f19 rfl rfl rfl (Nat.le_of_ble_eq_true rfl) zzm281 (Nat.le_of_ble_eq_true rfl) rfl ?_
    have q5 : ((5 : Int32)).toInt = 5 := rfl
    have h97 := z_b32 p2
    refine ih281 X.1 (by decide) hz0 ⟨by omega, by omega⟩ (by omega) (by omega) (by omega) (fun x105 M98 X99 z100 h101 h102 h103 h104 => ?_)
    have X106 := X.go X99 (z_sb (by decide))
    show z_ev (d96 + 1 + 4) 281 95 [some (.ref 19), some (.int p1), some (.int p2)] [.int x105] M98 _
    exact z_xri zt281 29 rfl zzr281 (kk x105 M98 X106 z100 h101 ⟨by omega, by omega⟩ (by omega) (by omega))
  refine z_xP zt279 4 25 [some (.int p1)] [.int 1] rfl rfl ?_
  refine z_xri zt279 9 rfl zzr279 ?_
  show z_ev (d + 4) 281 91 [some (.ref 19), some (.int p1), some (.int p2)] [.int 1, .ref 19] M0 _
  refine z_xP zt281 27 92 [some (.ref 19), some (.int p1), some (.int p2)] [.int p2, .int 1, .ref 19] rfl rfl ?_
  have f19 : T[19]? = some (.inl (12, 0, 0, 0, 0)) := X.1.k rfl (by decide)
  obtain ⟨d108, hdd108⟩ : ∃ e, d = e + 1 := ⟨d - 1, by omega⟩
  subst hdd108
  refine z_xcV (vs := [.ref 19, .int 1, .int p2]) (r := []) (L2 := [some (.ref 19), some (.int 1), some (.int p2)]) zt281 28 rfl zo281 zzcV12_399 (Or.inl rfl) rfl X f19 rfl rfl rfl (Nat.le_of_ble_eq_true rfl) zzm281 (Nat.le_of_ble_eq_true rfl) rfl ?_
  have q1 : ((1 : Int32)).toInt = 1 := rfl
  have h109 := z_b32 p2
  refine ih281 X.1 (by decide) hz0 ⟨by omega, by omega⟩ (by omega) (by omega) (by omega) (fun x117 M110 X111 z112 h113 h114 h115 h116 => ?_)
  have X118 := X.go X111 (z_sb (by decide))
  show z_ev (d108 + 1 + 4) 281 95 [some (.ref 19), some (.int p1), some (.int p2)] [.int x117] M110 _
  exact z_xri zt281 29 rfl zzr281 (kk x117 M110 X118 z112 h113 ⟨by omega, by omega⟩ (by omega) (by omega))
theorem zR281 {T : List zK} : ∀ N : Nat, zQ281 T N := by
  intro N
  induction N with
  | zero => exact (by unfold zQ281; intros; exfalso; omega)
  | succ N ih =>
      intro d K p1 p2 zp0 M0 hW u1 hz0 bz0 hb0 hm hd kk
      exact zC281r hW u1 hz0 bz0 hb0 ih (by omega) hd kk
theorem zC281 {T : List zK} {d : Nat} {K : Option Value → zH → Prop} {p1 : Int32} {p2 : Int32} {zp0 : Int32} {M0 : zH} (hW : z_W M0 T) (u1 : 0 ≤ p1.toInt ∧ p1.toInt ≤ 7) (hz0 : z_F M0 19 47 = some (.int zp0)) (bz0 : 0 ≤ zp0.toInt ∧ zp0.toInt ≤ 1000000) (hb0 : zp0.toInt + 2 * p1.toInt ≤ 500000) (kk : ∀ (x : Int32) (M1 : zH), z_X T zw281 M0 M1 → ∀ (w0 : Int32), z_F M1 19 47 = some (.int w0) → 0 ≤ w0.toInt ∧ w0.toInt ≤ 2000000 → zp0.toInt ≤ w0.toInt → w0.toInt ≤ zp0.toInt + 1 * p1.toInt + 1 → K (some (.int x)) M1) : z_ev (d + 11) 281 0 [some (.ref 19), some (.int p1), some (.int p2)] [] M0 K := by
  have h : zQ281 T 8 := zR281 8
  unfold zQ281 at h
  exact h (d := d + 7) (K := K) hW u1 hz0 bz0 hb0 (by omega) (by omega) kk
def zw282 : List Nat := [48, 2247]
def zQ282 (T : List zK) (N : Nat) : Prop := ∀ {d : Nat} {K : Option Value → zH → Prop} {p1 : Int32} {p2 : Int32} {zp0 : Int32}  {M0 : zH} (hW : z_W M0 T) (u1 : 0 ≤ p1.toInt ∧ p1.toInt ≤ 7) (hz0 : z_F M0 19 47 = some (.int zp0)) (bz0 : 0 ≤ zp0.toInt ∧ zp0.toInt ≤ 1000000) (hb0 : zp0.toInt + 200 * p1.toInt ≤ 100000) (hm : p1.toInt < (N : Int)) (hd : p1.toInt ≤ (d : Int)) (kk : ∀ (x : Int32) (M1 : zH), z_X T zw282 M0 M1 → ∀ (w0 : Int32), z_F M1 19 47 = some (.int w0) → 0 ≤ w0.toInt ∧ w0.toInt ≤ 2000000 → zp0.toInt ≤ w0.toInt → w0.toInt ≤ zp0.toInt + 90 * p1.toInt + 90 → K (some (.int x)) M1), z_ev (d + 45) 282 0 [some (.ref 19), some (.int p1), some (.int p2), none] [] M0 K
theorem zC282r {T : List zK} {d : Nat} {K : Option Value → zH → Prop} {p1 : Int32} {p2 : Int32} {zp0 : Int32} {N : Nat} {M0 : zH} (hW : z_W M0 T) (u1 : 0 ≤ p1.toInt ∧ p1.toInt ≤ 7) (hz0 : z_F M0 19 47 = some (.int zp0)) (bz0 : 0 ≤ zp0.toInt ∧ zp0.toInt ≤ 1000000) (hb0 : zp0.toInt + 200 * p1.toInt ≤ 100000) (ih282 : zQ282 T N) (hm : p1.toInt < (N : Int) + 1) (hd : p1.toInt ≤ (d : Int)) (kk : ∀ (x : Int32) (M1 : zH), z_X T zw282 M0 M1 → ∀ (w0 : Int32), z_F M1 19 47 = some (.int w0) → 0 ≤ w0.toInt ∧ w0.toInt ≤ 2000000 → zp0.toInt ≤ w0.toInt → w0.toInt ≤ zp0.toInt + 90 * p1.toInt + 90 → K (some (.int x)) M1) : z_ev (d + 45) 282 0 [some (.ref 19), some (.int p1), some (.int p2), none] [] M0 K := by
  have X : z_X T zw282 M0 M0 := .refl hW
  refine z_xP zt282 0 3 [some (.ref 19), some (.int p1), some (.int p2), some (.int 0)] [.int p1] rfl rfl ?_
  by_cases h1 : p1.toInt = 0
  · refine z_xSC zt282 1 (z_sub (k := 0) h1 rfl) 36 rfl rfl ?_
    refine z_xP zt282 2 38 [some (.ref 19), some (.int p1), some (.int p2), some (.int 0)] [.int 2, .ref 19] rfl rfl ?_
    have f19 : T[19]? = some (.inl (12, 0, 0, 0, 0)) := X.1.k rfl (by decide)
    refine z_xcV (vs := [.ref 19, .int 2]) (r := []) (L2 := [some (.ref 19), some (.int 2)]) zt282 3 rfl zo282 zzcV12_384 (Or.inl rfl) rfl X f19 rfl rfl rfl (Nat.le_of_ble_eq_true rfl) zzm278 (Nat.le_of_ble_eq_true rfl) rfl ?_
    have q2 : ((2 : Int32)).toInt = 2 := rfl
    have q2 : ((2 : Int32)).toInt = 2 := rfl
    refine zC278 X.1 hz0 ⟨by omega, by omega⟩ (fun M2 X3 z4 h5 h6 h7 => ?_)
    have X8 := X.go X3 (z_sb (by decide))
    show z_ev (d + 45) 282 41 [some (.ref 19), some (.int p1), some (.int p2), some (.int 0)] [] M2 _
    refine z_xP zt282 4 43 [some (.ref 19), some (.int p1), some (.int p2), some (.int 0)] [.ref 19, .ref 19] rfl rfl ?_
    refine z_xgX (b := 36) zt282 5 rfl zo282 zzf12_58 X8 f19 (by decide) (by decide) rfl ?_
    refine z_xP zt282 6 47 [some (.ref 19), some (.int p1), some (.int p2), some (.int 0)] [.ref 19, .ref 36, .ref 19] rfl rfl ?_
    refine z_xgI zt282 7 rfl zo282 zzf12_387 X8 f19 (by decide) (by decide) rfl (fun (x11 : Int32) h10 (h12 : 0 ≤ x11.toInt) (h13 : x11.toInt ≤ 19) => ?_)
    have f36 : T[36]? = some (.inr (36, 0, 20, 0, 7)) := X8.1.k rfl (by decide)
    refine z_xil zt282 8 rfl X8 f36 (by decide) (by omega) (by omega) (fun (x14 : Int32) h15 (h16 : 0 ≤ x14.toInt) (h17 : x14.toInt ≤ 7) => ?_)
    refine z_xP zt282 9 52 [some (.ref 19), some (.int p1), some (.int p2), some (.int 0)] [.int p2, .int x14, .ref 19] rfl rfl ?_
    refine z_xcV (vs := [.ref 19, .int x14, .int p2]) (r := []) (L2 := [some (.ref 19), some (.int x14), some (.int p2), none]) zt282 10 rfl zo282 zzcV12_396 (Or.inl rfl) rfl X8 f19 rfl rfl rfl (Nat.le_of_ble_eq_true rfl) zzm280 (Nat.le_of_ble_eq_true rfl) rfl ?_
    refine zC280 X8.1 (by omega) h5 ⟨by omega, by omega⟩ (by omega) (fun x25 M18 X19 z20 h21 h22 h23 h24 => ?_)
    have X26 := X8.go X19 (z_sb (by decide))
    show z_ev (d + 45) 282 55 [some (.ref 19), some (.int p1), some (.int p2), some (.int 0)] [.int x25] M18 _
    refine z_xP zt282 11 59 [some (.ref 19), some (.int p1), some (.int p2), some (.int x25)] [.ref 19, .ref 19, .int x25] rfl rfl ?_
    refine z_xgX (b := 36) zt282 12 rfl zo282 zzf12_58 X26 f19 (by decide) (by decide) rfl ?_
    refine z_xP zt282 13 63 [some (.ref 19), some (.int p1), some (.int p2), some (.int x25)] [.ref 19, .ref 36, .ref 19, .int x25] rfl rfl ?_
    have h28 := (X19.2.f f19 (by decide) h10)
    refine z_xgv zt282 14 rfl zo282 zzf12_387 X26 f19 (by decide) h28 ?_
    refine z_xil zt282 15 rfl X26 f36 (by decide) (by omega) (by omega) (fun (x29 : Int32) h30 (h31 : 0 ≤ x29.toInt) (h32 : x29.toInt ≤ 7) => ?_)
    have h33 := congrArg Int32.toInt (h30.symm.trans ((congrFun (X19.2.a f36 (by decide)) _).trans h15))
    refine z_xP zt282 16 68 [some (.ref 19), some (.int p1), some (.int p2), some (.int x25)] [.int 1, .int x29, .ref 19, .int x25] rfl rfl ?_
    refine z_xcV (vs := [.ref 19, .int x29, .int 1]) (r := [.int x25]) (L2 := [some (.ref 19), some (.int x29), some (.int 1)]) zt282 17 rfl zo282 zzcV12_399 (Or.inl rfl) rfl X26 f19 rfl rfl rfl (Nat.le_of_ble_eq_true rfl) zzm281 (Nat.le_of_ble_eq_true rfl) rfl ?_
    have q1 : ((1 : Int32)).toInt = 1 := rfl
    have q1 : ((1 : Int32)).toInt = 1 := rfl
    refine zC281 X26.1 (by omega) h21 ⟨by omega, by omega⟩ (by omega) (fun x41 M34 X35 z36 h37 h38 h39 h40 => ?_)
    have X42 := X26.go X35 (z_sb (by decide))
    show z_ev (d + 45) 282 71 [some (.ref 19), some (.int p1), some (.int p2), some (.int x25)] [.int x41, .int x25] M34 _
    have h44 := z_b32 x25
    have h45 := z_b32 x41
    refine z_xI zt282 18 rfl rfl (P := fun _ => True) (fun (x46 : Int32) _ => ?_) trivial
    exact z_xri zt282 19 rfl zzr282 (kk x46 M34 X42 z36 h37 ⟨by omega, by omega⟩ (by omega) (by omega))
  by_cases h48 : p1.toInt = 5
  · refine z_xSC zt282 1 (z_sub (k := 5) h48 rfl) 73 rfl rfl ?_
    refine z_xP zt282 20 76 [some (.ref 19), some (.int p1), some (.int p2), some (.int 0)] [.int 61, .ref 19] rfl rfl ?_
    have f19 : T[19]? = some (.inl (12, 0, 0, 0, 0)) := X.1.k rfl (by decide)
    refine z_xcV (vs := [.ref 19, .int 61]) (r := []) (L2 := [some (.ref 19), some (.int 61)]) zt282 21 rfl zo282 zzcV12_384 (Or.inl rfl) rfl X f19 rfl rfl rfl (Nat.le_of_ble_eq_true rfl) zzm278 (Nat.le_of_ble_eq_true rfl) rfl ?_
    have q61 : ((61 : Int32)).toInt = 61 := rfl
    have q61 : ((61 : Int32)).toInt = 61 := rfl
    refine zC278 X.1 hz0 ⟨by omega, by omega⟩ (fun M49 X50 z51 h52 h53 h54 => ?_)
    have X55 := X.go X50 (z_sb (by decide))
    show z_ev (d + 45) 282 79 [some (.ref 19), some (.int p1), some (.int p2), some (.int 0)] [] M49 _
    refine z_xP zt282 22 81 [some (.ref 19), some (.int p1), some (.int p2), some (.int 0)] [.int 5, .ref 19] rfl rfl ?_
    refine z_xcS (vs := [.int 5]) (r := [.ref 19]) (L2 := [some (.int 5)]) zt282 23 rfl zo282 zzcS12_390 (Or.inl rfl) (Nat.le_of_ble_eq_true rfl) rfl rfl (Nat.le_of_ble_eq_true rfl) zzm279 (Nat.le_of_ble_eq_true rfl) rfl ?_
    refine z_xP zt279 0 2 [some (.int 5)] [.int 2, .int 5] rfl rfl ?_
    refine z_xJ zt279 1 rfl rfl (fun (h57 : (5 : Int) = 2) => absurd h57 (by omega)) (fun (h57 : (5 : Int) ≠ 2) => ?_)
    refine z_xP zt279 2 7 [some (.int 5)] [.int 3, .int 5] rfl rfl ?_
    refine z_xJ zt279 3 rfl rfl (fun (h58 : (5 : Int) ≠ 3) => ?_) (fun (h58 : (5 : Int) = 3) => absurd h58 (by omega))
    refine z_xP zt279 5 17 [some (.int 5)] [.int 6, .int 5] rfl rfl ?_
    refine z_xJ zt279 6 rfl rfl (fun (h59 : (5 : Int) ≠ 6) => ?_) (fun (h59 : (5 : Int) = 6) => absurd h59 (by omega))
    refine z_xP zt279 8 25 [some (.int 5)] [.int 0] rfl rfl ?_
    refine z_xri zt279 9 rfl zzr279 ?_
    show z_ev (d + 45) 282 84 [some (.ref 19), some (.int p1), some (.int p2), some (.int 0)] [.int 0, .ref 19] M49 _
    refine z_xP zt282 24 85 [some (.ref 19), some (.int p1), some (.int p2), some (.int 0)] [.int p2, .int 0, .ref 19] rfl rfl ?_
    obtain ⟨d60, hdd60⟩ : ∃ e, d = e + 1 := ⟨d - 1, by omega⟩
    subst hdd60
    refine z_xcV (vs := [.ref 19, .int 0, .int p2]) (r := []) (L2 := [some (.ref 19), some (.int 0), some (.int p2), none]) zt282 25 rfl zo282 zzcV12_402 (Or.inl rfl) rfl X55 f19 rfl rfl rfl (Nat.le_of_ble_eq_true rfl) zzm282 (Nat.le_of_ble_eq_true rfl) rfl ?_
    have q0 : ((0 : Int32)).toInt = 0 := rfl
    have h61 := z_b32 p2
    refine ih282 X55.1 (by decide) h52 ⟨by omega, by omega⟩ (by omega) (by omega) (by omega) (fun x69 M62 X63 z64 h65 h66 h67 h68 => ?_)
    have X70 := X55.go X63 (z_sb (by decide))
    show z_ev (d60 + 1 + 45) 282 88 [some (.ref 19), some (.int p1), some (.int p2), some (.int 0)] [.int x69] M62 _
    refine z_xP zt282 26 89 [some (.ref 19), some (.int p1), some (.int p2), some (.int 0)] [.ref 19, .int x69] rfl rfl ?_
    refine z_xgX (b := 37) zt282 27 rfl zo282 zzf12_61 X70 f19 (by decide) (by decide) rfl ?_
    refine z_xP zt282 28 93 [some (.ref 19), some (.int p1), some (.int p2), some (.int 0)] [.ref 19, .ref 37, .int x69] rfl rfl ?_
    refine z_xgI zt282 29 rfl zo282 zzf12_387 X70 f19 (by decide) (by decide) rfl (fun (x73 : Int32) h72 (h74 : 0 ≤ x73.toInt) (h75 : x73.toInt ≤ 19) => ?_)
    have f37 : T[37]? = some (.inr (37, 0, 20, 0, 9)) := X70.1.k rfl (by decide)
    refine z_xil zt282 30 rfl X70 f37 (by decide) (by omega) (by omega) (fun (x76 : Int32) h77 (h78 : 0 ≤ x76.toInt) (h79 : x76.toInt ≤ 9) => ?_)
    have h80 := z_b32 x69
    refine z_xI zt282 31 rfl rfl (P := fun _ => True) (fun (x81 : Int32) _ => ?_) trivial
    exact z_xri zt282 32 rfl zzr282 (kk x81 M62 X70 z64 h65 ⟨by omega, by omega⟩ (by omega) (by omega))
  by_cases h83 : p1.toInt = 7
  · refine z_xSC zt282 1 (z_sub (k := 7) h83 rfl) 99 rfl rfl ?_
    refine z_xP zt282 33 102 [some (.ref 19), some (.int p1), some (.int p2), some (.int 0)] [.int 80, .ref 19] rfl rfl ?_
    have f19 : T[19]? = some (.inl (12, 0, 0, 0, 0)) := X.1.k rfl (by decide)
    refine z_xcV (vs := [.ref 19, .int 80]) (r := []) (L2 := [some (.ref 19), some (.int 80)]) zt282 34 rfl zo282 zzcV12_384 (Or.inl rfl) rfl X f19 rfl rfl rfl (Nat.le_of_ble_eq_true rfl) zzm278 (Nat.le_of_ble_eq_true rfl) rfl ?_
    have q80 : ((80 : Int32)).toInt = 80 := rfl
    have q80 : ((80 : Int32)).toInt = 80 := rfl
    refine zC278 X.1 hz0 ⟨by omega, by omega⟩ (fun M84 X85 z86 h87 h88 h89 => ?_)
    have X90 := X.go X85 (z_sb (by decide))
    show z_ev (d + 45) 282 105 [some (.ref 19), some (.int p1), some (.int p2), some (.int 0)] [] M84 _
    refine z_xP zt282 35 108 [some (.ref 19), some (.int p1), some (.int p2), some (.int 0)] [.int 7, .ref 19] rfl rfl ?_
    refine z_xcS (vs := [.int 7]) (r := [.ref 19]) (L2 := [some (.int 7)]) zt282 36 rfl zo282 zzcS12_390 (Or.inl rfl) (Nat.le_of_ble_eq_true rfl) rfl rfl (Nat.le_of_ble_eq_true rfl) zzm279 (Nat.le_of_ble_eq_true rfl) rfl ?_
    refine z_xP zt279 0 2 [some (.int 7)] [.int 2, .int 7] rfl rfl ?_
    refine z_xJ zt279 1 rfl rfl (fun (h92 : (7 : Int) = 2) => absurd h92 (by omega)) (fun (h92 : (7 : Int) ≠ 2) => ?_)
    refine z_xP zt279 2 7 [some (.int 7)] [.int 3, .int 7] rfl rfl ?_
    refine z_xJ zt279 3 rfl rfl (fun (h93 : (7 : Int) ≠ 3) => ?_) (fun (h93 : (7 : Int) = 3) => absurd h93 (by omega))
    refine z_xP zt279 5 17 [some (.int 7)] [.int 6, .int 7] rfl rfl ?_
    refine z_xJ zt279 6 rfl rfl (fun (h94 : (7 : Int) ≠ 6) => ?_) (fun (h94 : (7 : Int) = 6) => absurd h94 (by omega))
    refine z_xP zt279 8 25 [some (.int 7)] [.int 0] rfl rfl ?_
    refine z_xri zt279 9 rfl zzr279 ?_
    show z_ev (d + 45) 282 111 [some (.ref 19), some (.int p1), some (.int p2), some (.int 0)] [.int 0, .ref 19] M84 _
    refine z_xP zt282 37 112 [some (.ref 19), some (.int p1), some (.int p2), some (.int 0)] [.int p2, .int 0, .ref 19] rfl rfl ?_
    obtain ⟨d95, hdd95⟩ : ∃ e, d = e + 1 := ⟨d - 1, by omega⟩
    subst hdd95
    refine z_xcV (vs := [.ref 19, .int 0, .int p2]) (r := []) (L2 := [some (.ref 19), some (.int 0), some (.int p2), none]) zt282 38 rfl zo282 zzcV12_402 (Or.inl rfl) rfl X90 f19 rfl rfl rfl (Nat.le_of_ble_eq_true rfl) zzm282 (Nat.le_of_ble_eq_true rfl) rfl ?_
    have q0 : ((0 : Int32)).toInt = 0 := rfl
    have h96 := z_b32 p2
    refine ih282 X90.1 (by decide) h87 ⟨by omega, by omega⟩ (by omega) (by omega) (by omega) (fun x104 M97 X98 z99 h100 h101 h102 h103 => ?_)
    have X105 := X90.go X98 (z_sb (by decide))
    show z_ev (d95 + 1 + 45) 282 115 [some (.ref 19), some (.int p1), some (.int p2), some (.int 0)] [.int x104] M97 _
    refine z_xP zt282 39 116 [some (.ref 19), some (.int p1), some (.int p2), some (.int 0)] [.int 2, .int x104] rfl rfl ?_
    have h107 := z_b32 x104
    refine z_xI zt282 40 rfl rfl (P := fun _ => True) (fun (x108 : Int32) _ => ?_) trivial
    refine z_xP zt282 41 122 [some (.ref 19), some (.int p1), some (.int p2), some (.int x108)] [.int 7, .ref 19, .int x108] rfl rfl ?_
    refine z_xcS (vs := [.int 7]) (r := [.ref 19, .int x108]) (L2 := [some (.int 7)]) zt282 42 rfl zo282 zzcS12_390 (Or.inl rfl) (Nat.le_of_ble_eq_true rfl) rfl rfl (Nat.le_of_ble_eq_true rfl) zzm279 (Nat.le_of_ble_eq_true rfl) rfl ?_
    refine z_xP zt279 0 2 [some (.int 7)] [.int 2, .int 7] rfl rfl ?_
    refine z_xJ zt279 1 rfl rfl (fun (h110 : (7 : Int) = 2) => absurd h110 (by omega)) (fun (h110 : (7 : Int) ≠ 2) => ?_)
    refine z_xP zt279 2 7 [some (.int 7)] [.int 3, .int 7] rfl rfl ?_
    refine z_xJ zt279 3 rfl rfl (fun (h111 : (7 : Int) ≠ 3) => ?_) (fun (h111 : (7 : Int) = 3) => absurd h111 (by omega))
    refine z_xP zt279 5 17 [some (.int 7)] [.int 6, .int 7] rfl rfl ?_
    refine z_xJ zt279 6 rfl rfl (fun (h112 : (7 : Int) ≠ 6) => ?_) (fun (h112 : (7 : Int) = 6) => absurd h112 (by omega))
    refine z_xP zt279 8 25 [some (.int 7)] [.int 0] rfl rfl ?_
    refine z_xri zt279 9 rfl zzr279 ?_
    show z_ev (d95 + 1 + 45) 282 125 [some (.ref 19), some (.int p1), some (.int p2), some (.int x108)] [.int 0, .ref 19, .int x108] M97 _
    refine z_xP zt282 43 126 [some (.ref 19), some (.int p1), some (.int p2), some (.int x108)] [.int p2, .int 0, .ref 19, .int x108] rfl rfl ?_
    refine z_xcV (vs := [.ref 19, .int 0, .int p2]) (r := [.int x108]) (L2 := [some (.ref 19), some (.int 0), some (.int p2)]) zt282 44 rfl zo282 zzcV12_399 (Or.inl rfl) rfl X105 f19 rfl rfl rfl (Nat.le_of_ble_eq_true rfl) zzm281 (Nat.le_of_ble_eq_true rfl) rfl ?_
    have q0 : ((0 : Int32)).toInt = 0 := rfl
    have q0 : ((0 : Int32)).toInt = 0 := rfl
    refine zC281 X105.1 (by decide) h100 ⟨by omega, by omega⟩ (by omega) (fun x120 M113 X114 z115 h116 h117 h118 h119 => ?_)
    have X121 := X105.go X114 (z_sb (by decide))
    show z_ev (d95 + 1 + 45) 282 129 [some (.ref 19), some (.int p1), some (.int p2), some (.int x108)] [.int x120, .int x108] M113 _
    have h123 := z_b32 x108
    have h124 := z_b32 x120
    refine z_xI zt282 45 rfl rfl (P := fun _ => True) (fun (x125 : Int32) _ => ?_) trivial
    exact z_xri zt282 46 rfl zzr282 (kk x125 M113 X121 z115 h116 ⟨by omega, by omega⟩ (by omega) (by omega))
  refine z_xSL zt282 1 rfl (by decide) (z_lsd (List.forall_mem_cons.mpr ⟨show (0 : Int) ≠ p1.toInt from by omega, (List.forall_mem_cons.mpr ⟨show (5 : Int) ≠ p1.toInt from by omega, (List.forall_mem_cons.mpr ⟨show (7 : Int) ≠ p1.toInt from by omega, (List.forall_mem_nil _)⟩)⟩)⟩)) rfl ?_
  refine z_xP zt282 47 133 [some (.ref 19), some (.int p1), some (.int p2), some (.int 0)] [.int p1, .ref 19] rfl rfl ?_
  refine z_xcS (vs := [.int p1]) (r := [.ref 19]) (L2 := [some (.int p1)]) zt282 48 rfl zo282 zzcS12_390 (Or.inl rfl) (Nat.le_of_ble_eq_true rfl) rfl rfl (Nat.le_of_ble_eq_true rfl) zzm279 (Nat.le_of_ble_eq_true rfl) rfl ?_
  refine z_xP zt279 0 2 [some (.int p1)] [.int 2, .int p1] rfl rfl ?_
  refine z_xJ zt279 1 rfl rfl (fun (h127 : p1.toInt = 2) => ?_) (fun (h127 : p1.toInt ≠ 2) => ?_)
  · skip
    refine z_xP zt279 4 25 [some (.int p1)] [.int 1] rfl rfl ?_
    refine z_xri zt279 9 rfl zzr279 ?_
    show z_ev (d + 45) 282 136 [some (.ref 19), some (.int p1), some (.int p2), some (.int 0)] [.int 1, .ref 19] M0 _
    refine z_xP zt282 49 137 [some (.ref 19), some (.int p1), some (.int p2), some (.int 0)] [.int p2, .int 1, .ref 19] rfl rfl ?_
    have f19 : T[19]? = some (.inl (12, 0, 0, 0, 0)) := X.1.k rfl (by decide)
    obtain ⟨d128, hdd128⟩ : ∃ e, d = e + 1 := ⟨d - 1, by omega⟩
    subst hdd128
    refine z_xcV (vs := [.ref 19, .int 1, .int p2]) (r := []) (L2 := [some (.ref 19), some (.int 1), some (.int p2), none]) zt282 50 rfl zo282 zzcV12_402 (Or.inl rfl) rfl X f19 rfl rfl rfl (Nat.le_of_ble_eq_true rfl) zzm282 (Nat.le_of_ble_eq_true rfl) rfl ?_
    have q1 : ((1 : Int32)).toInt = 1 := rfl
    have h129 := z_b32 p2
    refine ih282 X.1 (by decide) hz0 ⟨by omega, by omega⟩ (by omega) (by omega) (by omega) (fun x137 M130 X131 z132 h133 h134 h135 h136 => ?_)
    have X138 := X.go X131 (z_sb (by decide))
    show z_ev (d128 + 1 + 45) 282 140 [some (.ref 19), some (.int p1), some (.int p2), some (.int 0)] [.int x137] M130 _
    exact z_xri zt282 51 rfl zzr282 (kk x137 M130 X138 z132 h133 ⟨by omega, by omega⟩ (by omega) (by omega))
  refine z_xP zt279 2 7 [some (.int p1)] [.int 3, .int p1] rfl rfl ?_
  refine z_xJ zt279 3 rfl rfl (fun (h140 : p1.toInt ≠ 3) => ?_) (fun (h140 : p1.toInt = 3) => ?_)
  · skip
    refine z_xP zt279 5 17 [some (.int p1)] [.int 6, .int p1] rfl rfl ?_
    refine z_xJ zt279 6 rfl rfl (fun (h141 : p1.toInt ≠ 6) => ?_) (fun (h141 : p1.toInt = 6) => ?_)
    · skip
      refine z_xP zt279 8 25 [some (.int p1)] [.int 0] rfl rfl ?_
      refine z_xri zt279 9 rfl zzr279 ?_
      show z_ev (d + 45) 282 136 [some (.ref 19), some (.int p1), some (.int p2), some (.int 0)] [.int 0, .ref 19] M0 _
      refine z_xP zt282 49 137 [some (.ref 19), some (.int p1), some (.int p2), some (.int 0)] [.int p2, .int 0, .ref 19] rfl rfl ?_
      have f19 : T[19]? = some (.inl (12, 0, 0, 0, 0)) := X.1.k rfl (by decide)
      obtain ⟨d142, hdd142⟩ : ∃ e, d = e + 1 := ⟨d - 1, by omega⟩
      subst hdd142
      refine z_xcV (vs := [.ref 19, .int 0, .int p2]) (r := []) (L2 := [some (.ref 19), some (.int 0), some (.int p2), none]) zt282 50 rfl zo282 zzcV12_402 (Or.inl rfl) rfl X f19 rfl rfl rfl (Nat.le_of_ble_eq_true rfl) zzm282 (Nat.le_of_ble_eq_true rfl) rfl ?_
      have q0 : ((0 : Int32)).toInt = 0 := rfl
      have h143 := z_b32 p2
      refine ih282 X.1 (by decide) hz0 ⟨by omega, by omega⟩ (by omega) (by omega) (by omega) (fun x151 M144 X145 z146 h147 h148 h149 h150 => ?_)
      have X152 := X.go X145 (z_sb (by decide))
      show z_ev (d142 + 1 + 45) 282 140 [some (.ref 19), some (.int p1), some (.int p2), some (.int 0)] [.int x151] M144 _
      exact z_xri zt282 51 rfl zzr282 (kk x151 M144 X152 z146 h147 ⟨by omega, by omega⟩ (by omega) (by omega))
    refine z_xP zt279 7 25 [some (.int p1)] [.int 5] rfl rfl ?_
    refine z_xri zt279 9 rfl zzr279 ?_
    show z_ev (d + 45) 282 136 [some (.ref 19), some (.int p1), some (.int p2), some (.int 0)] [.int 5, .ref 19] M0 _
    refine z_xP zt282 49 137 [some (.ref 19), some (.int p1), some (.int p2), some (.int 0)] [.int p2, .int 5, .ref 19] rfl rfl ?_
    have f19 : T[19]? = some (.inl (12, 0, 0, 0, 0)) := X.1.k rfl (by decide)
    obtain ⟨d154, hdd154⟩ : ∃ e, d = e + 1 := ⟨d - 1, by omega⟩
    subst hdd154
    refine z_xcV (vs := [.ref 19, .int 5, .int p2]) (r := []) (L2 := [some (.ref 19), some (.int 5), some (.int p2), none]) zt282 50 rfl zo282 zzcV12_402 (Or.inl rfl) rfl X f19 rfl rfl rfl (Nat.le_of_ble_eq_true rfl) zzm282 (Nat.le_of_ble_eq_true rfl) rfl ?_
    have q5 : ((5 : Int32)).toInt = 5 := rfl
    have h155 := z_b32 p2
    refine ih282 X.1 (by decide) hz0 ⟨by omega, by omega⟩ (by omega) (by omega) (by omega) (fun x163 M156 X157 z158 h159 h160 h161 h162 => ?_)
    have X164 := X.go X157 (z_sb (by decide))
    show z_ev (d154 + 1 + 45) 282 140 [some (.ref 19), some (.int p1), some (.int p2), some (.int 0)] [.int x163] M156 _
    exact z_xri zt282 51 rfl zzr282 (kk x163 M156 X164 z158 h159 ⟨by omega, by omega⟩ (by omega) (by omega))
  refine z_xP zt279 4 25 [some (.int p1)] [.int 1] rfl rfl ?_
  refine z_xri zt279 9 rfl zzr279 ?_
  show z_ev (d + 45) 282 136 [some (.ref 19), some (.int p1), some (.int p2), some (.int 0)] [.int 1, .ref 19] M0 _
  refine z_xP zt282 49 137 [some (.ref 19), some (.int p1), some (.int p2), some (.int 0)] [.int p2, .int 1, .ref 19] rfl rfl ?_
  have f19 : T[19]? = some (.inl (12, 0, 0, 0, 0)) := X.1.k rfl (by decide)
  obtain ⟨d166, hdd166⟩ : ∃ e, d = e + 1 := ⟨d - 1, by omega⟩
  subst hdd166
  refine z_xcV (vs := [.ref 19, .int 1, .int p2]) (r := []) (L2 := [some (.ref 19), some (.int 1), some (.int p2), none]) zt282 50 rfl zo282 zzcV12_402 (Or.inl rfl) rfl X f19 rfl rfl rfl (Nat.le_of_ble_eq_true rfl) zzm282 (Nat.le_of_ble_eq_true rfl) rfl ?_
  have q1 : ((1 : Int32)).toInt = 1 := rfl
  have h167 := z_b32 p2
  refine ih282 X.1 (by decide) hz0 ⟨by omega, by omega⟩ (by omega) (by omega) (by omega) (fun x175 M168 X169 z170 h171 h172 h173 h174 => ?_)
  have X176 := X.go X169 (z_sb (by decide))
  show z_ev (d166 + 1 + 45) 282 140 [some (.ref 19), some (.int p1), some (.int p2), some (.int 0)] [.int x175] M168 _
  exact z_xri zt282 51 rfl zzr282 (kk x175 M168 X176 z170 h171 ⟨by omega, by omega⟩ (by omega) (by omega))
theorem zR282 {T : List zK} : ∀ N : Nat, zQ282 T N := by
  intro N
  induction N with
  | zero => exact (by unfold zQ282; intros; exfalso; omega)
  | succ N ih =>
      intro d K p1 p2 zp0 M0 hW u1 hz0 bz0 hb0 hm hd kk
      exact zC282r hW u1 hz0 bz0 hb0 ih (by omega) hd kk
theorem zC282 {T : List zK} {d : Nat} {K : Option Value → zH → Prop} {p1 : Int32} {p2 : Int32} {zp0 : Int32} {M0 : zH} (hW : z_W M0 T) (u1 : 0 ≤ p1.toInt ∧ p1.toInt ≤ 7) (hz0 : z_F M0 19 47 = some (.int zp0)) (bz0 : 0 ≤ zp0.toInt ∧ zp0.toInt ≤ 1000000) (hb0 : zp0.toInt + 200 * p1.toInt ≤ 100000) (kk : ∀ (x : Int32) (M1 : zH), z_X T zw282 M0 M1 → ∀ (w0 : Int32), z_F M1 19 47 = some (.int w0) → 0 ≤ w0.toInt ∧ w0.toInt ≤ 2000000 → zp0.toInt ≤ w0.toInt → w0.toInt ≤ zp0.toInt + 90 * p1.toInt + 90 → K (some (.int x)) M1) : z_ev (d + 52) 282 0 [some (.ref 19), some (.int p1), some (.int p2), none] [] M0 K := by
  have h : zQ282 T 8 := zR282 8
  unfold zQ282 at h
  exact h (d := d + 7) (K := K) hW u1 hz0 bz0 hb0 (by omega) (by omega) kk
def zw276 : List Nat := [48, 2247, 2248]
theorem zC276 {T : List zK} {d : Nat} {K : Option Value → zH → Prop} {p1 : Int32} {p2 : Int32} {p3 : Int32} {M0 : zH} (hW : z_W M0 T)  (kk : ∀ (x : Int32) (M1 : zH), z_X T zw276 M0 M1 → K (some (.int x)) M1) : z_ev (d + 53) 276 0 [some (.ref 19), some (.int p1), some (.int p2), some (.int p3)] [] M0 K := by
  have X : z_X T zw276 M0 M0 := .refl hW
  refine z_xP zt276 0 2 [some (.ref 19), some (.int p1), some (.int p2), some (.int p3)] [.int 0, .ref 19] rfl rfl ?_
  have f19 : T[19]? = some (.inl (12, 0, 0, 0, 0)) := X.1.k rfl (by decide)
  have q0 : ((0 : Int32)).toInt = 0 := rfl
  refine z_xpf zt276 1 rfl zo276 zzf12_381 X f19 (by decide) (by decide) ⟨by omega, by omega⟩ rfl (by decide) zw12_47 (fun M1 X2 e3 h4 => ?_)
  refine z_xP zt276 2 7 [some (.ref 19), some (.int p1), some (.int p2), some (.int p3)] [.int p1, .ref 19] rfl rfl ?_
  refine z_xcV (vs := [.ref 19, .int p1]) (r := []) (L2 := [some (.ref 19), some (.int p1)]) zt276 3 rfl zo276 zzcV12_272 (Or.inl rfl) rfl X2 f19 rfl rfl rfl (Nat.le_of_ble_eq_true rfl) zzm237 (Nat.le_of_ble_eq_true rfl) rfl ?_
  refine z_xP zt237 0 1 [some (.ref 19), some (.int p1)] [.int p1] rfl rfl ?_
  refine z_xZ zt237 1 rfl rfl (fun (h5 : p1.toInt < 0) => ?_) (fun (h5 : 0 ≤ p1.toInt) => ?_)
  · skip
    refine z_xP zt237 6 17 [some (.ref 19), some (.int p1)] [.int 0] rfl rfl ?_
    refine z_xrz zt237 7 rfl zzr237 (by decide) (by decide) ?_
    show z_ev (d + 53) 276 10 [some (.ref 19), some (.int p1), some (.int p2), some (.int p3)] [.int 0] M1 _
    refine z_xZ zt276 4 rfl rfl (fun (h6 : (0 : Int) = 0) => ?_) (fun (h6 : (0 : Int) ≠ 0) => absurd h6 (by omega))
    refine z_xP zt276 11 26 [some (.ref 19), some (.int p1), some (.int p2), some (.int p3)] [.int 0] rfl rfl ?_
    have q0 : ((0 : Int32)).toInt = 0 := rfl
    exact z_xri zt276 12 rfl zzr276 (kk 0 M1 X2)
  refine z_xP zt237 2 6 [some (.ref 19), some (.int p1)] [.ref 19, .int p1] rfl rfl ?_
  refine z_xgI zt237 3 rfl zo237 zzf12_269 X2 f19 (by decide) (by decide) rfl (fun (x8 : Int32) h7 (h9 : 0 ≤ x8.toInt) (h10 : x8.toInt ≤ 20) => ?_)
  have h11 := z_b32 p1
  refine z_xJ zt237 4 rfl rfl (fun (h12 : x8.toInt ≤ p1.toInt) => ?_) (fun (h12 : p1.toInt < x8.toInt) => ?_)
  · skip
    refine z_xP zt237 6 17 [some (.ref 19), some (.int p1)] [.int 0] rfl rfl ?_
    refine z_xrz zt237 7 rfl zzr237 (by decide) (by decide) ?_
    show z_ev (d + 53) 276 10 [some (.ref 19), some (.int p1), some (.int p2), some (.int p3)] [.int 0] M1 _
    refine z_xZ zt276 4 rfl rfl (fun (h13 : (0 : Int) = 0) => ?_) (fun (h13 : (0 : Int) ≠ 0) => absurd h13 (by omega))
    refine z_xP zt276 11 26 [some (.ref 19), some (.int p1), some (.int p2), some (.int p3)] [.int 0] rfl rfl ?_
    have q0 : ((0 : Int32)).toInt = 0 := rfl
    exact z_xri zt276 12 rfl zzr276 (kk 0 M1 X2)
  refine z_xP zt237 5 17 [some (.ref 19), some (.int p1)] [.int 1] rfl rfl ?_
  refine z_xrz zt237 7 rfl zzr237 (by decide) (by decide) ?_
  show z_ev (d + 53) 276 10 [some (.ref 19), some (.int p1), some (.int p2), some (.int p3)] [.int 1] M1 _
  refine z_xZ zt276 4 rfl rfl (fun (h14 : (1 : Int) = 0) => absurd h14 (by omega)) (fun (h14 : (1 : Int) ≠ 0) => ?_)
  refine z_xP zt276 5 14 [some (.ref 19), some (.int p1), some (.int p2), some (.int p3)] [.int p2] rfl rfl ?_
  have h15 := z_b32 p2
  refine z_xL zt276 6 rfl rfl (fun (y16 : Int64) (h17 : y16.toInt = p2.toInt) => ?_) (z_qI2L rfl)
  refine z_xP zt276 7 16 [some (.ref 19), some (.int p1), some (.int p2), some (.int p3)] [.long 0, .long y16] rfl rfl ?_
  refine z_xl2 zt276 8 rfl zo276 zkl12_358 ?_
  refine z_xcS (vs := [.long y16, .long 0, .long 3]) (r := []) (L2 := [some (.long y16), none, some (.long 0), none, some (.long 3), none]) zt276 9 rfl zo276 zzcS12_116 (Or.inl rfl) (Nat.le_of_ble_eq_true rfl) rfl rfl (Nat.le_of_ble_eq_true rfl) zzm189 (Nat.le_of_ble_eq_true rfl) rfl ?_
  refine z_xP zt189 0 2 [some (.long y16), none, some (.long 0), none, some (.long 3), none] [.long 0, .long y16] rfl rfl ?_
  refine z_xI zt189 1 rfl rfl (fun (x18 : Int32) (h19 : (x18.toInt < 0 ∧ y16.toInt < 0) ∨ (x18.toInt = 0 ∧ y16.toInt = 0) ∨ (0 < x18.toInt ∧ 0 < y16.toInt)) => ?_) (z_qCmp rfl rfl)
  refine z_xZ zt189 2 rfl rfl (fun (h20 : x18.toInt < 0) => ?_) (fun (h20 : 0 ≤ x18.toInt) => ?_)
  · skip
    refine z_xP zt189 7 18 [some (.long y16), none, some (.long 0), none, some (.long 3), none] [.int 0] rfl rfl ?_
    refine z_xrz zt189 8 rfl zzr189 (by decide) (by decide) ?_
    show z_ev (d + 53) 276 22 [some (.ref 19), some (.int p1), some (.int p2), some (.int p3)] [.int 0] M1 _
    refine z_xZ zt276 10 rfl rfl (fun (h21 : (0 : Int) ≠ 0) => absurd h21 (by omega)) (fun (h21 : (0 : Int) = 0) => ?_)
    refine z_xP zt276 11 26 [some (.ref 19), some (.int p1), some (.int p2), some (.int p3)] [.int 0] rfl rfl ?_
    have q0 : ((0 : Int32)).toInt = 0 := rfl
    exact z_xri zt276 12 rfl zzr276 (kk 0 M1 X2)
  refine z_xP zt189 3 9 [some (.long y16), none, some (.long 0), none, some (.long 3), none] [.long 3, .long y16] rfl rfl ?_
  refine z_xI zt189 4 rfl rfl (fun (x22 : Int32) (h23 : (x22.toInt < 0 ∧ y16.toInt < 3) ∨ (x22.toInt = 0 ∧ y16.toInt = 3) ∨ (0 < x22.toInt ∧ 3 < y16.toInt)) => ?_) (z_qCmp rfl rfl)
  refine z_xZ zt189 5 rfl rfl (fun (h24 : 0 < x22.toInt) => ?_) (fun (h24 : x22.toInt ≤ 0) => ?_)
  · skip
    refine z_xP zt189 7 18 [some (.long y16), none, some (.long 0), none, some (.long 3), none] [.int 0] rfl rfl ?_
    refine z_xrz zt189 8 rfl zzr189 (by decide) (by decide) ?_
    show z_ev (d + 53) 276 22 [some (.ref 19), some (.int p1), some (.int p2), some (.int p3)] [.int 0] M1 _
    refine z_xZ zt276 10 rfl rfl (fun (h25 : (0 : Int) ≠ 0) => absurd h25 (by omega)) (fun (h25 : (0 : Int) = 0) => ?_)
    refine z_xP zt276 11 26 [some (.ref 19), some (.int p1), some (.int p2), some (.int p3)] [.int 0] rfl rfl ?_
    have q0 : ((0 : Int32)).toInt = 0 := rfl
    exact z_xri zt276 12 rfl zzr276 (kk 0 M1 X2)
  refine z_xP zt189 6 18 [some (.long y16), none, some (.long 0), none, some (.long 3), none] [.int 1] rfl rfl ?_
  refine z_xrz zt189 8 rfl zzr189 (by decide) (by decide) ?_
  show z_ev (d + 53) 276 22 [some (.ref 19), some (.int p1), some (.int p2), some (.int p3)] [.int 1] M1 _
  refine z_xZ zt276 10 rfl rfl (fun (h26 : (1 : Int) ≠ 0) => ?_) (fun (h26 : (1 : Int) = 0) => absurd h26 (by omega))
  refine z_xP zt276 13 29 [some (.ref 19), some (.int p1), some (.int p2), some (.int p3)] [.int p1, .ref 19] rfl rfl ?_
  refine z_xpf zt276 14 rfl zo276 zzf12_387 X2 f19 (by decide) (by decide) ⟨by omega, by omega⟩ rfl (by decide) zw12_48 (fun M27 X28 e29 h30 => ?_)
  refine z_xP zt276 15 33 [some (.ref 19), some (.int p1), some (.int p2), some (.int p3)] [.int p2] rfl rfl ?_
  refine z_xZ zt276 16 rfl rfl (fun (h31 : p2.toInt ≠ 0) => ?_) (fun (h31 : p2.toInt = 0) => ?_)
  · skip
    refine z_xP zt276 24 52 [some (.ref 19), some (.int p1), some (.int p2), some (.int p3)] [.int 1, .int p2] rfl rfl ?_
    refine z_xJ zt276 25 rfl rfl (fun (h32 : p2.toInt ≠ 1) => ?_) (fun (h32 : p2.toInt = 1) => ?_)
    · skip
      refine z_xP zt276 33 71 [some (.ref 19), some (.int p1), some (.int p2), some (.int p3)] [.int 2, .int p2] rfl rfl ?_
      refine z_xJ zt276 34 rfl rfl (fun (h33 : p2.toInt ≠ 2) => ?_) (fun (h33 : p2.toInt = 2) => ?_)
      · skip
        refine z_xP zt276 42 90 [some (.ref 19), some (.int p1), some (.int p2), some (.int p3)] [.ref 19, .ref 19] rfl rfl ?_
        refine z_xgX (b := 36) zt276 43 rfl zo276 zzf12_58 X28 f19 (by decide) (by decide) rfl ?_
        refine z_xP zt276 44 94 [some (.ref 19), some (.int p1), some (.int p2), some (.int p3)] [.int p1, .ref 36, .ref 19] rfl rfl ?_
        have f36 : T[36]? = some (.inr (36, 0, 20, 0, 7)) := X28.1.k rfl (by decide)
        refine z_xil zt276 45 rfl X28 f36 (by decide) (by omega) (by omega) (fun (x34 : Int32) h35 (h36 : 0 ≤ x34.toInt) (h37 : x34.toInt ≤ 7) => ?_)
        refine z_xP zt276 46 96 [some (.ref 19), some (.int p1), some (.int p2), some (.int p3)] [.int p3, .int x34, .ref 19] rfl rfl ?_
        refine z_xcV (vs := [.ref 19, .int x34, .int p3]) (r := []) (L2 := [some (.ref 19), some (.int x34), some (.int p3), none]) zt276 47 rfl zo276 zzcV12_402 (Or.inl rfl) rfl X28 f19 rfl rfl rfl (Nat.le_of_ble_eq_true rfl) zzm282 (Nat.le_of_ble_eq_true rfl) rfl ?_
        have h38 := (e29.f f19 (by decide) h4)
        have q0 : ((0 : Int32)).toInt = 0 := rfl
        refine zC282 X28.1 (by omega) h38 ⟨by omega, by omega⟩ (by omega) (fun x46 M39 X40 z41 h42 h43 h44 h45 => ?_)
        have X47 := X28.go X40 (z_sb (by decide))
        show z_ev (d + 53) 276 99 [some (.ref 19), some (.int p1), some (.int p2), some (.int p3)] [.int x46] M39 _
        exact z_xri zt276 48 rfl zzr276 (kk x46 M39 X47)
      refine z_xP zt276 35 76 [some (.ref 19), some (.int p1), some (.int p2), some (.int p3)] [.ref 19, .ref 19] rfl rfl ?_
      refine z_xgX (b := 36) zt276 36 rfl zo276 zzf12_58 X28 f19 (by decide) (by decide) rfl ?_
      refine z_xP zt276 37 80 [some (.ref 19), some (.int p1), some (.int p2), some (.int p3)] [.int p1, .ref 36, .ref 19] rfl rfl ?_
      have f36 : T[36]? = some (.inr (36, 0, 20, 0, 7)) := X28.1.k rfl (by decide)
      refine z_xil zt276 38 rfl X28 f36 (by decide) (by omega) (by omega) (fun (x49 : Int32) h50 (h51 : 0 ≤ x49.toInt) (h52 : x49.toInt ≤ 7) => ?_)
      refine z_xP zt276 39 82 [some (.ref 19), some (.int p1), some (.int p2), some (.int p3)] [.int p3, .int x49, .ref 19] rfl rfl ?_
      refine z_xcV (vs := [.ref 19, .int x49, .int p3]) (r := []) (L2 := [some (.ref 19), some (.int x49), some (.int p3)]) zt276 40 rfl zo276 zzcV12_399 (Or.inl rfl) rfl X28 f19 rfl rfl rfl (Nat.le_of_ble_eq_true rfl) zzm281 (Nat.le_of_ble_eq_true rfl) rfl ?_
      have h53 := (e29.f f19 (by decide) h4)
      have q0 : ((0 : Int32)).toInt = 0 := rfl
      refine zC281 X28.1 (by omega) h53 ⟨by omega, by omega⟩ (by omega) (fun x61 M54 X55 z56 h57 h58 h59 h60 => ?_)
      have X62 := X28.go X55 (z_sb (by decide))
      show z_ev (d + 53) 276 85 [some (.ref 19), some (.int p1), some (.int p2), some (.int p3)] [.int x61] M54 _
      refine z_xP zt276 41 99 [some (.ref 19), some (.int p1), some (.int p2), some (.int p3)] [.int x61] rfl rfl ?_
      exact z_xri zt276 48 rfl zzr276 (kk x61 M54 X62)
    refine z_xP zt276 26 57 [some (.ref 19), some (.int p1), some (.int p2), some (.int p3)] [.ref 19, .ref 19] rfl rfl ?_
    refine z_xgX (b := 36) zt276 27 rfl zo276 zzf12_58 X28 f19 (by decide) (by decide) rfl ?_
    refine z_xP zt276 28 61 [some (.ref 19), some (.int p1), some (.int p2), some (.int p3)] [.int p1, .ref 36, .ref 19] rfl rfl ?_
    have f36 : T[36]? = some (.inr (36, 0, 20, 0, 7)) := X28.1.k rfl (by decide)
    refine z_xil zt276 29 rfl X28 f36 (by decide) (by omega) (by omega) (fun (x64 : Int32) h65 (h66 : 0 ≤ x64.toInt) (h67 : x64.toInt ≤ 7) => ?_)
    refine z_xP zt276 30 63 [some (.ref 19), some (.int p1), some (.int p2), some (.int p3)] [.int p3, .int x64, .ref 19] rfl rfl ?_
    refine z_xcV (vs := [.ref 19, .int x64, .int p3]) (r := []) (L2 := [some (.ref 19), some (.int x64), some (.int p3), none]) zt276 31 rfl zo276 zzcV12_396 (Or.inl rfl) rfl X28 f19 rfl rfl rfl (Nat.le_of_ble_eq_true rfl) zzm280 (Nat.le_of_ble_eq_true rfl) rfl ?_
    have h68 := (e29.f f19 (by decide) h4)
    have q0 : ((0 : Int32)).toInt = 0 := rfl
    refine zC280 X28.1 (by omega) h68 ⟨by omega, by omega⟩ (by omega) (fun x76 M69 X70 z71 h72 h73 h74 h75 => ?_)
    have X77 := X28.go X70 (z_sb (by decide))
    show z_ev (d + 53) 276 66 [some (.ref 19), some (.int p1), some (.int p2), some (.int p3)] [.int x76] M69 _
    refine z_xP zt276 32 99 [some (.ref 19), some (.int p1), some (.int p2), some (.int p3)] [.int x76] rfl rfl ?_
    exact z_xri zt276 48 rfl zzr276 (kk x76 M69 X77)
  refine z_xP zt276 17 38 [some (.ref 19), some (.int p1), some (.int p2), some (.int p3)] [.ref 19, .ref 19] rfl rfl ?_
  refine z_xgX (b := 36) zt276 18 rfl zo276 zzf12_58 X28 f19 (by decide) (by decide) rfl ?_
  refine z_xP zt276 19 42 [some (.ref 19), some (.int p1), some (.int p2), some (.int p3)] [.int p1, .ref 36, .ref 19] rfl rfl ?_
  have f36 : T[36]? = some (.inr (36, 0, 20, 0, 7)) := X28.1.k rfl (by decide)
  refine z_xil zt276 20 rfl X28 f36 (by decide) (by omega) (by omega) (fun (x79 : Int32) h80 (h81 : 0 ≤ x79.toInt) (h82 : x79.toInt ≤ 7) => ?_)
  refine z_xP zt276 21 44 [some (.ref 19), some (.int p1), some (.int p2), some (.int p3)] [.int p3, .int x79, .ref 19] rfl rfl ?_
  refine z_xcV (vs := [.ref 19, .int x79, .int p3]) (r := []) (L2 := [some (.ref 19), some (.int x79), some (.int p3)]) zt276 22 rfl zo276 zzcV12_393 (Or.inl rfl) rfl X28 f19 rfl rfl rfl (Nat.le_of_ble_eq_true rfl) zzm277 (Nat.le_of_ble_eq_true rfl) rfl ?_
  have h83 := (e29.f f19 (by decide) h4)
  have q0 : ((0 : Int32)).toInt = 0 := rfl
  refine zC277 X28.1 (by omega) h83 ⟨by omega, by omega⟩ (by omega) (fun x91 M84 X85 z86 h87 h88 h89 h90 => ?_)
  have X92 := X28.go X85 (z_sb (by decide))
  show z_ev (d + 53) 276 47 [some (.ref 19), some (.int p1), some (.int p2), some (.int p3)] [.int x91] M84 _
  refine z_xP zt276 23 99 [some (.ref 19), some (.int p1), some (.int p2), some (.int p3)] [.int x91] rfl rfl ?_
  exact z_xri zt276 48 rfl zzr276 (kk x91 M84 X92)
def zw283 : List Nat := []
theorem zC283 {T : List zK} {d : Nat} {K : Option Value → zH → Prop} {p1 : Int32} {M0 : zH} (hW : z_W M0 T)  (kk : ∀ (x : Int32) (M1 : zH), z_X T zw283 M0 M1 → K (some (.int x)) M1) : z_ev d 283 0 [some (.ref 19), some (.int p1)] [] M0 K := by
  have X : z_X T zw283 M0 M0 := .refl hW
  refine z_xP zt283 0 1 [some (.ref 19), some (.int p1)] [.int p1] rfl rfl ?_
  refine z_xZ zt283 1 rfl rfl (fun (h1 : p1.toInt < 0) => ?_) (fun (h1 : 0 ≤ p1.toInt) => ?_)
  · skip
    refine z_xP zt283 12 28 [some (.ref 19), some (.int p1)] [.int (-1)] rfl rfl ?_
    have qm1 : (((-1) : Int32)).toInt = (-1) := rfl
    exact z_xri zt283 13 rfl zzr283 (kk (-1) M0 X)
  refine z_xP zt283 2 6 [some (.ref 19), some (.int p1)] [.ref 19, .int p1] rfl rfl ?_
  have f19 : T[19]? = some (.inl (12, 0, 0, 0, 0)) := X.1.k rfl (by decide)
  refine z_xgI zt283 3 rfl zo283 zzf12_381 X f19 (by decide) (by decide) rfl (fun (x3 : Int32) h2 (h4 : (-2147483648) ≤ x3.toInt) (h5 : x3.toInt ≤ 2147483647) => ?_)
  have h6 := z_b32 p1
  have h7 := z_b32 x3
  refine z_xJ zt283 4 rfl rfl (fun (h8 : x3.toInt ≤ p1.toInt) => ?_) (fun (h8 : p1.toInt < x3.toInt) => ?_)
  · skip
    refine z_xP zt283 12 28 [some (.ref 19), some (.int p1)] [.int (-1)] rfl rfl ?_
    have qm1 : (((-1) : Int32)).toInt = (-1) := rfl
    exact z_xri zt283 13 rfl zzr283 (kk (-1) M0 X)
  refine z_xP zt283 5 15 [some (.ref 19), some (.int p1)] [.int 24, .int p1] rfl rfl ?_
  refine z_xJ zt283 6 rfl rfl (fun (h9 : 24 ≤ p1.toInt) => ?_) (fun (h9 : p1.toInt < 24) => ?_)
  · skip
    refine z_xP zt283 12 28 [some (.ref 19), some (.int p1)] [.int (-1)] rfl rfl ?_
    have qm1 : (((-1) : Int32)).toInt = (-1) := rfl
    exact z_xri zt283 13 rfl zzr283 (kk (-1) M0 X)
  refine z_xP zt283 7 19 [some (.ref 19), some (.int p1)] [.ref 19] rfl rfl ?_
  refine z_xgX (b := 48) zt283 8 rfl zo283 zzf12_94 X f19 (by decide) (by decide) rfl ?_
  refine z_xP zt283 9 23 [some (.ref 19), some (.int p1)] [.int p1, .ref 48] rfl rfl ?_
  have f48 : T[48]? = some (.inr (48, 0, 24, (-2147483648), 2147483647)) := X.1.k rfl (by decide)
  refine z_xil zt283 10 rfl X f48 (by decide) (by omega) (by omega) (fun (x10 : Int32) h11 (h12 : (-2147483648) ≤ x10.toInt) (h13 : x10.toInt ≤ 2147483647) => ?_)
  refine z_xP zt283 11 28 [some (.ref 19), some (.int p1)] [.int x10] rfl rfl ?_
  exact z_xri zt283 13 rfl zzr283 (kk x10 M0 X)
def zw284 : List Nat := [49, 50]
theorem zC284 {T : List zK} {d : Nat} {K : Option Value → zH → Prop} {p1 : Int32} {p2 : Int32} {M0 : zH} (hW : z_W M0 T)  (kk : ∀ (x : Int32) (M1 : zH), z_X T zw284 M0 M1 → (-1) ≤ x.toInt → x.toInt ≤ 1 → K (some (.int x)) M1) : z_ev (d + 2) 284 0 [some (.ref 19), some (.int p1), some (.int p2)] [] M0 K := by
  have X : z_X T zw284 M0 M0 := .refl hW
  refine z_xP zt284 0 1 [some (.ref 19), some (.int p1), some (.int p2)] [.int p1] rfl rfl ?_
  refine z_xcS (vs := [.int p1]) (r := []) (L2 := [some (.int p1)]) zt284 1 rfl zo284 zzcS12_237 (Or.inl rfl) (Nat.le_of_ble_eq_true rfl) rfl rfl (Nat.le_of_ble_eq_true rfl) zzm225 (Nat.le_of_ble_eq_true rfl) rfl ?_
  refine z_xP zt225 0 1 [some (.int p1)] [.int p1] rfl rfl ?_
  have h1 := z_b32 p1
  refine z_xL zt225 1 rfl rfl (fun (y2 : Int64) (h3 : y2.toInt = p1.toInt) => ?_) (z_qI2L rfl)
  refine z_xP zt225 2 3 [some (.int p1)] [.long 0, .long y2] rfl rfl ?_
  refine z_xl2 zt225 3 rfl zo225 zkl12_318 ?_
  refine z_xcS (vs := [.long y2, .long 0, .long 5]) (r := []) (L2 := [some (.long y2), none, some (.long 0), none, some (.long 5), none]) zt225 4 rfl zo225 zzcS12_116 (Or.inl rfl) (Nat.le_of_ble_eq_true rfl) rfl rfl (Nat.le_of_ble_eq_true rfl) zzm189 (Nat.le_of_ble_eq_true rfl) rfl ?_
  refine z_xP zt189 0 2 [some (.long y2), none, some (.long 0), none, some (.long 5), none] [.long 0, .long y2] rfl rfl ?_
  refine z_xI zt189 1 rfl rfl (fun (x4 : Int32) (h5 : (x4.toInt < 0 ∧ y2.toInt < 0) ∨ (x4.toInt = 0 ∧ y2.toInt = 0) ∨ (0 < x4.toInt ∧ 0 < y2.toInt)) => ?_) (z_qCmp rfl rfl)
  refine z_xZ zt189 2 rfl rfl (fun (h6 : x4.toInt < 0) => ?_) (fun (h6 : 0 ≤ x4.toInt) => ?_)
  · skip
    refine z_xP zt189 7 18 [some (.long y2), none, some (.long 0), none, some (.long 5), none] [.int 0] rfl rfl ?_
    refine z_xrz zt189 8 rfl zzr189 (by decide) (by decide) ?_
    show z_ev (d + 1) 225 9 [some (.int p1)] [.int 0] M0 _
    refine z_xrz zt225 5 rfl zzr225 (by decide) (by decide) ?_
    show z_ev (d + 2) 284 4 [some (.ref 19), some (.int p1), some (.int p2)] [.int 0] M0 _
    refine z_xZ zt284 2 rfl rfl (fun (h7 : (0 : Int) = 0) => ?_) (fun (h7 : (0 : Int) ≠ 0) => absurd h7 (by omega))
    refine z_xP zt284 8 21 [some (.ref 19), some (.int p1), some (.int p2)] [.int (-1)] rfl rfl ?_
    have qm1 : (((-1) : Int32)).toInt = (-1) := rfl
    exact z_xri zt284 9 rfl zzr284 (kk (-1) M0 X (by omega) (by omega))
  refine z_xP zt189 3 9 [some (.long y2), none, some (.long 0), none, some (.long 5), none] [.long 5, .long y2] rfl rfl ?_
  refine z_xI zt189 4 rfl rfl (fun (x8 : Int32) (h9 : (x8.toInt < 0 ∧ y2.toInt < 5) ∨ (x8.toInt = 0 ∧ y2.toInt = 5) ∨ (0 < x8.toInt ∧ 5 < y2.toInt)) => ?_) (z_qCmp rfl rfl)
  refine z_xZ zt189 5 rfl rfl (fun (h10 : 0 < x8.toInt) => ?_) (fun (h10 : x8.toInt ≤ 0) => ?_)
  · skip
    refine z_xP zt189 7 18 [some (.long y2), none, some (.long 0), none, some (.long 5), none] [.int 0] rfl rfl ?_
    refine z_xrz zt189 8 rfl zzr189 (by decide) (by decide) ?_
    show z_ev (d + 1) 225 9 [some (.int p1)] [.int 0] M0 _
    refine z_xrz zt225 5 rfl zzr225 (by decide) (by decide) ?_
    show z_ev (d + 2) 284 4 [some (.ref 19), some (.int p1), some (.int p2)] [.int 0] M0 _
    refine z_xZ zt284 2 rfl rfl (fun (h11 : (0 : Int) = 0) => ?_) (fun (h11 : (0 : Int) ≠ 0) => absurd h11 (by omega))
    refine z_xP zt284 8 21 [some (.ref 19), some (.int p1), some (.int p2)] [.int (-1)] rfl rfl ?_
    have qm1 : (((-1) : Int32)).toInt = (-1) := rfl
    exact z_xri zt284 9 rfl zzr284 (kk (-1) M0 X (by omega) (by omega))
  refine z_xP zt189 6 18 [some (.long y2), none, some (.long 0), none, some (.long 5), none] [.int 1] rfl rfl ?_
  refine z_xrz zt189 8 rfl zzr189 (by decide) (by decide) ?_
  show z_ev (d + 1) 225 9 [some (.int p1)] [.int 1] M0 _
  refine z_xrz zt225 5 rfl zzr225 (by decide) (by decide) ?_
  show z_ev (d + 2) 284 4 [some (.ref 19), some (.int p1), some (.int p2)] [.int 1] M0 _
  refine z_xZ zt284 2 rfl rfl (fun (h12 : (1 : Int) = 0) => absurd h12 (by omega)) (fun (h12 : (1 : Int) ≠ 0) => ?_)
  refine z_xP zt284 3 9 [some (.ref 19), some (.int p1), some (.int p2)] [.int (-1), .int p2] rfl rfl ?_
  refine z_xJ zt284 4 rfl rfl (fun (h13 : p2.toInt = (-1)) => ?_) (fun (h13 : p2.toInt ≠ (-1)) => ?_)
  · skip
    refine z_xP zt284 10 23 [some (.ref 19), some (.int p1), some (.int p2)] [.ref 19] rfl rfl ?_
    have f19 : T[19]? = some (.inl (12, 0, 0, 0, 0)) := X.1.k rfl (by decide)
    refine z_xgX (b := 49) zt284 11 rfl zo284 zzf12_97 X f19 (by decide) (by decide) rfl ?_
    refine z_xP zt284 12 28 [some (.ref 19), some (.int p1), some (.int p2)] [.int p2, .int p1, .ref 49] rfl rfl ?_
    have f49 : T[49]? = some (.inr (49, 0, 6, (-1), 24)) := X.1.k rfl (by decide)
    refine z_xis zt284 13 rfl X f49 (by decide) (by decide) (by omega) (by omega) (by omega) (by omega) (by decide) (fun M14 X15 e16 h17 => ?_)
    refine z_xP zt284 14 30 [some (.ref 19), some (.int p1), some (.int p2)] [.ref 19] rfl rfl ?_
    refine z_xgX (b := 50) zt284 15 rfl zo284 zzf12_100 X15 f19 (by decide) (by decide) rfl ?_
    refine z_xP zt284 16 35 [some (.ref 19), some (.int p1), some (.int p2)] [.int 0, .int p1, .ref 50] rfl rfl ?_
    have f50 : T[50]? = some (.inr (50, 0, 6, 0, 60)) := X15.1.k rfl (by decide)
    have q0 : ((0 : Int32)).toInt = 0 := rfl
    refine z_xis zt284 17 rfl X15 f50 (by decide) (by decide) (by omega) (by omega) (by omega) (by omega) (by decide) (fun M18 X19 e20 h21 => ?_)
    refine z_xP zt284 18 37 [some (.ref 19), some (.int p1), some (.int p2)] [.int 1] rfl rfl ?_
    have q1 : ((1 : Int32)).toInt = 1 := rfl
    exact z_xri zt284 19 rfl zzr284 (kk 1 M18 X19 (by omega) (by omega))
  refine z_xP zt284 5 14 [some (.ref 19), some (.int p1), some (.int p2)] [.int p2, .ref 19] rfl rfl ?_
  have f19 : T[19]? = some (.inl (12, 0, 0, 0, 0)) := X.1.k rfl (by decide)
  refine z_xcV (vs := [.ref 19, .int p2]) (r := []) (L2 := [some (.ref 19), some (.int p2)]) zt284 6 rfl zo284 zzcV12_272 (Or.inl rfl) rfl X f19 rfl rfl rfl (Nat.le_of_ble_eq_true rfl) zzm237 (Nat.le_of_ble_eq_true rfl) rfl ?_
  refine z_xP zt237 0 1 [some (.ref 19), some (.int p2)] [.int p2] rfl rfl ?_
  refine z_xZ zt237 1 rfl rfl (fun (h22 : p2.toInt < 0) => ?_) (fun (h22 : 0 ≤ p2.toInt) => ?_)
  · skip
    refine z_xP zt237 6 17 [some (.ref 19), some (.int p2)] [.int 0] rfl rfl ?_
    refine z_xrz zt237 7 rfl zzr237 (by decide) (by decide) ?_
    show z_ev (d + 2) 284 17 [some (.ref 19), some (.int p1), some (.int p2)] [.int 0] M0 _
    refine z_xZ zt284 7 rfl rfl (fun (h23 : (0 : Int) ≠ 0) => absurd h23 (by omega)) (fun (h23 : (0 : Int) = 0) => ?_)
    refine z_xP zt284 8 21 [some (.ref 19), some (.int p1), some (.int p2)] [.int (-1)] rfl rfl ?_
    have qm1 : (((-1) : Int32)).toInt = (-1) := rfl
    exact z_xri zt284 9 rfl zzr284 (kk (-1) M0 X (by omega) (by omega))
  refine z_xP zt237 2 6 [some (.ref 19), some (.int p2)] [.ref 19, .int p2] rfl rfl ?_
  refine z_xgI zt237 3 rfl zo237 zzf12_269 X f19 (by decide) (by decide) rfl (fun (x25 : Int32) h24 (h26 : 0 ≤ x25.toInt) (h27 : x25.toInt ≤ 20) => ?_)
  have h28 := z_b32 p2
  refine z_xJ zt237 4 rfl rfl (fun (h29 : x25.toInt ≤ p2.toInt) => ?_) (fun (h29 : p2.toInt < x25.toInt) => ?_)
  · skip
    refine z_xP zt237 6 17 [some (.ref 19), some (.int p2)] [.int 0] rfl rfl ?_
    refine z_xrz zt237 7 rfl zzr237 (by decide) (by decide) ?_
    show z_ev (d + 2) 284 17 [some (.ref 19), some (.int p1), some (.int p2)] [.int 0] M0 _
    refine z_xZ zt284 7 rfl rfl (fun (h30 : (0 : Int) ≠ 0) => absurd h30 (by omega)) (fun (h30 : (0 : Int) = 0) => ?_)
    refine z_xP zt284 8 21 [some (.ref 19), some (.int p1), some (.int p2)] [.int (-1)] rfl rfl ?_
    have qm1 : (((-1) : Int32)).toInt = (-1) := rfl
    exact z_xri zt284 9 rfl zzr284 (kk (-1) M0 X (by omega) (by omega))
  refine z_xP zt237 5 17 [some (.ref 19), some (.int p2)] [.int 1] rfl rfl ?_
  refine z_xrz zt237 7 rfl zzr237 (by decide) (by decide) ?_
  show z_ev (d + 2) 284 17 [some (.ref 19), some (.int p1), some (.int p2)] [.int 1] M0 _
  refine z_xZ zt284 7 rfl rfl (fun (h31 : (1 : Int) ≠ 0) => ?_) (fun (h31 : (1 : Int) = 0) => absurd h31 (by omega))
  refine z_xP zt284 10 23 [some (.ref 19), some (.int p1), some (.int p2)] [.ref 19] rfl rfl ?_
  refine z_xgX (b := 49) zt284 11 rfl zo284 zzf12_97 X f19 (by decide) (by decide) rfl ?_
  refine z_xP zt284 12 28 [some (.ref 19), some (.int p1), some (.int p2)] [.int p2, .int p1, .ref 49] rfl rfl ?_
  have f49 : T[49]? = some (.inr (49, 0, 6, (-1), 24)) := X.1.k rfl (by decide)
  refine z_xis zt284 13 rfl X f49 (by decide) (by decide) (by omega) (by omega) (by omega) (by omega) (by decide) (fun M32 X33 e34 h35 => ?_)
  refine z_xP zt284 14 30 [some (.ref 19), some (.int p1), some (.int p2)] [.ref 19] rfl rfl ?_
  refine z_xgX (b := 50) zt284 15 rfl zo284 zzf12_100 X33 f19 (by decide) (by decide) rfl ?_
  refine z_xP zt284 16 35 [some (.ref 19), some (.int p1), some (.int p2)] [.int 0, .int p1, .ref 50] rfl rfl ?_
  have f50 : T[50]? = some (.inr (50, 0, 6, 0, 60)) := X33.1.k rfl (by decide)
  have q0 : ((0 : Int32)).toInt = 0 := rfl
  refine z_xis zt284 17 rfl X33 f50 (by decide) (by decide) (by omega) (by omega) (by omega) (by omega) (by decide) (fun M36 X37 e38 h39 => ?_)
  refine z_xP zt284 18 37 [some (.ref 19), some (.int p1), some (.int p2)] [.int 1] rfl rfl ?_
  have q1 : ((1 : Int32)).toInt = 1 := rfl
  exact z_xri zt284 19 rfl zzr284 (kk 1 M36 X37 (by omega) (by omega))
def zw285 : List Nat := [49, 50, 51]
theorem zB285 {T : List zK} {d : Nat} {K : Option Value → zH → Prop} {p1 : Int32} {p2 : Int32} {p3 : Int32} {M0 : zH}  (kk : ∀ (x : Int32) (M1 : zH), z_X T zw285 M0 M1 → (-14) ≤ x.toInt → x.toInt ≤ 1 → K (some (.int x)) M1) : ∀ n : Nat, (∀ (M : zH) (b4 : Int32), z_X T zw285 M0 M → 0 ≤ p1.toInt ∧ p1.toInt ≤ 5 → 0 ≤ p2.toInt ∧ p2.toInt ≤ 4 → 0 ≤ p3.toInt ∧ p3.toInt ≤ 60 → 0 ≤ b4.toInt ∧ b4.toInt ≤ 360 → ((0) * 2 + 0) * 361 + (360 - b4.toInt) < (n : Int) → z_ev (d + 2) 285 57 [some (.ref 19), some (.int p1), some (.int p2), some (.int p3), some (.int b4)] [] M K) := by
  intro n
  induction n with
  | zero => exact by intros; exfalso; omega
  | succ n ih =>
    intro M b4 X hh0 hh1 hh2 hh3 hE
    refine z_xP zt285 29 62 [some (.ref 19), some (.int p1), some (.int p2), some (.int p3), some (.int b4)] [.int p1, .int 60, .int b4] rfl rfl ?_
    refine z_xI zt285 30 rfl rfl (fun (x1 : Int32) (h2 : x1.toInt = 60 * p1.toInt) => ?_) (z_pMul rfl rfl (by omega) (by omega))
    refine z_xP zt285 31 65 [some (.ref 19), some (.int p1), some (.int p2), some (.int p3), some (.int b4)] [.int 60, .int x1, .int b4] rfl rfl ?_
    refine z_xI zt285 32 rfl rfl (fun (x3 : Int32) (h4 : x3.toInt = x1.toInt + 60) => ?_) (z_pAdd rfl rfl (by omega) (by omega))
    refine z_xJ zt285 33 rfl rfl (fun (h5 : x3.toInt ≤ b4.toInt) => ?_) (fun (h5 : b4.toInt < x3.toInt) => ?_)
    · skip
      refine z_xP zt285 40 84 [some (.ref 19), some (.int p1), some (.int p2), some (.int p3), some (.int b4)] [.int 1] rfl rfl ?_
      have q1 : ((1 : Int32)).toInt = 1 := rfl
      exact z_xri zt285 41 rfl zzr285 (kk 1 M X (by omega) (by omega))
    refine z_xP zt285 34 70 [some (.ref 19), some (.int p1), some (.int p2), some (.int p3), some (.int b4)] [.ref 19] rfl rfl ?_
    have f19 : T[19]? = some (.inl (12, 0, 0, 0, 0)) := X.1.k rfl (by decide)
    refine z_xgX (b := 51) zt285 35 rfl zo285 zzf12_103 X f19 (by decide) (by decide) rfl ?_
    refine z_xP zt285 36 76 [some (.ref 19), some (.int p1), some (.int p2), some (.int p3), some (.int b4)] [.long 0, .int b4, .ref 51] rfl rfl ?_
    have f51 : T[51]? = some (.inr (51, 1, 360, 0, 0)) := X.1.k rfl (by decide)
    refine z_xls zt285 37 rfl X f51 (by decide) (by decide) (by omega) (by omega) (by decide) (fun M6 X7 e8 => ?_)
    refine z_xN zt285 38 rfl rfl (fun (x9 : Int32) (h10 : x9.toInt = b4.toInt + 1) => ?_) (z_pAdd rfl rfl (by omega) (by omega))
    show z_ev (d + 2) 285 80 [some (.ref 19), some (.int p1), some (.int p2), some (.int p3), some (.int x9)] [] M6 _
    refine z_xP zt285 39 57 [some (.ref 19), some (.int p1), some (.int p2), some (.int p3), some (.int x9)] [] rfl rfl ?_
    exact ih M6 x9 X7 ⟨by omega, by omega⟩ ⟨by omega, by omega⟩ ⟨by omega, by omega⟩ ⟨by omega, by omega⟩ (by omega)
theorem zC285 {T : List zK} {d : Nat} {K : Option Value → zH → Prop} {p1 : Int32} {p2 : Int32} {p3 : Int32} {M0 : zH} (hW : z_W M0 T)  (kk : ∀ (x : Int32) (M1 : zH), z_X T zw285 M0 M1 → (-14) ≤ x.toInt → x.toInt ≤ 1 → K (some (.int x)) M1) : z_ev (d + 2) 285 0 [some (.ref 19), some (.int p1), some (.int p2), some (.int p3), none] [] M0 K := by
  have X : z_X T zw285 M0 M0 := .refl hW
  refine z_xP zt285 0 1 [some (.ref 19), some (.int p1), some (.int p2), some (.int p3), none] [.int p1] rfl rfl ?_
  refine z_xcS (vs := [.int p1]) (r := []) (L2 := [some (.int p1)]) zt285 1 rfl zo285 zzcS12_237 (Or.inl rfl) (Nat.le_of_ble_eq_true rfl) rfl rfl (Nat.le_of_ble_eq_true rfl) zzm225 (Nat.le_of_ble_eq_true rfl) rfl ?_
  refine z_xP zt225 0 1 [some (.int p1)] [.int p1] rfl rfl ?_
  have h1 := z_b32 p1
  refine z_xL zt225 1 rfl rfl (fun (y2 : Int64) (h3 : y2.toInt = p1.toInt) => ?_) (z_qI2L rfl)
  refine z_xP zt225 2 3 [some (.int p1)] [.long 0, .long y2] rfl rfl ?_
  refine z_xl2 zt225 3 rfl zo225 zkl12_318 ?_
  refine z_xcS (vs := [.long y2, .long 0, .long 5]) (r := []) (L2 := [some (.long y2), none, some (.long 0), none, some (.long 5), none]) zt225 4 rfl zo225 zzcS12_116 (Or.inl rfl) (Nat.le_of_ble_eq_true rfl) rfl rfl (Nat.le_of_ble_eq_true rfl) zzm189 (Nat.le_of_ble_eq_true rfl) rfl ?_
  refine z_xP zt189 0 2 [some (.long y2), none, some (.long 0), none, some (.long 5), none] [.long 0, .long y2] rfl rfl ?_
  refine z_xI zt189 1 rfl rfl (fun (x4 : Int32) (h5 : (x4.toInt < 0 ∧ y2.toInt < 0) ∨ (x4.toInt = 0 ∧ y2.toInt = 0) ∨ (0 < x4.toInt ∧ 0 < y2.toInt)) => ?_) (z_qCmp rfl rfl)
  refine z_xZ zt189 2 rfl rfl (fun (h6 : x4.toInt < 0) => ?_) (fun (h6 : 0 ≤ x4.toInt) => ?_)
  · skip
    refine z_xP zt189 7 18 [some (.long y2), none, some (.long 0), none, some (.long 5), none] [.int 0] rfl rfl ?_
    refine z_xrz zt189 8 rfl zzr189 (by decide) (by decide) ?_
    show z_ev (d + 1) 225 9 [some (.int p1)] [.int 0] M0 _
    refine z_xrz zt225 5 rfl zzr225 (by decide) (by decide) ?_
    show z_ev (d + 2) 285 4 [some (.ref 19), some (.int p1), some (.int p2), some (.int p3), none] [.int 0] M0 _
    refine z_xZ zt285 2 rfl rfl (fun (h7 : (0 : Int) = 0) => ?_) (fun (h7 : (0 : Int) ≠ 0) => absurd h7 (by omega))
    refine z_xP zt285 11 26 [some (.ref 19), some (.int p1), some (.int p2), some (.int p3), none] [.int (-1)] rfl rfl ?_
    have qm1 : (((-1) : Int32)).toInt = (-1) := rfl
    exact z_xri zt285 12 rfl zzr285 (kk (-1) M0 X (by omega) (by omega))
  refine z_xP zt189 3 9 [some (.long y2), none, some (.long 0), none, some (.long 5), none] [.long 5, .long y2] rfl rfl ?_
  refine z_xI zt189 4 rfl rfl (fun (x8 : Int32) (h9 : (x8.toInt < 0 ∧ y2.toInt < 5) ∨ (x8.toInt = 0 ∧ y2.toInt = 5) ∨ (0 < x8.toInt ∧ 5 < y2.toInt)) => ?_) (z_qCmp rfl rfl)
  refine z_xZ zt189 5 rfl rfl (fun (h10 : 0 < x8.toInt) => ?_) (fun (h10 : x8.toInt ≤ 0) => ?_)
  · skip
    refine z_xP zt189 7 18 [some (.long y2), none, some (.long 0), none, some (.long 5), none] [.int 0] rfl rfl ?_
    refine z_xrz zt189 8 rfl zzr189 (by decide) (by decide) ?_
    show z_ev (d + 1) 225 9 [some (.int p1)] [.int 0] M0 _
    refine z_xrz zt225 5 rfl zzr225 (by decide) (by decide) ?_
    show z_ev (d + 2) 285 4 [some (.ref 19), some (.int p1), some (.int p2), some (.int p3), none] [.int 0] M0 _
    refine z_xZ zt285 2 rfl rfl (fun (h11 : (0 : Int) = 0) => ?_) (fun (h11 : (0 : Int) ≠ 0) => absurd h11 (by omega))
    refine z_xP zt285 11 26 [some (.ref 19), some (.int p1), some (.int p2), some (.int p3), none] [.int (-1)] rfl rfl ?_
    have qm1 : (((-1) : Int32)).toInt = (-1) := rfl
    exact z_xri zt285 12 rfl zzr285 (kk (-1) M0 X (by omega) (by omega))
  refine z_xP zt189 6 18 [some (.long y2), none, some (.long 0), none, some (.long 5), none] [.int 1] rfl rfl ?_
  refine z_xrz zt189 8 rfl zzr189 (by decide) (by decide) ?_
  show z_ev (d + 1) 225 9 [some (.int p1)] [.int 1] M0 _
  refine z_xrz zt225 5 rfl zzr225 (by decide) (by decide) ?_
  show z_ev (d + 2) 285 4 [some (.ref 19), some (.int p1), some (.int p2), some (.int p3), none] [.int 1] M0 _
  refine z_xZ zt285 2 rfl rfl (fun (h12 : (1 : Int) = 0) => absurd h12 (by omega)) (fun (h12 : (1 : Int) ≠ 0) => ?_)
  refine z_xP zt285 3 8 [some (.ref 19), some (.int p1), some (.int p2), some (.int p3), none] [.int p2] rfl rfl ?_
  have h13 := z_b32 p2
  refine z_xL zt285 4 rfl rfl (fun (y14 : Int64) (h15 : y14.toInt = p2.toInt) => ?_) (z_qI2L rfl)
  refine z_xP zt285 5 10 [some (.ref 19), some (.int p1), some (.int p2), some (.int p3), none] [.long 0, .long y14] rfl rfl ?_
  refine z_xl2 zt285 6 rfl zo285 zkl12_114 ?_
  refine z_xcS (vs := [.long y14, .long 0, .long 4]) (r := []) (L2 := [some (.long y14), none, some (.long 0), none, some (.long 4), none]) zt285 7 rfl zo285 zzcS12_116 (Or.inl rfl) (Nat.le_of_ble_eq_true rfl) rfl rfl (Nat.le_of_ble_eq_true rfl) zzm189 (Nat.le_of_ble_eq_true rfl) rfl ?_
  refine z_xP zt189 0 2 [some (.long y14), none, some (.long 0), none, some (.long 4), none] [.long 0, .long y14] rfl rfl ?_
  refine z_xI zt189 1 rfl rfl (fun (x16 : Int32) (h17 : (x16.toInt < 0 ∧ y14.toInt < 0) ∨ (x16.toInt = 0 ∧ y14.toInt = 0) ∨ (0 < x16.toInt ∧ 0 < y14.toInt)) => ?_) (z_qCmp rfl rfl)
  refine z_xZ zt189 2 rfl rfl (fun (h18 : x16.toInt < 0) => ?_) (fun (h18 : 0 ≤ x16.toInt) => ?_)
  · skip
    refine z_xP zt189 7 18 [some (.long y14), none, some (.long 0), none, some (.long 4), none] [.int 0] rfl rfl ?_
    refine z_xrz zt189 8 rfl zzr189 (by decide) (by decide) ?_
    show z_ev (d + 2) 285 16 [some (.ref 19), some (.int p1), some (.int p2), some (.int p3), none] [.int 0] M0 _
    refine z_xZ zt285 8 rfl rfl (fun (h19 : (0 : Int) = 0) => ?_) (fun (h19 : (0 : Int) ≠ 0) => absurd h19 (by omega))
    refine z_xP zt285 11 26 [some (.ref 19), some (.int p1), some (.int p2), some (.int p3), none] [.int (-1)] rfl rfl ?_
    have qm1 : (((-1) : Int32)).toInt = (-1) := rfl
    exact z_xri zt285 12 rfl zzr285 (kk (-1) M0 X (by omega) (by omega))
  refine z_xP zt189 3 9 [some (.long y14), none, some (.long 0), none, some (.long 4), none] [.long 4, .long y14] rfl rfl ?_
  refine z_xI zt189 4 rfl rfl (fun (x20 : Int32) (h21 : (x20.toInt < 0 ∧ y14.toInt < 4) ∨ (x20.toInt = 0 ∧ y14.toInt = 4) ∨ (0 < x20.toInt ∧ 4 < y14.toInt)) => ?_) (z_qCmp rfl rfl)
  refine z_xZ zt189 5 rfl rfl (fun (h22 : 0 < x20.toInt) => ?_) (fun (h22 : x20.toInt ≤ 0) => ?_)
  · skip
    refine z_xP zt189 7 18 [some (.long y14), none, some (.long 0), none, some (.long 4), none] [.int 0] rfl rfl ?_
    refine z_xrz zt189 8 rfl zzr189 (by decide) (by decide) ?_
    show z_ev (d + 2) 285 16 [some (.ref 19), some (.int p1), some (.int p2), some (.int p3), none] [.int 0] M0 _
    refine z_xZ zt285 8 rfl rfl (fun (h23 : (0 : Int) = 0) => ?_) (fun (h23 : (0 : Int) ≠ 0) => absurd h23 (by omega))
    refine z_xP zt285 11 26 [some (.ref 19), some (.int p1), some (.int p2), some (.int p3), none] [.int (-1)] rfl rfl ?_
    have qm1 : (((-1) : Int32)).toInt = (-1) := rfl
    exact z_xri zt285 12 rfl zzr285 (kk (-1) M0 X (by omega) (by omega))
  refine z_xP zt189 6 18 [some (.long y14), none, some (.long 0), none, some (.long 4), none] [.int 1] rfl rfl ?_
  refine z_xrz zt189 8 rfl zzr189 (by decide) (by decide) ?_
  show z_ev (d + 2) 285 16 [some (.ref 19), some (.int p1), some (.int p2), some (.int p3), none] [.int 1] M0 _
  refine z_xZ zt285 8 rfl rfl (fun (h24 : (1 : Int) = 0) => absurd h24 (by omega)) (fun (h24 : (1 : Int) ≠ 0) => ?_)
  refine z_xP zt285 9 22 [some (.ref 19), some (.int p1), some (.int p2), some (.int p3), none] [.int 60, .int p3] rfl rfl ?_
  refine z_xJ zt285 10 rfl rfl (fun (h25 : p3.toInt ≤ 60) => ?_) (fun (h25 : 60 < p3.toInt) => ?_)
  · skip
    refine z_xP zt285 13 28 [some (.ref 19), some (.int p1), some (.int p2), some (.int p3), none] [.int p3] rfl rfl ?_
    refine z_xZ zt285 14 rfl rfl (fun (h26 : 0 ≤ p3.toInt) => ?_) (fun (h26 : p3.toInt < 0) => ?_)
    · skip
      refine z_xP zt285 17 35 [some (.ref 19), some (.int p1), some (.int p2), some (.int p3), none] [.ref 19] rfl rfl ?_
      have f19 : T[19]? = some (.inl (12, 0, 0, 0, 0)) := X.1.k rfl (by decide)
      refine z_xgX (b := 49) zt285 18 rfl zo285 zzf12_97 X f19 (by decide) (by decide) rfl ?_
      refine z_xP zt285 19 42 [some (.ref 19), some (.int p1), some (.int p2), some (.int p3), none] [.int p2, .int 20, .int p1, .ref 49] rfl rfl ?_
      refine z_xI zt285 20 rfl rfl (fun (x27 : Int32) (h28 : x27.toInt = 20 + p2.toInt) => ?_) (z_pAdd rfl rfl (by omega) (by omega))
      have f49 : T[49]? = some (.inr (49, 0, 6, (-1), 24)) := X.1.k rfl (by decide)
      refine z_xis zt285 21 rfl X f49 (by decide) (by decide) (by omega) (by omega) (by omega) (by omega) (by decide) (fun M29 X30 e31 h32 => ?_)
      refine z_xP zt285 22 45 [some (.ref 19), some (.int p1), some (.int p2), some (.int p3), none] [.ref 19] rfl rfl ?_
      refine z_xgX (b := 50) zt285 23 rfl zo285 zzf12_100 X30 f19 (by decide) (by decide) rfl ?_
      refine z_xP zt285 24 50 [some (.ref 19), some (.int p1), some (.int p2), some (.int p3), none] [.int p3, .int p1, .ref 50] rfl rfl ?_
      have f50 : T[50]? = some (.inr (50, 0, 6, 0, 60)) := X30.1.k rfl (by decide)
      refine z_xis zt285 25 rfl X30 f50 (by decide) (by decide) (by omega) (by omega) (by omega) (by omega) (by decide) (fun M33 X34 e35 h36 => ?_)
      refine z_xP zt285 26 54 [some (.ref 19), some (.int p1), some (.int p2), some (.int p3), none] [.int p1, .int 60] rfl rfl ?_
      refine z_xI zt285 27 rfl rfl (fun (x37 : Int32) (h38 : x37.toInt = 60 * p1.toInt) => ?_) (z_pMul rfl rfl (by omega) (by omega))
      refine z_xP zt285 28 57 [some (.ref 19), some (.int p1), some (.int p2), some (.int p3), some (.int x37)] [] rfl rfl ?_
      exact (zB285 kk 722) M33 x37 X34 ⟨by omega, by omega⟩ ⟨by omega, by omega⟩ ⟨by omega, by omega⟩ ⟨by omega, by omega⟩ (by omega)
    refine z_xP zt285 15 33 [some (.ref 19), some (.int p1), some (.int p2), some (.int p3), none] [.int (-14)] rfl rfl ?_
    have qm14 : (((-14) : Int32)).toInt = (-14) := rfl
    exact z_xri zt285 16 rfl zzr285 (kk (-14) M0 X (by omega) (by omega))
  refine z_xP zt285 11 26 [some (.ref 19), some (.int p1), some (.int p2), some (.int p3), none] [.int (-1)] rfl rfl ?_
  have qm1 : (((-1) : Int32)).toInt = (-1) := rfl
  exact z_xri zt285 12 rfl zzr285 (kk (-1) M0 X (by omega) (by omega))
def zw286 : List Nat := [51]
theorem zC286 {T : List zK} {d : Nat} {K : Option Value → zH → Prop} {p1 : Int32} {p2 : Int32} {p3 : Int64} {M0 : zH} (hW : z_W M0 T)  (kk : ∀ (x : Int32) (M1 : zH), z_X T zw286 M0 M1 → (-13) ≤ x.toInt → x.toInt ≤ 1 → K (some (.int x)) M1) : z_ev (d + 3) 286 0 [some (.ref 19), some (.int p1), some (.int p2), some (.long p3), none, none] [] M0 K := by
  have X : z_X T zw286 M0 M0 := .refl hW
  refine z_xP zt286 0 3 [some (.ref 19), some (.int p1), some (.int p2), some (.long p3), none, none] [.int p2, .int p1, .ref 19] rfl rfl ?_
  have f19 : T[19]? = some (.inl (12, 0, 0, 0, 0)) := X.1.k rfl (by decide)
  refine z_xcV (vs := [.ref 19, .int p1, .int p2]) (r := []) (L2 := [some (.ref 19), some (.int p1), some (.int p2)]) zt286 1 rfl zo286 zzcV12_405 (Or.inl rfl) rfl X f19 rfl rfl rfl (Nat.le_of_ble_eq_true rfl) zzm287 (Nat.le_of_ble_eq_true rfl) rfl ?_
  refine z_xP zt287 0 1 [some (.ref 19), some (.int p1), some (.int p2)] [.int p1] rfl rfl ?_
  refine z_xcS (vs := [.int p1]) (r := []) (L2 := [some (.int p1)]) zt287 1 rfl zo287 zzcS12_237 (Or.inl rfl) (Nat.le_of_ble_eq_true rfl) rfl rfl (Nat.le_of_ble_eq_true rfl) zzm225 (Nat.le_of_ble_eq_true rfl) rfl ?_
  refine z_xP zt225 0 1 [some (.int p1)] [.int p1] rfl rfl ?_
  have h1 := z_b32 p1
  refine z_xL zt225 1 rfl rfl (fun (y2 : Int64) (h3 : y2.toInt = p1.toInt) => ?_) (z_qI2L rfl)
  refine z_xP zt225 2 3 [some (.int p1)] [.long 0, .long y2] rfl rfl ?_
  refine z_xl2 zt225 3 rfl zo225 zkl12_318 ?_
  refine z_xcS (vs := [.long y2, .long 0, .long 5]) (r := []) (L2 := [some (.long y2), none, some (.long 0), none, some (.long 5), none]) zt225 4 rfl zo225 zzcS12_116 (Or.inl rfl) (Nat.le_of_ble_eq_true rfl) rfl rfl (Nat.le_of_ble_eq_true rfl) zzm189 (Nat.le_of_ble_eq_true rfl) rfl ?_
  refine z_xP zt189 0 2 [some (.long y2), none, some (.long 0), none, some (.long 5), none] [.long 0, .long y2] rfl rfl ?_
  refine z_xI zt189 1 rfl rfl (fun (x4 : Int32) (h5 : (x4.toInt < 0 ∧ y2.toInt < 0) ∨ (x4.toInt = 0 ∧ y2.toInt = 0) ∨ (0 < x4.toInt ∧ 0 < y2.toInt)) => ?_) (z_qCmp rfl rfl)
  refine z_xZ zt189 2 rfl rfl (fun (h6 : x4.toInt < 0) => ?_) (fun (h6 : 0 ≤ x4.toInt) => ?_)
  · skip
    refine z_xP zt189 7 18 [some (.long y2), none, some (.long 0), none, some (.long 5), none] [.int 0] rfl rfl ?_
    refine z_xrz zt189 8 rfl zzr189 (by decide) (by decide) ?_
    show z_ev (d + 1) 225 9 [some (.int p1)] [.int 0] M0 _
    refine z_xrz zt225 5 rfl zzr225 (by decide) (by decide) ?_
    show z_ev (d + 2) 287 4 [some (.ref 19), some (.int p1), some (.int p2)] [.int 0] M0 _
    refine z_xZ zt287 2 rfl rfl (fun (h7 : (0 : Int) ≠ 0) => absurd h7 (by omega)) (fun (h7 : (0 : Int) = 0) => ?_)
    refine z_xP zt287 3 8 [some (.ref 19), some (.int p1), some (.int p2)] [.int (-1)] rfl rfl ?_
    refine z_xri zt287 4 rfl zzr287 ?_
    show z_ev (d + 3) 286 6 [some (.ref 19), some (.int p1), some (.int p2), some (.long p3), none, none] [.int (-1)] M0 _
    refine z_xP zt286 2 10 [some (.ref 19), some (.int p1), some (.int p2), some (.long p3), none, some (.int (-1))] [.int (-1)] rfl rfl ?_
    refine z_xZ zt286 3 rfl rfl (fun (h8 : ((-1) : Int) ≠ 0) => ?_) (fun (h8 : ((-1) : Int) = 0) => absurd h8 (by omega))
    refine z_xP zt286 19 39 [some (.ref 19), some (.int p1), some (.int p2), some (.long p3), none, some (.int (-1))] [.int (-1)] rfl rfl ?_
    refine z_xZ zt286 20 rfl rfl (fun (h9 : ((-1) : Int) ≠ 0) => ?_) (fun (h9 : ((-1) : Int) = 0) => absurd h9 (by omega))
    refine z_xP zt286 22 48 [some (.ref 19), some (.int p1), some (.int p2), some (.long p3), none, some (.int (-1))] [.int (-1)] rfl rfl ?_
    have qm1 : (((-1) : Int32)).toInt = (-1) := rfl
    exact z_xri zt286 23 rfl zzr286 (kk (-1) M0 X (by omega) (by omega))
  refine z_xP zt189 3 9 [some (.long y2), none, some (.long 0), none, some (.long 5), none] [.long 5, .long y2] rfl rfl ?_
  refine z_xI zt189 4 rfl rfl (fun (x10 : Int32) (h11 : (x10.toInt < 0 ∧ y2.toInt < 5) ∨ (x10.toInt = 0 ∧ y2.toInt = 5) ∨ (0 < x10.toInt ∧ 5 < y2.toInt)) => ?_) (z_qCmp rfl rfl)
  refine z_xZ zt189 5 rfl rfl (fun (h12 : 0 < x10.toInt) => ?_) (fun (h12 : x10.toInt ≤ 0) => ?_)
  · skip
    refine z_xP zt189 7 18 [some (.long y2), none, some (.long 0), none, some (.long 5), none] [.int 0] rfl rfl ?_
    refine z_xrz zt189 8 rfl zzr189 (by decide) (by decide) ?_
    show z_ev (d + 1) 225 9 [some (.int p1)] [.int 0] M0 _
    refine z_xrz zt225 5 rfl zzr225 (by decide) (by decide) ?_
    show z_ev (d + 2) 287 4 [some (.ref 19), some (.int p1), some (.int p2)] [.int 0] M0 _
    refine z_xZ zt287 2 rfl rfl (fun (h13 : (0 : Int) ≠ 0) => absurd h13 (by omega)) (fun (h13 : (0 : Int) = 0) => ?_)
    refine z_xP zt287 3 8 [some (.ref 19), some (.int p1), some (.int p2)] [.int (-1)] rfl rfl ?_
    refine z_xri zt287 4 rfl zzr287 ?_
    show z_ev (d + 3) 286 6 [some (.ref 19), some (.int p1), some (.int p2), some (.long p3), none, none] [.int (-1)] M0 _
    refine z_xP zt286 2 10 [some (.ref 19), some (.int p1), some (.int p2), some (.long p3), none, some (.int (-1))] [.int (-1)] rfl rfl ?_
    refine z_xZ zt286 3 rfl rfl (fun (h14 : ((-1) : Int) ≠ 0) => ?_) (fun (h14 : ((-1) : Int) = 0) => absurd h14 (by omega))
    refine z_xP zt286 19 39 [some (.ref 19), some (.int p1), some (.int p2), some (.long p3), none, some (.int (-1))] [.int (-1)] rfl rfl ?_
    refine z_xZ zt286 20 rfl rfl (fun (h15 : ((-1) : Int) ≠ 0) => ?_) (fun (h15 : ((-1) : Int) = 0) => absurd h15 (by omega))
    refine z_xP zt286 22 48 [some (.ref 19), some (.int p1), some (.int p2), some (.long p3), none, some (.int (-1))] [.int (-1)] rfl rfl ?_
    have qm1 : (((-1) : Int32)).toInt = (-1) := rfl
    exact z_xri zt286 23 rfl zzr286 (kk (-1) M0 X (by omega) (by omega))
  refine z_xP zt189 6 18 [some (.long y2), none, some (.long 0), none, some (.long 5), none] [.int 1] rfl rfl ?_
  refine z_xrz zt189 8 rfl zzr189 (by decide) (by decide) ?_
  show z_ev (d + 1) 225 9 [some (.int p1)] [.int 1] M0 _
  refine z_xrz zt225 5 rfl zzr225 (by decide) (by decide) ?_
  show z_ev (d + 2) 287 4 [some (.ref 19), some (.int p1), some (.int p2)] [.int 1] M0 _
  refine z_xZ zt287 2 rfl rfl (fun (h16 : (1 : Int) ≠ 0) => ?_) (fun (h16 : (1 : Int) = 0) => absurd h16 (by omega))
  refine z_xP zt287 5 10 [some (.ref 19), some (.int p1), some (.int p2)] [.ref 19] rfl rfl ?_
  refine z_xgX (b := 49) zt287 6 rfl zo287 zzf12_97 X f19 (by decide) (by decide) rfl ?_
  refine z_xP zt287 7 14 [some (.ref 19), some (.int p1), some (.int p2)] [.int p1, .ref 49] rfl rfl ?_
  have f49 : T[49]? = some (.inr (49, 0, 6, (-1), 24)) := X.1.k rfl (by decide)
  refine z_xil zt287 8 rfl X f49 (by decide) (by omega) (by omega) (fun (x17 : Int32) h18 (h19 : (-1) ≤ x17.toInt) (h20 : x17.toInt ≤ 24) => ?_)
  refine z_xZ zt287 9 rfl rfl (fun (h21 : 0 ≤ x17.toInt) => ?_) (fun (h21 : x17.toInt < 0) => ?_)
  · skip
    refine z_xP zt287 12 22 [some (.ref 19), some (.int p1), some (.int p2)] [.ref 19] rfl rfl ?_
    refine z_xgX (b := 49) zt287 13 rfl zo287 zzf12_97 X f19 (by decide) (by decide) rfl ?_
    refine z_xP zt287 14 26 [some (.ref 19), some (.int p1), some (.int p2)] [.int p1, .ref 49] rfl rfl ?_
    refine z_xil zt287 15 rfl X f49 (by decide) (by omega) (by omega) (fun (x22 : Int32) h23 (h24 : (-1) ≤ x22.toInt) (h25 : x22.toInt ≤ 24) => ?_)
    have h26 := congrArg Int32.toInt (h23.symm.trans h18)
    refine z_xP zt287 16 29 [some (.ref 19), some (.int p1), some (.int p2)] [.int 20, .int x22] rfl rfl ?_
    refine z_xJ zt287 17 rfl rfl (fun (h27 : 20 ≤ x22.toInt) => ?_) (fun (h27 : x22.toInt < 20) => ?_)
    · skip
      refine z_xP zt287 20 36 [some (.ref 19), some (.int p1), some (.int p2)] [.int p2] rfl rfl ?_
      refine z_xZ zt287 21 rfl rfl (fun (h28 : p2.toInt < 0) => ?_) (fun (h28 : 0 ≤ p2.toInt) => ?_)
      · skip
        refine z_xP zt287 28 55 [some (.ref 19), some (.int p1), some (.int p2)] [.int (-13)] rfl rfl ?_
        refine z_xri zt287 29 rfl zzr287 ?_
        show z_ev (d + 3) 286 6 [some (.ref 19), some (.int p1), some (.int p2), some (.long p3), none, none] [.int (-13)] M0 _
        refine z_xP zt286 2 10 [some (.ref 19), some (.int p1), some (.int p2), some (.long p3), none, some (.int (-13))] [.int (-13)] rfl rfl ?_
        refine z_xZ zt286 3 rfl rfl (fun (h29 : ((-13) : Int) ≠ 0) => ?_) (fun (h29 : ((-13) : Int) = 0) => absurd h29 (by omega))
        refine z_xP zt286 19 39 [some (.ref 19), some (.int p1), some (.int p2), some (.long p3), none, some (.int (-13))] [.int (-13)] rfl rfl ?_
        refine z_xZ zt286 20 rfl rfl (fun (h30 : ((-13) : Int) ≠ 0) => ?_) (fun (h30 : ((-13) : Int) = 0) => absurd h30 (by omega))
        refine z_xP zt286 22 48 [some (.ref 19), some (.int p1), some (.int p2), some (.long p3), none, some (.int (-13))] [.int (-13)] rfl rfl ?_
        have qm13 : (((-13) : Int32)).toInt = (-13) := rfl
        exact z_xri zt286 23 rfl zzr286 (kk (-13) M0 X (by omega) (by omega))
      refine z_xP zt287 22 41 [some (.ref 19), some (.int p1), some (.int p2)] [.ref 19, .int p2] rfl rfl ?_
      refine z_xgX (b := 50) zt287 23 rfl zo287 zzf12_100 X f19 (by decide) (by decide) rfl ?_
      refine z_xP zt287 24 45 [some (.ref 19), some (.int p1), some (.int p2)] [.int p1, .ref 50, .int p2] rfl rfl ?_
      have f50 : T[50]? = some (.inr (50, 0, 6, 0, 60)) := X.1.k rfl (by decide)
      refine z_xil zt287 25 rfl X f50 (by decide) (by omega) (by omega) (fun (x31 : Int32) h32 (h33 : 0 ≤ x31.toInt) (h34 : x31.toInt ≤ 60) => ?_)
      have h35 := z_b32 p2
      refine z_xJ zt287 26 rfl rfl (fun (h36 : x31.toInt ≤ p2.toInt) => ?_) (fun (h36 : p2.toInt < x31.toInt) => ?_)
      · skip
        refine z_xP zt287 28 55 [some (.ref 19), some (.int p1), some (.int p2)] [.int (-13)] rfl rfl ?_
        refine z_xri zt287 29 rfl zzr287 ?_
        show z_ev (d + 3) 286 6 [some (.ref 19), some (.int p1), some (.int p2), some (.long p3), none, none] [.int (-13)] M0 _
        refine z_xP zt286 2 10 [some (.ref 19), some (.int p1), some (.int p2), some (.long p3), none, some (.int (-13))] [.int (-13)] rfl rfl ?_
        refine z_xZ zt286 3 rfl rfl (fun (h37 : ((-13) : Int) ≠ 0) => ?_) (fun (h37 : ((-13) : Int) = 0) => absurd h37 (by omega))
        refine z_xP zt286 19 39 [some (.ref 19), some (.int p1), some (.int p2), some (.long p3), none, some (.int (-13))] [.int (-13)] rfl rfl ?_
        refine z_xZ zt286 20 rfl rfl (fun (h38 : ((-13) : Int) ≠ 0) => ?_) (fun (h38 : ((-13) : Int) = 0) => absurd h38 (by omega))
        refine z_xP zt286 22 48 [some (.ref 19), some (.int p1), some (.int p2), some (.long p3), none, some (.int (-13))] [.int (-13)] rfl rfl ?_
        have qm13 : (((-13) : Int32)).toInt = (-13) := rfl
        exact z_xri zt286 23 rfl zzr286 (kk (-13) M0 X (by omega) (by omega))
      refine z_xP zt287 27 55 [some (.ref 19), some (.int p1), some (.int p2)] [.int 0] rfl rfl ?_
      refine z_xri zt287 29 rfl zzr287 ?_
      show z_ev (d + 3) 286 6 [some (.ref 19), some (.int p1), some (.int p2), some (.long p3), none, none] [.int 0] M0 _
      refine z_xP zt286 2 10 [some (.ref 19), some (.int p1), some (.int p2), some (.long p3), none, some (.int 0)] [.int 0] rfl rfl ?_
      refine z_xZ zt286 3 rfl rfl (fun (h39 : (0 : Int) ≠ 0) => absurd h39 (by omega)) (fun (h39 : (0 : Int) = 0) => ?_)
      refine z_xP zt286 4 14 [some (.ref 19), some (.int p1), some (.int p2), some (.long p3), none, some (.int 0)] [.ref 19] rfl rfl ?_
      refine z_xgX (b := 51) zt286 5 rfl zo286 zzf12_103 X f19 (by decide) (by decide) rfl ?_
      refine z_xP zt286 6 20 [some (.ref 19), some (.int p1), some (.int p2), some (.long p3), none, some (.int 0)] [.int p1, .int 60, .ref 51] rfl rfl ?_
      refine z_xI zt286 7 rfl rfl (fun (x40 : Int32) (h41 : x40.toInt = 60 * p1.toInt) => ?_) (z_pMul rfl rfl (by omega) (by omega))
      refine z_xP zt286 8 22 [some (.ref 19), some (.int p1), some (.int p2), some (.long p3), none, some (.int 0)] [.int p2, .int x40, .ref 51] rfl rfl ?_
      refine z_xI zt286 9 rfl rfl (fun (x42 : Int32) (h43 : x42.toInt = x40.toInt + p2.toInt) => ?_) (z_pAdd rfl rfl (by omega) (by omega))
      refine z_xP zt286 10 24 [some (.ref 19), some (.int p1), some (.int p2), some (.long p3), none, some (.int 0)] [.ref 19, .int x42, .ref 51] rfl rfl ?_
      refine z_xgX (b := 49) zt286 11 rfl zo286 zzf12_97 X f19 (by decide) (by decide) rfl ?_
      refine z_xP zt286 12 28 [some (.ref 19), some (.int p1), some (.int p2), some (.long p3), none, some (.int 0)] [.int p1, .ref 49, .int x42, .ref 51] rfl rfl ?_
      refine z_xil zt286 13 rfl X f49 (by decide) (by omega) (by omega) (fun (x44 : Int32) h45 (h46 : (-1) ≤ x44.toInt) (h47 : x44.toInt ≤ 24) => ?_)
      have h48 := congrArg Int32.toInt (h45.symm.trans h18)
      refine z_xP zt286 14 31 [some (.ref 19), some (.int p1), some (.int p2), some (.long p3), none, some (.int 0)] [.int 20, .int x44, .int x42, .ref 51] rfl rfl ?_
      refine z_xI zt286 15 rfl rfl (fun (x49 : Int32) (h50 : x49.toInt = x44.toInt - 20) => ?_) (z_pSub rfl rfl (by omega) (by omega))
      refine z_xP zt286 16 33 [some (.ref 19), some (.int p1), some (.int p2), some (.long p3), none, some (.int 0)] [.long p3, .int x49, .int x42, .ref 51] rfl rfl ?_
      refine z_xcS (vs := [.int x49, .long p3]) (r := [.int x42, .ref 51]) (L2 := [some (.int x49), some (.long p3), none]) zt286 17 rfl zo286 zzcS12_408 (Or.inl rfl) (Nat.le_of_ble_eq_true rfl) rfl rfl (Nat.le_of_ble_eq_true rfl) zzm288 (Nat.le_of_ble_eq_true rfl) rfl ?_
      refine z_xP zt288 0 1 [some (.int x49), some (.long p3), none] [.int x49] rfl rfl ?_
      refine z_xZ zt288 1 rfl rfl (fun (h51 : x49.toInt ≠ 0) => ?_) (fun (h51 : x49.toInt = 0) => ?_)
      · skip
        refine z_xP zt288 7 13 [some (.int x49), some (.long p3), none] [.int 1, .int x49] rfl rfl ?_
        refine z_xJ zt288 8 rfl rfl (fun (h52 : x49.toInt ≠ 1) => ?_) (fun (h52 : x49.toInt = 1) => ?_)
        · skip
          refine z_xP zt288 14 25 [some (.int x49), some (.long p3), none] [.int 2, .int x49] rfl rfl ?_
          refine z_xJ zt288 15 rfl rfl (fun (h53 : x49.toInt ≠ 2) => ?_) (fun (h53 : x49.toInt = 2) => ?_)
          · skip
            refine z_xP zt288 20 36 [some (.int x49), some (.long p3), none] [.int 4, .int x49] rfl rfl ?_
            refine z_xJ zt288 21 rfl rfl (fun (h54 : x49.toInt ≠ 4) => ?_) (fun (h54 : x49.toInt = 4) => ?_)
            · skip
              refine z_xP zt288 27 54 [some (.int x49), some (.long p3), none] [.long p3] rfl rfl ?_
              refine z_xrl zt288 28 rfl zzr288 ?_
              show z_ev (d + 3) 286 36 [some (.ref 19), some (.int p1), some (.int p2), some (.long p3), none, some (.int 0)] [.long p3, .int x42, .ref 51] M0 _
              have f51 : T[51]? = some (.inr (51, 1, 360, 0, 0)) := X.1.k rfl (by decide)
              refine z_xls zt286 18 rfl X f51 (by decide) (by decide) (by omega) (by omega) (by decide) (fun M55 X56 e57 => ?_)
              refine z_xP zt286 19 39 [some (.ref 19), some (.int p1), some (.int p2), some (.long p3), none, some (.int 0)] [.int 0] rfl rfl ?_
              refine z_xZ zt286 20 rfl rfl (fun (h58 : (0 : Int) ≠ 0) => absurd h58 (by omega)) (fun (h58 : (0 : Int) = 0) => ?_)
              refine z_xP zt286 21 48 [some (.ref 19), some (.int p1), some (.int p2), some (.long p3), none, some (.int 0)] [.int 1] rfl rfl ?_
              have q1 : ((1 : Int32)).toInt = 1 := rfl
              exact z_xri zt286 23 rfl zzr286 (kk 1 M55 X56 (by omega) (by omega))
            refine z_xP zt288 22 41 [some (.int x49), some (.long p3), none] [.long 0, .long p3] rfl rfl ?_
            refine z_xI zt288 23 rfl rfl (fun (x59 : Int32) (h60 : (x59.toInt < 0 ∧ p3.toInt < 0) ∨ (x59.toInt = 0 ∧ p3.toInt = 0) ∨ (0 < x59.toInt ∧ 0 < p3.toInt)) => ?_) (z_qCmp rfl rfl)
            refine z_xZ zt288 24 rfl rfl (fun (h61 : x59.toInt = 0) => ?_) (fun (h61 : x59.toInt ≠ 0) => ?_)
            · skip
              refine z_xP zt288 26 54 [some (.int x49), some (.long p3), none] [.long 0] rfl rfl ?_
              refine z_xrl zt288 28 rfl zzr288 ?_
              show z_ev (d + 3) 286 36 [some (.ref 19), some (.int p1), some (.int p2), some (.long p3), none, some (.int 0)] [.long 0, .int x42, .ref 51] M0 _
              have f51 : T[51]? = some (.inr (51, 1, 360, 0, 0)) := X.1.k rfl (by decide)
              refine z_xls zt286 18 rfl X f51 (by decide) (by decide) (by omega) (by omega) (by decide) (fun M62 X63 e64 => ?_)
              refine z_xP zt286 19 39 [some (.ref 19), some (.int p1), some (.int p2), some (.long p3), none, some (.int 0)] [.int 0] rfl rfl ?_
              refine z_xZ zt286 20 rfl rfl (fun (h65 : (0 : Int) ≠ 0) => absurd h65 (by omega)) (fun (h65 : (0 : Int) = 0) => ?_)
              refine z_xP zt286 21 48 [some (.ref 19), some (.int p1), some (.int p2), some (.long p3), none, some (.int 0)] [.int 1] rfl rfl ?_
              have q1 : ((1 : Int32)).toInt = 1 := rfl
              exact z_xri zt286 23 rfl zzr286 (kk 1 M62 X63 (by omega) (by omega))
            refine z_xP zt288 25 54 [some (.int x49), some (.long p3), none] [.long 1] rfl rfl ?_
            refine z_xrl zt288 28 rfl zzr288 ?_
            show z_ev (d + 3) 286 36 [some (.ref 19), some (.int p1), some (.int p2), some (.long p3), none, some (.int 0)] [.long 1, .int x42, .ref 51] M0 _
            have f51 : T[51]? = some (.inr (51, 1, 360, 0, 0)) := X.1.k rfl (by decide)
            refine z_xls zt286 18 rfl X f51 (by decide) (by decide) (by omega) (by omega) (by decide) (fun M66 X67 e68 => ?_)
            refine z_xP zt286 19 39 [some (.ref 19), some (.int p1), some (.int p2), some (.long p3), none, some (.int 0)] [.int 0] rfl rfl ?_
            refine z_xZ zt286 20 rfl rfl (fun (h69 : (0 : Int) ≠ 0) => absurd h69 (by omega)) (fun (h69 : (0 : Int) = 0) => ?_)
            refine z_xP zt286 21 48 [some (.ref 19), some (.int p1), some (.int p2), some (.long p3), none, some (.int 0)] [.int 1] rfl rfl ?_
            have q1 : ((1 : Int32)).toInt = 1 := rfl
            exact z_xri zt286 23 rfl zzr286 (kk 1 M66 X67 (by omega) (by omega))
          refine z_xP zt288 16 29 [some (.int x49), some (.long p3), none] [.long p3] rfl rfl ?_
          refine z_xI zt288 17 rfl rfl (P := fun _ => True) (fun (x70 : Int32) _ => ?_) trivial
          have h72 := z_b32 x70
          refine z_xL zt288 18 rfl rfl (fun (y73 : Int64) (h74 : y73.toInt = x70.toInt) => ?_) (z_qI2L rfl)
          refine z_xP zt288 19 54 [some (.int x49), some (.long p3), none] [.long y73] rfl rfl ?_
          refine z_xrl zt288 28 rfl zzr288 ?_
          show z_ev (d + 3) 286 36 [some (.ref 19), some (.int p1), some (.int p2), some (.long p3), none, some (.int 0)] [.long y73, .int x42, .ref 51] M0 _
          have f51 : T[51]? = some (.inr (51, 1, 360, 0, 0)) := X.1.k rfl (by decide)
          refine z_xls zt286 18 rfl X f51 (by decide) (by decide) (by omega) (by omega) (by decide) (fun M75 X76 e77 => ?_)
          refine z_xP zt286 19 39 [some (.ref 19), some (.int p1), some (.int p2), some (.long p3), none, some (.int 0)] [.int 0] rfl rfl ?_
          refine z_xZ zt286 20 rfl rfl (fun (h78 : (0 : Int) ≠ 0) => absurd h78 (by omega)) (fun (h78 : (0 : Int) = 0) => ?_)
          refine z_xP zt286 21 48 [some (.ref 19), some (.int p1), some (.int p2), some (.long p3), none, some (.int 0)] [.int 1] rfl rfl ?_
          have q1 : ((1 : Int32)).toInt = 1 := rfl
          exact z_xri zt286 23 rfl zzr286 (kk 1 M75 X76 (by omega) (by omega))
        refine z_xP zt288 9 17 [some (.int x49), some (.long p3), none] [.long p3] rfl rfl ?_
        refine z_xI zt288 10 rfl rfl (P := fun _ => True) (fun (x79 : Int32) _ => ?_) trivial
        refine z_xI zt288 11 rfl rfl (P := fun _ => True) (fun (x81 : Int32) _ => ?_) trivial
        have h83 := z_b32 x81
        refine z_xL zt288 12 rfl rfl (fun (y84 : Int64) (h85 : y84.toInt = x81.toInt) => ?_) (z_qI2L rfl)
        refine z_xP zt288 13 54 [some (.int x49), some (.long p3), none] [.long y84] rfl rfl ?_
        refine z_xrl zt288 28 rfl zzr288 ?_
        show z_ev (d + 3) 286 36 [some (.ref 19), some (.int p1), some (.int p2), some (.long p3), none, some (.int 0)] [.long y84, .int x42, .ref 51] M0 _
        have f51 : T[51]? = some (.inr (51, 1, 360, 0, 0)) := X.1.k rfl (by decide)
        refine z_xls zt286 18 rfl X f51 (by decide) (by decide) (by omega) (by omega) (by decide) (fun M86 X87 e88 => ?_)
        refine z_xP zt286 19 39 [some (.ref 19), some (.int p1), some (.int p2), some (.long p3), none, some (.int 0)] [.int 0] rfl rfl ?_
        refine z_xZ zt286 20 rfl rfl (fun (h89 : (0 : Int) ≠ 0) => absurd h89 (by omega)) (fun (h89 : (0 : Int) = 0) => ?_)
        refine z_xP zt286 21 48 [some (.ref 19), some (.int p1), some (.int p2), some (.long p3), none, some (.int 0)] [.int 1] rfl rfl ?_
        have q1 : ((1 : Int32)).toInt = 1 := rfl
        exact z_xri zt286 23 rfl zzr286 (kk 1 M86 X87 (by omega) (by omega))
      refine z_xP zt288 2 5 [some (.int x49), some (.long p3), none] [.long p3] rfl rfl ?_
      refine z_xI zt288 3 rfl rfl (P := fun _ => True) (fun (x90 : Int32) _ => ?_) trivial
      refine z_xI zt288 4 rfl rfl (P := fun _ => True) (fun (x92 : Int32) _ => ?_) trivial
      have h94 := z_b32 x92
      refine z_xL zt288 5 rfl rfl (fun (y95 : Int64) (h96 : y95.toInt = x92.toInt) => ?_) (z_qI2L rfl)
      refine z_xP zt288 6 54 [some (.int x49), some (.long p3), none] [.long y95] rfl rfl ?_
      refine z_xrl zt288 28 rfl zzr288 ?_
      show z_ev (d + 3) 286 36 [some (.ref 19), some (.int p1), some (.int p2), some (.long p3), none, some (.int 0)] [.long y95, .int x42, .ref 51] M0 _
      have f51 : T[51]? = some (.inr (51, 1, 360, 0, 0)) := X.1.k rfl (by decide)
      refine z_xls zt286 18 rfl X f51 (by decide) (by decide) (by omega) (by omega) (by decide) (fun M97 X98 e99 => ?_)
      refine z_xP zt286 19 39 [some (.ref 19), some (.int p1), some (.int p2), some (.long p3), none, some (.int 0)] [.int 0] rfl rfl ?_
      refine z_xZ zt286 20 rfl rfl (fun (h100 : (0 : Int) ≠ 0) => absurd h100 (by omega)) (fun (h100 : (0 : Int) = 0) => ?_)
      refine z_xP zt286 21 48 [some (.ref 19), some (.int p1), some (.int p2), some (.long p3), none, some (.int 0)] [.int 1] rfl rfl ?_
      have q1 : ((1 : Int32)).toInt = 1 := rfl
      exact z_xri zt286 23 rfl zzr286 (kk 1 M97 X98 (by omega) (by omega))
    refine z_xP zt287 18 34 [some (.ref 19), some (.int p1), some (.int p2)] [.int (-12)] rfl rfl ?_
    refine z_xri zt287 19 rfl zzr287 ?_
    show z_ev (d + 3) 286 6 [some (.ref 19), some (.int p1), some (.int p2), some (.long p3), none, none] [.int (-12)] M0 _
    refine z_xP zt286 2 10 [some (.ref 19), some (.int p1), some (.int p2), some (.long p3), none, some (.int (-12))] [.int (-12)] rfl rfl ?_
    refine z_xZ zt286 3 rfl rfl (fun (h101 : ((-12) : Int) ≠ 0) => ?_) (fun (h101 : ((-12) : Int) = 0) => absurd h101 (by omega))
    refine z_xP zt286 19 39 [some (.ref 19), some (.int p1), some (.int p2), some (.long p3), none, some (.int (-12))] [.int (-12)] rfl rfl ?_
    refine z_xZ zt286 20 rfl rfl (fun (h102 : ((-12) : Int) ≠ 0) => ?_) (fun (h102 : ((-12) : Int) = 0) => absurd h102 (by omega))
    refine z_xP zt286 22 48 [some (.ref 19), some (.int p1), some (.int p2), some (.long p3), none, some (.int (-12))] [.int (-12)] rfl rfl ?_
    have qm12 : (((-12) : Int32)).toInt = (-12) := rfl
    exact z_xri zt286 23 rfl zzr286 (kk (-12) M0 X (by omega) (by omega))
  refine z_xP zt287 10 20 [some (.ref 19), some (.int p1), some (.int p2)] [.int (-11)] rfl rfl ?_
  refine z_xri zt287 11 rfl zzr287 ?_
  show z_ev (d + 3) 286 6 [some (.ref 19), some (.int p1), some (.int p2), some (.long p3), none, none] [.int (-11)] M0 _
  refine z_xP zt286 2 10 [some (.ref 19), some (.int p1), some (.int p2), some (.long p3), none, some (.int (-11))] [.int (-11)] rfl rfl ?_
  refine z_xZ zt286 3 rfl rfl (fun (h103 : ((-11) : Int) ≠ 0) => ?_) (fun (h103 : ((-11) : Int) = 0) => absurd h103 (by omega))
  refine z_xP zt286 19 39 [some (.ref 19), some (.int p1), some (.int p2), some (.long p3), none, some (.int (-11))] [.int (-11)] rfl rfl ?_
  refine z_xZ zt286 20 rfl rfl (fun (h104 : ((-11) : Int) ≠ 0) => ?_) (fun (h104 : ((-11) : Int) = 0) => absurd h104 (by omega))
  refine z_xP zt286 22 48 [some (.ref 19), some (.int p1), some (.int p2), some (.long p3), none, some (.int (-11))] [.int (-11)] rfl rfl ?_
  have qm11 : (((-11) : Int32)).toInt = (-11) := rfl
  exact z_xri zt286 23 rfl zzr286 (kk (-11) M0 X (by omega) (by omega))
def zw289 : List Nat := []
theorem zC289 {T : List zK} {d : Nat} {K : Option Value → zH → Prop} {p1 : Int32} {p2 : Int32} {M0 : zH} (hW : z_W M0 T)  (kk : ∀ (x : Int64) (M1 : zH), z_X T zw289 M0 M1 → K (some (.long x)) M1) : z_ev (d + 3) 289 0 [some (.ref 19), some (.int p1), some (.int p2)] [] M0 K := by
  have X : z_X T zw289 M0 M0 := .refl hW
  refine z_xP zt289 0 3 [some (.ref 19), some (.int p1), some (.int p2)] [.int p2, .int p1, .ref 19] rfl rfl ?_
  have f19 : T[19]? = some (.inl (12, 0, 0, 0, 0)) := X.1.k rfl (by decide)
  refine z_xcV (vs := [.ref 19, .int p1, .int p2]) (r := []) (L2 := [some (.ref 19), some (.int p1), some (.int p2)]) zt289 1 rfl zo289 zzcV12_405 (Or.inl rfl) rfl X f19 rfl rfl rfl (Nat.le_of_ble_eq_true rfl) zzm287 (Nat.le_of_ble_eq_true rfl) rfl ?_
  refine z_xP zt287 0 1 [some (.ref 19), some (.int p1), some (.int p2)] [.int p1] rfl rfl ?_
  refine z_xcS (vs := [.int p1]) (r := []) (L2 := [some (.int p1)]) zt287 1 rfl zo287 zzcS12_237 (Or.inl rfl) (Nat.le_of_ble_eq_true rfl) rfl rfl (Nat.le_of_ble_eq_true rfl) zzm225 (Nat.le_of_ble_eq_true rfl) rfl ?_
  refine z_xP zt225 0 1 [some (.int p1)] [.int p1] rfl rfl ?_
  have h1 := z_b32 p1
  refine z_xL zt225 1 rfl rfl (fun (y2 : Int64) (h3 : y2.toInt = p1.toInt) => ?_) (z_qI2L rfl)
  refine z_xP zt225 2 3 [some (.int p1)] [.long 0, .long y2] rfl rfl ?_
  refine z_xl2 zt225 3 rfl zo225 zkl12_318 ?_
  refine z_xcS (vs := [.long y2, .long 0, .long 5]) (r := []) (L2 := [some (.long y2), none, some (.long 0), none, some (.long 5), none]) zt225 4 rfl zo225 zzcS12_116 (Or.inl rfl) (Nat.le_of_ble_eq_true rfl) rfl rfl (Nat.le_of_ble_eq_true rfl) zzm189 (Nat.le_of_ble_eq_true rfl) rfl ?_
  refine z_xP zt189 0 2 [some (.long y2), none, some (.long 0), none, some (.long 5), none] [.long 0, .long y2] rfl rfl ?_
  refine z_xI zt189 1 rfl rfl (fun (x4 : Int32) (h5 : (x4.toInt < 0 ∧ y2.toInt < 0) ∨ (x4.toInt = 0 ∧ y2.toInt = 0) ∨ (0 < x4.toInt ∧ 0 < y2.toInt)) => ?_) (z_qCmp rfl rfl)
  refine z_xZ zt189 2 rfl rfl (fun (h6 : x4.toInt < 0) => ?_) (fun (h6 : 0 ≤ x4.toInt) => ?_)
  · skip
    refine z_xP zt189 7 18 [some (.long y2), none, some (.long 0), none, some (.long 5), none] [.int 0] rfl rfl ?_
    refine z_xrz zt189 8 rfl zzr189 (by decide) (by decide) ?_
    show z_ev (d + 1) 225 9 [some (.int p1)] [.int 0] M0 _
    refine z_xrz zt225 5 rfl zzr225 (by decide) (by decide) ?_
    show z_ev (d + 2) 287 4 [some (.ref 19), some (.int p1), some (.int p2)] [.int 0] M0 _
    refine z_xZ zt287 2 rfl rfl (fun (h7 : (0 : Int) ≠ 0) => absurd h7 (by omega)) (fun (h7 : (0 : Int) = 0) => ?_)
    refine z_xP zt287 3 8 [some (.ref 19), some (.int p1), some (.int p2)] [.int (-1)] rfl rfl ?_
    refine z_xri zt287 4 rfl zzr287 ?_
    show z_ev (d + 3) 289 6 [some (.ref 19), some (.int p1), some (.int p2)] [.int (-1)] M0 _
    refine z_xZ zt289 2 rfl rfl (fun (h8 : ((-1) : Int) = 0) => absurd h8 (by omega)) (fun (h8 : ((-1) : Int) ≠ 0) => ?_)
    refine z_xl2 zt289 3 rfl zo289 zkl12_414 ?_
    refine z_xP zt289 4 26 [some (.ref 19), some (.int p1), some (.int p2)] [.long (-9223372036854775808)] rfl rfl ?_
    have qm9223372036854775808 : (((-9223372036854775808) : Int64)).toInt = (-9223372036854775808) := rfl
    exact z_xrl zt289 12 rfl zzr289 (kk (-9223372036854775808) M0 X)
  refine z_xP zt189 3 9 [some (.long y2), none, some (.long 0), none, some (.long 5), none] [.long 5, .long y2] rfl rfl ?_
  refine z_xI zt189 4 rfl rfl (fun (x9 : Int32) (h10 : (x9.toInt < 0 ∧ y2.toInt < 5) ∨ (x9.toInt = 0 ∧ y2.toInt = 5) ∨ (0 < x9.toInt ∧ 5 < y2.toInt)) => ?_) (z_qCmp rfl rfl)
  refine z_xZ zt189 5 rfl rfl (fun (h11 : 0 < x9.toInt) => ?_) (fun (h11 : x9.toInt ≤ 0) => ?_)
  · skip
    refine z_xP zt189 7 18 [some (.long y2), none, some (.long 0), none, some (.long 5), none] [.int 0] rfl rfl ?_
    refine z_xrz zt189 8 rfl zzr189 (by decide) (by decide) ?_
    show z_ev (d + 1) 225 9 [some (.int p1)] [.int 0] M0 _
    refine z_xrz zt225 5 rfl zzr225 (by decide) (by decide) ?_
    show z_ev (d + 2) 287 4 [some (.ref 19), some (.int p1), some (.int p2)] [.int 0] M0 _
    refine z_xZ zt287 2 rfl rfl (fun (h12 : (0 : Int) ≠ 0) => absurd h12 (by omega)) (fun (h12 : (0 : Int) = 0) => ?_)
    refine z_xP zt287 3 8 [some (.ref 19), some (.int p1), some (.int p2)] [.int (-1)] rfl rfl ?_
    refine z_xri zt287 4 rfl zzr287 ?_
    show z_ev (d + 3) 289 6 [some (.ref 19), some (.int p1), some (.int p2)] [.int (-1)] M0 _
    refine z_xZ zt289 2 rfl rfl (fun (h13 : ((-1) : Int) = 0) => absurd h13 (by omega)) (fun (h13 : ((-1) : Int) ≠ 0) => ?_)
    refine z_xl2 zt289 3 rfl zo289 zkl12_414 ?_
    refine z_xP zt289 4 26 [some (.ref 19), some (.int p1), some (.int p2)] [.long (-9223372036854775808)] rfl rfl ?_
    have qm9223372036854775808 : (((-9223372036854775808) : Int64)).toInt = (-9223372036854775808) := rfl
    exact z_xrl zt289 12 rfl zzr289 (kk (-9223372036854775808) M0 X)
  refine z_xP zt189 6 18 [some (.long y2), none, some (.long 0), none, some (.long 5), none] [.int 1] rfl rfl ?_
  refine z_xrz zt189 8 rfl zzr189 (by decide) (by decide) ?_
  show z_ev (d + 1) 225 9 [some (.int p1)] [.int 1] M0 _
  refine z_xrz zt225 5 rfl zzr225 (by decide) (by decide) ?_
  show z_ev (d + 2) 287 4 [some (.ref 19), some (.int p1), some (.int p2)] [.int 1] M0 _
  refine z_xZ zt287 2 rfl rfl (fun (h14 : (1 : Int) ≠ 0) => ?_) (fun (h14 : (1 : Int) = 0) => absurd h14 (by omega))
  refine z_xP zt287 5 10 [some (.ref 19), some (.int p1), some (.int p2)] [.ref 19] rfl rfl ?_
  refine z_xgX (b := 49) zt287 6 rfl zo287 zzf12_97 X f19 (by decide) (by decide) rfl ?_
  refine z_xP zt287 7 14 [some (.ref 19), some (.int p1), some (.int p2)] [.int p1, .ref 49] rfl rfl ?_
  have f49 : T[49]? = some (.inr (49, 0, 6, (-1), 24)) := X.1.k rfl (by decide)
  refine z_xil zt287 8 rfl X f49 (by decide) (by omega) (by omega) (fun (x15 : Int32) h16 (h17 : (-1) ≤ x15.toInt) (h18 : x15.toInt ≤ 24) => ?_)
  refine z_xZ zt287 9 rfl rfl (fun (h19 : 0 ≤ x15.toInt) => ?_) (fun (h19 : x15.toInt < 0) => ?_)
  · skip
    refine z_xP zt287 12 22 [some (.ref 19), some (.int p1), some (.int p2)] [.ref 19] rfl rfl ?_
    refine z_xgX (b := 49) zt287 13 rfl zo287 zzf12_97 X f19 (by decide) (by decide) rfl ?_
    refine z_xP zt287 14 26 [some (.ref 19), some (.int p1), some (.int p2)] [.int p1, .ref 49] rfl rfl ?_
    refine z_xil zt287 15 rfl X f49 (by decide) (by omega) (by omega) (fun (x20 : Int32) h21 (h22 : (-1) ≤ x20.toInt) (h23 : x20.toInt ≤ 24) => ?_)
    have h24 := congrArg Int32.toInt (h21.symm.trans h16)
    refine z_xP zt287 16 29 [some (.ref 19), some (.int p1), some (.int p2)] [.int 20, .int x20] rfl rfl ?_
    refine z_xJ zt287 17 rfl rfl (fun (h25 : 20 ≤ x20.toInt) => ?_) (fun (h25 : x20.toInt < 20) => ?_)
    · skip
      refine z_xP zt287 20 36 [some (.ref 19), some (.int p1), some (.int p2)] [.int p2] rfl rfl ?_
      refine z_xZ zt287 21 rfl rfl (fun (h26 : p2.toInt < 0) => ?_) (fun (h26 : 0 ≤ p2.toInt) => ?_)
      · skip
        refine z_xP zt287 28 55 [some (.ref 19), some (.int p1), some (.int p2)] [.int (-13)] rfl rfl ?_
        refine z_xri zt287 29 rfl zzr287 ?_
        show z_ev (d + 3) 289 6 [some (.ref 19), some (.int p1), some (.int p2)] [.int (-13)] M0 _
        refine z_xZ zt289 2 rfl rfl (fun (h27 : ((-13) : Int) = 0) => absurd h27 (by omega)) (fun (h27 : ((-13) : Int) ≠ 0) => ?_)
        refine z_xl2 zt289 3 rfl zo289 zkl12_414 ?_
        refine z_xP zt289 4 26 [some (.ref 19), some (.int p1), some (.int p2)] [.long (-9223372036854775808)] rfl rfl ?_
        have qm9223372036854775808 : (((-9223372036854775808) : Int64)).toInt = (-9223372036854775808) := rfl
        exact z_xrl zt289 12 rfl zzr289 (kk (-9223372036854775808) M0 X)
      refine z_xP zt287 22 41 [some (.ref 19), some (.int p1), some (.int p2)] [.ref 19, .int p2] rfl rfl ?_
      refine z_xgX (b := 50) zt287 23 rfl zo287 zzf12_100 X f19 (by decide) (by decide) rfl ?_
      refine z_xP zt287 24 45 [some (.ref 19), some (.int p1), some (.int p2)] [.int p1, .ref 50, .int p2] rfl rfl ?_
      have f50 : T[50]? = some (.inr (50, 0, 6, 0, 60)) := X.1.k rfl (by decide)
      refine z_xil zt287 25 rfl X f50 (by decide) (by omega) (by omega) (fun (x28 : Int32) h29 (h30 : 0 ≤ x28.toInt) (h31 : x28.toInt ≤ 60) => ?_)
      have h32 := z_b32 p2
      refine z_xJ zt287 26 rfl rfl (fun (h33 : x28.toInt ≤ p2.toInt) => ?_) (fun (h33 : p2.toInt < x28.toInt) => ?_)
      · skip
        refine z_xP zt287 28 55 [some (.ref 19), some (.int p1), some (.int p2)] [.int (-13)] rfl rfl ?_
        refine z_xri zt287 29 rfl zzr287 ?_
        show z_ev (d + 3) 289 6 [some (.ref 19), some (.int p1), some (.int p2)] [.int (-13)] M0 _
        refine z_xZ zt289 2 rfl rfl (fun (h34 : ((-13) : Int) = 0) => absurd h34 (by omega)) (fun (h34 : ((-13) : Int) ≠ 0) => ?_)
        refine z_xl2 zt289 3 rfl zo289 zkl12_414 ?_
        refine z_xP zt289 4 26 [some (.ref 19), some (.int p1), some (.int p2)] [.long (-9223372036854775808)] rfl rfl ?_
        have qm9223372036854775808 : (((-9223372036854775808) : Int64)).toInt = (-9223372036854775808) := rfl
        exact z_xrl zt289 12 rfl zzr289 (kk (-9223372036854775808) M0 X)
      refine z_xP zt287 27 55 [some (.ref 19), some (.int p1), some (.int p2)] [.int 0] rfl rfl ?_
      refine z_xri zt287 29 rfl zzr287 ?_
      show z_ev (d + 3) 289 6 [some (.ref 19), some (.int p1), some (.int p2)] [.int 0] M0 _
      refine z_xZ zt289 2 rfl rfl (fun (h35 : (0 : Int) = 0) => ?_) (fun (h35 : (0 : Int) ≠ 0) => absurd h35 (by omega))
      refine z_xP zt289 5 16 [some (.ref 19), some (.int p1), some (.int p2)] [.ref 19] rfl rfl ?_
      refine z_xgX (b := 51) zt289 6 rfl zo289 zzf12_103 X f19 (by decide) (by decide) rfl ?_
      refine z_xP zt289 7 22 [some (.ref 19), some (.int p1), some (.int p2)] [.int p1, .int 60, .ref 51] rfl rfl ?_
      refine z_xI zt289 8 rfl rfl (fun (x36 : Int32) (h37 : x36.toInt = 60 * p1.toInt) => ?_) (z_pMul rfl rfl (by omega) (by omega))
      refine z_xP zt289 9 24 [some (.ref 19), some (.int p1), some (.int p2)] [.int p2, .int x36, .ref 51] rfl rfl ?_
      refine z_xI zt289 10 rfl rfl (fun (x38 : Int32) (h39 : x38.toInt = x36.toInt + p2.toInt) => ?_) (z_pAdd rfl rfl (by omega) (by omega))
      have f51 : T[51]? = some (.inr (51, 1, 360, 0, 0)) := X.1.k rfl (by decide)
      refine z_xll zt289 11 rfl X f51 (by decide) (by omega) (by omega) (fun (y40 : Int64) => ?_)
      exact z_xrl zt289 12 rfl zzr289 (kk y40 M0 X)
    refine z_xP zt287 18 34 [some (.ref 19), some (.int p1), some (.int p2)] [.int (-12)] rfl rfl ?_
    refine z_xri zt287 19 rfl zzr287 ?_
    show z_ev (d + 3) 289 6 [some (.ref 19), some (.int p1), some (.int p2)] [.int (-12)] M0 _
    refine z_xZ zt289 2 rfl rfl (fun (h41 : ((-12) : Int) = 0) => absurd h41 (by omega)) (fun (h41 : ((-12) : Int) ≠ 0) => ?_)
    refine z_xl2 zt289 3 rfl zo289 zkl12_414 ?_
    refine z_xP zt289 4 26 [some (.ref 19), some (.int p1), some (.int p2)] [.long (-9223372036854775808)] rfl rfl ?_
    have qm9223372036854775808 : (((-9223372036854775808) : Int64)).toInt = (-9223372036854775808) := rfl
    exact z_xrl zt289 12 rfl zzr289 (kk (-9223372036854775808) M0 X)
  refine z_xP zt287 10 20 [some (.ref 19), some (.int p1), some (.int p2)] [.int (-11)] rfl rfl ?_
  refine z_xri zt287 11 rfl zzr287 ?_
  show z_ev (d + 3) 289 6 [some (.ref 19), some (.int p1), some (.int p2)] [.int (-11)] M0 _
  refine z_xZ zt289 2 rfl rfl (fun (h42 : ((-11) : Int) = 0) => absurd h42 (by omega)) (fun (h42 : ((-11) : Int) ≠ 0) => ?_)
  refine z_xl2 zt289 3 rfl zo289 zkl12_414 ?_
  refine z_xP zt289 4 26 [some (.ref 19), some (.int p1), some (.int p2)] [.long (-9223372036854775808)] rfl rfl ?_
  have qm9223372036854775808 : (((-9223372036854775808) : Int64)).toInt = (-9223372036854775808) := rfl
  exact z_xrl zt289 12 rfl zzr289 (kk (-9223372036854775808) M0 X)
def zw290 : List Nat := [51, 52]
theorem zB290 {T : List zK} {d : Nat} {K : Option Value → zH → Prop} {p1 : Int32} {p2 : Int32} {p3 : Int32} {p4 : Int32} {p5 : Int32} {M0 : zH}  (kk : ∀ (x : Int32) (M1 : zH), z_X T zw290 M0 M1 → (-13) ≤ x.toInt → x.toInt ≤ 60 → K (some (.int x)) M1) : ∀ n : Nat, (∀ (M : zH) (b6 : Int32), z_X T zw290 M0 M → 0 ≤ p1.toInt ∧ p1.toInt ≤ 5 → 0 ≤ p2.toInt ∧ p2.toInt ≤ 60 → 0 ≤ p3.toInt ∧ p3.toInt ≤ 5 → 0 ≤ p4.toInt ∧ p4.toInt ≤ 60 → 0 ≤ p5.toInt ∧ p5.toInt ≤ 2147483647 → 0 ≤ b6.toInt ∧ b6.toInt ≤ 60 → p2.toInt + p5.toInt ≤ 60 → 0 ≤ p2.toInt → 0 ≤ p5.toInt → 0 ≤ p4.toInt ∧ p4.toInt + p5.toInt ≤ 60 → ((0) * 3 + 1) * 61 + (60 - b6.toInt) < (n : Int) → z_ev (d + 2) 290 113 [some (.ref 19), some (.int p1), some (.int p2), some (.int p3), some (.int p4), some (.int p5), some (.int b6)] [] M K) ∧ (∀ (M : zH) (b6 : Int32), z_X T zw290 M0 M → 0 ≤ p1.toInt ∧ p1.toInt ≤ 5 → 0 ≤ p2.toInt ∧ p2.toInt ≤ 60 → 0 ≤ p3.toInt ∧ p3.toInt ≤ 5 → 0 ≤ p4.toInt ∧ p4.toInt ≤ 60 → 0 ≤ p5.toInt ∧ p5.toInt ≤ 60 → 0 ≤ b6.toInt ∧ b6.toInt ≤ 60 → 0 ≤ p5.toInt → 0 ≤ p4.toInt ∧ p4.toInt + p5.toInt ≤ 60 → ((0) * 3 + 0) * 61 + (60 - b6.toInt) < (n : Int) → z_ev (d + 2) 290 150 [some (.ref 19), some (.int p1), some (.int p2), some (.int p3), some (.int p4), some (.int p5), some (.int b6)] [] M K) := by
  intro n
  induction n with
  | zero => exact ⟨(by intros; exfalso; omega), (by intros; exfalso; omega)⟩
  | succ n ih =>
    refine ⟨?_, ?_⟩
    · skip
      intro M b6 X hh0 hh1 hh2 hh3 hh4 hh5 hh6 hh7 hh8 hh9 hE
      refine z_xP zt290 60 117 [some (.ref 19), some (.int p1), some (.int p2), some (.int p3), some (.int p4), some (.int p5), some (.int b6)] [.int p5, .int b6] rfl rfl ?_
      have h1 := z_b32 p5
      refine z_xJ zt290 61 rfl rfl (fun (h2 : p5.toInt ≤ b6.toInt) => ?_) (fun (h2 : b6.toInt < p5.toInt) => ?_)
      · skip
        refine z_xP zt290 76 150 [some (.ref 19), some (.int p1), some (.int p2), some (.int p3), some (.int p4), some (.int p5), some (.int 0)] [] rfl rfl ?_
        have q0 : ((0 : Int32)).toInt = 0 := rfl
        exact ih.2 M (0) X ⟨by omega, by omega⟩ ⟨by omega, by omega⟩ ⟨by omega, by omega⟩ ⟨by omega, by omega⟩ ⟨by omega, by omega⟩ (by decide) (by omega) (by omega) (by omega)
      refine z_xP zt290 62 121 [some (.ref 19), some (.int p1), some (.int p2), some (.int p3), some (.int p4), some (.int p5), some (.int b6)] [.ref 19] rfl rfl ?_
      have f19 : T[19]? = some (.inl (12, 0, 0, 0, 0)) := X.1.k rfl (by decide)
      refine z_xgX (b := 52) zt290 63 rfl zo290 zzf12_107 X f19 (by decide) (by decide) rfl ?_
      refine z_xP zt290 64 127 [some (.ref 19), some (.int p1), some (.int p2), some (.int p3), some (.int p4), some (.int p5), some (.int b6)] [.ref 19, .int b6, .ref 52] rfl rfl ?_
      refine z_xgX (b := 51) zt290 65 rfl zo290 zzf12_103 X f19 (by decide) (by decide) rfl ?_
      refine z_xP zt290 66 133 [some (.ref 19), some (.int p1), some (.int p2), some (.int p3), some (.int p4), some (.int p5), some (.int b6)] [.int p1, .int 60, .ref 51, .int b6, .ref 52] rfl rfl ?_
      refine z_xI zt290 67 rfl rfl (fun (x3 : Int32) (h4 : x3.toInt = 60 * p1.toInt) => ?_) (z_pMul rfl rfl (by omega) (by omega))
      refine z_xP zt290 68 135 [some (.ref 19), some (.int p1), some (.int p2), some (.int p3), some (.int p4), some (.int p5), some (.int b6)] [.int p2, .int x3, .ref 51, .int b6, .ref 52] rfl rfl ?_
      refine z_xI zt290 69 rfl rfl (fun (x5 : Int32) (h6 : x5.toInt = x3.toInt + p2.toInt) => ?_) (z_pAdd rfl rfl (by omega) (by omega))
      refine z_xP zt290 70 138 [some (.ref 19), some (.int p1), some (.int p2), some (.int p3), some (.int p4), some (.int p5), some (.int b6)] [.int b6, .int x5, .ref 51, .int b6, .ref 52] rfl rfl ?_
      refine z_xI zt290 71 rfl rfl (fun (x7 : Int32) (h8 : x7.toInt = x5.toInt + b6.toInt) => ?_) (z_pAdd rfl rfl (by omega) (by omega))
      have f51 : T[51]? = some (.inr (51, 1, 360, 0, 0)) := X.1.k rfl (by decide)
      refine z_xll zt290 72 rfl X f51 (by decide) (by omega) (by omega) (fun (y9 : Int64) => ?_)
      have f52 : T[52]? = some (.inr (52, 1, 60, 0, 0)) := X.1.k rfl (by decide)
      refine z_xls zt290 73 rfl X f52 (by decide) (by decide) (by omega) (by omega) (by decide) (fun M10 X11 e12 => ?_)
      refine z_xN zt290 74 rfl rfl (fun (x13 : Int32) (h14 : x13.toInt = b6.toInt + 1) => ?_) (z_pAdd rfl rfl (by omega) (by omega))
      show z_ev (d + 2) 290 144 [some (.ref 19), some (.int p1), some (.int p2), some (.int p3), some (.int p4), some (.int p5), some (.int x13)] [] M10 _
      refine z_xP zt290 75 113 [some (.ref 19), some (.int p1), some (.int p2), some (.int p3), some (.int p4), some (.int p5), some (.int x13)] [] rfl rfl ?_
      exact ih.1 M10 x13 X11 ⟨by omega, by omega⟩ ⟨by omega, by omega⟩ ⟨by omega, by omega⟩ ⟨by omega, by omega⟩ ⟨by omega, by omega⟩ ⟨by omega, by omega⟩ (by omega) (by omega) (by omega) (by omega) (by omega)
    · skip
      intro M b6 X hh0 hh1 hh2 hh3 hh4 hh5 hh6 hh7 hE
      refine z_xP zt290 77 154 [some (.ref 19), some (.int p1), some (.int p2), some (.int p3), some (.int p4), some (.int p5), some (.int b6)] [.int p5, .int b6] rfl rfl ?_
      refine z_xJ zt290 78 rfl rfl (fun (h1 : p5.toInt ≤ b6.toInt) => ?_) (fun (h1 : b6.toInt < p5.toInt) => ?_)
      · skip
        refine z_xP zt290 94 187 [some (.ref 19), some (.int p1), some (.int p2), some (.int p3), some (.int p4), some (.int p5), some (.int b6)] [.int p5] rfl rfl ?_
        exact z_xri zt290 95 rfl zzr290 (kk p5 M X (by omega) (by omega))
      refine z_xP zt290 79 158 [some (.ref 19), some (.int p1), some (.int p2), some (.int p3), some (.int p4), some (.int p5), some (.int b6)] [.ref 19] rfl rfl ?_
      have f19 : T[19]? = some (.inl (12, 0, 0, 0, 0)) := X.1.k rfl (by decide)
      refine z_xgX (b := 51) zt290 80 rfl zo290 zzf12_103 X f19 (by decide) (by decide) rfl ?_
      refine z_xP zt290 81 164 [some (.ref 19), some (.int p1), some (.int p2), some (.int p3), some (.int p4), some (.int p5), some (.int b6)] [.int p3, .int 60, .ref 51] rfl rfl ?_
      refine z_xI zt290 82 rfl rfl (fun (x2 : Int32) (h3 : x2.toInt = 60 * p3.toInt) => ?_) (z_pMul rfl rfl (by omega) (by omega))
      refine z_xP zt290 83 167 [some (.ref 19), some (.int p1), some (.int p2), some (.int p3), some (.int p4), some (.int p5), some (.int b6)] [.int p4, .int x2, .ref 51] rfl rfl ?_
      refine z_xI zt290 84 rfl rfl (fun (x4 : Int32) (h5 : x4.toInt = x2.toInt + p4.toInt) => ?_) (z_pAdd rfl rfl (by omega) (by omega))
      refine z_xP zt290 85 170 [some (.ref 19), some (.int p1), some (.int p2), some (.int p3), some (.int p4), some (.int p5), some (.int b6)] [.int b6, .int x4, .ref 51] rfl rfl ?_
      refine z_xI zt290 86 rfl rfl (fun (x6 : Int32) (h7 : x6.toInt = x4.toInt + b6.toInt) => ?_) (z_pAdd rfl rfl (by omega) (by omega))
      refine z_xP zt290 87 172 [some (.ref 19), some (.int p1), some (.int p2), some (.int p3), some (.int p4), some (.int p5), some (.int b6)] [.ref 19, .int x6, .ref 51] rfl rfl ?_
      refine z_xgX (b := 52) zt290 88 rfl zo290 zzf12_107 X f19 (by decide) (by decide) rfl ?_
      refine z_xP zt290 89 177 [some (.ref 19), some (.int p1), some (.int p2), some (.int p3), some (.int p4), some (.int p5), some (.int b6)] [.int b6, .ref 52, .int x6, .ref 51] rfl rfl ?_
      have f52 : T[52]? = some (.inr (52, 1, 60, 0, 0)) := X.1.k rfl (by decide)
      refine z_xll zt290 90 rfl X f52 (by decide) (by omega) (by omega) (fun (y8 : Int64) => ?_)
      have f51 : T[51]? = some (.inr (51, 1, 360, 0, 0)) := X.1.k rfl (by decide)
      refine z_xls zt290 91 rfl X f51 (by decide) (by decide) (by omega) (by omega) (by decide) (fun M9 X10 e11 => ?_)
      refine z_xN zt290 92 rfl rfl (fun (x12 : Int32) (h13 : x12.toInt = b6.toInt + 1) => ?_) (z_pAdd rfl rfl (by omega) (by omega))
      show z_ev (d + 2) 290 182 [some (.ref 19), some (.int p1), some (.int p2), some (.int p3), some (.int p4), some (.int p5), some (.int x12)] [] M9 _
      refine z_xP zt290 93 150 [some (.ref 19), some (.int p1), some (.int p2), some (.int p3), some (.int p4), some (.int p5), some (.int x12)] [] rfl rfl ?_
      exact ih.2 M9 x12 X10 ⟨by omega, by omega⟩ ⟨by omega, by omega⟩ ⟨by omega, by omega⟩ ⟨by omega, by omega⟩ ⟨by omega, by omega⟩ ⟨by omega, by omega⟩ (by omega) (by omega) (by omega)
theorem zC290 {T : List zK} {d : Nat} {K : Option Value → zH → Prop} {p1 : Int32} {p2 : Int32} {p3 : Int32} {p4 : Int32} {p5 : Int32} {M0 : zH} (hW : z_W M0 T)  (kk : ∀ (x : Int32) (M1 : zH), z_X T zw290 M0 M1 → (-13) ≤ x.toInt → x.toInt ≤ 60 → K (some (.int x)) M1) : z_ev (d + 2) 290 0 [some (.ref 19), some (.int p1), some (.int p2), some (.int p3), some (.int p4), some (.int p5), none] [] M0 K := by
  have X : z_X T zw290 M0 M0 := .refl hW
  refine z_xP zt290 0 1 [some (.ref 19), some (.int p1), some (.int p2), some (.int p3), some (.int p4), some (.int p5), none] [.int p1] rfl rfl ?_
  refine z_xcS (vs := [.int p1]) (r := []) (L2 := [some (.int p1)]) zt290 1 rfl zo290 zzcS12_237 (Or.inl rfl) (Nat.le_of_ble_eq_true rfl) rfl rfl (Nat.le_of_ble_eq_true rfl) zzm225 (Nat.le_of_ble_eq_true rfl) rfl ?_
  refine z_xP zt225 0 1 [some (.int p1)] [.int p1] rfl rfl ?_
  have h1 := z_b32 p1
  refine z_xL zt225 1 rfl rfl (fun (y2 : Int64) (h3 : y2.toInt = p1.toInt) => ?_) (z_qI2L rfl)
  refine z_xP zt225 2 3 [some (.int p1)] [.long 0, .long y2] rfl rfl ?_
  refine z_xl2 zt225 3 rfl zo225 zkl12_318 ?_
  refine z_xcS (vs := [.long y2, .long 0, .long 5]) (r := []) (L2 := [some (.long y2), none, some (.long 0), none, some (.long 5), none]) zt225 4 rfl zo225 zzcS12_116 (Or.inl rfl) (Nat.le_of_ble_eq_true rfl) rfl rfl (Nat.le_of_ble_eq_true rfl) zzm189 (Nat.le_of_ble_eq_true rfl) rfl ?_
  refine z_xP zt189 0 2 [some (.long y2), none, some (.long 0), none, some (.long 5), none] [.long 0, .long y2] rfl rfl ?_
  refine z_xI zt189 1 rfl rfl (fun (x4 : Int32) (h5 : (x4.toInt < 0 ∧ y2.toInt < 0) ∨ (x4.toInt = 0 ∧ y2.toInt = 0) ∨ (0 < x4.toInt ∧ 0 < y2.toInt)) => ?_) (z_qCmp rfl rfl)
  refine z_xZ zt189 2 rfl rfl (fun (h6 : x4.toInt < 0) => ?_) (fun (h6 : 0 ≤ x4.toInt) => ?_)
  · skip
    refine z_xP zt189 7 18 [some (.long y2), none, some (.long 0), none, some (.long 5), none] [.int 0] rfl rfl ?_
    refine z_xrz zt189 8 rfl zzr189 (by decide) (by decide) ?_
    show z_ev (d + 1) 225 9 [some (.int p1)] [.int 0] M0 _
    refine z_xrz zt225 5 rfl zzr225 (by decide) (by decide) ?_
    show z_ev (d + 2) 290 4 [some (.ref 19), some (.int p1), some (.int p2), some (.int p3), some (.int p4), some (.int p5), none] [.int 0] M0 _
    refine z_xZ zt290 2 rfl rfl (fun (h7 : (0 : Int) = 0) => ?_) (fun (h7 : (0 : Int) ≠ 0) => absurd h7 (by omega))
    refine z_xP zt290 6 15 [some (.ref 19), some (.int p1), some (.int p2), some (.int p3), some (.int p4), some (.int p5), none] [.int (-1)] rfl rfl ?_
    have qm1 : (((-1) : Int32)).toInt = (-1) := rfl
    exact z_xri zt290 7 rfl zzr290 (kk (-1) M0 X (by omega) (by omega))
  refine z_xP zt189 3 9 [some (.long y2), none, some (.long 0), none, some (.long 5), none] [.long 5, .long y2] rfl rfl ?_
  refine z_xI zt189 4 rfl rfl (fun (x8 : Int32) (h9 : (x8.toInt < 0 ∧ y2.toInt < 5) ∨ (x8.toInt = 0 ∧ y2.toInt = 5) ∨ (0 < x8.toInt ∧ 5 < y2.toInt)) => ?_) (z_qCmp rfl rfl)
  refine z_xZ zt189 5 rfl rfl (fun (h10 : 0 < x8.toInt) => ?_) (fun (h10 : x8.toInt ≤ 0) => ?_)
  · skip
    refine z_xP zt189 7 18 [some (.long y2), none, some (.long 0), none, some (.long 5), none] [.int 0] rfl rfl ?_
    refine z_xrz zt189 8 rfl zzr189 (by decide) (by decide) ?_
    show z_ev (d + 1) 225 9 [some (.int p1)] [.int 0] M0 _
    refine z_xrz zt225 5 rfl zzr225 (by decide) (by decide) ?_
    show z_ev (d + 2) 290 4 [some (.ref 19), some (.int p1), some (.int p2), some (.int p3), some (.int p4), some (.int p5), none] [.int 0] M0 _
    refine z_xZ zt290 2 rfl rfl (fun (h11 : (0 : Int) = 0) => ?_) (fun (h11 : (0 : Int) ≠ 0) => absurd h11 (by omega))
    refine z_xP zt290 6 15 [some (.ref 19), some (.int p1), some (.int p2), some (.int p3), some (.int p4), some (.int p5), none] [.int (-1)] rfl rfl ?_
    have qm1 : (((-1) : Int32)).toInt = (-1) := rfl
    exact z_xri zt290 7 rfl zzr290 (kk (-1) M0 X (by omega) (by omega))
  refine z_xP zt189 6 18 [some (.long y2), none, some (.long 0), none, some (.long 5), none] [.int 1] rfl rfl ?_
  refine z_xrz zt189 8 rfl zzr189 (by decide) (by decide) ?_
  show z_ev (d + 1) 225 9 [some (.int p1)] [.int 1] M0 _
  refine z_xrz zt225 5 rfl zzr225 (by decide) (by decide) ?_
  show z_ev (d + 2) 290 4 [some (.ref 19), some (.int p1), some (.int p2), some (.int p3), some (.int p4), some (.int p5), none] [.int 1] M0 _
  refine z_xZ zt290 2 rfl rfl (fun (h12 : (1 : Int) = 0) => absurd h12 (by omega)) (fun (h12 : (1 : Int) ≠ 0) => ?_)
  refine z_xP zt290 3 8 [some (.ref 19), some (.int p1), some (.int p2), some (.int p3), some (.int p4), some (.int p5), none] [.int p3] rfl rfl ?_
  refine z_xcS (vs := [.int p3]) (r := []) (L2 := [some (.int p3)]) zt290 4 rfl zo290 zzcS12_237 (Or.inl rfl) (Nat.le_of_ble_eq_true rfl) rfl rfl (Nat.le_of_ble_eq_true rfl) zzm225 (Nat.le_of_ble_eq_true rfl) rfl ?_
  refine z_xP zt225 0 1 [some (.int p3)] [.int p3] rfl rfl ?_
  have h13 := z_b32 p3
  refine z_xL zt225 1 rfl rfl (fun (y14 : Int64) (h15 : y14.toInt = p3.toInt) => ?_) (z_qI2L rfl)
  refine z_xP zt225 2 3 [some (.int p3)] [.long 0, .long y14] rfl rfl ?_
  refine z_xl2 zt225 3 rfl zo225 zkl12_318 ?_
  refine z_xcS (vs := [.long y14, .long 0, .long 5]) (r := []) (L2 := [some (.long y14), none, some (.long 0), none, some (.long 5), none]) zt225 4 rfl zo225 zzcS12_116 (Or.inl rfl) (Nat.le_of_ble_eq_true rfl) rfl rfl (Nat.le_of_ble_eq_true rfl) zzm189 (Nat.le_of_ble_eq_true rfl) rfl ?_
  refine z_xP zt189 0 2 [some (.long y14), none, some (.long 0), none, some (.long 5), none] [.long 0, .long y14] rfl rfl ?_
  refine z_xI zt189 1 rfl rfl (fun (x16 : Int32) (h17 : (x16.toInt < 0 ∧ y14.toInt < 0) ∨ (x16.toInt = 0 ∧ y14.toInt = 0) ∨ (0 < x16.toInt ∧ 0 < y14.toInt)) => ?_) (z_qCmp rfl rfl)
  refine z_xZ zt189 2 rfl rfl (fun (h18 : x16.toInt < 0) => ?_) (fun (h18 : 0 ≤ x16.toInt) => ?_)
  · skip
    refine z_xP zt189 7 18 [some (.long y14), none, some (.long 0), none, some (.long 5), none] [.int 0] rfl rfl ?_
    refine z_xrz zt189 8 rfl zzr189 (by decide) (by decide) ?_
    show z_ev (d + 1) 225 9 [some (.int p3)] [.int 0] M0 _
    refine z_xrz zt225 5 rfl zzr225 (by decide) (by decide) ?_
    show z_ev (d + 2) 290 11 [some (.ref 19), some (.int p1), some (.int p2), some (.int p3), some (.int p4), some (.int p5), none] [.int 0] M0 _
    refine z_xZ zt290 5 rfl rfl (fun (h19 : (0 : Int) ≠ 0) => absurd h19 (by omega)) (fun (h19 : (0 : Int) = 0) => ?_)
    refine z_xP zt290 6 15 [some (.ref 19), some (.int p1), some (.int p2), some (.int p3), some (.int p4), some (.int p5), none] [.int (-1)] rfl rfl ?_
    have qm1 : (((-1) : Int32)).toInt = (-1) := rfl
    exact z_xri zt290 7 rfl zzr290 (kk (-1) M0 X (by omega) (by omega))
  refine z_xP zt189 3 9 [some (.long y14), none, some (.long 0), none, some (.long 5), none] [.long 5, .long y14] rfl rfl ?_
  refine z_xI zt189 4 rfl rfl (fun (x20 : Int32) (h21 : (x20.toInt < 0 ∧ y14.toInt < 5) ∨ (x20.toInt = 0 ∧ y14.toInt = 5) ∨ (0 < x20.toInt ∧ 5 < y14.toInt)) => ?_) (z_qCmp rfl rfl)
  refine z_xZ zt189 5 rfl rfl (fun (h22 : 0 < x20.toInt) => ?_) (fun (h22 : x20.toInt ≤ 0) => ?_)
  · skip
    refine z_xP zt189 7 18 [some (.long y14), none, some (.long 0), none, some (.long 5), none] [.int 0] rfl rfl ?_
    refine z_xrz zt189 8 rfl zzr189 (by decide) (by decide) ?_
    show z_ev (d + 1) 225 9 [some (.int p3)] [.int 0] M0 _
    refine z_xrz zt225 5 rfl zzr225 (by decide) (by decide) ?_
    show z_ev (d + 2) 290 11 [some (.ref 19), some (.int p1), some (.int p2), some (.int p3), some (.int p4), some (.int p5), none] [.int 0] M0 _
    refine z_xZ zt290 5 rfl rfl (fun (h23 : (0 : Int) ≠ 0) => absurd h23 (by omega)) (fun (h23 : (0 : Int) = 0) => ?_)
    refine z_xP zt290 6 15 [some (.ref 19), some (.int p1), some (.int p2), some (.int p3), some (.int p4), some (.int p5), none] [.int (-1)] rfl rfl ?_
    have qm1 : (((-1) : Int32)).toInt = (-1) := rfl
    exact z_xri zt290 7 rfl zzr290 (kk (-1) M0 X (by omega) (by omega))
  refine z_xP zt189 6 18 [some (.long y14), none, some (.long 0), none, some (.long 5), none] [.int 1] rfl rfl ?_
  refine z_xrz zt189 8 rfl zzr189 (by decide) (by decide) ?_
  show z_ev (d + 1) 225 9 [some (.int p3)] [.int 1] M0 _
  refine z_xrz zt225 5 rfl zzr225 (by decide) (by decide) ?_
  show z_ev (d + 2) 290 11 [some (.ref 19), some (.int p1), some (.int p2), some (.int p3), some (.int p4), some (.int p5), none] [.int 1] M0 _
  refine z_xZ zt290 5 rfl rfl (fun (h24 : (1 : Int) ≠ 0) => ?_) (fun (h24 : (1 : Int) = 0) => absurd h24 (by omega))
  refine z_xP zt290 8 17 [some (.ref 19), some (.int p1), some (.int p2), some (.int p3), some (.int p4), some (.int p5), none] [.ref 19] rfl rfl ?_
  have f19 : T[19]? = some (.inl (12, 0, 0, 0, 0)) := X.1.k rfl (by decide)
  refine z_xgX (b := 49) zt290 9 rfl zo290 zzf12_97 X f19 (by decide) (by decide) rfl ?_
  refine z_xP zt290 10 21 [some (.ref 19), some (.int p1), some (.int p2), some (.int p3), some (.int p4), some (.int p5), none] [.int p1, .ref 49] rfl rfl ?_
  have f49 : T[49]? = some (.inr (49, 0, 6, (-1), 24)) := X.1.k rfl (by decide)
  refine z_xil zt290 11 rfl X f49 (by decide) (by omega) (by omega) (fun (x25 : Int32) h26 (h27 : (-1) ≤ x25.toInt) (h28 : x25.toInt ≤ 24) => ?_)
  refine z_xZ zt290 12 rfl rfl (fun (h29 : x25.toInt < 0) => ?_) (fun (h29 : 0 ≤ x25.toInt) => ?_)
  · skip
    refine z_xP zt290 18 36 [some (.ref 19), some (.int p1), some (.int p2), some (.int p3), some (.int p4), some (.int p5), none] [.int (-11)] rfl rfl ?_
    have qm11 : (((-11) : Int32)).toInt = (-11) := rfl
    exact z_xri zt290 19 rfl zzr290 (kk (-11) M0 X (by omega) (by omega))
  refine z_xP zt290 13 26 [some (.ref 19), some (.int p1), some (.int p2), some (.int p3), some (.int p4), some (.int p5), none] [.ref 19] rfl rfl ?_
  refine z_xgX (b := 49) zt290 14 rfl zo290 zzf12_97 X f19 (by decide) (by decide) rfl ?_
  refine z_xP zt290 15 30 [some (.ref 19), some (.int p1), some (.int p2), some (.int p3), some (.int p4), some (.int p5), none] [.int p3, .ref 49] rfl rfl ?_
  refine z_xil zt290 16 rfl X f49 (by decide) (by omega) (by omega) (fun (x30 : Int32) h31 (h32 : (-1) ≤ x30.toInt) (h33 : x30.toInt ≤ 24) => ?_)
  refine z_xZ zt290 17 rfl rfl (fun (h34 : 0 ≤ x30.toInt) => ?_) (fun (h34 : x30.toInt < 0) => ?_)
  · skip
    refine z_xP zt290 20 38 [some (.ref 19), some (.int p1), some (.int p2), some (.int p3), some (.int p4), some (.int p5), none] [.ref 19] rfl rfl ?_
    refine z_xgX (b := 49) zt290 21 rfl zo290 zzf12_97 X f19 (by decide) (by decide) rfl ?_
    refine z_xP zt290 22 42 [some (.ref 19), some (.int p1), some (.int p2), some (.int p3), some (.int p4), some (.int p5), none] [.int p1, .ref 49] rfl rfl ?_
    refine z_xil zt290 23 rfl X f49 (by decide) (by omega) (by omega) (fun (x35 : Int32) h36 (h37 : (-1) ≤ x35.toInt) (h38 : x35.toInt ≤ 24) => ?_)
    have h39 := congrArg Int32.toInt (h36.symm.trans h26)
    refine z_xP zt290 24 45 [some (.ref 19), some (.int p1), some (.int p2), some (.int p3), some (.int p4), some (.int p5), none] [.int 20, .int x35] rfl rfl ?_
    refine z_xJ zt290 25 rfl rfl (fun (h40 : x35.toInt < 20) => ?_) (fun (h40 : 20 ≤ x35.toInt) => ?_)
    · skip
      refine z_xP zt290 35 65 [some (.ref 19), some (.int p1), some (.int p2), some (.int p3), some (.int p4), some (.int p5), none] [.int (-12)] rfl rfl ?_
      have qm12 : (((-12) : Int32)).toInt = (-12) := rfl
      exact z_xri zt290 36 rfl zzr290 (kk (-12) M0 X (by omega) (by omega))
    refine z_xP zt290 26 49 [some (.ref 19), some (.int p1), some (.int p2), some (.int p3), some (.int p4), some (.int p5), none] [.ref 19] rfl rfl ?_
    refine z_xgX (b := 49) zt290 27 rfl zo290 zzf12_97 X f19 (by decide) (by decide) rfl ?_
    refine z_xP zt290 28 53 [some (.ref 19), some (.int p1), some (.int p2), some (.int p3), some (.int p4), some (.int p5), none] [.int p1, .ref 49] rfl rfl ?_
    refine z_xil zt290 29 rfl X f49 (by decide) (by omega) (by omega) (fun (x41 : Int32) h42 (h43 : (-1) ≤ x41.toInt) (h44 : x41.toInt ≤ 24) => ?_)
    have h45 := congrArg Int32.toInt (h42.symm.trans h26)
    refine z_xP zt290 30 55 [some (.ref 19), some (.int p1), some (.int p2), some (.int p3), some (.int p4), some (.int p5), none] [.ref 19, .int x41] rfl rfl ?_
    refine z_xgX (b := 49) zt290 31 rfl zo290 zzf12_97 X f19 (by decide) (by decide) rfl ?_
    refine z_xP zt290 32 59 [some (.ref 19), some (.int p1), some (.int p2), some (.int p3), some (.int p4), some (.int p5), none] [.int p3, .ref 49, .int x41] rfl rfl ?_
    refine z_xil zt290 33 rfl X f49 (by decide) (by omega) (by omega) (fun (x46 : Int32) h47 (h48 : (-1) ≤ x46.toInt) (h49 : x46.toInt ≤ 24) => ?_)
    have h50 := congrArg Int32.toInt (h47.symm.trans h31)
    refine z_xJ zt290 34 rfl rfl (fun (h51 : x41.toInt = x46.toInt) => ?_) (fun (h51 : x41.toInt ≠ x46.toInt) => ?_)
    · skip
      refine z_xP zt290 37 68 [some (.ref 19), some (.int p1), some (.int p2), some (.int p3), some (.int p4), some (.int p5), none] [.int p5] rfl rfl ?_
      refine z_xZ zt290 38 rfl rfl (fun (h52 : p5.toInt < 0) => ?_) (fun (h52 : 0 ≤ p5.toInt) => ?_)
      · skip
        refine z_xP zt290 57 109 [some (.ref 19), some (.int p1), some (.int p2), some (.int p3), some (.int p4), some (.int p5), none] [.int (-13)] rfl rfl ?_
        have qm13 : (((-13) : Int32)).toInt = (-13) := rfl
        exact z_xri zt290 58 rfl zzr290 (kk (-13) M0 X (by omega) (by omega))
      refine z_xP zt290 39 72 [some (.ref 19), some (.int p1), some (.int p2), some (.int p3), some (.int p4), some (.int p5), none] [.int p2] rfl rfl ?_
      refine z_xZ zt290 40 rfl rfl (fun (h53 : p2.toInt < 0) => ?_) (fun (h53 : 0 ≤ p2.toInt) => ?_)
      · skip
        refine z_xP zt290 57 109 [some (.ref 19), some (.int p1), some (.int p2), some (.int p3), some (.int p4), some (.int p5), none] [.int (-13)] rfl rfl ?_
        have qm13 : (((-13) : Int32)).toInt = (-13) := rfl
        exact z_xri zt290 58 rfl zzr290 (kk (-13) M0 X (by omega) (by omega))
      refine z_xP zt290 41 77 [some (.ref 19), some (.int p1), some (.int p2), some (.int p3), some (.int p4), some (.int p5), none] [.int p4] rfl rfl ?_
      refine z_xZ zt290 42 rfl rfl (fun (h54 : p4.toInt < 0) => ?_) (fun (h54 : 0 ≤ p4.toInt) => ?_)
      · skip
        refine z_xP zt290 57 109 [some (.ref 19), some (.int p1), some (.int p2), some (.int p3), some (.int p4), some (.int p5), none] [.int (-13)] rfl rfl ?_
        have qm13 : (((-13) : Int32)).toInt = (-13) := rfl
        exact z_xri zt290 58 rfl zzr290 (kk (-13) M0 X (by omega) (by omega))
      refine z_xP zt290 43 82 [some (.ref 19), some (.int p1), some (.int p2), some (.int p3), some (.int p4), some (.int p5), none] [.ref 19, .int p2] rfl rfl ?_
      refine z_xgX (b := 50) zt290 44 rfl zo290 zzf12_100 X f19 (by decide) (by decide) rfl ?_
      refine z_xP zt290 45 86 [some (.ref 19), some (.int p1), some (.int p2), some (.int p3), some (.int p4), some (.int p5), none] [.int p1, .ref 50, .int p2] rfl rfl ?_
      have f50 : T[50]? = some (.inr (50, 0, 6, 0, 60)) := X.1.k rfl (by decide)
      refine z_xil zt290 46 rfl X f50 (by decide) (by omega) (by omega) (fun (x55 : Int32) h56 (h57 : 0 ≤ x55.toInt) (h58 : x55.toInt ≤ 60) => ?_)
      refine z_xP zt290 47 89 [some (.ref 19), some (.int p1), some (.int p2), some (.int p3), some (.int p4), some (.int p5), none] [.int p5, .int x55, .int p2] rfl rfl ?_
      have h59 := z_b32 p5
      refine z_xI zt290 48 rfl rfl (fun (x60 : Int32) (h61 : x60.toInt = x55.toInt - p5.toInt) => ?_) (z_pSub rfl rfl (by omega) (by omega))
      have h62 := z_b32 p2
      refine z_xJ zt290 49 rfl rfl (fun (h63 : x60.toInt < p2.toInt) => ?_) (fun (h63 : p2.toInt ≤ x60.toInt) => ?_)
      · skip
        refine z_xP zt290 57 109 [some (.ref 19), some (.int p1), some (.int p2), some (.int p3), some (.int p4), some (.int p5), none] [.int (-13)] rfl rfl ?_
        have qm13 : (((-13) : Int32)).toInt = (-13) := rfl
        exact z_xri zt290 58 rfl zzr290 (kk (-13) M0 X (by omega) (by omega))
      refine z_xP zt290 50 96 [some (.ref 19), some (.int p1), some (.int p2), some (.int p3), some (.int p4), some (.int p5), none] [.ref 19, .int p4] rfl rfl ?_
      refine z_xgX (b := 50) zt290 51 rfl zo290 zzf12_100 X f19 (by decide) (by decide) rfl ?_
      refine z_xP zt290 52 100 [some (.ref 19), some (.int p1), some (.int p2), some (.int p3), some (.int p4), some (.int p5), none] [.int p3, .ref 50, .int p4] rfl rfl ?_
      refine z_xil zt290 53 rfl X f50 (by decide) (by omega) (by omega) (fun (x64 : Int32) h65 (h66 : 0 ≤ x64.toInt) (h67 : x64.toInt ≤ 60) => ?_)
      refine z_xP zt290 54 103 [some (.ref 19), some (.int p1), some (.int p2), some (.int p3), some (.int p4), some (.int p5), none] [.int p5, .int x64, .int p4] rfl rfl ?_
      refine z_xI zt290 55 rfl rfl (fun (x68 : Int32) (h69 : x68.toInt = x64.toInt - p5.toInt) => ?_) (z_pSub rfl rfl (by omega) (by omega))
      have h70 := z_b32 p4
      refine z_xJ zt290 56 rfl rfl (fun (h71 : p4.toInt ≤ x68.toInt) => ?_) (fun (h71 : x68.toInt < p4.toInt) => ?_)
      · skip
        refine z_xP zt290 59 113 [some (.ref 19), some (.int p1), some (.int p2), some (.int p3), some (.int p4), some (.int p5), some (.int 0)] [] rfl rfl ?_
        have q0 : ((0 : Int32)).toInt = 0 := rfl
        exact (zB290 kk 183).1 M0 (0) X ⟨by omega, by omega⟩ ⟨by omega, by omega⟩ ⟨by omega, by omega⟩ ⟨by omega, by omega⟩ ⟨by omega, by omega⟩ (by decide) (by omega) (by omega) (by omega) (by omega) (by omega)
      refine z_xP zt290 57 109 [some (.ref 19), some (.int p1), some (.int p2), some (.int p3), some (.int p4), some (.int p5), none] [.int (-13)] rfl rfl ?_
      have qm13 : (((-13) : Int32)).toInt = (-13) := rfl
      exact z_xri zt290 58 rfl zzr290 (kk (-13) M0 X (by omega) (by omega))
    refine z_xP zt290 35 65 [some (.ref 19), some (.int p1), some (.int p2), some (.int p3), some (.int p4), some (.int p5), none] [.int (-12)] rfl rfl ?_
    have qm12 : (((-12) : Int32)).toInt = (-12) := rfl
    exact z_xri zt290 36 rfl zzr290 (kk (-12) M0 X (by omega) (by omega))
  refine z_xP zt290 18 36 [some (.ref 19), some (.int p1), some (.int p2), some (.int p3), some (.int p4), some (.int p5), none] [.int (-11)] rfl rfl ?_
  have qm11 : (((-11) : Int32)).toInt = (-11) := rfl
  exact z_xri zt290 19 rfl zzr290 (kk (-11) M0 X (by omega) (by omega))
def zw291 : List Nat := []
theorem zB291 {T : List zK} {d : Nat} {K : Option Value → zH → Prop} {p1 : Int32} {p2 : Int32} {M0 : zH}  (kk : ∀ (x : Int32) (M1 : zH), z_X T zw291 M0 M1 → (-12) ≤ x.toInt → x.toInt ≤ 7 → K (some (.int x)) M1) : ∀ n : Nat, (∀ (M : zH) (b3 : Int32) (z0 : Int32), z_X T zw291 M0 M → 0 ≤ p1.toInt ∧ p1.toInt ≤ 5 → 0 ≤ p2.toInt ∧ p2.toInt ≤ 7 → 0 ≤ b3.toInt ∧ b3.toInt ≤ 7 → z_Ar M 49 p1.toNatClampNeg = z0 → 0 ≤ z0.toInt ∧ z0.toInt ≤ 19 → 0 ≤ z0.toInt ∧ z0.toInt < 20 → ((0) * 2 + 0) * 25 + (b3.toInt) < (n : Int) → z_ev (d + 2) 291 59 [some (.ref 19), some (.int p1), some (.int p2), some (.int b3)] [] M K) := by
  intro n
  induction n with
  | zero => exact by intros; exfalso; omega
  | succ n ih =>
    intro M b3 z0 X hh0 hh1 hh2 hp0 hh4 hh5 hE
    refine z_xP zt291 34 61 [some (.ref 19), some (.int p1), some (.int p2), some (.int b3)] [.int p2, .int b3] rfl rfl ?_
    refine z_xJ zt291 35 rfl rfl (fun (h1 : b3.toInt = p2.toInt) => ?_) (fun (h1 : b3.toInt ≠ p2.toInt) => ?_)
    · skip
      refine z_xP zt291 41 78 [some (.ref 19), some (.int p1), some (.int p2), some (.int b3)] [.int p2, .int b3] rfl rfl ?_
      refine z_xJ zt291 42 rfl rfl (fun (h2 : b3.toInt ≠ p2.toInt) => ?_) (fun (h2 : b3.toInt = p2.toInt) => ?_)
      · skip
        refine z_xP zt291 51 97 [some (.ref 19), some (.int p1), some (.int p2), some (.int b3)] [.int (-12)] rfl rfl ?_
        have qm12 : (((-12) : Int32)).toInt = (-12) := rfl
        exact z_xri zt291 52 rfl zzr291 (kk (-12) M X (by omega) (by omega))
      refine z_xP zt291 43 82 [some (.ref 19), some (.int p1), some (.int p2), some (.int b3)] [.ref 19] rfl rfl ?_
      have f19 : T[19]? = some (.inl (12, 0, 0, 0, 0)) := X.1.k rfl (by decide)
      refine z_xgX (b := 36) zt291 44 rfl zo291 zzf12_58 X f19 (by decide) (by decide) rfl ?_
      refine z_xP zt291 45 86 [some (.ref 19), some (.int p1), some (.int p2), some (.int b3)] [.ref 19, .ref 36] rfl rfl ?_
      refine z_xgX (b := 49) zt291 46 rfl zo291 zzf12_97 X f19 (by decide) (by decide) rfl ?_
      refine z_xP zt291 47 90 [some (.ref 19), some (.int p1), some (.int p2), some (.int b3)] [.int p1, .ref 49, .ref 36] rfl rfl ?_
      have f49 : T[49]? = some (.inr (49, 0, 6, (-1), 24)) := X.1.k rfl (by decide)
      refine z_xil zt291 48 rfl X f49 (by decide) (by omega) (by omega) (fun (x3 : Int32) h4 (h5 : (-1) ≤ x3.toInt) (h6 : x3.toInt ≤ 24) => ?_)
      have h7 := congrArg Int32.toInt (h4.symm.trans hp0)
      have f36 : T[36]? = some (.inr (36, 0, 20, 0, 7)) := X.1.k rfl (by decide)
      refine z_xil zt291 49 rfl X f36 (by decide) (by omega) (by omega) (fun (x8 : Int32) h9 (h10 : 0 ≤ x8.toInt) (h11 : x8.toInt ≤ 7) => ?_)
      refine z_xP zt291 50 97 [some (.ref 19), some (.int p1), some (.int p2), some (.int b3)] [.int x8] rfl rfl ?_
      exact z_xri zt291 52 rfl zzr291 (kk x8 M X (by omega) (by omega))
    refine z_xP zt291 36 65 [some (.ref 19), some (.int p1), some (.int p2), some (.int b3)] [.int b3] rfl rfl ?_
    refine z_xZ zt291 37 rfl rfl (fun (h12 : b3.toInt ≤ 0) => ?_) (fun (h12 : 0 < b3.toInt) => ?_)
    · skip
      refine z_xP zt291 41 78 [some (.ref 19), some (.int p1), some (.int p2), some (.int b3)] [.int p2, .int b3] rfl rfl ?_
      refine z_xJ zt291 42 rfl rfl (fun (h13 : b3.toInt ≠ p2.toInt) => ?_) (fun (h13 : b3.toInt = p2.toInt) => ?_)
      · skip
        refine z_xP zt291 51 97 [some (.ref 19), some (.int p1), some (.int p2), some (.int b3)] [.int (-12)] rfl rfl ?_
        have qm12 : (((-12) : Int32)).toInt = (-12) := rfl
        exact z_xri zt291 52 rfl zzr291 (kk (-12) M X (by omega) (by omega))
      refine z_xP zt291 43 82 [some (.ref 19), some (.int p1), some (.int p2), some (.int b3)] [.ref 19] rfl rfl ?_
      have f19 : T[19]? = some (.inl (12, 0, 0, 0, 0)) := X.1.k rfl (by decide)
      refine z_xgX (b := 36) zt291 44 rfl zo291 zzf12_58 X f19 (by decide) (by decide) rfl ?_
      refine z_xP zt291 45 86 [some (.ref 19), some (.int p1), some (.int p2), some (.int b3)] [.ref 19, .ref 36] rfl rfl ?_
      refine z_xgX (b := 49) zt291 46 rfl zo291 zzf12_97 X f19 (by decide) (by decide) rfl ?_
      refine z_xP zt291 47 90 [some (.ref 19), some (.int p1), some (.int p2), some (.int b3)] [.int p1, .ref 49, .ref 36] rfl rfl ?_
      have f49 : T[49]? = some (.inr (49, 0, 6, (-1), 24)) := X.1.k rfl (by decide)
      refine z_xil zt291 48 rfl X f49 (by decide) (by omega) (by omega) (fun (x14 : Int32) h15 (h16 : (-1) ≤ x14.toInt) (h17 : x14.toInt ≤ 24) => ?_)
      have h18 := congrArg Int32.toInt (h15.symm.trans hp0)
      have f36 : T[36]? = some (.inr (36, 0, 20, 0, 7)) := X.1.k rfl (by decide)
      refine z_xil zt291 49 rfl X f36 (by decide) (by omega) (by omega) (fun (x19 : Int32) h20 (h21 : 0 ≤ x19.toInt) (h22 : x19.toInt ≤ 7) => ?_)
      refine z_xP zt291 50 97 [some (.ref 19), some (.int p1), some (.int p2), some (.int b3)] [.int x19] rfl rfl ?_
      exact z_xri zt291 52 rfl zzr291 (kk x19 M X (by omega) (by omega))
    refine z_xP zt291 38 69 [some (.ref 19), some (.int p1), some (.int p2), some (.int b3)] [.int b3] rfl rfl ?_
    refine z_xcS (vs := [.int b3]) (r := []) (L2 := [some (.int b3)]) zt291 39 rfl zo291 zzcS12_390 (Or.inl rfl) (Nat.le_of_ble_eq_true rfl) rfl rfl (Nat.le_of_ble_eq_true rfl) zzm279 (Nat.le_of_ble_eq_true rfl) rfl ?_
    refine z_xP zt279 0 2 [some (.int b3)] [.int 2, .int b3] rfl rfl ?_
    refine z_xJ zt279 1 rfl rfl (fun (h23 : b3.toInt = 2) => ?_) (fun (h23 : b3.toInt ≠ 2) => ?_)
    · skip
      refine z_xP zt279 4 25 [some (.int b3)] [.int 1] rfl rfl ?_
      refine z_xri zt279 9 rfl zzr279 ?_
      show z_ev (d + 2) 291 72 [some (.ref 19), some (.int p1), some (.int p2), some (.int b3)] [.int 1] M _
      refine z_xP zt291 40 59 [some (.ref 19), some (.int p1), some (.int p2), some (.int 1)] [] rfl rfl ?_
      have f49 : T[49]? = some (.inr (49, 0, 6, (-1), 24)) := X.1.k rfl (by decide)
      have q1 : ((1 : Int32)).toInt = 1 := rfl
      exact ih M (1) z0 X ⟨by omega, by omega⟩ ⟨by omega, by omega⟩ (by decide) hp0 ⟨by omega, by omega⟩ (by omega) (by omega)
    refine z_xP zt279 2 7 [some (.int b3)] [.int 3, .int b3] rfl rfl ?_
    refine z_xJ zt279 3 rfl rfl (fun (h24 : b3.toInt ≠ 3) => ?_) (fun (h24 : b3.toInt = 3) => ?_)
    · skip
      refine z_xP zt279 5 17 [some (.int b3)] [.int 6, .int b3] rfl rfl ?_
      refine z_xJ zt279 6 rfl rfl (fun (h25 : b3.toInt ≠ 6) => ?_) (fun (h25 : b3.toInt = 6) => ?_)
      · skip
        refine z_xP zt279 8 25 [some (.int b3)] [.int 0] rfl rfl ?_
        refine z_xri zt279 9 rfl zzr279 ?_
        show z_ev (d + 2) 291 72 [some (.ref 19), some (.int p1), some (.int p2), some (.int b3)] [.int 0] M _
        refine z_xP zt291 40 59 [some (.ref 19), some (.int p1), some (.int p2), some (.int 0)] [] rfl rfl ?_
        have f49 : T[49]? = some (.inr (49, 0, 6, (-1), 24)) := X.1.k rfl (by decide)
        have q0 : ((0 : Int32)).toInt = 0 := rfl
        exact ih M (0) z0 X ⟨by omega, by omega⟩ ⟨by omega, by omega⟩ (by decide) hp0 ⟨by omega, by omega⟩ (by omega) (by omega)
      refine z_xP zt279 7 25 [some (.int b3)] [.int 5] rfl rfl ?_
      refine z_xri zt279 9 rfl zzr279 ?_
      show z_ev (d + 2) 291 72 [some (.ref 19), some (.int p1), some (.int p2), some (.int b3)] [.int 5] M _
      refine z_xP zt291 40 59 [some (.ref 19), some (.int p1), some (.int p2), some (.int 5)] [] rfl rfl ?_
      have f49 : T[49]? = some (.inr (49, 0, 6, (-1), 24)) := X.1.k rfl (by decide)
      have q5 : ((5 : Int32)).toInt = 5 := rfl
      exact ih M (5) z0 X ⟨by omega, by omega⟩ ⟨by omega, by omega⟩ (by decide) hp0 ⟨by omega, by omega⟩ (by omega) (by omega)
    refine z_xP zt279 4 25 [some (.int b3)] [.int 1] rfl rfl ?_
    refine z_xri zt279 9 rfl zzr279 ?_
    show z_ev (d + 2) 291 72 [some (.ref 19), some (.int p1), some (.int p2), some (.int b3)] [.int 1] M _
    refine z_xP zt291 40 59 [some (.ref 19), some (.int p1), some (.int p2), some (.int 1)] [] rfl rfl ?_
    have f49 : T[49]? = some (.inr (49, 0, 6, (-1), 24)) := X.1.k rfl (by decide)
    have q1 : ((1 : Int32)).toInt = 1 := rfl
    exact ih M (1) z0 X ⟨by omega, by omega⟩ ⟨by omega, by omega⟩ (by decide) hp0 ⟨by omega, by omega⟩ (by omega) (by omega)
theorem zC291 {T : List zK} {d : Nat} {K : Option Value → zH → Prop} {p1 : Int32} {p2 : Int32} {M0 : zH} (hW : z_W M0 T)  (kk : ∀ (x : Int32) (M1 : zH), z_X T zw291 M0 M1 → (-12) ≤ x.toInt → x.toInt ≤ 7 → K (some (.int x)) M1) : z_ev (d + 2) 291 0 [some (.ref 19), some (.int p1), some (.int p2), none] [] M0 K := by
  have X : z_X T zw291 M0 M0 := .refl hW
  refine z_xP zt291 0 1 [some (.ref 19), some (.int p1), some (.int p2), none] [.int p1] rfl rfl ?_
  refine z_xcS (vs := [.int p1]) (r := []) (L2 := [some (.int p1)]) zt291 1 rfl zo291 zzcS12_237 (Or.inl rfl) (Nat.le_of_ble_eq_true rfl) rfl rfl (Nat.le_of_ble_eq_true rfl) zzm225 (Nat.le_of_ble_eq_true rfl) rfl ?_
  refine z_xP zt225 0 1 [some (.int p1)] [.int p1] rfl rfl ?_
  have h1 := z_b32 p1
  refine z_xL zt225 1 rfl rfl (fun (y2 : Int64) (h3 : y2.toInt = p1.toInt) => ?_) (z_qI2L rfl)
  refine z_xP zt225 2 3 [some (.int p1)] [.long 0, .long y2] rfl rfl ?_
  refine z_xl2 zt225 3 rfl zo225 zkl12_318 ?_
  refine z_xcS (vs := [.long y2, .long 0, .long 5]) (r := []) (L2 := [some (.long y2), none, some (.long 0), none, some (.long 5), none]) zt225 4 rfl zo225 zzcS12_116 (Or.inl rfl) (Nat.le_of_ble_eq_true rfl) rfl rfl (Nat.le_of_ble_eq_true rfl) zzm189 (Nat.le_of_ble_eq_true rfl) rfl ?_
  refine z_xP zt189 0 2 [some (.long y2), none, some (.long 0), none, some (.long 5), none] [.long 0, .long y2] rfl rfl ?_
  refine z_xI zt189 1 rfl rfl (fun (x4 : Int32) (h5 : (x4.toInt < 0 ∧ y2.toInt < 0) ∨ (x4.toInt = 0 ∧ y2.toInt = 0) ∨ (0 < x4.toInt ∧ 0 < y2.toInt)) => ?_) (z_qCmp rfl rfl)
  refine z_xZ zt189 2 rfl rfl (fun (h6 : x4.toInt < 0) => ?_) (fun (h6 : 0 ≤ x4.toInt) => ?_)
  · skip
    refine z_xP zt189 7 18 [some (.long y2), none, some (.long 0), none, some (.long 5), none] [.int 0] rfl rfl ?_
    refine z_xrz zt189 8 rfl zzr189 (by decide) (by decide) ?_
    show z_ev (d + 1) 225 9 [some (.int p1)] [.int 0] M0 _
    refine z_xrz zt225 5 rfl zzr225 (by decide) (by decide) ?_
    show z_ev (d + 2) 291 4 [some (.ref 19), some (.int p1), some (.int p2), none] [.int 0] M0 _
    refine z_xZ zt291 2 rfl rfl (fun (h7 : (0 : Int) = 0) => ?_) (fun (h7 : (0 : Int) ≠ 0) => absurd h7 (by omega))
    refine z_xP zt291 9 20 [some (.ref 19), some (.int p1), some (.int p2), none] [.int (-1)] rfl rfl ?_
    have qm1 : (((-1) : Int32)).toInt = (-1) := rfl
    exact z_xri zt291 10 rfl zzr291 (kk (-1) M0 X (by omega) (by omega))
  refine z_xP zt189 3 9 [some (.long y2), none, some (.long 0), none, some (.long 5), none] [.long 5, .long y2] rfl rfl ?_
  refine z_xI zt189 4 rfl rfl (fun (x8 : Int32) (h9 : (x8.toInt < 0 ∧ y2.toInt < 5) ∨ (x8.toInt = 0 ∧ y2.toInt = 5) ∨ (0 < x8.toInt ∧ 5 < y2.toInt)) => ?_) (z_qCmp rfl rfl)
  refine z_xZ zt189 5 rfl rfl (fun (h10 : 0 < x8.toInt) => ?_) (fun (h10 : x8.toInt ≤ 0) => ?_)
  · skip
    refine z_xP zt189 7 18 [some (.long y2), none, some (.long 0), none, some (.long 5), none] [.int 0] rfl rfl ?_
    refine z_xrz zt189 8 rfl zzr189 (by decide) (by decide) ?_
    show z_ev (d + 1) 225 9 [some (.int p1)] [.int 0] M0 _
    refine z_xrz zt225 5 rfl zzr225 (by decide) (by decide) ?_
    show z_ev (d + 2) 291 4 [some (.ref 19), some (.int p1), some (.int p2), none] [.int 0] M0 _
    refine z_xZ zt291 2 rfl rfl (fun (h11 : (0 : Int) = 0) => ?_) (fun (h11 : (0 : Int) ≠ 0) => absurd h11 (by omega))
    refine z_xP zt291 9 20 [some (.ref 19), some (.int p1), some (.int p2), none] [.int (-1)] rfl rfl ?_
    have qm1 : (((-1) : Int32)).toInt = (-1) := rfl
    exact z_xri zt291 10 rfl zzr291 (kk (-1) M0 X (by omega) (by omega))
  refine z_xP zt189 6 18 [some (.long y2), none, some (.long 0), none, some (.long 5), none] [.int 1] rfl rfl ?_
  refine z_xrz zt189 8 rfl zzr189 (by decide) (by decide) ?_
  show z_ev (d + 1) 225 9 [some (.int p1)] [.int 1] M0 _
  refine z_xrz zt225 5 rfl zzr225 (by decide) (by decide) ?_
  show z_ev (d + 2) 291 4 [some (.ref 19), some (.int p1), some (.int p2), none] [.int 1] M0 _
  refine z_xZ zt291 2 rfl rfl (fun (h12 : (1 : Int) = 0) => absurd h12 (by omega)) (fun (h12 : (1 : Int) ≠ 0) => ?_)
  refine z_xP zt291 3 8 [some (.ref 19), some (.int p1), some (.int p2), none] [.int p2] rfl rfl ?_
  have h13 := z_b32 p2
  refine z_xL zt291 4 rfl rfl (fun (y14 : Int64) (h15 : y14.toInt = p2.toInt) => ?_) (z_qI2L rfl)
  refine z_xP zt291 5 10 [some (.ref 19), some (.int p1), some (.int p2), none] [.long 0, .long y14] rfl rfl ?_
  refine z_xl2 zt291 6 rfl zo291 zkl12_265 ?_
  refine z_xcS (vs := [.long y14, .long 0, .long 7]) (r := []) (L2 := [some (.long y14), none, some (.long 0), none, some (.long 7), none]) zt291 7 rfl zo291 zzcS12_116 (Or.inl rfl) (Nat.le_of_ble_eq_true rfl) rfl rfl (Nat.le_of_ble_eq_true rfl) zzm189 (Nat.le_of_ble_eq_true rfl) rfl ?_
  refine z_xP zt189 0 2 [some (.long y14), none, some (.long 0), none, some (.long 7), none] [.long 0, .long y14] rfl rfl ?_
  refine z_xI zt189 1 rfl rfl (fun (x16 : Int32) (h17 : (x16.toInt < 0 ∧ y14.toInt < 0) ∨ (x16.toInt = 0 ∧ y14.toInt = 0) ∨ (0 < x16.toInt ∧ 0 < y14.toInt)) => ?_) (z_qCmp rfl rfl)
  refine z_xZ zt189 2 rfl rfl (fun (h18 : x16.toInt < 0) => ?_) (fun (h18 : 0 ≤ x16.toInt) => ?_)
  · skip
    refine z_xP zt189 7 18 [some (.long y14), none, some (.long 0), none, some (.long 7), none] [.int 0] rfl rfl ?_
    refine z_xrz zt189 8 rfl zzr189 (by decide) (by decide) ?_
    show z_ev (d + 2) 291 16 [some (.ref 19), some (.int p1), some (.int p2), none] [.int 0] M0 _
    refine z_xZ zt291 8 rfl rfl (fun (h19 : (0 : Int) ≠ 0) => absurd h19 (by omega)) (fun (h19 : (0 : Int) = 0) => ?_)
    refine z_xP zt291 9 20 [some (.ref 19), some (.int p1), some (.int p2), none] [.int (-1)] rfl rfl ?_
    have qm1 : (((-1) : Int32)).toInt = (-1) := rfl
    exact z_xri zt291 10 rfl zzr291 (kk (-1) M0 X (by omega) (by omega))
  refine z_xP zt189 3 9 [some (.long y14), none, some (.long 0), none, some (.long 7), none] [.long 7, .long y14] rfl rfl ?_
  refine z_xI zt189 4 rfl rfl (fun (x20 : Int32) (h21 : (x20.toInt < 0 ∧ y14.toInt < 7) ∨ (x20.toInt = 0 ∧ y14.toInt = 7) ∨ (0 < x20.toInt ∧ 7 < y14.toInt)) => ?_) (z_qCmp rfl rfl)
  refine z_xZ zt189 5 rfl rfl (fun (h22 : 0 < x20.toInt) => ?_) (fun (h22 : x20.toInt ≤ 0) => ?_)
  · skip
    refine z_xP zt189 7 18 [some (.long y14), none, some (.long 0), none, some (.long 7), none] [.int 0] rfl rfl ?_
    refine z_xrz zt189 8 rfl zzr189 (by decide) (by decide) ?_
    show z_ev (d + 2) 291 16 [some (.ref 19), some (.int p1), some (.int p2), none] [.int 0] M0 _
    refine z_xZ zt291 8 rfl rfl (fun (h23 : (0 : Int) ≠ 0) => absurd h23 (by omega)) (fun (h23 : (0 : Int) = 0) => ?_)
    refine z_xP zt291 9 20 [some (.ref 19), some (.int p1), some (.int p2), none] [.int (-1)] rfl rfl ?_
    have qm1 : (((-1) : Int32)).toInt = (-1) := rfl
    exact z_xri zt291 10 rfl zzr291 (kk (-1) M0 X (by omega) (by omega))
  refine z_xP zt189 6 18 [some (.long y14), none, some (.long 0), none, some (.long 7), none] [.int 1] rfl rfl ?_
  refine z_xrz zt189 8 rfl zzr189 (by decide) (by decide) ?_
  show z_ev (d + 2) 291 16 [some (.ref 19), some (.int p1), some (.int p2), none] [.int 1] M0 _
  refine z_xZ zt291 8 rfl rfl (fun (h24 : (1 : Int) ≠ 0) => ?_) (fun (h24 : (1 : Int) = 0) => absurd h24 (by omega))
  refine z_xP zt291 11 22 [some (.ref 19), some (.int p1), some (.int p2), none] [.ref 19] rfl rfl ?_
  have f19 : T[19]? = some (.inl (12, 0, 0, 0, 0)) := X.1.k rfl (by decide)
  refine z_xgX (b := 49) zt291 12 rfl zo291 zzf12_97 X f19 (by decide) (by decide) rfl ?_
  refine z_xP zt291 13 26 [some (.ref 19), some (.int p1), some (.int p2), none] [.int p1, .ref 49] rfl rfl ?_
  have f49 : T[49]? = some (.inr (49, 0, 6, (-1), 24)) := X.1.k rfl (by decide)
  refine z_xil zt291 14 rfl X f49 (by decide) (by omega) (by omega) (fun (x25 : Int32) h26 (h27 : (-1) ≤ x25.toInt) (h28 : x25.toInt ≤ 24) => ?_)
  refine z_xZ zt291 15 rfl rfl (fun (h29 : 0 ≤ x25.toInt) => ?_) (fun (h29 : x25.toInt < 0) => ?_)
  · skip
    refine z_xP zt291 18 34 [some (.ref 19), some (.int p1), some (.int p2), none] [.ref 19] rfl rfl ?_
    refine z_xgX (b := 49) zt291 19 rfl zo291 zzf12_97 X f19 (by decide) (by decide) rfl ?_
    refine z_xP zt291 20 38 [some (.ref 19), some (.int p1), some (.int p2), none] [.int p1, .ref 49] rfl rfl ?_
    refine z_xil zt291 21 rfl X f49 (by decide) (by omega) (by omega) (fun (x30 : Int32) h31 (h32 : (-1) ≤ x30.toInt) (h33 : x30.toInt ≤ 24) => ?_)
    have h34 := congrArg Int32.toInt (h31.symm.trans h26)
    refine z_xP zt291 22 41 [some (.ref 19), some (.int p1), some (.int p2), none] [.int 20, .int x30] rfl rfl ?_
    refine z_xJ zt291 23 rfl rfl (fun (h35 : x30.toInt < 20) => ?_) (fun (h35 : 20 ≤ x30.toInt) => ?_)
    · skip
      refine z_xP zt291 26 48 [some (.ref 19), some (.int p1), some (.int p2), none] [.ref 19] rfl rfl ?_
      refine z_xgX (b := 36) zt291 27 rfl zo291 zzf12_58 X f19 (by decide) (by decide) rfl ?_
      refine z_xP zt291 28 52 [some (.ref 19), some (.int p1), some (.int p2), none] [.ref 19, .ref 36] rfl rfl ?_
      refine z_xgX (b := 49) zt291 29 rfl zo291 zzf12_97 X f19 (by decide) (by decide) rfl ?_
      refine z_xP zt291 30 56 [some (.ref 19), some (.int p1), some (.int p2), none] [.int p1, .ref 49, .ref 36] rfl rfl ?_
      refine z_xil zt291 31 rfl X f49 (by decide) (by omega) (by omega) (fun (x36 : Int32) h37 (h38 : (-1) ≤ x36.toInt) (h39 : x36.toInt ≤ 24) => ?_)
      have h40 := congrArg Int32.toInt (h37.symm.trans h26)
      have f36 : T[36]? = some (.inr (36, 0, 20, 0, 7)) := X.1.k rfl (by decide)
      refine z_xil zt291 32 rfl X f36 (by decide) (by omega) (by omega) (fun (x41 : Int32) h42 (h43 : 0 ≤ x41.toInt) (h44 : x41.toInt ≤ 7) => ?_)
      refine z_xP zt291 33 59 [some (.ref 19), some (.int p1), some (.int p2), some (.int x41)] [] rfl rfl ?_
      exact (zB291 kk 50) M0 x41 x25 X ⟨by omega, by omega⟩ ⟨by omega, by omega⟩ ⟨by omega, by omega⟩ h26 ⟨by omega, by omega⟩ (by omega) (by omega)
    refine z_xP zt291 24 46 [some (.ref 19), some (.int p1), some (.int p2), none] [.int (-12)] rfl rfl ?_
    have qm12 : (((-12) : Int32)).toInt = (-12) := rfl
    exact z_xri zt291 25 rfl zzr291 (kk (-12) M0 X (by omega) (by omega))
  refine z_xP zt291 16 32 [some (.ref 19), some (.int p1), some (.int p2), none] [.int (-11)] rfl rfl ?_
  have qm11 : (((-11) : Int32)).toInt = (-11) := rfl
  exact z_xri zt291 17 rfl zzr291 (kk (-11) M0 X (by omega) (by omega))
def zw292 : List Nat := []
theorem zB292 {T : List zK} {d : Nat} {K : Option Value → zH → Prop} {p1 : Int32} {M0 : zH}  (kk : ∀ (x : Int32) (M1 : zH), z_X T zw292 M0 M1 → K (some (.int x)) M1) : ∀ n : Nat, (∀ (M : zH) (b2 : Int32) (b3 : Int32), z_X T zw292 M0 M → 0 ≤ b3.toInt ∧ b3.toInt ≤ 8 → ((0) * 2 + 0) * 9 + (8 - b3.toInt) < (n : Int) → z_ev d 292 4 [some (.ref 19), some (.int p1), some (.int b2), some (.int b3)] [] M K) := by
  intro n
  induction n with
  | zero => exact by intros; exfalso; omega
  | succ n ih =>
    intro M b2 b3 X hh0 hE
    refine z_xP zt292 1 6 [some (.ref 19), some (.int p1), some (.int b2), some (.int b3)] [.ref 19, .int b3] rfl rfl ?_
    have f19 : T[19]? = some (.inl (12, 0, 0, 0, 0)) := X.1.k rfl (by decide)
    refine z_xgI zt292 2 rfl zo292 zzf12_110 X f19 (by decide) (by decide) rfl (fun (x2 : Int32) h1 (h3 : 0 ≤ x2.toInt) (h4 : x2.toInt ≤ 8) => ?_)
    refine z_xJ zt292 3 rfl rfl (fun (h5 : x2.toInt ≤ b3.toInt) => ?_) (fun (h5 : b3.toInt < x2.toInt) => ?_)
    · skip
      refine z_xP zt292 12 28 [some (.ref 19), some (.int p1), some (.int b2), some (.int b3)] [.int p1] rfl rfl ?_
      by_cases h6 : p1.toInt = 0
      · refine z_xSC zt292 13 (z_sub (k := 0) h6 rfl) 64 rfl rfl ?_
        refine z_xP zt292 14 65 [some (.ref 19), some (.int p1), some (.int b2), some (.int b3)] [.ref 19] rfl rfl ?_
        refine z_xgv zt292 15 rfl zo292 zzf12_110 X f19 (by decide) h1 ?_
        exact z_xri zt292 16 rfl zzr292 (kk x2 M X)
      by_cases h7 : p1.toInt = 1
      · refine z_xSC zt292 13 (z_sub (k := 1) h7 rfl) 69 rfl rfl ?_
        refine z_xP zt292 17 70 [some (.ref 19), some (.int p1), some (.int b2), some (.int b3)] [.ref 19] rfl rfl ?_
        refine z_xgI zt292 18 rfl zo292 zzf12_269 X f19 (by decide) (by decide) rfl (fun (x9 : Int32) h8 (h10 : 0 ≤ x9.toInt) (h11 : x9.toInt ≤ 20) => ?_)
        exact z_xri zt292 19 rfl zzr292 (kk x9 M X)
      by_cases h12 : p1.toInt = 2
      · refine z_xSC zt292 13 (z_sub (k := 2) h12 rfl) 74 rfl rfl ?_
        refine z_xP zt292 20 75 [some (.ref 19), some (.int p1), some (.int b2), some (.int b3)] [.ref 19] rfl rfl ?_
        refine z_xgI zt292 21 rfl zo292 zzf12_120 X f19 (by decide) (by decide) rfl (fun (x14 : Int32) h13 (h15 : 0 ≤ x14.toInt) (h16 : x14.toInt ≤ 160) => ?_)
        exact z_xri zt292 22 rfl zzr292 (kk x14 M X)
      by_cases h17 : p1.toInt = 3
      · refine z_xSC zt292 13 (z_sub (k := 3) h17 rfl) 79 rfl rfl ?_
        refine z_xP zt292 23 80 [some (.ref 19), some (.int p1), some (.int b2), some (.int b3)] [.int b2] rfl rfl ?_
        exact z_xri zt292 24 rfl zzr292 (kk b2 M X)
      by_cases h18 : p1.toInt = 4
      · refine z_xSC zt292 13 (z_sub (k := 4) h18 rfl) 81 rfl rfl ?_
        refine z_xP zt292 25 82 [some (.ref 19), some (.int p1), some (.int b2), some (.int b3)] [.ref 19] rfl rfl ?_
        refine z_xgI zt292 26 rfl zo292 zzf12_381 X f19 (by decide) (by decide) rfl (fun (x20 : Int32) h19 (h21 : (-2147483648) ≤ x20.toInt) (h22 : x20.toInt ≤ 2147483647) => ?_)
        exact z_xri zt292 27 rfl zzr292 (kk x20 M X)
      refine z_xSD zt292 13 rfl rfl (by omega) ?_
      refine z_xP zt292 28 87 [some (.ref 19), some (.int p1), some (.int b2), some (.int b3)] [.int (-1)] rfl rfl ?_
      have qm1 : (((-1) : Int32)).toInt = (-1) := rfl
      exact z_xri zt292 29 rfl zzr292 (kk (-1) M X)
    refine z_xP zt292 4 14 [some (.ref 19), some (.int p1), some (.int b2), some (.int b3)] [.ref 19, .int b2] rfl rfl ?_
    refine z_xgX (b := 35) zt292 5 rfl zo292 zzf12_55 X f19 (by decide) (by decide) rfl ?_
    refine z_xP zt292 6 18 [some (.ref 19), some (.int p1), some (.int b2), some (.int b3)] [.int b3, .ref 35, .int b2] rfl rfl ?_
    have f35 : T[35]? = some (.inr (35, 0, 8, 0, 9)) := X.1.k rfl (by decide)
    refine z_xil zt292 7 rfl X f35 (by decide) (by omega) (by omega) (fun (x23 : Int32) h24 (h25 : 0 ≤ x23.toInt) (h26 : x23.toInt ≤ 9) => ?_)
    have h27 := z_b32 b2
    refine z_xI zt292 8 rfl rfl (P := fun _ => True) (fun (x28 : Int32) _ => ?_) trivial
    refine z_xP zt292 9 21 [some (.ref 19), some (.int p1), some (.int x28), some (.int b3)] [] rfl rfl ?_
    refine z_xN zt292 10 rfl rfl (fun (x30 : Int32) (h31 : x30.toInt = b3.toInt + 1) => ?_) (z_pAdd rfl rfl (by omega) (by omega))
    show z_ev d 292 24 [some (.ref 19), some (.int p1), some (.int x28), some (.int x30)] [] M _
    refine z_xP zt292 11 4 [some (.ref 19), some (.int p1), some (.int x28), some (.int x30)] [] rfl rfl ?_
    exact ih M x28 x30 X ⟨by omega, by omega⟩ (by omega)
theorem zC292 {T : List zK} {d : Nat} {K : Option Value → zH → Prop} {p1 : Int32} {M0 : zH} (hW : z_W M0 T)  (kk : ∀ (x : Int32) (M1 : zH), z_X T zw292 M0 M1 → K (some (.int x)) M1) : z_ev d 292 0 [some (.ref 19), some (.int p1), none, none] [] M0 K := by
  have X : z_X T zw292 M0 M0 := .refl hW
  refine z_xP zt292 0 4 [some (.ref 19), some (.int p1), some (.int 0), some (.int 0)] [] rfl rfl ?_
  have q0 : ((0 : Int32)).toInt = 0 := rfl
  exact (zB292 kk 18) M0 (0) (0) X (by decide) (by omega)
