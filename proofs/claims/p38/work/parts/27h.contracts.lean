/-! contracts of the methods (printed by wip/gen/vparts.py) -/
def zw274 : List Nat := [39, 40, 41, 42, 2229, 2230, 2234, 2235, 2244, 2245]
theorem zC274 {T : List zK} {d : Nat} {K : Option Value → zH → Prop} {p1 : Int32} {p2 : Int32} {p3 : Int32} {M0 : zH} (hW : z_W M0 T)  (kk : ∀ (x : Int32) (M1 : zH), z_X T zw274 M0 M1 → K (some (.int x)) M1) : z_ev (d + 76) 274 0 [some (.ref 19), some (.int p1), some (.int p2), some (.int p3)] [] M0 K := by
  have X : z_X T zw274 M0 M0 := .refl hW
  refine z_xP zt274 0 2 [some (.ref 19), some (.int p1), some (.int p2), some (.int p3)] [.int p1, .ref 19] rfl rfl ?_
  have f19 : T[19]? = some (.inl (12, 0, 0, 0, 0)) := X.1.k rfl (by decide)
  refine z_xcV (vs := [.ref 19, .int p1]) (r := []) (L2 := [some (.ref 19), some (.int p1)]) zt274 1 rfl zo274 zzcV12_209 (Or.inl rfl) rfl X f19 rfl rfl rfl (Nat.le_of_ble_eq_true rfl) zzm209 (Nat.le_of_ble_eq_true rfl) rfl ?_
  refine z_xP zt209 0 1 [some (.ref 19), some (.int p1)] [.int p1] rfl rfl ?_
  refine z_xZ zt209 1 rfl rfl (fun (h1 : p1.toInt < 0) => ?_) (fun (h1 : 0 ≤ p1.toInt) => ?_)
  · skip
    refine z_xP zt209 6 17 [some (.ref 19), some (.int p1)] [.int 0] rfl rfl ?_
    refine z_xrz zt209 7 rfl zzr209 (by decide) (by decide) ?_
    show z_ev (d + 76) 274 5 [some (.ref 19), some (.int p1), some (.int p2), some (.int p3)] [.int 0] M0 _
    refine z_xZ zt274 2 rfl rfl (fun (h2 : (0 : Int) = 0) => ?_) (fun (h2 : (0 : Int) ≠ 0) => absurd h2 (by omega))
    refine z_xP zt274 16 40 [some (.ref 19), some (.int p1), some (.int p2), some (.int p3)] [.int (-1)] rfl rfl ?_
    have qm1 : (((-1) : Int32)).toInt = (-1) := rfl
    exact z_xri zt274 17 rfl zzr274 (kk (-1) M0 X)
  refine z_xP zt209 2 6 [some (.ref 19), some (.int p1)] [.ref 19, .int p1] rfl rfl ?_
  refine z_xgI zt209 3 rfl zo209 zzf12_110 X f19 (by decide) (by decide) rfl (fun (x4 : Int32) h3 (h5 : 0 ≤ x4.toInt) (h6 : x4.toInt ≤ 8) => ?_)
  have h7 := z_b32 p1
  refine z_xJ zt209 4 rfl rfl (fun (h8 : x4.toInt ≤ p1.toInt) => ?_) (fun (h8 : p1.toInt < x4.toInt) => ?_)
  · skip
    refine z_xP zt209 6 17 [some (.ref 19), some (.int p1)] [.int 0] rfl rfl ?_
    refine z_xrz zt209 7 rfl zzr209 (by decide) (by decide) ?_
    show z_ev (d + 76) 274 5 [some (.ref 19), some (.int p1), some (.int p2), some (.int p3)] [.int 0] M0 _
    refine z_xZ zt274 2 rfl rfl (fun (h9 : (0 : Int) = 0) => ?_) (fun (h9 : (0 : Int) ≠ 0) => absurd h9 (by omega))
    refine z_xP zt274 16 40 [some (.ref 19), some (.int p1), some (.int p2), some (.int p3)] [.int (-1)] rfl rfl ?_
    have qm1 : (((-1) : Int32)).toInt = (-1) := rfl
    exact z_xri zt274 17 rfl zzr274 (kk (-1) M0 X)
  refine z_xP zt209 5 17 [some (.ref 19), some (.int p1)] [.int 1] rfl rfl ?_
  refine z_xrz zt209 7 rfl zzr209 (by decide) (by decide) ?_
  show z_ev (d + 76) 274 5 [some (.ref 19), some (.int p1), some (.int p2), some (.int p3)] [.int 1] M0 _
  refine z_xZ zt274 2 rfl rfl (fun (h10 : (1 : Int) = 0) => absurd h10 (by omega)) (fun (h10 : (1 : Int) ≠ 0) => ?_)
  refine z_xP zt274 3 11 [some (.ref 19), some (.int p1), some (.int p2), some (.int p3)] [.int p1, .ref 19, .ref 19] rfl rfl ?_
  refine z_xcV (vs := [.ref 19, .int p1]) (r := [.ref 19]) (L2 := [some (.ref 19), some (.int p1)]) zt274 4 rfl zo274 zzcV12_209 (Or.inl rfl) rfl X f19 rfl rfl rfl (Nat.le_of_ble_eq_true rfl) zzm209 (Nat.le_of_ble_eq_true rfl) rfl ?_
  refine z_xP zt209 0 1 [some (.ref 19), some (.int p1)] [.int p1] rfl rfl ?_
  refine z_xZ zt209 1 rfl rfl (fun (h11 : p1.toInt < 0) => absurd h11 (by omega)) (fun (h11 : 0 ≤ p1.toInt) => ?_)
  refine z_xP zt209 2 6 [some (.ref 19), some (.int p1)] [.ref 19, .int p1] rfl rfl ?_
  refine z_xgv zt209 3 rfl zo209 zzf12_110 X f19 (by decide) h3 ?_
  refine z_xJ zt209 4 rfl rfl (fun (h12 : x4.toInt ≤ p1.toInt) => ?_) (fun (h12 : p1.toInt < x4.toInt) => ?_)
  · skip
    refine z_xP zt209 6 17 [some (.ref 19), some (.int p1)] [.int 0] rfl rfl ?_
    refine z_xrz zt209 7 rfl zzr209 (by decide) (by decide) ?_
    show z_ev (d + 76) 274 14 [some (.ref 19), some (.int p1), some (.int p2), some (.int p3)] [.int 0, .ref 19] M0 _
    refine z_xZ zt274 5 rfl rfl (fun (h13 : (0 : Int) = 0) => ?_) (fun (h13 : (0 : Int) ≠ 0) => absurd h13 (by omega))
    refine z_xP zt274 7 22 [some (.ref 19), some (.int p1), some (.int p2), some (.int p3)] [.int 0, .ref 19] rfl rfl ?_
    refine z_xP zt274 8 23 [some (.ref 19), some (.int p1), some (.int p2), some (.int p3)] [.int p2, .int 0, .ref 19] rfl rfl ?_
    refine z_xcV (vs := [.ref 19, .int 0, .int p2]) (r := []) (L2 := [some (.ref 19), some (.int 0), some (.int p2)]) zt274 9 rfl zo274 zzcV12_225 (Or.inl rfl) rfl X f19 rfl rfl rfl (Nat.le_of_ble_eq_true rfl) zzm218 (Nat.le_of_ble_eq_true rfl) rfl ?_
    refine z_xP zt218 0 1 [some (.ref 19), some (.int 0), some (.int p2)] [.int p2] rfl rfl ?_
    refine z_xZ zt218 1 rfl rfl (fun (h14 : p2.toInt < 0) => ?_) (fun (h14 : 0 ≤ p2.toInt) => ?_)
    · skip
      refine z_xP zt218 8 19 [some (.ref 19), some (.int 0), some (.int p2)] [.int 0] rfl rfl ?_
      refine z_xrz zt218 9 rfl zzr218 (by decide) (by decide) ?_
      show z_ev (d + 76) 274 26 [some (.ref 19), some (.int p1), some (.int p2), some (.int p3)] [.int 0] M0 _
      refine z_xZ zt274 10 rfl rfl (fun (h15 : (0 : Int) = 0) => ?_) (fun (h15 : (0 : Int) ≠ 0) => absurd h15 (by omega))
      refine z_xP zt274 16 40 [some (.ref 19), some (.int p1), some (.int p2), some (.int p3)] [.int (-1)] rfl rfl ?_
      have qm1 : (((-1) : Int32)).toInt = (-1) := rfl
      exact z_xri zt274 17 rfl zzr274 (kk (-1) M0 X)
    refine z_xP zt218 2 6 [some (.ref 19), some (.int 0), some (.int p2)] [.ref 19, .int p2] rfl rfl ?_
    refine z_xgX (b := 24) zt218 3 rfl zo218 zzf12_22 X f19 (by decide) (by decide) rfl ?_
    refine z_xP zt218 4 10 [some (.ref 19), some (.int 0), some (.int p2)] [.int 0, .ref 24, .int p2] rfl rfl ?_
    have f24 : T[24]? = some (.inr (24, 0, 8, 0, 10)) := X.1.k rfl (by decide)
    refine z_xil zt218 5 rfl X f24 (by decide) (by decide) (by decide) (fun (x16 : Int32) h17 (h18 : 0 ≤ x16.toInt) (h19 : x16.toInt ≤ 10) => ?_)
    have h20 := z_b32 p2
    refine z_xJ zt218 6 rfl rfl (fun (h21 : x16.toInt ≤ p2.toInt) => ?_) (fun (h21 : p2.toInt < x16.toInt) => ?_)
    · skip
      refine z_xP zt218 8 19 [some (.ref 19), some (.int 0), some (.int p2)] [.int 0] rfl rfl ?_
      refine z_xrz zt218 9 rfl zzr218 (by decide) (by decide) ?_
      show z_ev (d + 76) 274 26 [some (.ref 19), some (.int p1), some (.int p2), some (.int p3)] [.int 0] M0 _
      refine z_xZ zt274 10 rfl rfl (fun (h22 : (0 : Int) = 0) => ?_) (fun (h22 : (0 : Int) ≠ 0) => absurd h22 (by omega))
      refine z_xP zt274 16 40 [some (.ref 19), some (.int p1), some (.int p2), some (.int p3)] [.int (-1)] rfl rfl ?_
      have qm1 : (((-1) : Int32)).toInt = (-1) := rfl
      exact z_xri zt274 17 rfl zzr274 (kk (-1) M0 X)
    refine z_xP zt218 7 19 [some (.ref 19), some (.int 0), some (.int p2)] [.int 1] rfl rfl ?_
    refine z_xrz zt218 9 rfl zzr218 (by decide) (by decide) ?_
    show z_ev (d + 76) 274 26 [some (.ref 19), some (.int p1), some (.int p2), some (.int p3)] [.int 1] M0 _
    refine z_xZ zt274 10 rfl rfl (fun (h23 : (1 : Int) = 0) => absurd h23 (by omega)) (fun (h23 : (1 : Int) ≠ 0) => ?_)
    refine z_xP zt274 11 30 [some (.ref 19), some (.int p1), some (.int p2), some (.int p3)] [.int p3] rfl rfl ?_
    have h24 := z_b32 p3
    refine z_xL zt274 12 rfl rfl (fun (y25 : Int64) (h26 : y25.toInt = p3.toInt) => ?_) (z_qI2L rfl)
    refine z_xP zt274 13 33 [some (.ref 19), some (.int p1), some (.int p2), some (.int p3)] [.long 1, .long 0, .long y25] rfl rfl ?_
    refine z_xcS (vs := [.long y25, .long 0, .long 1]) (r := []) (L2 := [some (.long y25), none, some (.long 0), none, some (.long 1), none]) zt274 14 rfl zo274 zzcS12_116 (Or.inl rfl) (Nat.le_of_ble_eq_true rfl) rfl rfl (Nat.le_of_ble_eq_true rfl) zzm189 (Nat.le_of_ble_eq_true rfl) rfl ?_
    refine z_xP zt189 0 2 [some (.long y25), none, some (.long 0), none, some (.long 1), none] [.long 0, .long y25] rfl rfl ?_
    refine z_xI zt189 1 rfl rfl (fun (x27 : Int32) (h28 : (x27.toInt < 0 ∧ y25.toInt < 0) ∨ (x27.toInt = 0 ∧ y25.toInt = 0) ∨ (0 < x27.toInt ∧ 0 < y25.toInt)) => ?_) (z_qCmp rfl rfl)
    refine z_xZ zt189 2 rfl rfl (fun (h29 : x27.toInt < 0) => ?_) (fun (h29 : 0 ≤ x27.toInt) => ?_)
    · skip
      refine z_xP zt189 7 18 [some (.long y25), none, some (.long 0), none, some (.long 1), none] [.int 0] rfl rfl ?_
      refine z_xrz zt189 8 rfl zzr189 (by decide) (by decide) ?_
      show z_ev (d + 76) 274 36 [some (.ref 19), some (.int p1), some (.int p2), some (.int p3)] [.int 0] M0 _
      refine z_xZ zt274 15 rfl rfl (fun (h30 : (0 : Int) ≠ 0) => absurd h30 (by omega)) (fun (h30 : (0 : Int) = 0) => ?_)
      refine z_xP zt274 16 40 [some (.ref 19), some (.int p1), some (.int p2), some (.int p3)] [.int (-1)] rfl rfl ?_
      have qm1 : (((-1) : Int32)).toInt = (-1) := rfl
      exact z_xri zt274 17 rfl zzr274 (kk (-1) M0 X)
    refine z_xP zt189 3 9 [some (.long y25), none, some (.long 0), none, some (.long 1), none] [.long 1, .long y25] rfl rfl ?_
    refine z_xI zt189 4 rfl rfl (fun (x31 : Int32) (h32 : (x31.toInt < 0 ∧ y25.toInt < 1) ∨ (x31.toInt = 0 ∧ y25.toInt = 1) ∨ (0 < x31.toInt ∧ 1 < y25.toInt)) => ?_) (z_qCmp rfl rfl)
    refine z_xZ zt189 5 rfl rfl (fun (h33 : 0 < x31.toInt) => ?_) (fun (h33 : x31.toInt ≤ 0) => ?_)
    · skip
      refine z_xP zt189 7 18 [some (.long y25), none, some (.long 0), none, some (.long 1), none] [.int 0] rfl rfl ?_
      refine z_xrz zt189 8 rfl zzr189 (by decide) (by decide) ?_
      show z_ev (d + 76) 274 36 [some (.ref 19), some (.int p1), some (.int p2), some (.int p3)] [.int 0] M0 _
      refine z_xZ zt274 15 rfl rfl (fun (h34 : (0 : Int) ≠ 0) => absurd h34 (by omega)) (fun (h34 : (0 : Int) = 0) => ?_)
      refine z_xP zt274 16 40 [some (.ref 19), some (.int p1), some (.int p2), some (.int p3)] [.int (-1)] rfl rfl ?_
      have qm1 : (((-1) : Int32)).toInt = (-1) := rfl
      exact z_xri zt274 17 rfl zzr274 (kk (-1) M0 X)
    refine z_xP zt189 6 18 [some (.long y25), none, some (.long 0), none, some (.long 1), none] [.int 1] rfl rfl ?_
    refine z_xrz zt189 8 rfl zzr189 (by decide) (by decide) ?_
    show z_ev (d + 76) 274 36 [some (.ref 19), some (.int p1), some (.int p2), some (.int p3)] [.int 1] M0 _
    refine z_xZ zt274 15 rfl rfl (fun (h35 : (1 : Int) ≠ 0) => ?_) (fun (h35 : (1 : Int) = 0) => absurd h35 (by omega))
    refine z_xP zt274 18 42 [some (.ref 19), some (.int p1), some (.int p2), some (.int p3)] [.ref 19] rfl rfl ?_
    refine z_xgX (b := 24) zt274 19 rfl zo274 zzf12_22 X f19 (by decide) (by decide) rfl ?_
    refine z_xP zt274 20 46 [some (.ref 19), some (.int p1), some (.int p2), some (.int p3)] [.int p1, .ref 24] rfl rfl ?_
    refine z_xil zt274 21 rfl X f24 (by decide) (by omega) (by omega) (fun (x36 : Int32) h37 (h38 : 0 ≤ x36.toInt) (h39 : x36.toInt ≤ 10) => ?_)
    refine z_xP zt274 22 49 [some (.ref 19), some (.int p1), some (.int p2), some (.int p3)] [.int 6, .int x36] rfl rfl ?_
    refine z_xJ zt274 23 rfl rfl (fun (h40 : x36.toInt ≤ 6) => ?_) (fun (h40 : 6 < x36.toInt) => ?_)
    · skip
      refine z_xP zt274 26 57 [some (.ref 19), some (.int p1), some (.int p2), some (.int p3)] [.int p1, .ref 19] rfl rfl ?_
      refine z_xcV (vs := [.ref 19, .int p1]) (r := []) (L2 := [some (.ref 19), some (.int p1), none]) zt274 27 rfl zo274 zzcV12_255 (Or.inl rfl) rfl X f19 rfl rfl rfl (Nat.le_of_ble_eq_true rfl) zzm229 (Nat.le_of_ble_eq_true rfl) rfl ?_
      obtain ⟨x41, h42, h43, h44⟩ := z_W.fi X.1 f19 (k := 29) (lo := 0) (hi := 7) (by decide) rfl
      refine zC229 X.1 (by omega) h42 ⟨by omega, by omega⟩ (fun M45 X46 z47 h48 h49 h50 => ?_)
      have X51 := X.go X46 (z_sb (by decide))
      show z_ev (d + 76) 274 60 [some (.ref 19), some (.int p1), some (.int p2), some (.int p3)] [] M45 _
      have h53 : z47 = p1 := z_sub (c := p1.toInt) (by omega) rfl
      have h54 := h48
      rw [h53] at h54
      refine z_xP zt274 28 62 [some (.ref 19), some (.int p1), some (.int p2), some (.int p3)] [.int 0, .ref 19] rfl rfl ?_
      have q0 : ((0 : Int32)).toInt = 0 := rfl
      refine z_xpf zt274 29 rfl zo274 zzf12_371 X51 f19 (by decide) (by decide) ⟨by omega, by omega⟩ rfl (by decide) zw12_44 (fun M55 X56 e57 h58 => ?_)
      refine z_xP zt274 30 68 [some (.ref 19), some (.int p1), some (.int p2), some (.int p3)] [.int (-2), .ref 19] rfl rfl ?_
      have qm2 : (((-2) : Int32)).toInt = (-2) := rfl
      refine z_xpf zt274 31 rfl zo274 zzf12_374 X56 f19 (by decide) (by decide) ⟨by omega, by omega⟩ rfl (by decide) zw12_45 (fun M59 X60 e61 h62 => ?_)
      refine z_xP zt274 32 74 [some (.ref 19), some (.int p1), some (.int p2), some (.int p3)] [.ref 19, .int 0, .ref 19] rfl rfl ?_
      refine z_xcV (vs := [.ref 19]) (r := [.int 0, .ref 19]) (L2 := [some (.ref 19)]) zt274 33 rfl zo274 zzcV12_248 (Or.inl rfl) rfl X60 f19 rfl rfl rfl (Nat.le_of_ble_eq_true rfl) zzm240 (Nat.le_of_ble_eq_true rfl) rfl ?_
      refine z_xP zt240 0 2 [some (.ref 19)] [.ref 19, .int 1] rfl rfl ?_
      refine z_xgX (b := 24) zt240 1 rfl zo240 zzf12_22 X60 f19 (by decide) (by decide) rfl ?_
      refine z_xP zt240 2 6 [some (.ref 19)] [.ref 19, .ref 24, .int 1] rfl rfl ?_
      have h63 := (e61.f f19 (by decide) (e57.f f19 (by decide) h54))
      refine z_xgv zt240 3 rfl zo240 zzf12_242 X60 f19 (by decide) h63 ?_
      refine z_xil zt240 4 rfl X60 f24 (by decide) (by omega) (by omega) (fun (x64 : Int32) h65 (h66 : 0 ≤ x64.toInt) (h67 : x64.toInt ≤ 10) => ?_)
      have h68 := congrArg Int32.toInt (h65.symm.trans ((congrFun (e61.a f24 (by decide)) _).trans ((congrFun (e57.a f24 (by decide)) _).trans ((congrFun (X46.2.a f24 (by decide)) _).trans h37))))
      refine z_xI zt240 5 rfl rfl (fun (x69 : Int32) (h70 : 1 ≤ x69.toInt ∧ x69.toInt ≤ 64) => ?_) (z_pShlB (a := 1) (b := 6) (c := 64) (r := 64) rfl rfl (by omega) (by omega) (by omega) (by omega) (by decide) (by decide) (by decide) (by decide))
      refine z_xP zt240 6 12 [some (.ref 19)] [.int 1, .int x69] rfl rfl ?_
      refine z_xI zt240 7 rfl rfl (fun (x71 : Int32) (h72 : x71.toInt = x69.toInt - 1) => ?_) (z_pSub rfl rfl (by omega) (by omega))
      refine z_xri zt240 8 rfl zzr240 ?_
      show z_ev (d + 76) 274 77 [some (.ref 19), some (.int p1), some (.int p2), some (.int p3)] [.int x71, .int 0, .ref 19] M59 _
      refine z_xP zt274 34 79 [some (.ref 19), some (.int p1), some (.int p2), some (.int p3)] [.int p2, .int 0, .int x71, .int 0, .ref 19] rfl rfl ?_
      refine z_xcV (vs := [.ref 19, .int 0, .int x71, .int 0, .int p2]) (r := []) (L2 := [some (.ref 19), some (.int 0), some (.int x71), some (.int 0), some (.int p2), none]) zt274 35 rfl zo274 zzcV12_377 (Or.inl rfl) rfl X60 f19 rfl rfl rfl (Nat.le_of_ble_eq_true rfl) zzm275 (Nat.le_of_ble_eq_true rfl) rfl ?_
      have q0 : ((0 : Int32)).toInt = 0 := rfl
      have h73 := ((congrFun (e61.a f24 (by decide)) _).trans ((congrFun (e57.a f24 (by decide)) _).trans ((congrFun (X46.2.a f24 (by decide)) _).trans h37)))
      have q0 : ((0 : Int32)).toInt = 0 := rfl
      refine zC275 X60.1 (by decide) (by omega) (by omega) h63 ⟨by omega, by omega⟩ h73 ⟨by omega, by omega⟩ (by have h6 := z_pcn6 (x := x71) (by omega) (by omega); constructor <;> omega) (fun M74 X75 z76 h77 h78 h79 => ?_)
      have X80 := X60.go X75 (z_sb (by decide))
      show z_ev (d + 76) 274 82 [some (.ref 19), some (.int p1), some (.int p2), some (.int p3)] [] M74 _
      refine z_xP zt274 36 83 [some (.ref 19), some (.int p1), some (.int p2), some (.int p3)] [.int p3] rfl rfl ?_
      refine z_xZ zt274 37 rfl rfl (fun (h82 : p3.toInt ≠ 0) => ?_) (fun (h82 : p3.toInt = 0) => ?_)
      · skip
        refine z_xP zt274 41 94 [some (.ref 19), some (.int p1), some (.int p2), some (.int p3)] [.ref 19] rfl rfl ?_
        refine z_xgI zt274 42 rfl zo274 zzf12_374 X80 f19 (by decide) (by decide) rfl (fun (x84 : Int32) h83 (h85 : (-2147483648) ≤ x84.toInt) (h86 : x84.toInt ≤ 2147483647) => ?_)
        exact z_xri zt274 43 rfl zzr274 (kk x84 M74 X80)
      refine z_xP zt274 38 87 [some (.ref 19), some (.int p1), some (.int p2), some (.int p3)] [.ref 19] rfl rfl ?_
      refine z_xgI zt274 39 rfl zo274 zzf12_371 X80 f19 (by decide) (by decide) rfl (fun (x88 : Int32) h87 (h89 : (-2147483648) ≤ x88.toInt) (h90 : x88.toInt ≤ 2147483647) => ?_)
      refine z_xP zt274 40 97 [some (.ref 19), some (.int p1), some (.int p2), some (.int p3)] [.int x88] rfl rfl ?_
      exact z_xri zt274 43 rfl zzr274 (kk x88 M74 X80)
    refine z_xP zt274 24 54 [some (.ref 19), some (.int p1), some (.int p2), some (.int p3)] [.int (-4)] rfl rfl ?_
    have qm4 : (((-4) : Int32)).toInt = (-4) := rfl
    exact z_xri zt274 25 rfl zzr274 (kk (-4) M0 X)
  refine z_xP zt209 5 17 [some (.ref 19), some (.int p1)] [.int 1] rfl rfl ?_
  refine z_xrz zt209 7 rfl zzr209 (by decide) (by decide) ?_
  show z_ev (d + 76) 274 14 [some (.ref 19), some (.int p1), some (.int p2), some (.int p3)] [.int 1, .ref 19] M0 _
  refine z_xZ zt274 5 rfl rfl (fun (h91 : (1 : Int) = 0) => absurd h91 (by omega)) (fun (h91 : (1 : Int) ≠ 0) => ?_)
  refine z_xP zt274 6 22 [some (.ref 19), some (.int p1), some (.int p2), some (.int p3)] [.int p1, .ref 19] rfl rfl ?_
  refine z_xP zt274 8 23 [some (.ref 19), some (.int p1), some (.int p2), some (.int p3)] [.int p2, .int p1, .ref 19] rfl rfl ?_
  refine z_xcV (vs := [.ref 19, .int p1, .int p2]) (r := []) (L2 := [some (.ref 19), some (.int p1), some (.int p2)]) zt274 9 rfl zo274 zzcV12_225 (Or.inl rfl) rfl X f19 rfl rfl rfl (Nat.le_of_ble_eq_true rfl) zzm218 (Nat.le_of_ble_eq_true rfl) rfl ?_
  refine z_xP zt218 0 1 [some (.ref 19), some (.int p1), some (.int p2)] [.int p2] rfl rfl ?_
  refine z_xZ zt218 1 rfl rfl (fun (h92 : p2.toInt < 0) => ?_) (fun (h92 : 0 ≤ p2.toInt) => ?_)
  · skip
    refine z_xP zt218 8 19 [some (.ref 19), some (.int p1), some (.int p2)] [.int 0] rfl rfl ?_
    refine z_xrz zt218 9 rfl zzr218 (by decide) (by decide) ?_
    show z_ev (d + 76) 274 26 [some (.ref 19), some (.int p1), some (.int p2), some (.int p3)] [.int 0] M0 _
    refine z_xZ zt274 10 rfl rfl (fun (h93 : (0 : Int) = 0) => ?_) (fun (h93 : (0 : Int) ≠ 0) => absurd h93 (by omega))
    refine z_xP zt274 16 40 [some (.ref 19), some (.int p1), some (.int p2), some (.int p3)] [.int (-1)] rfl rfl ?_
    have qm1 : (((-1) : Int32)).toInt = (-1) := rfl
    exact z_xri zt274 17 rfl zzr274 (kk (-1) M0 X)
  refine z_xP zt218 2 6 [some (.ref 19), some (.int p1), some (.int p2)] [.ref 19, .int p2] rfl rfl ?_
  refine z_xgX (b := 24) zt218 3 rfl zo218 zzf12_22 X f19 (by decide) (by decide) rfl ?_
  refine z_xP zt218 4 10 [some (.ref 19), some (.int p1), some (.int p2)] [.int p1, .ref 24, .int p2] rfl rfl ?_
  have f24 : T[24]? = some (.inr (24, 0, 8, 0, 10)) := X.1.k rfl (by decide)
  refine z_xil zt218 5 rfl X f24 (by decide) (by omega) (by omega) (fun (x94 : Int32) h95 (h96 : 0 ≤ x94.toInt) (h97 : x94.toInt ≤ 10) => ?_)
  have h98 := z_b32 p2
  refine z_xJ zt218 6 rfl rfl (fun (h99 : x94.toInt ≤ p2.toInt) => ?_) (fun (h99 : p2.toInt < x94.toInt) => ?_)
  · skip
    refine z_xP zt218 8 19 [some (.ref 19), some (.int p1), some (.int p2)] [.int 0] rfl rfl ?_
    refine z_xrz zt218 9 rfl zzr218 (by decide) (by decide) ?_
    show z_ev (d + 76) 274 26 [some (.ref 19), some (.int p1), some (.int p2), some (.int p3)] [.int 0] M0 _
    refine z_xZ zt274 10 rfl rfl (fun (h100 : (0 : Int) = 0) => ?_) (fun (h100 : (0 : Int) ≠ 0) => absurd h100 (by omega))
    refine z_xP zt274 16 40 [some (.ref 19), some (.int p1), some (.int p2), some (.int p3)] [.int (-1)] rfl rfl ?_
    have qm1 : (((-1) : Int32)).toInt = (-1) := rfl
    exact z_xri zt274 17 rfl zzr274 (kk (-1) M0 X)
  refine z_xP zt218 7 19 [some (.ref 19), some (.int p1), some (.int p2)] [.int 1] rfl rfl ?_
  refine z_xrz zt218 9 rfl zzr218 (by decide) (by decide) ?_
  show z_ev (d + 76) 274 26 [some (.ref 19), some (.int p1), some (.int p2), some (.int p3)] [.int 1] M0 _
  refine z_xZ zt274 10 rfl rfl (fun (h101 : (1 : Int) = 0) => absurd h101 (by omega)) (fun (h101 : (1 : Int) ≠ 0) => ?_)
  refine z_xP zt274 11 30 [some (.ref 19), some (.int p1), some (.int p2), some (.int p3)] [.int p3] rfl rfl ?_
  have h102 := z_b32 p3
  refine z_xL zt274 12 rfl rfl (fun (y103 : Int64) (h104 : y103.toInt = p3.toInt) => ?_) (z_qI2L rfl)
  refine z_xP zt274 13 33 [some (.ref 19), some (.int p1), some (.int p2), some (.int p3)] [.long 1, .long 0, .long y103] rfl rfl ?_
  refine z_xcS (vs := [.long y103, .long 0, .long 1]) (r := []) (L2 := [some (.long y103), none, some (.long 0), none, some (.long 1), none]) zt274 14 rfl zo274 zzcS12_116 (Or.inl rfl) (Nat.le_of_ble_eq_true rfl) rfl rfl (Nat.le_of_ble_eq_true rfl) zzm189 (Nat.le_of_ble_eq_true rfl) rfl ?_
  refine z_xP zt189 0 2 [some (.long y103), none, some (.long 0), none, some (.long 1), none] [.long 0, .long y103] rfl rfl ?_
  refine z_xI zt189 1 rfl rfl (fun (x105 : Int32) (h106 : (x105.toInt < 0 ∧ y103.toInt < 0) ∨ (x105.toInt = 0 ∧ y103.toInt = 0) ∨ (0 < x105.toInt ∧ 0 < y103.toInt)) => ?_) (z_qCmp rfl rfl)
  refine z_xZ zt189 2 rfl rfl (fun (h107 : x105.toInt < 0) => ?_) (fun (h107 : 0 ≤ x105.toInt) => ?_)
  · skip
    refine z_xP zt189 7 18 [some (.long y103), none, some (.long 0), none, some (.long 1), none] [.int 0] rfl rfl ?_
    refine z_xrz zt189 8 rfl zzr189 (by decide) (by decide) ?_
    show z_ev (d + 76) 274 36 [some (.ref 19), some (.int p1), some (.int p2), some (.int p3)] [.int 0] M0 _
    refine z_xZ zt274 15 rfl rfl (fun (h108 : (0 : Int) ≠ 0) => absurd h108 (by omega)) (fun (h108 : (0 : Int) = 0) => ?_)
    refine z_xP zt274 16 40 [some (.ref 19), some (.int p1), some (.int p2), some (.int p3)] [.int (-1)] rfl rfl ?_
    have qm1 : (((-1) : Int32)).toInt = (-1) := rfl
    exact z_xri zt274 17 rfl zzr274 (kk (-1) M0 X)
  refine z_xP zt189 3 9 [some (.long y103), none, some (.long 0), none, some (.long 1), none] [.long 1, .long y103] rfl rfl ?_
  refine z_xI zt189 4 rfl rfl (fun (x109 : Int32) (h110 : (x109.toInt < 0 ∧ y103.toInt < 1) ∨ (x109.toInt = 0 ∧ y103.toInt = 1) ∨ (0 < x109.toInt ∧ 1 < y103.toInt)) => ?_) (z_qCmp rfl rfl)
  refine z_xZ zt189 5 rfl rfl (fun (h111 : 0 < x109.toInt) => ?_) (fun (h111 : x109.toInt ≤ 0) => ?_)
  · skip
    refine z_xP zt189 7 18 [some (.long y103), none, some (.long 0), none, some (.long 1), none] [.int 0] rfl rfl ?_
    refine z_xrz zt189 8 rfl zzr189 (by decide) (by decide) ?_
    show z_ev (d + 76) 274 36 [some (.ref 19), some (.int p1), some (.int p2), some (.int p3)] [.int 0] M0 _
    refine z_xZ zt274 15 rfl rfl (fun (h112 : (0 : Int) ≠ 0) => absurd h112 (by omega)) (fun (h112 : (0 : Int) = 0) => ?_)
    refine z_xP zt274 16 40 [some (.ref 19), some (.int p1), some (.int p2), some (.int p3)] [.int (-1)] rfl rfl ?_
    have qm1 : (((-1) : Int32)).toInt = (-1) := rfl
    exact z_xri zt274 17 rfl zzr274 (kk (-1) M0 X)
  refine z_xP zt189 6 18 [some (.long y103), none, some (.long 0), none, some (.long 1), none] [.int 1] rfl rfl ?_
  refine z_xrz zt189 8 rfl zzr189 (by decide) (by decide) ?_
  show z_ev (d + 76) 274 36 [some (.ref 19), some (.int p1), some (.int p2), some (.int p3)] [.int 1] M0 _
  refine z_xZ zt274 15 rfl rfl (fun (h113 : (1 : Int) ≠ 0) => ?_) (fun (h113 : (1 : Int) = 0) => absurd h113 (by omega))
  refine z_xP zt274 18 42 [some (.ref 19), some (.int p1), some (.int p2), some (.int p3)] [.ref 19] rfl rfl ?_
  refine z_xgX (b := 24) zt274 19 rfl zo274 zzf12_22 X f19 (by decide) (by decide) rfl ?_
  refine z_xP zt274 20 46 [some (.ref 19), some (.int p1), some (.int p2), some (.int p3)] [.int p1, .ref 24] rfl rfl ?_
  refine z_xil zt274 21 rfl X f24 (by decide) (by omega) (by omega) (fun (x114 : Int32) h115 (h116 : 0 ≤ x114.toInt) (h117 : x114.toInt ≤ 10) => ?_)
  have h118 := congrArg Int32.toInt (h115.symm.trans h95)
  refine z_xP zt274 22 49 [some (.ref 19), some (.int p1), some (.int p2), some (.int p3)] [.int 6, .int x114] rfl rfl ?_
  refine z_xJ zt274 23 rfl rfl (fun (h119 : x114.toInt ≤ 6) => ?_) (fun (h119 : 6 < x114.toInt) => ?_)
  · skip
    refine z_xP zt274 26 57 [some (.ref 19), some (.int p1), some (.int p2), some (.int p3)] [.int p1, .ref 19] rfl rfl ?_
    refine z_xcV (vs := [.ref 19, .int p1]) (r := []) (L2 := [some (.ref 19), some (.int p1), none]) zt274 27 rfl zo274 zzcV12_255 (Or.inl rfl) rfl X f19 rfl rfl rfl (Nat.le_of_ble_eq_true rfl) zzm229 (Nat.le_of_ble_eq_true rfl) rfl ?_
    obtain ⟨x120, h121, h122, h123⟩ := z_W.fi X.1 f19 (k := 29) (lo := 0) (hi := 7) (by decide) rfl
    refine zC229 X.1 (by omega) h121 ⟨by omega, by omega⟩ (fun M124 X125 z126 h127 h128 h129 => ?_)
    have X130 := X.go X125 (z_sb (by decide))
    show z_ev (d + 76) 274 60 [some (.ref 19), some (.int p1), some (.int p2), some (.int p3)] [] M124 _
    have h132 : z126 = p1 := z_sub (c := p1.toInt) (by omega) rfl
    have h133 := h127
    rw [h132] at h133
    refine z_xP zt274 28 62 [some (.ref 19), some (.int p1), some (.int p2), some (.int p3)] [.int 0, .ref 19] rfl rfl ?_
    have q0 : ((0 : Int32)).toInt = 0 := rfl
    refine z_xpf zt274 29 rfl zo274 zzf12_371 X130 f19 (by decide) (by decide) ⟨by omega, by omega⟩ rfl (by decide) zw12_44 (fun M134 X135 e136 h137 => ?_)
    refine z_xP zt274 30 68 [some (.ref 19), some (.int p1), some (.int p2), some (.int p3)] [.int (-2), .ref 19] rfl rfl ?_
    have qm2 : (((-2) : Int32)).toInt = (-2) := rfl
    refine z_xpf zt274 31 rfl zo274 zzf12_374 X135 f19 (by decide) (by decide) ⟨by omega, by omega⟩ rfl (by decide) zw12_45 (fun M138 X139 e140 h141 => ?_)
    refine z_xP zt274 32 74 [some (.ref 19), some (.int p1), some (.int p2), some (.int p3)] [.ref 19, .int 0, .ref 19] rfl rfl ?_
    refine z_xcV (vs := [.ref 19]) (r := [.int 0, .ref 19]) (L2 := [some (.ref 19)]) zt274 33 rfl zo274 zzcV12_248 (Or.inl rfl) rfl X139 f19 rfl rfl rfl (Nat.le_of_ble_eq_true rfl) zzm240 (Nat.le_of_ble_eq_true rfl) rfl ?_
    refine z_xP zt240 0 2 [some (.ref 19)] [.ref 19, .int 1] rfl rfl ?_
    refine z_xgX (b := 24) zt240 1 rfl zo240 zzf12_22 X139 f19 (by decide) (by decide) rfl ?_
    refine z_xP zt240 2 6 [some (.ref 19)] [.ref 19, .ref 24, .int 1] rfl rfl ?_
    have h142 := (e140.f f19 (by decide) (e136.f f19 (by decide) h133))
    refine z_xgv zt240 3 rfl zo240 zzf12_242 X139 f19 (by decide) h142 ?_
    refine z_xil zt240 4 rfl X139 f24 (by decide) (by omega) (by omega) (fun (x143 : Int32) h144 (h145 : 0 ≤ x143.toInt) (h146 : x143.toInt ≤ 10) => ?_)
    have h147 := congrArg Int32.toInt (h144.symm.trans ((congrFun (e140.a f24 (by decide)) _).trans ((congrFun (e136.a f24 (by decide)) _).trans ((congrFun (X125.2.a f24 (by decide)) _).trans h95))))
    refine z_xI zt240 5 rfl rfl (fun (x148 : Int32) (h149 : 1 ≤ x148.toInt ∧ x148.toInt ≤ 64) => ?_) (z_pShlB (a := 1) (b := 6) (c := 64) (r := 64) rfl rfl (by omega) (by omega) (by omega) (by omega) (by decide) (by decide) (by decide) (by decide))
    refine z_xP zt240 6 12 [some (.ref 19)] [.int 1, .int x148] rfl rfl ?_
    refine z_xI zt240 7 rfl rfl (fun (x150 : Int32) (h151 : x150.toInt = x148.toInt - 1) => ?_) (z_pSub rfl rfl (by omega) (by omega))
    refine z_xri zt240 8 rfl zzr240 ?_
    show z_ev (d + 76) 274 77 [some (.ref 19), some (.int p1), some (.int p2), some (.int p3)] [.int x150, .int 0, .ref 19] M138 _
    refine z_xP zt274 34 79 [some (.ref 19), some (.int p1), some (.int p2), some (.int p3)] [.int p2, .int 0, .int x150, .int 0, .ref 19] rfl rfl ?_
    refine z_xcV (vs := [.ref 19, .int 0, .int x150, .int 0, .int p2]) (r := []) (L2 := [some (.ref 19), some (.int 0), some (.int x150), some (.int 0), some (.int p2), none]) zt274 35 rfl zo274 zzcV12_377 (Or.inl rfl) rfl X139 f19 rfl rfl rfl (Nat.le_of_ble_eq_true rfl) zzm275 (Nat.le_of_ble_eq_true rfl) rfl ?_
    have q0 : ((0 : Int32)).toInt = 0 := rfl
    have h152 := ((congrFun (e140.a f24 (by decide)) _).trans ((congrFun (e136.a f24 (by decide)) _).trans ((congrFun (X125.2.a f24 (by decide)) _).trans h95)))
    have q0 : ((0 : Int32)).toInt = 0 := rfl
    refine zC275 X139.1 (by decide) (by omega) (by omega) h142 ⟨by omega, by omega⟩ h152 ⟨by omega, by omega⟩ (by have h6 := z_pcn6 (x := x150) (by omega) (by omega); constructor <;> omega) (fun M153 X154 z155 h156 h157 h158 => ?_)
    have X159 := X139.go X154 (z_sb (by decide))
    show z_ev (d + 76) 274 82 [some (.ref 19), some (.int p1), some (.int p2), some (.int p3)] [] M153 _
    refine z_xP zt274 36 83 [some (.ref 19), some (.int p1), some (.int p2), some (.int p3)] [.int p3] rfl rfl ?_
    refine z_xZ zt274 37 rfl rfl (fun (h161 : p3.toInt ≠ 0) => ?_) (fun (h161 : p3.toInt = 0) => ?_)
    · skip
      refine z_xP zt274 41 94 [some (.ref 19), some (.int p1), some (.int p2), some (.int p3)] [.ref 19] rfl rfl ?_
      refine z_xgI zt274 42 rfl zo274 zzf12_374 X159 f19 (by decide) (by decide) rfl (fun (x163 : Int32) h162 (h164 : (-2147483648) ≤ x163.toInt) (h165 : x163.toInt ≤ 2147483647) => ?_)
      exact z_xri zt274 43 rfl zzr274 (kk x163 M153 X159)
    refine z_xP zt274 38 87 [some (.ref 19), some (.int p1), some (.int p2), some (.int p3)] [.ref 19] rfl rfl ?_
    refine z_xgI zt274 39 rfl zo274 zzf12_371 X159 f19 (by decide) (by decide) rfl (fun (x167 : Int32) h166 (h168 : (-2147483648) ≤ x167.toInt) (h169 : x167.toInt ≤ 2147483647) => ?_)
    refine z_xP zt274 40 97 [some (.ref 19), some (.int p1), some (.int p2), some (.int p3)] [.int x167] rfl rfl ?_
    exact z_xri zt274 43 rfl zzr274 (kk x167 M153 X159)
  refine z_xP zt274 24 54 [some (.ref 19), some (.int p1), some (.int p2), some (.int p3)] [.int (-4)] rfl rfl ?_
  have qm4 : (((-4) : Int32)).toInt = (-4) := rfl
  exact z_xri zt274 25 rfl zzr274 (kk (-4) M0 X)
def zw278 : List Nat := [48, 2247]
def zw276 : List Nat := [48, 2247, 2248]
def zw283 : List Nat := []
def zw284 : List Nat := [49, 50]
def zw285 : List Nat := [49, 50, 51]
def zw286 : List Nat := [51]
def zw289 : List Nat := []
def zw290 : List Nat := [51, 52]
def zw291 : List Nat := []
def zw292 : List Nat := []
theorem zB292 {T : List zK} {d : Nat} {K : Option Value → zH → Prop} {p1 : Int32} {M0 : zH}  (kk : ∀ (x : Int32) (M1 : zH), z_X T zw292 M0 M1 → K (some (.int x)) M1) : ∀ n : Nat, (∀ (M : zH) (b2 : Int32) (b3 : Int32), z_X T zw292 M0 M → 0 ≤ b3.toInt ∧ b3.toInt ≤ 8 → ((0) * 2 + 0) * 9 + (8 - b3.toInt) < (n : Int) → z_ev d 292 4 [some (.ref 19), some (.int p1), some (.int b2), some (.int b3)] [] M K) := by
  intro n
  induction n with
  | zero => exact by intros; exfalso; omega
  | succ n ih =>
    intro M b2 b3 X hh0 hE
    refine z_xP zt292 1 6 [some (.ref 19), some (.int p1), some (.int b2), some (.int b3)] [.ref 19, .int b3] rfl rfl ?_
    have f19 : T[19]? = some (.inl (12, 0, 0, 0, 0)) := X.1.k rfl (by decide)
    refine z_xgI zt292 2 rfl zo292 zzf12_110 X f19 (by decide) (by decide) rfl (fun (x2 : Int32) h1 (h3 : 0 ≤ x2.toInt) (h4 : x2.toInt ≤ 8) => ?_)
    refine z_xJ zt292 3 rfl rfl (fun (h5 : x2.toInt ≤ b3.toInt) => ?_) (fun (h5 : b3.toInt < x2.toInt) => ?_)
    · skip
      refine z_xP zt292 12 28 [some (.ref 19), some (.int p1), some (.int b2), some (.int b3)] [.int p1] rfl rfl ?_
      by_cases h6 : p1.toInt = 0
      · refine z_xSC zt292 13 (z_sub (k := 0) h6 rfl) 64 rfl rfl ?_
        refine z_xP zt292 14 65 [some (.ref 19), some (.int p1), some (.int b2), some (.int b3)] [.ref 19] rfl rfl ?_
        refine z_xgv zt292 15 rfl zo292 zzf12_110 X f19 (by decide) h1 ?_
        exact z_xri zt292 16 rfl zzr292 (kk x2 M X)
      by_cases h7 : p1.toInt = 1
      · refine z_xSC zt292 13 (z_sub (k := 1) h7 rfl) 69 rfl rfl ?_
        refine z_xP zt292 17 70 [some (.ref 19), some (.int p1), some (.int b2), some (.int b3)] [.ref 19] rfl rfl ?_
        refine z_xgI zt292 18 rfl zo292 zzf12_269 X f19 (by decide) (by decide) rfl (fun (x9 : Int32) h8 (h10 : 0 ≤ x9.toInt) (h11 : x9.toInt ≤ 20) => ?_)
        exact z_xri zt292 19 rfl zzr292 (kk x9 M X)
      by_cases h12 : p1.toInt = 2
      · refine z_xSC zt292 13 (z_sub (k := 2) h12 rfl) 74 rfl rfl ?_
        refine z_xP zt292 20 75 [some (.ref 19), some (.int p1), some (.int b2), some (.int b3)] [.ref 19] rfl rfl ?_
        refine z_xgI zt292 21 rfl zo292 zzf12_120 X f19 (by decide) (by decide) rfl (fun (x14 : Int32) h13 (h15 : 0 ≤ x14.toInt) (h16 : x14.toInt ≤ 160) => ?_)
        exact z_xri zt292 22 rfl zzr292 (kk x14 M X)
      by_cases h17 : p1.toInt = 3
      · refine z_xSC zt292 13 (z_sub (k := 3) h17 rfl) 79 rfl rfl ?_
        refine z_xP zt292 23 80 [some (.ref 19), some (.int p1), some (.int b2), some (.int b3)] [.int b2] rfl rfl ?_
        exact z_xri zt292 24 rfl zzr292 (kk b2 M X)
      by_cases h18 : p1.toInt = 4
      · refine z_xSC zt292 13 (z_sub (k := 4) h18 rfl) 81 rfl rfl ?_
        refine z_xP zt292 25 82 [some (.ref 19), some (.int p1), some (.int b2), some (.int b3)] [.ref 19] rfl rfl ?_
        refine z_xgI zt292 26 rfl zo292 zzf12_381 X f19 (by decide) (by decide) rfl (fun (x20 : Int32) h19 (h21 : (-2147483648) ≤ x20.toInt) (h22 : x20.toInt ≤ 2147483647) => ?_)
        exact z_xri zt292 27 rfl zzr292 (kk x20 M X)
      refine z_xSD zt292 13 rfl rfl (by omega) ?_
      refine z_xP zt292 28 87 [some (.ref 19), some (.int p1), some (.int b2), some (.int b3)] [.int (-1)] rfl rfl ?_
      have qm1 : (((-1) : Int32)).toInt = (-1) := rfl
      exact z_xri zt292 29 rfl zzr292 (kk (-1) M X)
    refine z_xP zt292 4 14 [some (.ref 19), some (.int p1), some (.int b2), some (.int b3)] [.ref 19, .int b2] rfl rfl ?_
    refine z_xgX (b := 35) zt292 5 rfl zo292 zzf12_55 X f19 (by decide) (by decide) rfl ?_
    refine z_xP zt292 6 18 [some (.ref 19), some (.int p1), some (.int b2), some (.int b3)] [.int b3, .ref 35, .int b2] rfl rfl ?_
    have f35 : T[35]? = some (.inr (35, 0, 8, 0, 9)) := X.1.k rfl (by decide)
    refine z_xil zt292 7 rfl X f35 (by decide) (by omega) (by omega) (fun (x23 : Int32) h24 (h25 : 0 ≤ x23.toInt) (h26 : x23.toInt ≤ 9) => ?_)
    have h27 := z_b32 b2
    refine z_xI zt292 8 rfl rfl (P := fun _ => True) (fun (x28 : Int32) _ => ?_) trivial
    refine z_xP zt292 9 21 [some (.ref 19), some (.int p1), some (.int x28), some (.int b3)] [] rfl rfl ?_
    refine z_xN zt292 10 rfl rfl (fun (x30 : Int32) (h31 : x30.toInt = b3.toInt + 1) => ?_) (z_pAdd rfl rfl (by omega) (by omega))
    show z_ev d 292 24 [some (.ref 19), some (.int p1), some (.int x28), some (.int x30)] [] M _
    refine z_xP zt292 11 4 [some (.ref 19), some (.int p1), some (.int x28), some (.int x30)] [] rfl rfl ?_
    exact ih M x28 x30 X ⟨by omega, by omega⟩ (by omega)
theorem zC292 {T : List zK} {d : Nat} {K : Option Value → zH → Prop} {p1 : Int32} {M0 : zH} (hW : z_W M0 T)  (kk : ∀ (x : Int32) (M1 : zH), z_X T zw292 M0 M1 → K (some (.int x)) M1) : z_ev d 292 0 [some (.ref 19), some (.int p1), none, none] [] M0 K := by
  have X : z_X T zw292 M0 M0 := .refl hW
  refine z_xP zt292 0 4 [some (.ref 19), some (.int p1), some (.int 0), some (.int 0)] [] rfl rfl ?_
  have q0 : ((0 : Int32)).toInt = 0 := rfl
  exact (zB292 kk 18) M0 (0) (0) X (by decide) (by omega)
