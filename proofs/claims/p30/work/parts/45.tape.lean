/-! a question is named where a tape has no fault -/
theorem zQB9 {T : List zK} {d : Nat} {K : Option Value → zH → Prop} {zp0 : Int32} {zp1 : Int32} {M0 : zH} (hz0 : z_F M0 5 4 = some (.int zp0)) (bz0 : 0 ≤ zp0.toInt ∧ zp0.toInt ≤ 0) (hz1 : z_F M0 5 3 = some (.int zp1)) (kk : ∀ (M1 : zH), z_X T zw9 M0 M1 → ∀ (w0 : Int32), z_F M1 5 4 = some (.int w0) → 0 ≤ w0.toInt ∧ w0.toInt ≤ 10 → ∀ (w1 : Int32), z_F M1 5 3 = some (.int w1) → (0 ≤ w1.toInt ∨ 1 ≤ w0.toInt) → K none M1) : ∀ n : Nat, (∀ (M : zH) (b1 : Int32) (o2 : Option Value) (z0 : Int32), z_X T zw9 M0 M → 0 ≤ b1.toInt ∧ b1.toInt ≤ 10 → z_F M 5 4 = some (.int z0) → 0 ≤ z0.toInt ∧ z0.toInt ≤ 10 → z0.toInt = b1.toInt → ((0) * 2 + 0) * 11 + (10 - b1.toInt) < (n : Int) → z_ev (d + 1) 9 2 [some (.ref 5), some (.int b1), o2] [] M K) := by
  intro n
  induction n with
  | zero => exact by intros; exfalso; omega
  | succ n ih =>
    intro M b1 o2 z0 X hh0 hp0 hh2 hh3 hE
    refine z_xP zt9 1 5 [some (.ref 5), some (.int b1), o2] [.int 10, .int b1] rfl rfl ?_
    refine z_xJ zt9 2 rfl rfl (fun (h1 : 10 ≤ b1.toInt) => ?_) (fun (h1 : b1.toInt < 10) => ?_)
    · skip
      refine z_xP zt9 45 98 [some (.ref 5), some (.int b1), o2] [.ref 5] rfl rfl ?_
      have f5 : T[5]? = some (.inl (1, 0, 0, 0, 0)) := X.1.k rfl (by decide)
      refine z_xgv zt9 46 rfl zo9 zzf1_47 X f5 (by decide) hp0 ?_
      refine z_xZ zt9 47 rfl rfl (fun (h2 : z0.toInt ≠ 0) => ?_) (fun (h2 : z0.toInt = 0) => ?_)
      · skip
        obtain ⟨x3, h4, h5, h6⟩ := z_W.fi X.1 f5 (k := 3) (lo := (-2147483648)) (hi := 2147483647) (by decide) rfl
        exact z_xrv zt9 50 rfl zzr9 (kk M X z0 hp0 ⟨by omega, by omega⟩ x3 h4 (by omega))
      refine z_xP zt9 48 105 [some (.ref 5), some (.int b1), o2] [.ref 5] rfl rfl ?_
      refine z_xcV (vs := [.ref 5]) (r := []) (L2 := [some (.ref 5)]) zt9 49 rfl zo9 zzcV1_66 (Or.inl rfl) rfl X f5 rfl rfl rfl (Nat.le_of_ble_eq_true rfl) zzm10 (Nat.le_of_ble_eq_true rfl) rfl ?_
      refine z_xP zt10 0 1 [some (.ref 5)] [.ref 5] rfl rfl ?_
      refine z_xgI zt10 1 rfl zo10 zzf1_32 X f5 (by decide) (by decide) rfl (fun (x8 : Int32) h7 (h9 : (-2147483648) ≤ x8.toInt) (h10 : x8.toInt ≤ 2147483647) => ?_)
      refine z_xZ zt10 2 rfl rfl (fun (h11 : 0 ≤ x8.toInt) => ?_) (fun (h11 : x8.toInt < 0) => ?_)
      · skip
        refine z_xrv zt10 6 rfl zzr10 ?_
        show z_ev (d + 1) 9 108 [some (.ref 5), some (.int b1), o2] [] M _
        exact z_xrv zt9 50 rfl zzr9 (kk M X z0 hp0 ⟨by omega, by omega⟩ x8 h7 (by omega))
      refine z_xP zt10 3 9 [some (.ref 5)] [.ref 5, .ref 5] rfl rfl ?_
      refine z_xgI zt10 4 rfl zo10 zzf1_29 X f5 (by decide) (by decide) rfl (fun (x13 : Int32) h12 (h14 : 0 ≤ x13.toInt) (h15 : x13.toInt ≤ 160) => ?_)
      refine z_xpf zt10 5 rfl zo10 zzf1_32 X f5 (by decide) (by decide) ⟨Int32.le_toInt _, Int32.toInt_le _⟩ rfl (by decide) zw1_3 (fun M16 X17 e18 h19 => ?_)
      refine z_xrv zt10 6 rfl zzr10 ?_
      show z_ev (d + 1) 9 108 [some (.ref 5), some (.int b1), o2] [] M16 _
      have h20 := (e18.f f5 (by decide) hp0)
      exact z_xrv zt9 50 rfl zzr9 (kk M16 X17 z0 h20 ⟨by omega, by omega⟩ x13 h19 (by omega))
    refine z_xP zt9 3 9 [some (.ref 5), some (.int b1), o2] [.ref 5] rfl rfl ?_
    have f5 : T[5]? = some (.inl (1, 0, 0, 0, 0)) := X.1.k rfl (by decide)
    refine z_xgI zt9 4 rfl zo9 zzf1_32 X f5 (by decide) (by decide) rfl (fun (x22 : Int32) h21 (h23 : (-2147483648) ≤ x22.toInt) (h24 : x22.toInt ≤ 2147483647) => ?_)
    refine z_xZ zt9 5 rfl rfl (fun (h25 : 0 ≤ x22.toInt) => ?_) (fun (h25 : x22.toInt < 0) => ?_)
    · skip
      refine z_xP zt9 45 98 [some (.ref 5), some (.int b1), o2] [.ref 5] rfl rfl ?_
      refine z_xgv zt9 46 rfl zo9 zzf1_47 X f5 (by decide) hp0 ?_
      refine z_xZ zt9 47 rfl rfl (fun (h26 : z0.toInt ≠ 0) => ?_) (fun (h26 : z0.toInt = 0) => ?_)
      · skip
        exact z_xrv zt9 50 rfl zzr9 (kk M X z0 hp0 ⟨by omega, by omega⟩ x22 h21 (by omega))
      refine z_xP zt9 48 105 [some (.ref 5), some (.int b1), o2] [.ref 5] rfl rfl ?_
      refine z_xcV (vs := [.ref 5]) (r := []) (L2 := [some (.ref 5)]) zt9 49 rfl zo9 zzcV1_66 (Or.inl rfl) rfl X f5 rfl rfl rfl (Nat.le_of_ble_eq_true rfl) zzm10 (Nat.le_of_ble_eq_true rfl) rfl ?_
      refine z_xP zt10 0 1 [some (.ref 5)] [.ref 5] rfl rfl ?_
      refine z_xgv zt10 1 rfl zo10 zzf1_32 X f5 (by decide) h21 ?_
      refine z_xZ zt10 2 rfl rfl (fun (h27 : 0 ≤ x22.toInt) => ?_) (fun (h27 : x22.toInt < 0) => absurd h27 (by omega))
      refine z_xrv zt10 6 rfl zzr10 ?_
      show z_ev (d + 1) 9 108 [some (.ref 5), some (.int b1), o2] [] M _
      exact z_xrv zt9 50 rfl zzr9 (kk M X z0 hp0 ⟨by omega, by omega⟩ x22 h21 (by omega))
    refine z_xP zt9 6 16 [some (.ref 5), some (.int b1), o2] [.ref 5] rfl rfl ?_
    refine z_xgI zt9 7 rfl zo9 zzf1_29 X f5 (by decide) (by decide) rfl (fun (x29 : Int32) h28 (h30 : 0 ≤ x29.toInt) (h31 : x29.toInt ≤ 160) => ?_)
    refine z_xP zt9 8 20 [some (.ref 5), some (.int b1), o2] [.ref 5, .int x29] rfl rfl ?_
    refine z_xgI zt9 9 rfl zo9 zzf1_25 X f5 (by decide) (by decide) rfl (fun (x33 : Int32) h32 (h34 : 0 ≤ x33.toInt) (h35 : x33.toInt ≤ 160) => ?_)
    refine z_xJ zt9 10 rfl rfl (fun (h36 : x33.toInt ≤ x29.toInt) => ?_) (fun (h36 : x29.toInt < x33.toInt) => ?_)
    · skip
      refine z_xP zt9 45 98 [some (.ref 5), some (.int b1), o2] [.ref 5] rfl rfl ?_
      refine z_xgv zt9 46 rfl zo9 zzf1_47 X f5 (by decide) hp0 ?_
      refine z_xZ zt9 47 rfl rfl (fun (h37 : z0.toInt ≠ 0) => ?_) (fun (h37 : z0.toInt = 0) => ?_)
      · skip
        exact z_xrv zt9 50 rfl zzr9 (kk M X z0 hp0 ⟨by omega, by omega⟩ x22 h21 (by omega))
      refine z_xP zt9 48 105 [some (.ref 5), some (.int b1), o2] [.ref 5] rfl rfl ?_
      refine z_xcV (vs := [.ref 5]) (r := []) (L2 := [some (.ref 5)]) zt9 49 rfl zo9 zzcV1_66 (Or.inl rfl) rfl X f5 rfl rfl rfl (Nat.le_of_ble_eq_true rfl) zzm10 (Nat.le_of_ble_eq_true rfl) rfl ?_
      refine z_xP zt10 0 1 [some (.ref 5)] [.ref 5] rfl rfl ?_
      refine z_xgv zt10 1 rfl zo10 zzf1_32 X f5 (by decide) h21 ?_
      refine z_xZ zt10 2 rfl rfl (fun (h38 : 0 ≤ x22.toInt) => absurd h38 (by omega)) (fun (h38 : x22.toInt < 0) => ?_)
      refine z_xP zt10 3 9 [some (.ref 5)] [.ref 5, .ref 5] rfl rfl ?_
      refine z_xgv zt10 4 rfl zo10 zzf1_29 X f5 (by decide) h28 ?_
      refine z_xpf zt10 5 rfl zo10 zzf1_32 X f5 (by decide) (by decide) ⟨Int32.le_toInt _, Int32.toInt_le _⟩ rfl (by decide) zw1_3 (fun M39 X40 e41 h42 => ?_)
      refine z_xrv zt10 6 rfl zzr10 ?_
      show z_ev (d + 1) 9 108 [some (.ref 5), some (.int b1), o2] [] M39 _
      have h43 := (e41.f f5 (by decide) hp0)
      exact z_xrv zt9 50 rfl zzr9 (kk M39 X40 z0 h43 ⟨by omega, by omega⟩ x29 h42 (by omega))
    refine z_xP zt9 11 27 [some (.ref 5), some (.int b1), o2] [.ref 5] rfl rfl ?_
    refine z_xgX (b := 6) zt9 12 rfl zo9 zzf1_9 X f5 (by decide) (by decide) rfl ?_
    refine z_xP zt9 13 31 [some (.ref 5), some (.int b1), o2] [.ref 5, .ref 6] rfl rfl ?_
    refine z_xgv zt9 14 rfl zo9 zzf1_29 X f5 (by decide) h28 ?_
    have f6 : T[6]? = some (.inr (6, 0, 160, (-2147483648), 2147483647)) := X.1.k rfl (by decide)
    refine z_xil zt9 15 rfl X f6 (by decide) (by omega) (by omega) (fun (x44 : Int32) h45 (h46 : (-2147483648) ≤ x44.toInt) (h47 : x44.toInt ≤ 2147483647) => ?_)
    refine z_xP zt9 16 37 [some (.ref 5), some (.int b1), o2] [.int 97, .int x44] rfl rfl ?_
    have h48 := z_b32 x44
    refine z_xI zt9 17 rfl rfl (P := fun _ => True) (fun (x49 : Int32) _ => ?_) trivial
    refine z_xP zt9 18 40 [some (.ref 5), some (.int b1), some (.int x49)] [.int x49] rfl rfl ?_
    refine z_xZ zt9 19 rfl rfl (fun (h51 : x49.toInt < 0) => ?_) (fun (h51 : 0 ≤ x49.toInt) => ?_)
    · skip
      refine z_xP zt9 45 98 [some (.ref 5), some (.int b1), some (.int x49)] [.ref 5] rfl rfl ?_
      refine z_xgv zt9 46 rfl zo9 zzf1_47 X f5 (by decide) hp0 ?_
      refine z_xZ zt9 47 rfl rfl (fun (h52 : z0.toInt ≠ 0) => ?_) (fun (h52 : z0.toInt = 0) => ?_)
      · skip
        exact z_xrv zt9 50 rfl zzr9 (kk M X z0 hp0 ⟨by omega, by omega⟩ x22 h21 (by omega))
      refine z_xP zt9 48 105 [some (.ref 5), some (.int b1), some (.int x49)] [.ref 5] rfl rfl ?_
      refine z_xcV (vs := [.ref 5]) (r := []) (L2 := [some (.ref 5)]) zt9 49 rfl zo9 zzcV1_66 (Or.inl rfl) rfl X f5 rfl rfl rfl (Nat.le_of_ble_eq_true rfl) zzm10 (Nat.le_of_ble_eq_true rfl) rfl ?_
      refine z_xP zt10 0 1 [some (.ref 5)] [.ref 5] rfl rfl ?_
      refine z_xgv zt10 1 rfl zo10 zzf1_32 X f5 (by decide) h21 ?_
      refine z_xZ zt10 2 rfl rfl (fun (h53 : 0 ≤ x22.toInt) => absurd h53 (by omega)) (fun (h53 : x22.toInt < 0) => ?_)
      refine z_xP zt10 3 9 [some (.ref 5)] [.ref 5, .ref 5] rfl rfl ?_
      refine z_xgv zt10 4 rfl zo10 zzf1_29 X f5 (by decide) h28 ?_
      refine z_xpf zt10 5 rfl zo10 zzf1_32 X f5 (by decide) (by decide) ⟨Int32.le_toInt _, Int32.toInt_le _⟩ rfl (by decide) zw1_3 (fun M54 X55 e56 h57 => ?_)
      refine z_xrv zt10 6 rfl zzr10 ?_
      show z_ev (d + 1) 9 108 [some (.ref 5), some (.int b1), some (.int x49)] [] M54 _
      have h58 := (e56.f f5 (by decide) hp0)
      exact z_xrv zt9 50 rfl zzr9 (kk M54 X55 z0 h58 ⟨by omega, by omega⟩ x29 h57 (by omega))
    refine z_xP zt9 20 46 [some (.ref 5), some (.int b1), some (.int x49)] [.int 10, .int x49] rfl rfl ?_
    refine z_xJ zt9 21 rfl rfl (fun (h59 : 10 ≤ x49.toInt) => ?_) (fun (h59 : x49.toInt < 10) => ?_)
    · skip
      refine z_xP zt9 45 98 [some (.ref 5), some (.int b1), some (.int x49)] [.ref 5] rfl rfl ?_
      refine z_xgv zt9 46 rfl zo9 zzf1_47 X f5 (by decide) hp0 ?_
      refine z_xZ zt9 47 rfl rfl (fun (h60 : z0.toInt ≠ 0) => ?_) (fun (h60 : z0.toInt = 0) => ?_)
      · skip
        exact z_xrv zt9 50 rfl zzr9 (kk M X z0 hp0 ⟨by omega, by omega⟩ x22 h21 (by omega))
      refine z_xP zt9 48 105 [some (.ref 5), some (.int b1), some (.int x49)] [.ref 5] rfl rfl ?_
      refine z_xcV (vs := [.ref 5]) (r := []) (L2 := [some (.ref 5)]) zt9 49 rfl zo9 zzcV1_66 (Or.inl rfl) rfl X f5 rfl rfl rfl (Nat.le_of_ble_eq_true rfl) zzm10 (Nat.le_of_ble_eq_true rfl) rfl ?_
      refine z_xP zt10 0 1 [some (.ref 5)] [.ref 5] rfl rfl ?_
      refine z_xgv zt10 1 rfl zo10 zzf1_32 X f5 (by decide) h21 ?_
      refine z_xZ zt10 2 rfl rfl (fun (h61 : 0 ≤ x22.toInt) => absurd h61 (by omega)) (fun (h61 : x22.toInt < 0) => ?_)
      refine z_xP zt10 3 9 [some (.ref 5)] [.ref 5, .ref 5] rfl rfl ?_
      refine z_xgv zt10 4 rfl zo10 zzf1_29 X f5 (by decide) h28 ?_
      refine z_xpf zt10 5 rfl zo10 zzf1_32 X f5 (by decide) (by decide) ⟨Int32.le_toInt _, Int32.toInt_le _⟩ rfl (by decide) zw1_3 (fun M62 X63 e64 h65 => ?_)
      refine z_xrv zt10 6 rfl zzr10 ?_
      show z_ev (d + 1) 9 108 [some (.ref 5), some (.int b1), some (.int x49)] [] M62 _
      have h66 := (e64.f f5 (by decide) hp0)
      exact z_xrv zt9 50 rfl zzr9 (kk M62 X63 z0 h66 ⟨by omega, by omega⟩ x29 h65 (by omega))
    refine z_xP zt9 22 50 [some (.ref 5), some (.int b1), some (.int x49)] [.ref 5] rfl rfl ?_
    refine z_xgX (b := 7) zt9 23 rfl zo9 zzf1_15 X f5 (by decide) (by decide) rfl ?_
    refine z_xP zt9 24 54 [some (.ref 5), some (.int b1), some (.int x49)] [.int x49, .ref 7] rfl rfl ?_
    have f7 : T[7]? = some (.inr (7, 0, 10, (-1), 9)) := X.1.k rfl (by decide)
    refine z_xil zt9 25 rfl X f7 (by decide) (by omega) (by omega) (fun (x67 : Int32) h68 (h69 : (-1) ≤ x67.toInt) (h70 : x67.toInt ≤ 9) => ?_)
    refine z_xZ zt9 26 rfl rfl (fun (h71 : x67.toInt < 0) => ?_) (fun (h71 : 0 ≤ x67.toInt) => ?_)
    · skip
      refine z_xP zt9 28 62 [some (.ref 5), some (.int b1), some (.int x49)] [.ref 5] rfl rfl ?_
      refine z_xgX (b := 7) zt9 29 rfl zo9 zzf1_15 X f5 (by decide) (by decide) rfl ?_
      refine z_xP zt9 30 67 [some (.ref 5), some (.int b1), some (.int x49)] [.ref 5, .int x49, .ref 7] rfl rfl ?_
      refine z_xgv zt9 31 rfl zo9 zzf1_47 X f5 (by decide) hp0 ?_
      refine z_xis zt9 32 rfl X f7 (by decide) (by decide) (by omega) (by omega) (by omega) (by omega) (by decide) (fun M72 X73 e74 h75 => ?_)
      refine z_xP zt9 33 73 [some (.ref 5), some (.int b1), some (.int x49)] [.ref 5, .ref 5] rfl rfl ?_
      have h76 := (e74.f f5 (by decide) hp0)
      refine z_xgv zt9 34 rfl zo9 zzf1_47 X73 f5 (by decide) h76 ?_
      refine z_xP zt9 35 77 [some (.ref 5), some (.int b1), some (.int x49)] [.int 1, .int z0, .ref 5] rfl rfl ?_
      refine z_xI zt9 36 rfl rfl (fun (x77 : Int32) (h78 : x77.toInt = z0.toInt + 1) => ?_) (z_pAdd rfl rfl (by omega) (by omega))
      refine z_xpf zt9 37 rfl zo9 zzf1_47 X73 f5 (by decide) (by decide) ⟨by omega, by omega⟩ rfl (by decide) zw1_4 (fun M79 X80 e81 h82 => ?_)
      refine z_xP zt9 38 83 [some (.ref 5), some (.int b1), some (.int x49)] [.ref 5, .ref 5] rfl rfl ?_
      have h83 := (e81.f f5 (by decide) (e74.f f5 (by decide) h28))
      refine z_xgv zt9 39 rfl zo9 zzf1_29 X80 f5 (by decide) h83 ?_
      refine z_xP zt9 40 87 [some (.ref 5), some (.int b1), some (.int x49)] [.int 1, .int x29, .ref 5] rfl rfl ?_
      refine z_xI zt9 41 rfl rfl (fun (x84 : Int32) (h85 : x84.toInt = x29.toInt + 1) => ?_) (z_pAdd rfl rfl (by omega) (by omega))
      refine z_xpf zt9 42 rfl zo9 zzf1_29 X80 f5 (by decide) (by decide) ⟨by omega, by omega⟩ rfl (by decide) zw1_2 (fun M86 X87 e88 h89 => ?_)
      refine z_xN zt9 43 rfl rfl (fun (x90 : Int32) (h91 : x90.toInt = b1.toInt + 1) => ?_) (z_pAdd rfl rfl (by omega) (by omega))
      show z_ev (d + 1) 9 94 [some (.ref 5), some (.int x90), some (.int x49)] [] M86 _
      refine z_xP zt9 44 2 [some (.ref 5), some (.int x90), some (.int x49)] [] rfl rfl ?_
      have h92 := (e88.f f5 (by decide) h82)
      exact ih M86 x90 (some (.int x49)) x77 X87 ⟨by omega, by omega⟩ h92 ⟨by omega, by omega⟩ (by omega) (by omega)
    refine z_xP zt9 27 97 [some (.ref 5), some (.int b1), some (.int x49)] [] rfl rfl ?_
    refine z_xP zt9 45 98 [some (.ref 5), some (.int b1), some (.int x49)] [.ref 5] rfl rfl ?_
    refine z_xgv zt9 46 rfl zo9 zzf1_47 X f5 (by decide) hp0 ?_
    refine z_xZ zt9 47 rfl rfl (fun (h93 : z0.toInt ≠ 0) => ?_) (fun (h93 : z0.toInt = 0) => ?_)
    · skip
      exact z_xrv zt9 50 rfl zzr9 (kk M X z0 hp0 ⟨by omega, by omega⟩ x22 h21 (by omega))
    refine z_xP zt9 48 105 [some (.ref 5), some (.int b1), some (.int x49)] [.ref 5] rfl rfl ?_
    refine z_xcV (vs := [.ref 5]) (r := []) (L2 := [some (.ref 5)]) zt9 49 rfl zo9 zzcV1_66 (Or.inl rfl) rfl X f5 rfl rfl rfl (Nat.le_of_ble_eq_true rfl) zzm10 (Nat.le_of_ble_eq_true rfl) rfl ?_
    refine z_xP zt10 0 1 [some (.ref 5)] [.ref 5] rfl rfl ?_
    refine z_xgv zt10 1 rfl zo10 zzf1_32 X f5 (by decide) h21 ?_
    refine z_xZ zt10 2 rfl rfl (fun (h94 : 0 ≤ x22.toInt) => absurd h94 (by omega)) (fun (h94 : x22.toInt < 0) => ?_)
    refine z_xP zt10 3 9 [some (.ref 5)] [.ref 5, .ref 5] rfl rfl ?_
    refine z_xgv zt10 4 rfl zo10 zzf1_29 X f5 (by decide) h28 ?_
    refine z_xpf zt10 5 rfl zo10 zzf1_32 X f5 (by decide) (by decide) ⟨Int32.le_toInt _, Int32.toInt_le _⟩ rfl (by decide) zw1_3 (fun M95 X96 e97 h98 => ?_)
    refine z_xrv zt10 6 rfl zzr10 ?_
    show z_ev (d + 1) 9 108 [some (.ref 5), some (.int b1), some (.int x49)] [] M95 _
    have h99 := (e97.f f5 (by decide) hp0)
    exact z_xrv zt9 50 rfl zzr9 (kk M95 X96 z0 h99 ⟨by omega, by omega⟩ x29 h98 (by omega))
theorem zQC9 {T : List zK} {d : Nat} {K : Option Value → zH → Prop} {zp0 : Int32} {zp1 : Int32} {M0 : zH} (hW : z_W M0 T) (hz0 : z_F M0 5 4 = some (.int zp0)) (bz0 : 0 ≤ zp0.toInt ∧ zp0.toInt ≤ 0) (hz1 : z_F M0 5 3 = some (.int zp1)) (kk : ∀ (M1 : zH), z_X T zw9 M0 M1 → ∀ (w0 : Int32), z_F M1 5 4 = some (.int w0) → 0 ≤ w0.toInt ∧ w0.toInt ≤ 10 → ∀ (w1 : Int32), z_F M1 5 3 = some (.int w1) → (0 ≤ w1.toInt ∨ 1 ≤ w0.toInt) → K none M1) : z_ev (d + 1) 9 0 [some (.ref 5), none, none] [] M0 K := by
  have X : z_X T zw9 M0 M0 := .refl hW
  refine z_xP zt9 0 2 [some (.ref 5), some (.int 0), none] [] rfl rfl ?_
  have f5 : T[5]? = some (.inl (1, 0, 0, 0, 0)) := X.1.k rfl (by decide)
  have q0 : ((0 : Int32)).toInt = 0 := rfl
  exact (zQB9 hz0 bz0 hz1 kk 22) M0 (0) none zp0 X (by decide) hz0 ⟨by omega, by omega⟩ (by omega) (by omega)
theorem zQB6 {T : List zK} {d : Nat} {K : Option Value → zH → Prop} {zp0 : Int32} {M0 : zH} (hz0 : z_F M0 5 4 = some (.int zp0)) (kk : ∀ (x : Int32) (M1 : zH), z_X T zw6 M0 M1 → ∀ (w0 : Int32), z_F M1 5 4 = some (.int w0) → 0 ≤ w0.toInt ∧ w0.toInt ≤ 10 → (0 ≤ x.toInt ∨ 1 ≤ w0.toInt) → K (some (.int x)) M1) : ∀ n : Nat, (∀ (M : zH) (b1 : Int32) (z0 : Int32) (z1 : Int32), z_X T zw6 M0 M → 0 ≤ b1.toInt ∧ b1.toInt ≤ 160 → z_F M 5 4 = some (.int z0) → 0 ≤ z0.toInt ∧ z0.toInt ≤ 10 → z_F M 5 3 = some (.int z1) → (0 ≤ z1.toInt ∨ 1 ≤ z0.toInt) → ((0) * 2 + 0) * 161 + (160 - b1.toInt) < (n : Int) → z_ev (d + 33) 6 61 [some (.ref 5), some (.int b1)] [] M K) := by
  intro n
  induction n with
  | zero => exact by intros; exfalso; omega
  | succ n ih =>
    intro M b1 z0 z1 X hh0 hp0 hh2 hp1 hh4 hE
    refine z_xP zt6 24 65 [some (.ref 5), some (.int b1)] [.int 160, .int b1] rfl rfl ?_
    refine z_xJ zt6 25 rfl rfl (fun (h1 : 160 ≤ b1.toInt) => ?_) (fun (h1 : b1.toInt < 160) => ?_)
    · skip
      refine z_xP zt6 38 97 [some (.ref 5), some (.int b1)] [.ref 5] rfl rfl ?_
      have f5 : T[5]? = some (.inl (1, 0, 0, 0, 0)) := X.1.k rfl (by decide)
      refine z_xgv zt6 39 rfl zo6 zzf1_32 X f5 (by decide) hp1 ?_
      exact z_xri zt6 40 rfl zzr6 (kk z1 M X z0 hp0 ⟨by omega, by omega⟩ (by omega))
    refine z_xP zt6 26 69 [some (.ref 5), some (.int b1)] [.ref 5] rfl rfl ?_
    have f5 : T[5]? = some (.inl (1, 0, 0, 0, 0)) := X.1.k rfl (by decide)
    refine z_xgv zt6 27 rfl zo6 zzf1_32 X f5 (by decide) hp1 ?_
    refine z_xZ zt6 28 rfl rfl (fun (h2 : 0 ≤ z1.toInt) => ?_) (fun (h2 : z1.toInt < 0) => ?_)
    · skip
      refine z_xP zt6 38 97 [some (.ref 5), some (.int b1)] [.ref 5] rfl rfl ?_
      refine z_xgv zt6 39 rfl zo6 zzf1_32 X f5 (by decide) hp1 ?_
      exact z_xri zt6 40 rfl zzr6 (kk z1 M X z0 hp0 ⟨by omega, by omega⟩ (by omega))
    refine z_xP zt6 29 76 [some (.ref 5), some (.int b1)] [.ref 5] rfl rfl ?_
    refine z_xgI zt6 30 rfl zo6 zzf1_29 X f5 (by decide) (by decide) rfl (fun (x4 : Int32) h3 (h5 : 0 ≤ x4.toInt) (h6 : x4.toInt ≤ 160) => ?_)
    refine z_xP zt6 31 80 [some (.ref 5), some (.int b1)] [.ref 5, .int x4] rfl rfl ?_
    refine z_xgI zt6 32 rfl zo6 zzf1_25 X f5 (by decide) (by decide) rfl (fun (x8 : Int32) h7 (h9 : 0 ≤ x8.toInt) (h10 : x8.toInt ≤ 160) => ?_)
    refine z_xJ zt6 33 rfl rfl (fun (h11 : x8.toInt ≤ x4.toInt) => ?_) (fun (h11 : x4.toInt < x8.toInt) => ?_)
    · skip
      refine z_xP zt6 38 97 [some (.ref 5), some (.int b1)] [.ref 5] rfl rfl ?_
      refine z_xgv zt6 39 rfl zo6 zzf1_32 X f5 (by decide) hp1 ?_
      exact z_xri zt6 40 rfl zzr6 (kk z1 M X z0 hp0 ⟨by omega, by omega⟩ (by omega))
    refine z_xP zt6 34 87 [some (.ref 5), some (.int b1)] [.ref 5] rfl rfl ?_
    refine z_xcV (vs := [.ref 5]) (r := []) (L2 := [some (.ref 5)]) zt6 35 rfl zo6 zzcV1_63 (Or.inl rfl) rfl X f5 rfl rfl rfl (Nat.le_of_ble_eq_true rfl) zzm11 (Nat.le_of_ble_eq_true rfl) rfl ?_
    refine zC11 X.1 (fun M12 X13  => ?_)
    have X14 := X.go X13 (z_sb (by decide))
    show z_ev (d + 33) 6 90 [some (.ref 5), some (.int b1)] [] M12 _
    refine z_xN zt6 36 rfl rfl (fun (x16 : Int32) (h17 : x16.toInt = b1.toInt + 1) => ?_) (z_pAdd rfl rfl (by omega) (by omega))
    show z_ev (d + 33) 6 93 [some (.ref 5), some (.int x16)] [] M12 _
    refine z_xP zt6 37 61 [some (.ref 5), some (.int x16)] [] rfl rfl ?_
    have h18 := (X13.2.f f5 (by decide) hp0)
    obtain ⟨x19, h20, h21, h22⟩ := z_W.fi X14.1 f5 (k := 3) (lo := (-2147483648)) (hi := 2147483647) (by decide) rfl
    exact ih M12 x16 z0 x19 X14 ⟨by omega, by omega⟩ h18 ⟨by omega, by omega⟩ h20 (by omega) (by omega)
theorem zQC6 {T : List zK} {d : Nat} {K : Option Value → zH → Prop} {zp0 : Int32} {M0 : zH} (hW : z_W M0 T) (hz0 : z_F M0 5 4 = some (.int zp0)) (kk : ∀ (x : Int32) (M1 : zH), z_X T zw6 M0 M1 → ∀ (w0 : Int32), z_F M1 5 4 = some (.int w0) → 0 ≤ w0.toInt ∧ w0.toInt ≤ 10 → (0 ≤ x.toInt ∨ 1 ≤ w0.toInt) → K (some (.int x)) M1) : z_ev (d + 33) 6 0 [some (.ref 5), none] [] M0 K := by
  have X : z_X T zw6 M0 M0 := .refl hW
  refine z_xP zt6 0 2 [some (.ref 5), none] [.int 0, .ref 5] rfl rfl ?_
  have f5 : T[5]? = some (.inl (1, 0, 0, 0, 0)) := X.1.k rfl (by decide)
  have q0 : ((0 : Int32)).toInt = 0 := rfl
  refine z_xpf zt6 1 rfl zo6 zzf1_29 X f5 (by decide) (by decide) ⟨by omega, by omega⟩ rfl (by decide) zw1_2 (fun M1 X2 e3 h4 => ?_)
  refine z_xP zt6 2 7 [some (.ref 5), none] [.int (-1), .ref 5] rfl rfl ?_
  have qm1 : (((-1) : Int32)).toInt = (-1) := rfl
  refine z_xpf zt6 3 rfl zo6 zzf1_32 X2 f5 (by decide) (by decide) ⟨by omega, by omega⟩ rfl (by decide) zw1_3 (fun M5 X6 e7 h8 => ?_)
  refine z_xP zt6 4 17 [some (.ref 5), none] [.int 0, .ref 5, .int 0, .ref 5, .ref 5, .ref 5, .ref 5] rfl rfl ?_
  have q0 : ((0 : Int32)).toInt = 0 := rfl
  refine z_xpf zt6 5 rfl zo6 zzf1_35 X6 f5 (by decide) (by decide) ⟨by omega, by omega⟩ rfl (by decide) zw1_10 (fun M9 X10 e11 h12 => ?_)
  refine z_xP zt6 6 21 [some (.ref 5), none] [.int 0, .ref 5, .int 0, .ref 5, .ref 5, .ref 5] rfl rfl ?_
  have q0 : ((0 : Int32)).toInt = 0 := rfl
  refine z_xpf zt6 7 rfl zo6 zzf1_38 X10 f5 (by decide) (by decide) ⟨by omega, by omega⟩ rfl (by decide) zw1_7 (fun M13 X14 e15 h16 => ?_)
  refine z_xP zt6 8 25 [some (.ref 5), none] [.int 0, .ref 5, .int 0, .ref 5, .ref 5] rfl rfl ?_
  have q0 : ((0 : Int32)).toInt = 0 := rfl
  refine z_xpf zt6 9 rfl zo6 zzf1_41 X14 f5 (by decide) (by decide) ⟨by omega, by omega⟩ rfl (by decide) zw1_6 (fun M17 X18 e19 h20 => ?_)
  refine z_xP zt6 10 29 [some (.ref 5), none] [.int 0, .ref 5, .int 0, .ref 5] rfl rfl ?_
  have q0 : ((0 : Int32)).toInt = 0 := rfl
  refine z_xpf zt6 11 rfl zo6 zzf1_44 X18 f5 (by decide) (by decide) ⟨by omega, by omega⟩ rfl (by decide) zw1_5 (fun M21 X22 e23 h24 => ?_)
  have q0 : ((0 : Int32)).toInt = 0 := rfl
  refine z_xpf zt6 12 rfl zo6 zzf1_47 X22 f5 (by decide) (by decide) ⟨by omega, by omega⟩ rfl (by decide) zw1_4 (fun M25 X26 e27 h28 => ?_)
  refine z_xP zt6 13 36 [some (.ref 5), none] [.ref 5] rfl rfl ?_
  refine z_xgX (b := 7) zt6 14 rfl zo6 zzf1_15 X26 f5 (by decide) (by decide) rfl ?_
  refine z_xP zt6 15 40 [some (.ref 5), none] [.int (-1), .ref 7] rfl rfl ?_
  refine z_xcS (vs := [.ref 7, .int (-1)]) (r := []) (L2 := [some (.ref 7), some (.int (-1)), none, none]) zt6 16 rfl zo6 zzcS1_50 (Or.inl rfl) (Nat.le_of_ble_eq_true rfl) rfl rfl (Nat.le_of_ble_eq_true rfl) zzm7 (Nat.le_of_ble_eq_true rfl) rfl ?_
  have qm1 : (((-1) : Int32)).toInt = (-1) := rfl
  have f7 : T[7]? = some (.inr (7, 0, 10, (-1), 9)) := X26.1.k rfl (by decide)
  have qm1 : (((-1) : Int32)).toInt = (-1) := rfl
  refine zC7 X26.1 ⟨(by decide), (by decide)⟩ f7 ⟨by omega, by omega⟩ (by decide) (fun M29 X30  => ?_)
  have X31 := X26.go X30 (z_sb (by decide))
  show z_ev (d + 33) 6 43 [some (.ref 5), none] [] M29 _
  refine z_xP zt6 17 46 [some (.ref 5), none] [.int 113, .ref 5] rfl rfl ?_
  refine z_xcV (vs := [.ref 5, .int 113]) (r := []) (L2 := [some (.ref 5), some (.int 113)]) zt6 18 rfl zo6 zzcV1_56 (Or.inl rfl) rfl X31 f5 rfl rfl rfl (Nat.le_of_ble_eq_true rfl) zzm8 (Nat.le_of_ble_eq_true rfl) rfl ?_
  refine z_xP zt8 0 1 [some (.ref 5), some (.int 113)] [.ref 5] rfl rfl ?_
  have h33 := (X30.2.f f5 (by decide) (e27.f f5 (by decide) (e23.f f5 (by decide) (e19.f f5 (by decide) (e15.f f5 (by decide) (e11.f f5 (by decide) h8))))))
  refine z_xgv zt8 1 rfl zo8 zzf1_32 X31 f5 (by decide) h33 ?_
  refine z_xZ zt8 2 rfl rfl (fun (h34 : ((-1) : Int) < 0) => ?_) (fun (h34 : 0 ≤ ((-1) : Int)) => absurd h34 (by omega))
  refine z_xP zt8 4 9 [some (.ref 5), some (.int 113)] [.ref 5] rfl rfl ?_
  have h35 := (X30.2.f f5 (by decide) (e27.f f5 (by decide) (e23.f f5 (by decide) (e19.f f5 (by decide) (e15.f f5 (by decide) (e11.f f5 (by decide) (e7.f f5 (by decide) h4)))))))
  refine z_xgv zt8 5 rfl zo8 zzf1_29 X31 f5 (by decide) h35 ?_
  refine z_xP zt8 6 13 [some (.ref 5), some (.int 113)] [.ref 5, .int 0] rfl rfl ?_
  refine z_xgI zt8 7 rfl zo8 zzf1_25 X31 f5 (by decide) (by decide) rfl (fun (x37 : Int32) h36 (h38 : 0 ≤ x37.toInt) (h39 : x37.toInt ≤ 160) => ?_)
  refine z_xJ zt8 8 rfl rfl (fun (h40 : x37.toInt ≤ 0) => ?_) (fun (h40 : 0 < x37.toInt) => ?_)
  · skip
    refine z_xP zt8 22 47 [some (.ref 5), some (.int 113)] [.ref 5, .ref 5] rfl rfl ?_
    refine z_xgv zt8 23 rfl zo8 zzf1_29 X31 f5 (by decide) h35 ?_
    have q0 : ((0 : Int32)).toInt = 0 := rfl
    refine z_xpf zt8 24 rfl zo8 zzf1_32 X31 f5 (by decide) (by decide) ⟨by omega, by omega⟩ rfl (by decide) zw1_3 (fun M41 X42 e43 h44 => ?_)
    refine z_xrv zt8 25 rfl zzr8 ?_
    show z_ev (d + 33) 6 49 [some (.ref 5), none] [] M41 _
    refine z_xP zt6 19 52 [some (.ref 5), none] [.int 32, .ref 5] rfl rfl ?_
    refine z_xcV (vs := [.ref 5, .int 32]) (r := []) (L2 := [some (.ref 5), some (.int 32)]) zt6 20 rfl zo6 zzcV1_56 (Or.inl rfl) rfl X42 f5 rfl rfl rfl (Nat.le_of_ble_eq_true rfl) zzm8 (Nat.le_of_ble_eq_true rfl) rfl ?_
    refine z_xP zt8 0 1 [some (.ref 5), some (.int 32)] [.ref 5] rfl rfl ?_
    refine z_xgv zt8 1 rfl zo8 zzf1_32 X42 f5 (by decide) h44 ?_
    refine z_xZ zt8 2 rfl rfl (fun (h45 : (0 : Int) < 0) => absurd h45 (by omega)) (fun (h45 : 0 ≤ (0 : Int)) => ?_)
    refine z_xrv zt8 3 rfl zzr8 ?_
    show z_ev (d + 33) 6 55 [some (.ref 5), none] [] M41 _
    refine z_xP zt6 21 56 [some (.ref 5), none] [.ref 5] rfl rfl ?_
    refine z_xcV (vs := [.ref 5]) (r := []) (L2 := [some (.ref 5), none, none]) zt6 22 rfl zo6 zzcV1_60 (Or.inl rfl) rfl X42 f5 rfl rfl rfl (Nat.le_of_ble_eq_true rfl) zzm9 (Nat.le_of_ble_eq_true rfl) rfl ?_
    have h46 := (e43.f f5 (by decide) (X30.2.f f5 (by decide) h28))
    have q0 : ((0 : Int32)).toInt = 0 := rfl
    have q0 : ((0 : Int32)).toInt = 0 := rfl
    refine zQC9 X42.1 h46 ⟨by omega, by omega⟩ h44 (fun M47 X48 z49 h50 h51 z52 h53 h54 => ?_)
    have X55 := X42.go X48 (z_sb (by decide))
    show z_ev (d + 33) 6 59 [some (.ref 5), none] [] M47 _
    refine z_xP zt6 23 61 [some (.ref 5), some (.int 0)] [] rfl rfl ?_
    have q0 : ((0 : Int32)).toInt = 0 := rfl
    exact (zQB6 hz0 kk 322) M47 (0) z49 z52 X55 (by decide) h50 ⟨by omega, by omega⟩ h53 (by omega) (by omega)
  refine z_xP zt8 9 20 [some (.ref 5), some (.int 113)] [.ref 5] rfl rfl ?_
  refine z_xgX (b := 6) zt8 10 rfl zo8 zzf1_9 X31 f5 (by decide) (by decide) rfl ?_
  refine z_xP zt8 11 24 [some (.ref 5), some (.int 113)] [.ref 5, .ref 6] rfl rfl ?_
  refine z_xgv zt8 12 rfl zo8 zzf1_29 X31 f5 (by decide) h35 ?_
  have f6 : T[6]? = some (.inr (6, 0, 160, (-2147483648), 2147483647)) := X31.1.k rfl (by decide)
  refine z_xil zt8 13 rfl X31 f6 (by decide) (by decide) (by decide) (fun (x57 : Int32) h58 (h59 : (-2147483648) ≤ x57.toInt) (h60 : x57.toInt ≤ 2147483647) => ?_)
  refine z_xP zt8 14 29 [some (.ref 5), some (.int 113)] [.int 113, .int x57] rfl rfl ?_
  refine z_xJ zt8 15 rfl rfl (fun (h61 : x57.toInt ≠ 113) => ?_) (fun (h61 : x57.toInt = 113) => ?_)
  · skip
    refine z_xP zt8 22 47 [some (.ref 5), some (.int 113)] [.ref 5, .ref 5] rfl rfl ?_
    refine z_xgv zt8 23 rfl zo8 zzf1_29 X31 f5 (by decide) h35 ?_
    have q0 : ((0 : Int32)).toInt = 0 := rfl
    refine z_xpf zt8 24 rfl zo8 zzf1_32 X31 f5 (by decide) (by decide) ⟨by omega, by omega⟩ rfl (by decide) zw1_3 (fun M62 X63 e64 h65 => ?_)
    refine z_xrv zt8 25 rfl zzr8 ?_
    show z_ev (d + 33) 6 49 [some (.ref 5), none] [] M62 _
    refine z_xP zt6 19 52 [some (.ref 5), none] [.int 32, .ref 5] rfl rfl ?_
    refine z_xcV (vs := [.ref 5, .int 32]) (r := []) (L2 := [some (.ref 5), some (.int 32)]) zt6 20 rfl zo6 zzcV1_56 (Or.inl rfl) rfl X63 f5 rfl rfl rfl (Nat.le_of_ble_eq_true rfl) zzm8 (Nat.le_of_ble_eq_true rfl) rfl ?_
    refine z_xP zt8 0 1 [some (.ref 5), some (.int 32)] [.ref 5] rfl rfl ?_
    refine z_xgv zt8 1 rfl zo8 zzf1_32 X63 f5 (by decide) h65 ?_
    refine z_xZ zt8 2 rfl rfl (fun (h66 : (0 : Int) < 0) => absurd h66 (by omega)) (fun (h66 : 0 ≤ (0 : Int)) => ?_)
    refine z_xrv zt8 3 rfl zzr8 ?_
    show z_ev (d + 33) 6 55 [some (.ref 5), none] [] M62 _
    refine z_xP zt6 21 56 [some (.ref 5), none] [.ref 5] rfl rfl ?_
    refine z_xcV (vs := [.ref 5]) (r := []) (L2 := [some (.ref 5), none, none]) zt6 22 rfl zo6 zzcV1_60 (Or.inl rfl) rfl X63 f5 rfl rfl rfl (Nat.le_of_ble_eq_true rfl) zzm9 (Nat.le_of_ble_eq_true rfl) rfl ?_
    have h67 := (e64.f f5 (by decide) (X30.2.f f5 (by decide) h28))
    have q0 : ((0 : Int32)).toInt = 0 := rfl
    have q0 : ((0 : Int32)).toInt = 0 := rfl
    refine zQC9 X63.1 h67 ⟨by omega, by omega⟩ h65 (fun M68 X69 z70 h71 h72 z73 h74 h75 => ?_)
    have X76 := X63.go X69 (z_sb (by decide))
    show z_ev (d + 33) 6 59 [some (.ref 5), none] [] M68 _
    refine z_xP zt6 23 61 [some (.ref 5), some (.int 0)] [] rfl rfl ?_
    have q0 : ((0 : Int32)).toInt = 0 := rfl
    exact (zQB6 hz0 kk 322) M68 (0) z70 z73 X76 (by decide) h71 ⟨by omega, by omega⟩ h74 (by omega) (by omega)
  refine z_xP zt8 16 34 [some (.ref 5), some (.int 113)] [.ref 5, .ref 5] rfl rfl ?_
  refine z_xgv zt8 17 rfl zo8 zzf1_29 X31 f5 (by decide) h35 ?_
  refine z_xP zt8 18 38 [some (.ref 5), some (.int 113)] [.int 1, .int 0, .ref 5] rfl rfl ?_
  refine z_xI zt8 19 rfl rfl (fun (x78 : Int32) (h79 : x78.toInt = 0 + 1) => ?_) (z_pAdd rfl rfl (by omega) (by omega))
  refine z_xpf zt8 20 rfl zo8 zzf1_29 X31 f5 (by decide) (by decide) ⟨by omega, by omega⟩ rfl (by decide) zw1_2 (fun M80 X81 e82 h83 => ?_)
  refine z_xP zt8 21 53 [some (.ref 5), some (.int 113)] [] rfl rfl ?_
  refine z_xrv zt8 25 rfl zzr8 ?_
  show z_ev (d + 33) 6 49 [some (.ref 5), none] [] M80 _
  refine z_xP zt6 19 52 [some (.ref 5), none] [.int 32, .ref 5] rfl rfl ?_
  refine z_xcV (vs := [.ref 5, .int 32]) (r := []) (L2 := [some (.ref 5), some (.int 32)]) zt6 20 rfl zo6 zzcV1_56 (Or.inl rfl) rfl X81 f5 rfl rfl rfl (Nat.le_of_ble_eq_true rfl) zzm8 (Nat.le_of_ble_eq_true rfl) rfl ?_
  refine z_xP zt8 0 1 [some (.ref 5), some (.int 32)] [.ref 5] rfl rfl ?_
  have h84 := (e82.f f5 (by decide) h33)
  refine z_xgv zt8 1 rfl zo8 zzf1_32 X81 f5 (by decide) h84 ?_
  refine z_xZ zt8 2 rfl rfl (fun (h85 : ((-1) : Int) < 0) => ?_) (fun (h85 : 0 ≤ ((-1) : Int)) => absurd h85 (by omega))
  refine z_xP zt8 4 9 [some (.ref 5), some (.int 32)] [.ref 5] rfl rfl ?_
  refine z_xgv zt8 5 rfl zo8 zzf1_29 X81 f5 (by decide) h83 ?_
  refine z_xP zt8 6 13 [some (.ref 5), some (.int 32)] [.ref 5, .int x78] rfl rfl ?_
  have h86 := (e82.f f5 (by decide) h36)
  refine z_xgv zt8 7 rfl zo8 zzf1_25 X81 f5 (by decide) h86 ?_
  refine z_xJ zt8 8 rfl rfl (fun (h87 : x37.toInt ≤ x78.toInt) => ?_) (fun (h87 : x78.toInt < x37.toInt) => ?_)
  · skip
    refine z_xP zt8 22 47 [some (.ref 5), some (.int 32)] [.ref 5, .ref 5] rfl rfl ?_
    refine z_xgv zt8 23 rfl zo8 zzf1_29 X81 f5 (by decide) h83 ?_
    refine z_xpf zt8 24 rfl zo8 zzf1_32 X81 f5 (by decide) (by decide) ⟨Int32.le_toInt _, Int32.toInt_le _⟩ rfl (by decide) zw1_3 (fun M88 X89 e90 h91 => ?_)
    refine z_xrv zt8 25 rfl zzr8 ?_
    show z_ev (d + 33) 6 55 [some (.ref 5), none] [] M88 _
    refine z_xP zt6 21 56 [some (.ref 5), none] [.ref 5] rfl rfl ?_
    refine z_xcV (vs := [.ref 5]) (r := []) (L2 := [some (.ref 5), none, none]) zt6 22 rfl zo6 zzcV1_60 (Or.inl rfl) rfl X89 f5 rfl rfl rfl (Nat.le_of_ble_eq_true rfl) zzm9 (Nat.le_of_ble_eq_true rfl) rfl ?_
    have h92 := (e90.f f5 (by decide) (e82.f f5 (by decide) (X30.2.f f5 (by decide) h28)))
    have q0 : ((0 : Int32)).toInt = 0 := rfl
    refine zQC9 X89.1 h92 ⟨by omega, by omega⟩ h91 (fun M93 X94 z95 h96 h97 z98 h99 h100 => ?_)
    have X101 := X89.go X94 (z_sb (by decide))
    show z_ev (d + 33) 6 59 [some (.ref 5), none] [] M93 _
    refine z_xP zt6 23 61 [some (.ref 5), some (.int 0)] [] rfl rfl ?_
    have q0 : ((0 : Int32)).toInt = 0 := rfl
    exact (zQB6 hz0 kk 322) M93 (0) z95 z98 X101 (by decide) h96 ⟨by omega, by omega⟩ h99 (by omega) (by omega)
  refine z_xP zt8 9 20 [some (.ref 5), some (.int 32)] [.ref 5] rfl rfl ?_
  refine z_xgX (b := 6) zt8 10 rfl zo8 zzf1_9 X81 f5 (by decide) (by decide) rfl ?_
  refine z_xP zt8 11 24 [some (.ref 5), some (.int 32)] [.ref 5, .ref 6] rfl rfl ?_
  refine z_xgv zt8 12 rfl zo8 zzf1_29 X81 f5 (by decide) h83 ?_
  refine z_xil zt8 13 rfl X81 f6 (by decide) (by omega) (by omega) (fun (x103 : Int32) h104 (h105 : (-2147483648) ≤ x103.toInt) (h106 : x103.toInt ≤ 2147483647) => ?_)
  refine z_xP zt8 14 29 [some (.ref 5), some (.int 32)] [.int 32, .int x103] rfl rfl ?_
  refine z_xJ zt8 15 rfl rfl (fun (h107 : x103.toInt ≠ 32) => ?_) (fun (h107 : x103.toInt = 32) => ?_)
  · skip
    refine z_xP zt8 22 47 [some (.ref 5), some (.int 32)] [.ref 5, .ref 5] rfl rfl ?_
    refine z_xgv zt8 23 rfl zo8 zzf1_29 X81 f5 (by decide) h83 ?_
    refine z_xpf zt8 24 rfl zo8 zzf1_32 X81 f5 (by decide) (by decide) ⟨Int32.le_toInt _, Int32.toInt_le _⟩ rfl (by decide) zw1_3 (fun M108 X109 e110 h111 => ?_)
    refine z_xrv zt8 25 rfl zzr8 ?_
    show z_ev (d + 33) 6 55 [some (.ref 5), none] [] M108 _
    refine z_xP zt6 21 56 [some (.ref 5), none] [.ref 5] rfl rfl ?_
    refine z_xcV (vs := [.ref 5]) (r := []) (L2 := [some (.ref 5), none, none]) zt6 22 rfl zo6 zzcV1_60 (Or.inl rfl) rfl X109 f5 rfl rfl rfl (Nat.le_of_ble_eq_true rfl) zzm9 (Nat.le_of_ble_eq_true rfl) rfl ?_
    have h112 := (e110.f f5 (by decide) (e82.f f5 (by decide) (X30.2.f f5 (by decide) h28)))
    have q0 : ((0 : Int32)).toInt = 0 := rfl
    refine zQC9 X109.1 h112 ⟨by omega, by omega⟩ h111 (fun M113 X114 z115 h116 h117 z118 h119 h120 => ?_)
    have X121 := X109.go X114 (z_sb (by decide))
    show z_ev (d + 33) 6 59 [some (.ref 5), none] [] M113 _
    refine z_xP zt6 23 61 [some (.ref 5), some (.int 0)] [] rfl rfl ?_
    have q0 : ((0 : Int32)).toInt = 0 := rfl
    exact (zQB6 hz0 kk 322) M113 (0) z115 z118 X121 (by decide) h116 ⟨by omega, by omega⟩ h119 (by omega) (by omega)
  refine z_xP zt8 16 34 [some (.ref 5), some (.int 32)] [.ref 5, .ref 5] rfl rfl ?_
  refine z_xgv zt8 17 rfl zo8 zzf1_29 X81 f5 (by decide) h83 ?_
  refine z_xP zt8 18 38 [some (.ref 5), some (.int 32)] [.int 1, .int x78, .ref 5] rfl rfl ?_
  refine z_xI zt8 19 rfl rfl (fun (x123 : Int32) (h124 : x123.toInt = x78.toInt + 1) => ?_) (z_pAdd rfl rfl (by omega) (by omega))
  refine z_xpf zt8 20 rfl zo8 zzf1_29 X81 f5 (by decide) (by decide) ⟨by omega, by omega⟩ rfl (by decide) zw1_2 (fun M125 X126 e127 h128 => ?_)
  refine z_xP zt8 21 53 [some (.ref 5), some (.int 32)] [] rfl rfl ?_
  refine z_xrv zt8 25 rfl zzr8 ?_
  show z_ev (d + 33) 6 55 [some (.ref 5), none] [] M125 _
  refine z_xP zt6 21 56 [some (.ref 5), none] [.ref 5] rfl rfl ?_
  refine z_xcV (vs := [.ref 5]) (r := []) (L2 := [some (.ref 5), none, none]) zt6 22 rfl zo6 zzcV1_60 (Or.inl rfl) rfl X126 f5 rfl rfl rfl (Nat.le_of_ble_eq_true rfl) zzm9 (Nat.le_of_ble_eq_true rfl) rfl ?_
  have h129 := (e127.f f5 (by decide) (e82.f f5 (by decide) (X30.2.f f5 (by decide) h28)))
  have q0 : ((0 : Int32)).toInt = 0 := rfl
  have h130 := (e127.f f5 (by decide) h84)
  have qm1 : (((-1) : Int32)).toInt = (-1) := rfl
  refine zQC9 X126.1 h129 ⟨by omega, by omega⟩ h130 (fun M131 X132 z133 h134 h135 z136 h137 h138 => ?_)
  have X139 := X126.go X132 (z_sb (by decide))
  show z_ev (d + 33) 6 59 [some (.ref 5), none] [] M131 _
  refine z_xP zt6 23 61 [some (.ref 5), some (.int 0)] [] rfl rfl ?_
  have q0 : ((0 : Int32)).toInt = 0 := rfl
  exact (zQB6 hz0 kk 322) M131 (0) z133 z136 X139 (by decide) h134 ⟨by omega, by omega⟩ h137 (by omega) (by omega)
