/-! contracts of the methods (printed by wip/gen/vparts.py) -/
def zw198 : List Nat := [2224, 2226, 2227]
def zw199 : List Nat := [2224, 2226, 2227]
def zw200 : List Nat := [2224, 2226, 2227]
def zw201 : List Nat := [2224, 2226, 2227]
def zw202 : List Nat := [2224, 2226, 2227]
def zw204 : List Nat := [2224, 2226, 2227]
def zQ198 (T : List zK) (N : Nat) : Prop := ∀ {d : Nat} {K : Option Value → zH → Prop} {zp0 : Int32}  {M0 : zH} (hW : z_W M0 T) (hz0 : z_F M0 19 24 = some (.int zp0)) (bz0 : 0 ≤ zp0.toInt ∧ zp0.toInt ≤ 160) (hL : z_GL M0) (hm : 6 * (160 - zp0.toInt) + 5 < (N : Int)) (hd : 6 * (160 - zp0.toInt) + 5 ≤ (d : Int)) (kk : ∀ (x : Int32) (M1 : zH), z_X T zw198 M0 M1 → 0 ≤ x.toInt → x.toInt ≤ 1 → ∀ (w0 : Int32), z_F M1 19 24 = some (.int w0) → 0 ≤ w0.toInt ∧ w0.toInt ≤ 160 → zp0.toInt ≤ w0.toInt → K (some (.int x)) M1), z_ev (d + 6) 198 0 [some (.ref 19), none, none] [] M0 K
def zQ199 (T : List zK) (N : Nat) : Prop := ∀ {d : Nat} {K : Option Value → zH → Prop} {zp0 : Int32}  {M0 : zH} (hW : z_W M0 T) (hz0 : z_F M0 19 24 = some (.int zp0)) (bz0 : 0 ≤ zp0.toInt ∧ zp0.toInt ≤ 160) (hL : z_GL M0) (hm : 6 * (160 - zp0.toInt) + 4 < (N : Int)) (hd : 6 * (160 - zp0.toInt) + 4 ≤ (d : Int)) (kk : ∀ (x : Int32) (M1 : zH), z_X T zw199 M0 M1 → 0 ≤ x.toInt → x.toInt ≤ 1 → ∀ (w0 : Int32), z_F M1 19 24 = some (.int w0) → 0 ≤ w0.toInt ∧ w0.toInt ≤ 160 → zp0.toInt ≤ w0.toInt → K (some (.int x)) M1), z_ev (d + 6) 199 0 [some (.ref 19), none, none] [] M0 K
def zQ200 (T : List zK) (N : Nat) : Prop := ∀ {d : Nat} {K : Option Value → zH → Prop} {zp0 : Int32}  {M0 : zH} (hW : z_W M0 T) (hz0 : z_F M0 19 24 = some (.int zp0)) (bz0 : 0 ≤ zp0.toInt ∧ zp0.toInt ≤ 160) (hL : z_GL M0) (hm : 6 * (160 - zp0.toInt) + 3 < (N : Int)) (hd : 6 * (160 - zp0.toInt) + 3 ≤ (d : Int)) (kk : ∀ (x : Int32) (M1 : zH), z_X T zw200 M0 M1 → 0 ≤ x.toInt → x.toInt ≤ 1 → ∀ (w0 : Int32), z_F M1 19 24 = some (.int w0) → 0 ≤ w0.toInt ∧ w0.toInt ≤ 160 → zp0.toInt ≤ w0.toInt → K (some (.int x)) M1), z_ev (d + 6) 200 0 [some (.ref 19), none, none] [] M0 K
def zQ201 (T : List zK) (N : Nat) : Prop := ∀ {d : Nat} {K : Option Value → zH → Prop} {zp0 : Int32}  {M0 : zH} (hW : z_W M0 T) (hz0 : z_F M0 19 24 = some (.int zp0)) (bz0 : 0 ≤ zp0.toInt ∧ zp0.toInt ≤ 160) (hL : z_GL M0) (hm : 6 * (160 - zp0.toInt) + 2 < (N : Int)) (hd : 6 * (160 - zp0.toInt) + 2 ≤ (d : Int)) (kk : ∀ (x : Int32) (M1 : zH), z_X T zw201 M0 M1 → 0 ≤ x.toInt → x.toInt ≤ 1 → ∀ (w0 : Int32), z_F M1 19 24 = some (.int w0) → 0 ≤ w0.toInt ∧ w0.toInt ≤ 160 → zp0.toInt ≤ w0.toInt → K (some (.int x)) M1), z_ev (d + 6) 201 0 [some (.ref 19), none, none] [] M0 K
def zQ202 (T : List zK) (N : Nat) : Prop := ∀ {d : Nat} {K : Option Value → zH → Prop} {zp0 : Int32}  {M0 : zH} (hW : z_W M0 T) (hz0 : z_F M0 19 24 = some (.int zp0)) (bz0 : 0 ≤ zp0.toInt ∧ zp0.toInt ≤ 160) (hL : z_GL M0) (hm : 6 * (160 - zp0.toInt) + 1 < (N : Int)) (hd : 6 * (160 - zp0.toInt) + 1 ≤ (d : Int)) (kk : ∀ (x : Int32) (M1 : zH), z_X T zw202 M0 M1 → 0 ≤ x.toInt → x.toInt ≤ 1 → ∀ (w0 : Int32), z_F M1 19 24 = some (.int w0) → 0 ≤ w0.toInt ∧ w0.toInt ≤ 160 → zp0.toInt ≤ w0.toInt → K (some (.int x)) M1), z_ev (d + 6) 202 0 [some (.ref 19), none, none] [] M0 K
def zQ204 (T : List zK) (N : Nat) : Prop := ∀ {d : Nat} {K : Option Value → zH → Prop} {p1 : Int32} {zp0 : Int32}  {M0 : zH} (hW : z_W M0 T) (u1 : 1 ≤ p1.toInt ∧ p1.toInt ≤ 9) (hz0 : z_F M0 19 24 = some (.int zp0)) (bz0 : 0 ≤ zp0.toInt ∧ zp0.toInt ≤ 159) (hL : z_GL M0) (hm : 6 * (160 - zp0.toInt) + 0 < (N : Int)) (hd : 6 * (160 - zp0.toInt) + 0 ≤ (d : Int)) (kk : ∀ (x : Int32) (M1 : zH), z_X T zw204 M0 M1 → 0 ≤ x.toInt → x.toInt ≤ 1 → ∀ (w0 : Int32), z_F M1 19 24 = some (.int w0) → 0 ≤ w0.toInt ∧ w0.toInt ≤ 160 → zp0.toInt ≤ w0.toInt → K (some (.int x)) M1), z_ev (d + 6) 204 0 [some (.ref 19), some (.int p1), none, none] [] M0 K
theorem zB198 {T : List zK} {d : Nat} {K : Option Value → zH → Prop} {zp0 : Int32} {N : Nat} {M0 : zH} (hz0 : z_F M0 19 24 = some (.int zp0)) (bz0 : 0 ≤ zp0.toInt ∧ zp0.toInt ≤ 160) (hL : z_GL M0) (ih198 : zQ198 T N) (ih199 : zQ199 T N) (ih200 : zQ200 T N) (ih201 : zQ201 T N) (ih202 : zQ202 T N) (ih204 : zQ204 T N) (hm : 6 * (160 - zp0.toInt) + 5 < (N : Int) + 1) (hd : 6 * (160 - zp0.toInt) + 5 ≤ (d : Int)) (kk : ∀ (x : Int32) (M1 : zH), z_X T zw198 M0 M1 → 0 ≤ x.toInt → x.toInt ≤ 1 → ∀ (w0 : Int32), z_F M1 19 24 = some (.int w0) → 0 ≤ w0.toInt ∧ w0.toInt ≤ 160 → zp0.toInt ≤ w0.toInt → K (some (.int x)) M1) : ∀ n : Nat, (∀ (M : zH) (b1 : Int32) (o2 : Option Value) (z0 : Int32), z_X T zw198 M0 M → 0 ≤ b1.toInt ∧ b1.toInt ≤ 1 → z_F M 19 24 = some (.int z0) → 0 ≤ z0.toInt ∧ z0.toInt ≤ 160 → zp0.toInt ≤ z0.toInt → ((0) * 2 + 0) * 161 + (160 - z0.toInt) < (n : Int) → z_ev (d + 6) 198 5 [some (.ref 19), some (.int b1), o2] [] M K) := by
  intro n
  induction n with
  | zero => exact by intros; exfalso; omega
  | succ n ih =>
    intro M b1 o2 z0 X hh0 hp0 hh2 hh3 hE
    refine z_xP zt198 3 8 [some (.ref 19), some (.int b1), o2] [.int 61, .ref 19] rfl rfl ?_
    have f19 : T[19]? = some (.inl (12, 0, 0, 0, 0)) := X.1.k rfl (by decide)
    refine z_xcV (vs := [.ref 19, .int 61]) (r := []) (L2 := [some (.ref 19), some (.int 61)]) zt198 4 rfl zo198 zzcV12_147 (Or.inl rfl) rfl X f19 rfl rfl rfl (Nat.le_of_ble_eq_true rfl) zzm192 (Nat.le_of_ble_eq_true rfl) rfl ?_
    refine z_xP zt192 0 1 [some (.ref 19), some (.int 61)] [.ref 19] rfl rfl ?_
    refine z_xgI zt192 1 rfl zo192 zzf12_136 X f19 (by decide) (by decide) rfl (fun (x2 : Int32) h1 (h3 : (-2147483648) ≤ x2.toInt) (h4 : x2.toInt ≤ 2147483647) => ?_)
    refine z_xZ zt192 2 rfl rfl (fun (h5 : 0 ≤ x2.toInt) => ?_) (fun (h5 : x2.toInt < 0) => ?_)
    · skip
      refine z_xP zt192 7 16 [some (.ref 19), some (.int 61)] [.int 0] rfl rfl ?_
      refine z_xrz zt192 8 rfl zzr192 (by decide) (by decide) ?_
      show z_ev (d + 6) 198 11 [some (.ref 19), some (.int b1), o2] [.int 0] M _
      refine z_xZ zt198 5 rfl rfl (fun (h6 : (0 : Int) = 0) => ?_) (fun (h6 : (0 : Int) ≠ 0) => absurd h6 (by omega))
      refine z_xP zt198 13 34 [some (.ref 19), some (.int b1), o2] [.int b1] rfl rfl ?_
      exact z_xrz zt198 14 rfl zzr198 (by omega) (by omega) (kk b1 M X (by omega) (by omega) z0 hp0 ⟨by omega, by omega⟩ (by omega))
    refine z_xP zt192 3 8 [some (.ref 19), some (.int 61)] [.ref 19] rfl rfl ?_
    refine z_xcV (vs := [.ref 19]) (r := []) (L2 := [some (.ref 19)]) zt192 4 rfl zo192 zzcV12_139 (Or.inl rfl) rfl X f19 rfl rfl rfl (Nat.le_of_ble_eq_true rfl) zzm193 (Nat.le_of_ble_eq_true rfl) rfl ?_
    refine z_xP zt193 0 1 [some (.ref 19)] [.ref 19] rfl rfl ?_
    refine z_xgv zt193 1 rfl zo193 zzf12_123 X f19 (by decide) hp0 ?_
    refine z_xP zt193 2 5 [some (.ref 19)] [.ref 19, .int z0] rfl rfl ?_
    refine z_xgI zt193 3 rfl zo193 zzf12_126 X f19 (by decide) (by decide) rfl (fun (x8 : Int32) h7 (h9 : 0 ≤ x8.toInt) (h10 : x8.toInt ≤ 160) => ?_)
    refine z_xJ zt193 4 rfl rfl (fun (h11 : x8.toInt ≤ z0.toInt) => ?_) (fun (h11 : z0.toInt < x8.toInt) => ?_)
    · skip
      refine z_xP zt193 24 52 [some (.ref 19)] [.int 0] rfl rfl ?_
      refine z_xri zt193 25 rfl zzr193 ?_
      show z_ev (d + 5) 192 11 [some (.ref 19), some (.int 61)] [.int 0] M _
      refine z_xP zt192 5 12 [some (.ref 19), some (.int 61)] [.int 61, .int 0] rfl rfl ?_
      refine z_xJ zt192 6 rfl rfl (fun (h12 : (0 : Int) = 61) => absurd h12 (by omega)) (fun (h12 : (0 : Int) ≠ 61) => ?_)
      refine z_xP zt192 7 16 [some (.ref 19), some (.int 61)] [.int 0] rfl rfl ?_
      refine z_xrz zt192 8 rfl zzr192 (by decide) (by decide) ?_
      show z_ev (d + 6) 198 11 [some (.ref 19), some (.int b1), o2] [.int 0] M _
      refine z_xZ zt198 5 rfl rfl (fun (h13 : (0 : Int) = 0) => ?_) (fun (h13 : (0 : Int) ≠ 0) => absurd h13 (by omega))
      refine z_xP zt198 13 34 [some (.ref 19), some (.int b1), o2] [.int b1] rfl rfl ?_
      exact z_xrz zt198 14 rfl zzr198 (by omega) (by omega) (kk b1 M X (by omega) (by omega) z0 hp0 ⟨by omega, by omega⟩ (by omega))
    refine z_xP zt193 5 12 [some (.ref 19)] [.ref 19] rfl rfl ?_
    refine z_xgI zt193 6 rfl zo193 zzf12_129 X f19 (by decide) (by decide) rfl (fun (x15 : Int32) h14 (h16 : 0 ≤ x15.toInt) (h17 : x15.toInt ≤ 1) => ?_)
    refine z_xZ zt193 7 rfl rfl (fun (h18 : x15.toInt = 0) => ?_) (fun (h18 : x15.toInt ≠ 0) => ?_)
    · skip
      refine z_xP zt193 14 31 [some (.ref 19)] [.ref 19] rfl rfl ?_
      refine z_xgX (b := 21) zt193 15 rfl zo193 zzf12_13 X f19 (by decide) (by decide) rfl ?_
      refine z_xP zt193 16 38 [some (.ref 19)] [.ref 19, .int 160, .ref 21] rfl rfl ?_
      refine z_xgI zt193 17 rfl zo193 zzf12_133 X f19 (by decide) (by decide) rfl (fun (x20 : Int32) h19 (h21 : 0 ≤ x20.toInt) (h22 : x20.toInt ≤ 7) => ?_)
      refine z_xI zt193 18 rfl rfl (fun (x23 : Int32) (h24 : x23.toInt = 160 * x20.toInt) => ?_) (z_pMul rfl rfl (by omega) (by omega))
      refine z_xP zt193 19 43 [some (.ref 19)] [.ref 19, .int x23, .ref 21] rfl rfl ?_
      refine z_xgv zt193 20 rfl zo193 zzf12_123 X f19 (by decide) hp0 ?_
      refine z_xI zt193 21 rfl rfl (fun (x25 : Int32) (h26 : x25.toInt = x23.toInt + z0.toInt) => ?_) (z_pAdd rfl rfl (by omega) (by omega))
      have f21 : T[21]? = some (.inr (21, 0, 1280, (-2147483648), 2147483647)) := X.1.k rfl (by decide)
      refine z_xil zt193 22 rfl X f21 (by decide) (by omega) (by omega) (fun (x27 : Int32) h28 (h29 : (-2147483648) ≤ x27.toInt) (h30 : x27.toInt ≤ 2147483647) => ?_)
      refine z_xP zt193 23 52 [some (.ref 19)] [.int x27] rfl rfl ?_
      refine z_xri zt193 25 rfl zzr193 ?_
      show z_ev (d + 5) 192 11 [some (.ref 19), some (.int 61)] [.int x27] M _
      refine z_xP zt192 5 12 [some (.ref 19), some (.int 61)] [.int 61, .int x27] rfl rfl ?_
      refine z_xJ zt192 6 rfl rfl (fun (h31 : x27.toInt = 61) => ?_) (fun (h31 : x27.toInt ≠ 61) => ?_)
      · skip
        refine z_xP zt192 9 19 [some (.ref 19), some (.int 61)] [.ref 19, .ref 19] rfl rfl ?_
        refine z_xgv zt192 10 rfl zo192 zzf12_123 X f19 (by decide) hp0 ?_
        refine z_xP zt192 11 23 [some (.ref 19), some (.int 61)] [.int 1, .int z0, .ref 19] rfl rfl ?_
        refine z_xI zt192 12 rfl rfl (fun (x32 : Int32) (h33 : x32.toInt = z0.toInt + 1) => ?_) (z_pAdd rfl rfl (by omega) (by omega))
        refine z_xpf zt192 13 rfl zo192 zzf12_123 X f19 (by decide) (by decide) ⟨by omega, by omega⟩ rfl (by decide) zw12_24 (fun M34 X35 e36 h37 => ?_)
        refine z_xP zt192 14 28 [some (.ref 19), some (.int 61)] [.int 1] rfl rfl ?_
        refine z_xrz zt192 15 rfl zzr192 (by decide) (by decide) ?_
        show z_ev (d + 6) 198 11 [some (.ref 19), some (.int b1), o2] [.int 1] M34 _
        refine z_xZ zt198 5 rfl rfl (fun (h38 : (1 : Int) = 0) => absurd h38 (by omega)) (fun (h38 : (1 : Int) ≠ 0) => ?_)
        refine z_xP zt198 6 15 [some (.ref 19), some (.int b1), o2] [.ref 19] rfl rfl ?_
        obtain ⟨d39, hdd39⟩ : ∃ e, d = e + 1 := ⟨d - 1, by omega⟩
        subst hdd39
        refine z_xcV (vs := [.ref 19]) (r := []) (L2 := [some (.ref 19), none, none]) zt198 7 rfl zo198 zzcV12_143 (Or.inl rfl) rfl X35 f19 rfl rfl rfl (Nat.le_of_ble_eq_true rfl) zzm199 (Nat.le_of_ble_eq_true rfl) rfl ?_
        refine ih199 X35.1 h37 ⟨by omega, by omega⟩ (z_GL.go hL X35 (by decide)) (by omega) (by omega) (fun x46 M40 X41 h47 h48 z42 h43 h44 h45 => ?_)
        have X49 := X35.go X41 (z_sb (by decide))
        show z_ev (d39 + 1 + 6) 198 18 [some (.ref 19), some (.int b1), o2] [.int x46] M40 _
        refine z_xP zt198 8 21 [some (.ref 19), some (.int b1), some (.int x46)] [.int x46, .int b1] rfl rfl ?_
        refine z_xJ zt198 9 rfl rfl (fun (h51 : b1.toInt ≠ x46.toInt) => ?_) (fun (h51 : b1.toInt = x46.toInt) => ?_)
        · skip
          refine z_xP zt198 11 29 [some (.ref 19), some (.int b1), some (.int x46)] [.int 0] rfl rfl ?_
          refine z_xP zt198 12 5 [some (.ref 19), some (.int 0), some (.int x46)] [] rfl rfl ?_
          have q0 : ((0 : Int32)).toInt = 0 := rfl
          exact ih M40 (0) (some (.int x46)) z42 X49 (by decide) h43 ⟨by omega, by omega⟩ (by omega) (by omega)
        refine z_xP zt198 10 29 [some (.ref 19), some (.int b1), some (.int x46)] [.int 1] rfl rfl ?_
        refine z_xP zt198 12 5 [some (.ref 19), some (.int 1), some (.int x46)] [] rfl rfl ?_
        have q1 : ((1 : Int32)).toInt = 1 := rfl
        exact ih M40 (1) (some (.int x46)) z42 X49 (by decide) h43 ⟨by omega, by omega⟩ (by omega) (by omega)
      refine z_xP zt192 7 16 [some (.ref 19), some (.int 61)] [.int 0] rfl rfl ?_
      refine z_xrz zt192 8 rfl zzr192 (by decide) (by decide) ?_
      show z_ev (d + 6) 198 11 [some (.ref 19), some (.int b1), o2] [.int 0] M _
      refine z_xZ zt198 5 rfl rfl (fun (h52 : (0 : Int) = 0) => ?_) (fun (h52 : (0 : Int) ≠ 0) => absurd h52 (by omega))
      refine z_xP zt198 13 34 [some (.ref 19), some (.int b1), o2] [.int b1] rfl rfl ?_
      exact z_xrz zt198 14 rfl zzr198 (by omega) (by omega) (kk b1 M X (by omega) (by omega) z0 hp0 ⟨by omega, by omega⟩ (by omega))
    refine z_xP zt193 8 19 [some (.ref 19)] [.ref 19] rfl rfl ?_
    refine z_xgX (b := 20) zt193 9 rfl zo193 zzf12_9 X f19 (by decide) (by decide) rfl ?_
    refine z_xP zt193 10 23 [some (.ref 19)] [.ref 19, .ref 20] rfl rfl ?_
    refine z_xgv zt193 11 rfl zo193 zzf12_123 X f19 (by decide) hp0 ?_
    have f20 : T[20]? = some (.inr (20, 0, 160, (-2147483648), 2147483647)) := X.1.k rfl (by decide)
    refine z_xil zt193 12 rfl X f20 (by decide) (by omega) (by omega) (fun (x53 : Int32) h54 (h55 : (-2147483648) ≤ x53.toInt) (h56 : x53.toInt ≤ 2147483647) => ?_)
    refine z_xP zt193 13 52 [some (.ref 19)] [.int x53] rfl rfl ?_
    refine z_xri zt193 25 rfl zzr193 ?_
    show z_ev (d + 5) 192 11 [some (.ref 19), some (.int 61)] [.int x53] M _
    refine z_xP zt192 5 12 [some (.ref 19), some (.int 61)] [.int 61, .int x53] rfl rfl ?_
    refine z_xJ zt192 6 rfl rfl (fun (h57 : x53.toInt = 61) => ?_) (fun (h57 : x53.toInt ≠ 61) => ?_)
    · skip
      refine z_xP zt192 9 19 [some (.ref 19), some (.int 61)] [.ref 19, .ref 19] rfl rfl ?_
      refine z_xgv zt192 10 rfl zo192 zzf12_123 X f19 (by decide) hp0 ?_
      refine z_xP zt192 11 23 [some (.ref 19), some (.int 61)] [.int 1, .int z0, .ref 19] rfl rfl ?_
      refine z_xI zt192 12 rfl rfl (fun (x58 : Int32) (h59 : x58.toInt = z0.toInt + 1) => ?_) (z_pAdd rfl rfl (by omega) (by omega))
      refine z_xpf zt192 13 rfl zo192 zzf12_123 X f19 (by decide) (by decide) ⟨by omega, by omega⟩ rfl (by decide) zw12_24 (fun M60 X61 e62 h63 => ?_)
      refine z_xP zt192 14 28 [some (.ref 19), some (.int 61)] [.int 1] rfl rfl ?_
      refine z_xrz zt192 15 rfl zzr192 (by decide) (by decide) ?_
      show z_ev (d + 6) 198 11 [some (.ref 19), some (.int b1), o2] [.int 1] M60 _
      refine z_xZ zt198 5 rfl rfl (fun (h64 : (1 : Int) = 0) => absurd h64 (by omega)) (fun (h64 : (1 : Int) ≠ 0) => ?_)
      refine z_xP zt198 6 15 [some (.ref 19), some (.int b1), o2] [.ref 19] rfl rfl ?_
      obtain ⟨d65, hdd65⟩ : ∃ e, d = e + 1 := ⟨d - 1, by omega⟩
      subst hdd65
      refine z_xcV (vs := [.ref 19]) (r := []) (L2 := [some (.ref 19), none, none]) zt198 7 rfl zo198 zzcV12_143 (Or.inl rfl) rfl X61 f19 rfl rfl rfl (Nat.le_of_ble_eq_true rfl) zzm199 (Nat.le_of_ble_eq_true rfl) rfl ?_
      refine ih199 X61.1 h63 ⟨by omega, by omega⟩ (z_GL.go hL X61 (by decide)) (by omega) (by omega) (fun x72 M66 X67 h73 h74 z68 h69 h70 h71 => ?_)
      have X75 := X61.go X67 (z_sb (by decide))
      show z_ev (d65 + 1 + 6) 198 18 [some (.ref 19), some (.int b1), o2] [.int x72] M66 _
      refine z_xP zt198 8 21 [some (.ref 19), some (.int b1), some (.int x72)] [.int x72, .int b1] rfl rfl ?_
      refine z_xJ zt198 9 rfl rfl (fun (h77 : b1.toInt ≠ x72.toInt) => ?_) (fun (h77 : b1.toInt = x72.toInt) => ?_)
      · skip
        refine z_xP zt198 11 29 [some (.ref 19), some (.int b1), some (.int x72)] [.int 0] rfl rfl ?_
        refine z_xP zt198 12 5 [some (.ref 19), some (.int 0), some (.int x72)] [] rfl rfl ?_
        have q0 : ((0 : Int32)).toInt = 0 := rfl
        exact ih M66 (0) (some (.int x72)) z68 X75 (by decide) h69 ⟨by omega, by omega⟩ (by omega) (by omega)
      refine z_xP zt198 10 29 [some (.ref 19), some (.int b1), some (.int x72)] [.int 1] rfl rfl ?_
      refine z_xP zt198 12 5 [some (.ref 19), some (.int 1), some (.int x72)] [] rfl rfl ?_
      have q1 : ((1 : Int32)).toInt = 1 := rfl
      exact ih M66 (1) (some (.int x72)) z68 X75 (by decide) h69 ⟨by omega, by omega⟩ (by omega) (by omega)
    refine z_xP zt192 7 16 [some (.ref 19), some (.int 61)] [.int 0] rfl rfl ?_
    refine z_xrz zt192 8 rfl zzr192 (by decide) (by decide) ?_
    show z_ev (d + 6) 198 11 [some (.ref 19), some (.int b1), o2] [.int 0] M _
    refine z_xZ zt198 5 rfl rfl (fun (h78 : (0 : Int) = 0) => ?_) (fun (h78 : (0 : Int) ≠ 0) => absurd h78 (by omega))
    refine z_xP zt198 13 34 [some (.ref 19), some (.int b1), o2] [.int b1] rfl rfl ?_
    exact z_xrz zt198 14 rfl zzr198 (by omega) (by omega) (kk b1 M X (by omega) (by omega) z0 hp0 ⟨by omega, by omega⟩ (by omega))
theorem zC198r {T : List zK} {d : Nat} {K : Option Value → zH → Prop} {zp0 : Int32} {N : Nat} {M0 : zH} (hW : z_W M0 T) (hz0 : z_F M0 19 24 = some (.int zp0)) (bz0 : 0 ≤ zp0.toInt ∧ zp0.toInt ≤ 160) (hL : z_GL M0) (ih198 : zQ198 T N) (ih199 : zQ199 T N) (ih200 : zQ200 T N) (ih201 : zQ201 T N) (ih202 : zQ202 T N) (ih204 : zQ204 T N) (hm : 6 * (160 - zp0.toInt) + 5 < (N : Int) + 1) (hd : 6 * (160 - zp0.toInt) + 5 ≤ (d : Int)) (kk : ∀ (x : Int32) (M1 : zH), z_X T zw198 M0 M1 → 0 ≤ x.toInt → x.toInt ≤ 1 → ∀ (w0 : Int32), z_F M1 19 24 = some (.int w0) → 0 ≤ w0.toInt ∧ w0.toInt ≤ 160 → zp0.toInt ≤ w0.toInt → K (some (.int x)) M1) : z_ev (d + 6) 198 0 [some (.ref 19), none, none] [] M0 K := by
  have X : z_X T zw198 M0 M0 := .refl hW
  refine z_xP zt198 0 1 [some (.ref 19), none, none] [.ref 19] rfl rfl ?_
  have f19 : T[19]? = some (.inl (12, 0, 0, 0, 0)) := X.1.k rfl (by decide)
  obtain ⟨d1, hdd1⟩ : ∃ e, d = e + 1 := ⟨d - 1, by omega⟩
  subst hdd1
  refine z_xcV (vs := [.ref 19]) (r := []) (L2 := [some (.ref 19), none, none]) zt198 1 rfl zo198 zzcV12_143 (Or.inl rfl) rfl X f19 rfl rfl rfl (Nat.le_of_ble_eq_true rfl) zzm199 (Nat.le_of_ble_eq_true rfl) rfl ?_
  refine ih199 X.1 hz0 ⟨by omega, by omega⟩ (z_GL.go hL X (by decide)) (by omega) (by omega) (fun x8 M2 X3 h9 h10 z4 h5 h6 h7 => ?_)
  have X11 := X.go X3 (z_sb (by decide))
  show z_ev (d1 + 1 + 6) 198 4 [some (.ref 19), none, none] [.int x8] M2 _
  refine z_xP zt198 2 5 [some (.ref 19), some (.int x8), none] [] rfl rfl ?_
  exact (zB198 hz0 bz0 hL ih198 ih199 ih200 ih201 ih202 ih204 hm hd kk 322) M2 x8 none z4 X11 ⟨by omega, by omega⟩ h5 ⟨by omega, by omega⟩ (by omega) (by omega)
theorem zC199r {T : List zK} {d : Nat} {K : Option Value → zH → Prop} {zp0 : Int32} {N : Nat} {M0 : zH} (hW : z_W M0 T) (hz0 : z_F M0 19 24 = some (.int zp0)) (bz0 : 0 ≤ zp0.toInt ∧ zp0.toInt ≤ 160) (hL : z_GL M0) (ih198 : zQ198 T N) (ih199 : zQ199 T N) (ih200 : zQ200 T N) (ih201 : zQ201 T N) (ih202 : zQ202 T N) (ih204 : zQ204 T N) (hm : 6 * (160 - zp0.toInt) + 4 < (N : Int) + 1) (hd : 6 * (160 - zp0.toInt) + 4 ≤ (d : Int)) (kk : ∀ (x : Int32) (M1 : zH), z_X T zw199 M0 M1 → 0 ≤ x.toInt → x.toInt ≤ 1 → ∀ (w0 : Int32), z_F M1 19 24 = some (.int w0) → 0 ≤ w0.toInt ∧ w0.toInt ≤ 160 → zp0.toInt ≤ w0.toInt → K (some (.int x)) M1) : z_ev (d + 6) 199 0 [some (.ref 19), none, none] [] M0 K := by
  have X : z_X T zw199 M0 M0 := .refl hW
  refine z_xP zt199 0 1 [some (.ref 19), none, none] [.ref 19] rfl rfl ?_
  have f19 : T[19]? = some (.inl (12, 0, 0, 0, 0)) := X.1.k rfl (by decide)
  obtain ⟨d1, hdd1⟩ : ∃ e, d = e + 1 := ⟨d - 1, by omega⟩
  subst hdd1
  refine z_xcV (vs := [.ref 19]) (r := []) (L2 := [some (.ref 19), none, none]) zt199 1 rfl zo199 zzcV12_151 (Or.inl rfl) rfl X f19 rfl rfl rfl (Nat.le_of_ble_eq_true rfl) zzm200 (Nat.le_of_ble_eq_true rfl) rfl ?_
  refine ih200 X.1 hz0 ⟨by omega, by omega⟩ (z_GL.go hL X (by decide)) (by omega) (by omega) (fun x8 M2 X3 h9 h10 z4 h5 h6 h7 => ?_)
  have X11 := X.go X3 (z_sb (by decide))
  show z_ev (d1 + 1 + 6) 199 4 [some (.ref 19), none, none] [.int x8] M2 _
  refine z_xP zt199 2 8 [some (.ref 19), some (.int x8), none] [.int 62, .ref 19] rfl rfl ?_
  refine z_xcV (vs := [.ref 19, .int 62]) (r := []) (L2 := [some (.ref 19), some (.int 62)]) zt199 3 rfl zo199 zzcV12_147 (Or.inl rfl) rfl X11 f19 rfl rfl rfl (Nat.le_of_ble_eq_true rfl) zzm192 (Nat.le_of_ble_eq_true rfl) rfl ?_
  refine z_xP zt192 0 1 [some (.ref 19), some (.int 62)] [.ref 19] rfl rfl ?_
  refine z_xgI zt192 1 rfl zo192 zzf12_136 X11 f19 (by decide) (by decide) rfl (fun (x14 : Int32) h13 (h15 : (-2147483648) ≤ x14.toInt) (h16 : x14.toInt ≤ 2147483647) => ?_)
  refine z_xZ zt192 2 rfl rfl (fun (h17 : 0 ≤ x14.toInt) => ?_) (fun (h17 : x14.toInt < 0) => ?_)
  · skip
    refine z_xP zt192 7 16 [some (.ref 19), some (.int 62)] [.int 0] rfl rfl ?_
    refine z_xrz zt192 8 rfl zzr192 (by decide) (by decide) ?_
    show z_ev (d1 + 1 + 6) 199 11 [some (.ref 19), some (.int x8), none] [.int 0] M2 _
    refine z_xZ zt199 4 rfl rfl (fun (h18 : (0 : Int) = 0) => ?_) (fun (h18 : (0 : Int) ≠ 0) => absurd h18 (by omega))
    refine z_xP zt199 14 34 [some (.ref 19), some (.int x8), none] [.int x8] rfl rfl ?_
    exact z_xrz zt199 15 rfl zzr199 (by omega) (by omega) (kk x8 M2 X11 (by omega) (by omega) z4 h5 ⟨by omega, by omega⟩ (by omega))
  refine z_xP zt192 3 8 [some (.ref 19), some (.int 62)] [.ref 19] rfl rfl ?_
  refine z_xcV (vs := [.ref 19]) (r := []) (L2 := [some (.ref 19)]) zt192 4 rfl zo192 zzcV12_139 (Or.inl rfl) rfl X11 f19 rfl rfl rfl (Nat.le_of_ble_eq_true rfl) zzm193 (Nat.le_of_ble_eq_true rfl) rfl ?_
  refine z_xP zt193 0 1 [some (.ref 19)] [.ref 19] rfl rfl ?_
  refine z_xgv zt193 1 rfl zo193 zzf12_123 X11 f19 (by decide) h5 ?_
  refine z_xP zt193 2 5 [some (.ref 19)] [.ref 19, .int z4] rfl rfl ?_
  refine z_xgI zt193 3 rfl zo193 zzf12_126 X11 f19 (by decide) (by decide) rfl (fun (x20 : Int32) h19 (h21 : 0 ≤ x20.toInt) (h22 : x20.toInt ≤ 160) => ?_)
  refine z_xJ zt193 4 rfl rfl (fun (h23 : x20.toInt ≤ z4.toInt) => ?_) (fun (h23 : z4.toInt < x20.toInt) => ?_)
  · skip
    refine z_xP zt193 24 52 [some (.ref 19)] [.int 0] rfl rfl ?_
    refine z_xri zt193 25 rfl zzr193 ?_
    show z_ev (d1 + 1 + 5) 192 11 [some (.ref 19), some (.int 62)] [.int 0] M2 _
    refine z_xP zt192 5 12 [some (.ref 19), some (.int 62)] [.int 62, .int 0] rfl rfl ?_
    refine z_xJ zt192 6 rfl rfl (fun (h24 : (0 : Int) = 62) => absurd h24 (by omega)) (fun (h24 : (0 : Int) ≠ 62) => ?_)
    refine z_xP zt192 7 16 [some (.ref 19), some (.int 62)] [.int 0] rfl rfl ?_
    refine z_xrz zt192 8 rfl zzr192 (by decide) (by decide) ?_
    show z_ev (d1 + 1 + 6) 199 11 [some (.ref 19), some (.int x8), none] [.int 0] M2 _
    refine z_xZ zt199 4 rfl rfl (fun (h25 : (0 : Int) = 0) => ?_) (fun (h25 : (0 : Int) ≠ 0) => absurd h25 (by omega))
    refine z_xP zt199 14 34 [some (.ref 19), some (.int x8), none] [.int x8] rfl rfl ?_
    exact z_xrz zt199 15 rfl zzr199 (by omega) (by omega) (kk x8 M2 X11 (by omega) (by omega) z4 h5 ⟨by omega, by omega⟩ (by omega))
  refine z_xP zt193 5 12 [some (.ref 19)] [.ref 19] rfl rfl ?_
  refine z_xgI zt193 6 rfl zo193 zzf12_129 X11 f19 (by decide) (by decide) rfl (fun (x27 : Int32) h26 (h28 : 0 ≤ x27.toInt) (h29 : x27.toInt ≤ 1) => ?_)
  refine z_xZ zt193 7 rfl rfl (fun (h30 : x27.toInt = 0) => ?_) (fun (h30 : x27.toInt ≠ 0) => ?_)
  · skip
    refine z_xP zt193 14 31 [some (.ref 19)] [.ref 19] rfl rfl ?_
    refine z_xgX (b := 21) zt193 15 rfl zo193 zzf12_13 X11 f19 (by decide) (by decide) rfl ?_
    refine z_xP zt193 16 38 [some (.ref 19)] [.ref 19, .int 160, .ref 21] rfl rfl ?_
    refine z_xgI zt193 17 rfl zo193 zzf12_133 X11 f19 (by decide) (by decide) rfl (fun (x32 : Int32) h31 (h33 : 0 ≤ x32.toInt) (h34 : x32.toInt ≤ 7) => ?_)
    refine z_xI zt193 18 rfl rfl (fun (x35 : Int32) (h36 : x35.toInt = 160 * x32.toInt) => ?_) (z_pMul rfl rfl (by omega) (by omega))
    refine z_xP zt193 19 43 [some (.ref 19)] [.ref 19, .int x35, .ref 21] rfl rfl ?_
    refine z_xgv zt193 20 rfl zo193 zzf12_123 X11 f19 (by decide) h5 ?_
    refine z_xI zt193 21 rfl rfl (fun (x37 : Int32) (h38 : x37.toInt = x35.toInt + z4.toInt) => ?_) (z_pAdd rfl rfl (by omega) (by omega))
    have f21 : T[21]? = some (.inr (21, 0, 1280, (-2147483648), 2147483647)) := X11.1.k rfl (by decide)
    refine z_xil zt193 22 rfl X11 f21 (by decide) (by omega) (by omega) (fun (x39 : Int32) h40 (h41 : (-2147483648) ≤ x39.toInt) (h42 : x39.toInt ≤ 2147483647) => ?_)
    refine z_xP zt193 23 52 [some (.ref 19)] [.int x39] rfl rfl ?_
    refine z_xri zt193 25 rfl zzr193 ?_
    show z_ev (d1 + 1 + 5) 192 11 [some (.ref 19), some (.int 62)] [.int x39] M2 _
    refine z_xP zt192 5 12 [some (.ref 19), some (.int 62)] [.int 62, .int x39] rfl rfl ?_
    refine z_xJ zt192 6 rfl rfl (fun (h43 : x39.toInt = 62) => ?_) (fun (h43 : x39.toInt ≠ 62) => ?_)
    · skip
      refine z_xP zt192 9 19 [some (.ref 19), some (.int 62)] [.ref 19, .ref 19] rfl rfl ?_
      refine z_xgv zt192 10 rfl zo192 zzf12_123 X11 f19 (by decide) h5 ?_
      refine z_xP zt192 11 23 [some (.ref 19), some (.int 62)] [.int 1, .int z4, .ref 19] rfl rfl ?_
      refine z_xI zt192 12 rfl rfl (fun (x44 : Int32) (h45 : x44.toInt = z4.toInt + 1) => ?_) (z_pAdd rfl rfl (by omega) (by omega))
      refine z_xpf zt192 13 rfl zo192 zzf12_123 X11 f19 (by decide) (by decide) ⟨by omega, by omega⟩ rfl (by decide) zw12_24 (fun M46 X47 e48 h49 => ?_)
      refine z_xP zt192 14 28 [some (.ref 19), some (.int 62)] [.int 1] rfl rfl ?_
      refine z_xrz zt192 15 rfl zzr192 (by decide) (by decide) ?_
      show z_ev (d1 + 1 + 6) 199 11 [some (.ref 19), some (.int x8), none] [.int 1] M46 _
      refine z_xZ zt199 4 rfl rfl (fun (h50 : (1 : Int) = 0) => absurd h50 (by omega)) (fun (h50 : (1 : Int) ≠ 0) => ?_)
      refine z_xP zt199 5 15 [some (.ref 19), some (.int x8), none] [.ref 19] rfl rfl ?_
      refine z_xcV (vs := [.ref 19]) (r := []) (L2 := [some (.ref 19), none, none]) zt199 6 rfl zo199 zzcV12_151 (Or.inl rfl) rfl X47 f19 rfl rfl rfl (Nat.le_of_ble_eq_true rfl) zzm200 (Nat.le_of_ble_eq_true rfl) rfl ?_
      refine ih200 X47.1 h49 ⟨by omega, by omega⟩ (z_GL.go hL X47 (by decide)) (by omega) (by omega) (fun x57 M51 X52 h58 h59 z53 h54 h55 h56 => ?_)
      have X60 := X47.go X52 (z_sb (by decide))
      show z_ev (d1 + 1 + 6) 199 18 [some (.ref 19), some (.int x8), none] [.int x57] M51 _
      refine z_xP zt199 7 20 [some (.ref 19), some (.int x8), some (.int x57)] [.int x8] rfl rfl ?_
      refine z_xZ zt199 8 rfl rfl (fun (h62 : x8.toInt = 0) => ?_) (fun (h62 : x8.toInt ≠ 0) => ?_)
      · skip
        refine z_xP zt199 11 32 [some (.ref 19), some (.int x8), some (.int x57)] [.int 1] rfl rfl ?_
        have q1 : ((1 : Int32)).toInt = 1 := rfl
        exact z_xrz zt199 13 rfl zzr199 (by decide) (by decide) (kk 1 M51 X60 (by omega) (by omega) z53 h54 ⟨by omega, by omega⟩ (by omega))
      refine z_xP zt199 9 24 [some (.ref 19), some (.int x8), some (.int x57)] [.int x57] rfl rfl ?_
      refine z_xZ zt199 10 rfl rfl (fun (h63 : x57.toInt = 0) => ?_) (fun (h63 : x57.toInt ≠ 0) => ?_)
      · skip
        refine z_xP zt199 12 32 [some (.ref 19), some (.int x8), some (.int x57)] [.int 0] rfl rfl ?_
        have q0 : ((0 : Int32)).toInt = 0 := rfl
        exact z_xrz zt199 13 rfl zzr199 (by decide) (by decide) (kk 0 M51 X60 (by omega) (by omega) z53 h54 ⟨by omega, by omega⟩ (by omega))
      refine z_xP zt199 11 32 [some (.ref 19), some (.int x8), some (.int x57)] [.int 1] rfl rfl ?_
      have q1 : ((1 : Int32)).toInt = 1 := rfl
      exact z_xrz zt199 13 rfl zzr199 (by decide) (by decide) (kk 1 M51 X60 (by omega) (by omega) z53 h54 ⟨by omega, by omega⟩ (by omega))
    refine z_xP zt192 7 16 [some (.ref 19), some (.int 62)] [.int 0] rfl rfl ?_
    refine z_xrz zt192 8 rfl zzr192 (by decide) (by decide) ?_
    show z_ev (d1 + 1 + 6) 199 11 [some (.ref 19), some (.int x8), none] [.int 0] M2 _
    refine z_xZ zt199 4 rfl rfl (fun (h64 : (0 : Int) = 0) => ?_) (fun (h64 : (0 : Int) ≠ 0) => absurd h64 (by omega))
    refine z_xP zt199 14 34 [some (.ref 19), some (.int x8), none] [.int x8] rfl rfl ?_
    exact z_xrz zt199 15 rfl zzr199 (by omega) (by omega) (kk x8 M2 X11 (by omega) (by omega) z4 h5 ⟨by omega, by omega⟩ (by omega))
  refine z_xP zt193 8 19 [some (.ref 19)] [.ref 19] rfl rfl ?_
  refine z_xgX (b := 20) zt193 9 rfl zo193 zzf12_9 X11 f19 (by decide) (by decide) rfl ?_
  refine z_xP zt193 10 23 [some (.ref 19)] [.ref 19, .ref 20] rfl rfl ?_
  refine z_xgv zt193 11 rfl zo193 zzf12_123 X11 f19 (by decide) h5 ?_
  have f20 : T[20]? = some (.inr (20, 0, 160, (-2147483648), 2147483647)) := X11.1.k rfl (by decide)
  refine z_xil zt193 12 rfl X11 f20 (by decide) (by omega) (by omega) (fun (x65 : Int32) h66 (h67 : (-2147483648) ≤ x65.toInt) (h68 : x65.toInt ≤ 2147483647) => ?_)
  refine z_xP zt193 13 52 [some (.ref 19)] [.int x65] rfl rfl ?_
  refine z_xri zt193 25 rfl zzr193 ?_
  show z_ev (d1 + 1 + 5) 192 11 [some (.ref 19), some (.int 62)] [.int x65] M2 _
  refine z_xP zt192 5 12 [some (.ref 19), some (.int 62)] [.int 62, .int x65] rfl rfl ?_
  refine z_xJ zt192 6 rfl rfl (fun (h69 : x65.toInt = 62) => ?_) (fun (h69 : x65.toInt ≠ 62) => ?_)
  · skip
    refine z_xP zt192 9 19 [some (.ref 19), some (.int 62)] [.ref 19, .ref 19] rfl rfl ?_
    refine z_xgv zt192 10 rfl zo192 zzf12_123 X11 f19 (by decide) h5 ?_
    refine z_xP zt192 11 23 [some (.ref 19), some (.int 62)] [.int 1, .int z4, .ref 19] rfl rfl ?_
    refine z_xI zt192 12 rfl rfl (fun (x70 : Int32) (h71 : x70.toInt = z4.toInt + 1) => ?_) (z_pAdd rfl rfl (by omega) (by omega))
    refine z_xpf zt192 13 rfl zo192 zzf12_123 X11 f19 (by decide) (by decide) ⟨by omega, by omega⟩ rfl (by decide) zw12_24 (fun M72 X73 e74 h75 => ?_)
    refine z_xP zt192 14 28 [some (.ref 19), some (.int 62)] [.int 1] rfl rfl ?_
    refine z_xrz zt192 15 rfl zzr192 (by decide) (by decide) ?_
    show z_ev (d1 + 1 + 6) 199 11 [some (.ref 19), some (.int x8), none] [.int 1] M72 _
    refine z_xZ zt199 4 rfl rfl (fun (h76 : (1 : Int) = 0) => absurd h76 (by omega)) (fun (h76 : (1 : Int) ≠ 0) => ?_)
    refine z_xP zt199 5 15 [some (.ref 19), some (.int x8), none] [.ref 19] rfl rfl ?_
    refine z_xcV (vs := [.ref 19]) (r := []) (L2 := [some (.ref 19), none, none]) zt199 6 rfl zo199 zzcV12_151 (Or.inl rfl) rfl X73 f19 rfl rfl rfl (Nat.le_of_ble_eq_true rfl) zzm200 (Nat.le_of_ble_eq_true rfl) rfl ?_
    refine ih200 X73.1 h75 ⟨by omega, by omega⟩ (z_GL.go hL X73 (by decide)) (by omega) (by omega) (fun x83 M77 X78 h84 h85 z79 h80 h81 h82 => ?_)
    have X86 := X73.go X78 (z_sb (by decide))
    show z_ev (d1 + 1 + 6) 199 18 [some (.ref 19), some (.int x8), none] [.int x83] M77 _
    refine z_xP zt199 7 20 [some (.ref 19), some (.int x8), some (.int x83)] [.int x8] rfl rfl ?_
    refine z_xZ zt199 8 rfl rfl (fun (h88 : x8.toInt = 0) => ?_) (fun (h88 : x8.toInt ≠ 0) => ?_)
    · skip
      refine z_xP zt199 11 32 [some (.ref 19), some (.int x8), some (.int x83)] [.int 1] rfl rfl ?_
      have q1 : ((1 : Int32)).toInt = 1 := rfl
      exact z_xrz zt199 13 rfl zzr199 (by decide) (by decide) (kk 1 M77 X86 (by omega) (by omega) z79 h80 ⟨by omega, by omega⟩ (by omega))
    refine z_xP zt199 9 24 [some (.ref 19), some (.int x8), some (.int x83)] [.int x83] rfl rfl ?_
    refine z_xZ zt199 10 rfl rfl (fun (h89 : x83.toInt = 0) => ?_) (fun (h89 : x83.toInt ≠ 0) => ?_)
    · skip
      refine z_xP zt199 12 32 [some (.ref 19), some (.int x8), some (.int x83)] [.int 0] rfl rfl ?_
      have q0 : ((0 : Int32)).toInt = 0 := rfl
      exact z_xrz zt199 13 rfl zzr199 (by decide) (by decide) (kk 0 M77 X86 (by omega) (by omega) z79 h80 ⟨by omega, by omega⟩ (by omega))
    refine z_xP zt199 11 32 [some (.ref 19), some (.int x8), some (.int x83)] [.int 1] rfl rfl ?_
    have q1 : ((1 : Int32)).toInt = 1 := rfl
    exact z_xrz zt199 13 rfl zzr199 (by decide) (by decide) (kk 1 M77 X86 (by omega) (by omega) z79 h80 ⟨by omega, by omega⟩ (by omega))
  refine z_xP zt192 7 16 [some (.ref 19), some (.int 62)] [.int 0] rfl rfl ?_
  refine z_xrz zt192 8 rfl zzr192 (by decide) (by decide) ?_
  show z_ev (d1 + 1 + 6) 199 11 [some (.ref 19), some (.int x8), none] [.int 0] M2 _
  refine z_xZ zt199 4 rfl rfl (fun (h90 : (0 : Int) = 0) => ?_) (fun (h90 : (0 : Int) ≠ 0) => absurd h90 (by omega))
  refine z_xP zt199 14 34 [some (.ref 19), some (.int x8), none] [.int x8] rfl rfl ?_
  exact z_xrz zt199 15 rfl zzr199 (by omega) (by omega) (kk x8 M2 X11 (by omega) (by omega) z4 h5 ⟨by omega, by omega⟩ (by omega))
theorem zB200 {T : List zK} {d : Nat} {K : Option Value → zH → Prop} {zp0 : Int32} {N : Nat} {M0 : zH} (hz0 : z_F M0 19 24 = some (.int zp0)) (bz0 : 0 ≤ zp0.toInt ∧ zp0.toInt ≤ 160) (hL : z_GL M0) (ih198 : zQ198 T N) (ih199 : zQ199 T N) (ih200 : zQ200 T N) (ih201 : zQ201 T N) (ih202 : zQ202 T N) (ih204 : zQ204 T N) (hm : 6 * (160 - zp0.toInt) + 3 < (N : Int) + 1) (hd : 6 * (160 - zp0.toInt) + 3 ≤ (d : Int)) (kk : ∀ (x : Int32) (M1 : zH), z_X T zw200 M0 M1 → 0 ≤ x.toInt → x.toInt ≤ 1 → ∀ (w0 : Int32), z_F M1 19 24 = some (.int w0) → 0 ≤ w0.toInt ∧ w0.toInt ≤ 160 → zp0.toInt ≤ w0.toInt → K (some (.int x)) M1) : ∀ n : Nat, (∀ (M : zH) (b1 : Int32) (o2 : Option Value) (z0 : Int32), z_X T zw200 M0 M → 0 ≤ b1.toInt ∧ b1.toInt ≤ 1 → z_F M 19 24 = some (.int z0) → 0 ≤ z0.toInt ∧ z0.toInt ≤ 160 → zp0.toInt ≤ z0.toInt → ((0) * 2 + 0) * 161 + (160 - z0.toInt) < (n : Int) → z_ev (d + 6) 200 5 [some (.ref 19), some (.int b1), o2] [] M K) := by
  intro n
  induction n with
  | zero => exact by intros; exfalso; omega
  | succ n ih =>
    intro M b1 o2 z0 X hh0 hp0 hh2 hh3 hE
    refine z_xP zt200 3 8 [some (.ref 19), some (.int b1), o2] [.int 124, .ref 19] rfl rfl ?_
    have f19 : T[19]? = some (.inl (12, 0, 0, 0, 0)) := X.1.k rfl (by decide)
    refine z_xcV (vs := [.ref 19, .int 124]) (r := []) (L2 := [some (.ref 19), some (.int 124)]) zt200 4 rfl zo200 zzcV12_147 (Or.inl rfl) rfl X f19 rfl rfl rfl (Nat.le_of_ble_eq_true rfl) zzm192 (Nat.le_of_ble_eq_true rfl) rfl ?_
    refine z_xP zt192 0 1 [some (.ref 19), some (.int 124)] [.ref 19] rfl rfl ?_
    refine z_xgI zt192 1 rfl zo192 zzf12_136 X f19 (by decide) (by decide) rfl (fun (x2 : Int32) h1 (h3 : (-2147483648) ≤ x2.toInt) (h4 : x2.toInt ≤ 2147483647) => ?_)
    refine z_xZ zt192 2 rfl rfl (fun (h5 : 0 ≤ x2.toInt) => ?_) (fun (h5 : x2.toInt < 0) => ?_)
    · skip
      refine z_xP zt192 7 16 [some (.ref 19), some (.int 124)] [.int 0] rfl rfl ?_
      refine z_xrz zt192 8 rfl zzr192 (by decide) (by decide) ?_
      show z_ev (d + 6) 200 11 [some (.ref 19), some (.int b1), o2] [.int 0] M _
      refine z_xZ zt200 5 rfl rfl (fun (h6 : (0 : Int) = 0) => ?_) (fun (h6 : (0 : Int) ≠ 0) => absurd h6 (by omega))
      refine z_xP zt200 15 37 [some (.ref 19), some (.int b1), o2] [.int b1] rfl rfl ?_
      exact z_xrz zt200 16 rfl zzr200 (by omega) (by omega) (kk b1 M X (by omega) (by omega) z0 hp0 ⟨by omega, by omega⟩ (by omega))
    refine z_xP zt192 3 8 [some (.ref 19), some (.int 124)] [.ref 19] rfl rfl ?_
    refine z_xcV (vs := [.ref 19]) (r := []) (L2 := [some (.ref 19)]) zt192 4 rfl zo192 zzcV12_139 (Or.inl rfl) rfl X f19 rfl rfl rfl (Nat.le_of_ble_eq_true rfl) zzm193 (Nat.le_of_ble_eq_true rfl) rfl ?_
    refine z_xP zt193 0 1 [some (.ref 19)] [.ref 19] rfl rfl ?_
    refine z_xgv zt193 1 rfl zo193 zzf12_123 X f19 (by decide) hp0 ?_
    refine z_xP zt193 2 5 [some (.ref 19)] [.ref 19, .int z0] rfl rfl ?_
    refine z_xgI zt193 3 rfl zo193 zzf12_126 X f19 (by decide) (by decide) rfl (fun (x8 : Int32) h7 (h9 : 0 ≤ x8.toInt) (h10 : x8.toInt ≤ 160) => ?_)
    refine z_xJ zt193 4 rfl rfl (fun (h11 : x8.toInt ≤ z0.toInt) => ?_) (fun (h11 : z0.toInt < x8.toInt) => ?_)
    · skip
      refine z_xP zt193 24 52 [some (.ref 19)] [.int 0] rfl rfl ?_
      refine z_xri zt193 25 rfl zzr193 ?_
      show z_ev (d + 5) 192 11 [some (.ref 19), some (.int 124)] [.int 0] M _
      refine z_xP zt192 5 12 [some (.ref 19), some (.int 124)] [.int 124, .int 0] rfl rfl ?_
      refine z_xJ zt192 6 rfl rfl (fun (h12 : (0 : Int) = 124) => absurd h12 (by omega)) (fun (h12 : (0 : Int) ≠ 124) => ?_)
      refine z_xP zt192 7 16 [some (.ref 19), some (.int 124)] [.int 0] rfl rfl ?_
      refine z_xrz zt192 8 rfl zzr192 (by decide) (by decide) ?_
      show z_ev (d + 6) 200 11 [some (.ref 19), some (.int b1), o2] [.int 0] M _
      refine z_xZ zt200 5 rfl rfl (fun (h13 : (0 : Int) = 0) => ?_) (fun (h13 : (0 : Int) ≠ 0) => absurd h13 (by omega))
      refine z_xP zt200 15 37 [some (.ref 19), some (.int b1), o2] [.int b1] rfl rfl ?_
      exact z_xrz zt200 16 rfl zzr200 (by omega) (by omega) (kk b1 M X (by omega) (by omega) z0 hp0 ⟨by omega, by omega⟩ (by omega))
    refine z_xP zt193 5 12 [some (.ref 19)] [.ref 19] rfl rfl ?_
    refine z_xgI zt193 6 rfl zo193 zzf12_129 X f19 (by decide) (by decide) rfl (fun (x15 : Int32) h14 (h16 : 0 ≤ x15.toInt) (h17 : x15.toInt ≤ 1) => ?_)
    refine z_xZ zt193 7 rfl rfl (fun (h18 : x15.toInt = 0) => ?_) (fun (h18 : x15.toInt ≠ 0) => ?_)
    · skip
      refine z_xP zt193 14 31 [some (.ref 19)] [.ref 19] rfl rfl ?_
      refine z_xgX (b := 21) zt193 15 rfl zo193 zzf12_13 X f19 (by decide) (by decide) rfl ?_
      refine z_xP zt193 16 38 [some (.ref 19)] [.ref 19, .int 160, .ref 21] rfl rfl ?_
      refine z_xgI zt193 17 rfl zo193 zzf12_133 X f19 (by decide) (by decide) rfl (fun (x20 : Int32) h19 (h21 : 0 ≤ x20.toInt) (h22 : x20.toInt ≤ 7) => ?_)
      refine z_xI zt193 18 rfl rfl (fun (x23 : Int32) (h24 : x23.toInt = 160 * x20.toInt) => ?_) (z_pMul rfl rfl (by omega) (by omega))
      refine z_xP zt193 19 43 [some (.ref 19)] [.ref 19, .int x23, .ref 21] rfl rfl ?_
      refine z_xgv zt193 20 rfl zo193 zzf12_123 X f19 (by decide) hp0 ?_
      refine z_xI zt193 21 rfl rfl (fun (x25 : Int32) (h26 : x25.toInt = x23.toInt + z0.toInt) => ?_) (z_pAdd rfl rfl (by omega) (by omega))
      have f21 : T[21]? = some (.inr (21, 0, 1280, (-2147483648), 2147483647)) := X.1.k rfl (by decide)
      refine z_xil zt193 22 rfl X f21 (by decide) (by omega) (by omega) (fun (x27 : Int32) h28 (h29 : (-2147483648) ≤ x27.toInt) (h30 : x27.toInt ≤ 2147483647) => ?_)
      refine z_xP zt193 23 52 [some (.ref 19)] [.int x27] rfl rfl ?_
      refine z_xri zt193 25 rfl zzr193 ?_
      show z_ev (d + 5) 192 11 [some (.ref 19), some (.int 124)] [.int x27] M _
      refine z_xP zt192 5 12 [some (.ref 19), some (.int 124)] [.int 124, .int x27] rfl rfl ?_
      refine z_xJ zt192 6 rfl rfl (fun (h31 : x27.toInt = 124) => ?_) (fun (h31 : x27.toInt ≠ 124) => ?_)
      · skip
        refine z_xP zt192 9 19 [some (.ref 19), some (.int 124)] [.ref 19, .ref 19] rfl rfl ?_
        refine z_xgv zt192 10 rfl zo192 zzf12_123 X f19 (by decide) hp0 ?_
        refine z_xP zt192 11 23 [some (.ref 19), some (.int 124)] [.int 1, .int z0, .ref 19] rfl rfl ?_
        refine z_xI zt192 12 rfl rfl (fun (x32 : Int32) (h33 : x32.toInt = z0.toInt + 1) => ?_) (z_pAdd rfl rfl (by omega) (by omega))
        refine z_xpf zt192 13 rfl zo192 zzf12_123 X f19 (by decide) (by decide) ⟨by omega, by omega⟩ rfl (by decide) zw12_24 (fun M34 X35 e36 h37 => ?_)
        refine z_xP zt192 14 28 [some (.ref 19), some (.int 124)] [.int 1] rfl rfl ?_
        refine z_xrz zt192 15 rfl zzr192 (by decide) (by decide) ?_
        show z_ev (d + 6) 200 11 [some (.ref 19), some (.int b1), o2] [.int 1] M34 _
        refine z_xZ zt200 5 rfl rfl (fun (h38 : (1 : Int) = 0) => absurd h38 (by omega)) (fun (h38 : (1 : Int) ≠ 0) => ?_)
        refine z_xP zt200 6 15 [some (.ref 19), some (.int b1), o2] [.ref 19] rfl rfl ?_
        obtain ⟨d39, hdd39⟩ : ∃ e, d = e + 1 := ⟨d - 1, by omega⟩
        subst hdd39
        refine z_xcV (vs := [.ref 19]) (r := []) (L2 := [some (.ref 19), none, none]) zt200 7 rfl zo200 zzcV12_154 (Or.inl rfl) rfl X35 f19 rfl rfl rfl (Nat.le_of_ble_eq_true rfl) zzm201 (Nat.le_of_ble_eq_true rfl) rfl ?_
        refine ih201 X35.1 h37 ⟨by omega, by omega⟩ (z_GL.go hL X35 (by decide)) (by omega) (by omega) (fun x46 M40 X41 h47 h48 z42 h43 h44 h45 => ?_)
        have X49 := X35.go X41 (z_sb (by decide))
        show z_ev (d39 + 1 + 6) 200 18 [some (.ref 19), some (.int b1), o2] [.int x46] M40 _
        refine z_xP zt200 8 20 [some (.ref 19), some (.int b1), some (.int x46)] [.int b1] rfl rfl ?_
        refine z_xZ zt200 9 rfl rfl (fun (h51 : b1.toInt ≠ 0) => ?_) (fun (h51 : b1.toInt = 0) => ?_)
        · skip
          refine z_xP zt200 12 32 [some (.ref 19), some (.int b1), some (.int x46)] [.int 1] rfl rfl ?_
          refine z_xP zt200 14 5 [some (.ref 19), some (.int 1), some (.int x46)] [] rfl rfl ?_
          have q1 : ((1 : Int32)).toInt = 1 := rfl
          exact ih M40 (1) (some (.int x46)) z42 X49 (by decide) h43 ⟨by omega, by omega⟩ (by omega) (by omega)
        refine z_xP zt200 10 24 [some (.ref 19), some (.int b1), some (.int x46)] [.int x46] rfl rfl ?_
        refine z_xZ zt200 11 rfl rfl (fun (h52 : x46.toInt = 0) => ?_) (fun (h52 : x46.toInt ≠ 0) => ?_)
        · skip
          refine z_xP zt200 13 32 [some (.ref 19), some (.int b1), some (.int x46)] [.int 0] rfl rfl ?_
          refine z_xP zt200 14 5 [some (.ref 19), some (.int 0), some (.int x46)] [] rfl rfl ?_
          have q0 : ((0 : Int32)).toInt = 0 := rfl
          exact ih M40 (0) (some (.int x46)) z42 X49 (by decide) h43 ⟨by omega, by omega⟩ (by omega) (by omega)
        refine z_xP zt200 12 32 [some (.ref 19), some (.int b1), some (.int x46)] [.int 1] rfl rfl ?_
        refine z_xP zt200 14 5 [some (.ref 19), some (.int 1), some (.int x46)] [] rfl rfl ?_
        have q1 : ((1 : Int32)).toInt = 1 := rfl
        exact ih M40 (1) (some (.int x46)) z42 X49 (by decide) h43 ⟨by omega, by omega⟩ (by omega) (by omega)
      refine z_xP zt192 7 16 [some (.ref 19), some (.int 124)] [.int 0] rfl rfl ?_
      refine z_xrz zt192 8 rfl zzr192 (by decide) (by decide) ?_
      show z_ev (d + 6) 200 11 [some (.ref 19), some (.int b1), o2] [.int 0] M _
      refine z_xZ zt200 5 rfl rfl (fun (h53 : (0 : Int) = 0) => ?_) (fun (h53 : (0 : Int) ≠ 0) => absurd h53 (by omega))
      refine z_xP zt200 15 37 [some (.ref 19), some (.int b1), o2] [.int b1] rfl rfl ?_
      exact z_xrz zt200 16 rfl zzr200 (by omega) (by omega) (kk b1 M X (by omega) (by omega) z0 hp0 ⟨by omega, by omega⟩ (by omega))
    refine z_xP zt193 8 19 [some (.ref 19)] [.ref 19] rfl rfl ?_
    refine z_xgX (b := 20) zt193 9 rfl zo193 zzf12_9 X f19 (by decide) (by decide) rfl ?_
    refine z_xP zt193 10 23 [some (.ref 19)] [.ref 19, .ref 20] rfl rfl ?_
    refine z_xgv zt193 11 rfl zo193 zzf12_123 X f19 (by decide) hp0 ?_
    have f20 : T[20]? = some (.inr (20, 0, 160, (-2147483648), 2147483647)) := X.1.k rfl (by decide)
    refine z_xil zt193 12 rfl X f20 (by decide) (by omega) (by omega) (fun (x54 : Int32) h55 (h56 : (-2147483648) ≤ x54.toInt) (h57 : x54.toInt ≤ 2147483647) => ?_)
    refine z_xP zt193 13 52 [some (.ref 19)] [.int x54] rfl rfl ?_
    refine z_xri zt193 25 rfl zzr193 ?_
    show z_ev (d + 5) 192 11 [some (.ref 19), some (.int 124)] [.int x54] M _
    refine z_xP zt192 5 12 [some (.ref 19), some (.int 124)] [.int 124, .int x54] rfl rfl ?_
    refine z_xJ zt192 6 rfl rfl (fun (h58 : x54.toInt = 124) => ?_) (fun (h58 : x54.toInt ≠ 124) => ?_)
    · skip
      refine z_xP zt192 9 19 [some (.ref 19), some (.int 124)] [.ref 19, .ref 19] rfl rfl ?_
      refine z_xgv zt192 10 rfl zo192 zzf12_123 X f19 (by decide) hp0 ?_
      refine z_xP zt192 11 23 [some (.ref 19), some (.int 124)] [.int 1, .int z0, .ref 19] rfl rfl ?_
      refine z_xI zt192 12 rfl rfl (fun (x59 : Int32) (h60 : x59.toInt = z0.toInt + 1) => ?_) (z_pAdd rfl rfl (by omega) (by omega))
      refine z_xpf zt192 13 rfl zo192 zzf12_123 X f19 (by decide) (by decide) ⟨by omega, by omega⟩ rfl (by decide) zw12_24 (fun M61 X62 e63 h64 => ?_)
      refine z_xP zt192 14 28 [some (.ref 19), some (.int 124)] [.int 1] rfl rfl ?_
      refine z_xrz zt192 15 rfl zzr192 (by decide) (by decide) ?_
      show z_ev (d + 6) 200 11 [some (.ref 19), some (.int b1), o2] [.int 1] M61 _
      refine z_xZ zt200 5 rfl rfl (fun (h65 : (1 : Int) = 0) => absurd h65 (by omega)) (fun (h65 : (1 : Int) ≠ 0) => ?_)
      refine z_xP zt200 6 15 [some (.ref 19), some (.int b1), o2] [.ref 19] rfl rfl ?_
      obtain ⟨d66, hdd66⟩ : ∃ e, d = e + 1 := ⟨d - 1, by omega⟩
      subst hdd66
      refine z_xcV (vs := [.ref 19]) (r := []) (L2 := [some (.ref 19), none, none]) zt200 7 rfl zo200 zzcV12_154 (Or.inl rfl) rfl X62 f19 rfl rfl rfl (Nat.le_of_ble_eq_true rfl) zzm201 (Nat.le_of_ble_eq_true rfl) rfl ?_
      refine ih201 X62.1 h64 ⟨by omega, by omega⟩ (z_GL.go hL X62 (by decide)) (by omega) (by omega) (fun x73 M67 X68 h74 h75 z69 h70 h71 h72 => ?_)
      have X76 := X62.go X68 (z_sb (by decide))
      show z_ev (d66 + 1 + 6) 200 18 [some (.ref 19), some (.int b1), o2] [.int x73] M67 _
      refine z_xP zt200 8 20 [some (.ref 19), some (.int b1), some (.int x73)] [.int b1] rfl rfl ?_
      refine z_xZ zt200 9 rfl rfl (fun (h78 : b1.toInt ≠ 0) => ?_) (fun (h78 : b1.toInt = 0) => ?_)
      · skip
        refine z_xP zt200 12 32 [some (.ref 19), some (.int b1), some (.int x73)] [.int 1] rfl rfl ?_
        refine z_xP zt200 14 5 [some (.ref 19), some (.int 1), some (.int x73)] [] rfl rfl ?_
        have q1 : ((1 : Int32)).toInt = 1 := rfl
        exact ih M67 (1) (some (.int x73)) z69 X76 (by decide) h70 ⟨by omega, by omega⟩ (by omega) (by omega)
      refine z_xP zt200 10 24 [some (.ref 19), some (.int b1), some (.int x73)] [.int x73] rfl rfl ?_
      refine z_xZ zt200 11 rfl rfl (fun (h79 : x73.toInt = 0) => ?_) (fun (h79 : x73.toInt ≠ 0) => ?_)
      · skip
        refine z_xP zt200 13 32 [some (.ref 19), some (.int b1), some (.int x73)] [.int 0] rfl rfl ?_
        refine z_xP zt200 14 5 [some (.ref 19), some (.int 0), some (.int x73)] [] rfl rfl ?_
        have q0 : ((0 : Int32)).toInt = 0 := rfl
        exact ih M67 (0) (some (.int x73)) z69 X76 (by decide) h70 ⟨by omega, by omega⟩ (by omega) (by omega)
      refine z_xP zt200 12 32 [some (.ref 19), some (.int b1), some (.int x73)] [.int 1] rfl rfl ?_
      refine z_xP zt200 14 5 [some (.ref 19), some (.int 1), some (.int x73)] [] rfl rfl ?_
      have q1 : ((1 : Int32)).toInt = 1 := rfl
      exact ih M67 (1) (some (.int x73)) z69 X76 (by decide) h70 ⟨by omega, by omega⟩ (by omega) (by omega)
    refine z_xP zt192 7 16 [some (.ref 19), some (.int 124)] [.int 0] rfl rfl ?_
    refine z_xrz zt192 8 rfl zzr192 (by decide) (by decide) ?_
    show z_ev (d + 6) 200 11 [some (.ref 19), some (.int b1), o2] [.int 0] M _
    refine z_xZ zt200 5 rfl rfl (fun (h80 : (0 : Int) = 0) => ?_) (fun (h80 : (0 : Int) ≠ 0) => absurd h80 (by omega))
    refine z_xP zt200 15 37 [some (.ref 19), some (.int b1), o2] [.int b1] rfl rfl ?_
    exact z_xrz zt200 16 rfl zzr200 (by omega) (by omega) (kk b1 M X (by omega) (by omega) z0 hp0 ⟨by omega, by omega⟩ (by omega))
theorem zC200r {T : List zK} {d : Nat} {K : Option Value → zH → Prop} {zp0 : Int32} {N : Nat} {M0 : zH} (hW : z_W M0 T) (hz0 : z_F M0 19 24 = some (.int zp0)) (bz0 : 0 ≤ zp0.toInt ∧ zp0.toInt ≤ 160) (hL : z_GL M0) (ih198 : zQ198 T N) (ih199 : zQ199 T N) (ih200 : zQ200 T N) (ih201 : zQ201 T N) (ih202 : zQ202 T N) (ih204 : zQ204 T N) (hm : 6 * (160 - zp0.toInt) + 3 < (N : Int) + 1) (hd : 6 * (160 - zp0.toInt) + 3 ≤ (d : Int)) (kk : ∀ (x : Int32) (M1 : zH), z_X T zw200 M0 M1 → 0 ≤ x.toInt → x.toInt ≤ 1 → ∀ (w0 : Int32), z_F M1 19 24 = some (.int w0) → 0 ≤ w0.toInt ∧ w0.toInt ≤ 160 → zp0.toInt ≤ w0.toInt → K (some (.int x)) M1) : z_ev (d + 6) 200 0 [some (.ref 19), none, none] [] M0 K := by
  have X : z_X T zw200 M0 M0 := .refl hW
  refine z_xP zt200 0 1 [some (.ref 19), none, none] [.ref 19] rfl rfl ?_
  have f19 : T[19]? = some (.inl (12, 0, 0, 0, 0)) := X.1.k rfl (by decide)
  obtain ⟨d1, hdd1⟩ : ∃ e, d = e + 1 := ⟨d - 1, by omega⟩
  subst hdd1
  refine z_xcV (vs := [.ref 19]) (r := []) (L2 := [some (.ref 19), none, none]) zt200 1 rfl zo200 zzcV12_154 (Or.inl rfl) rfl X f19 rfl rfl rfl (Nat.le_of_ble_eq_true rfl) zzm201 (Nat.le_of_ble_eq_true rfl) rfl ?_
  refine ih201 X.1 hz0 ⟨by omega, by omega⟩ (z_GL.go hL X (by decide)) (by omega) (by omega) (fun x8 M2 X3 h9 h10 z4 h5 h6 h7 => ?_)
  have X11 := X.go X3 (z_sb (by decide))
  show z_ev (d1 + 1 + 6) 200 4 [some (.ref 19), none, none] [.int x8] M2 _
  refine z_xP zt200 2 5 [some (.ref 19), some (.int x8), none] [] rfl rfl ?_
  exact (zB200 hz0 bz0 hL ih198 ih199 ih200 ih201 ih202 ih204 hm hd kk 322) M2 x8 none z4 X11 ⟨by omega, by omega⟩ h5 ⟨by omega, by omega⟩ (by omega) (by omega)
theorem zB201 {T : List zK} {d : Nat} {K : Option Value → zH → Prop} {zp0 : Int32} {N : Nat} {M0 : zH} (hz0 : z_F M0 19 24 = some (.int zp0)) (bz0 : 0 ≤ zp0.toInt ∧ zp0.toInt ≤ 160) (hL : z_GL M0) (ih198 : zQ198 T N) (ih199 : zQ199 T N) (ih200 : zQ200 T N) (ih201 : zQ201 T N) (ih202 : zQ202 T N) (ih204 : zQ204 T N) (hm : 6 * (160 - zp0.toInt) + 2 < (N : Int) + 1) (hd : 6 * (160 - zp0.toInt) + 2 ≤ (d : Int)) (kk : ∀ (x : Int32) (M1 : zH), z_X T zw201 M0 M1 → 0 ≤ x.toInt → x.toInt ≤ 1 → ∀ (w0 : Int32), z_F M1 19 24 = some (.int w0) → 0 ≤ w0.toInt ∧ w0.toInt ≤ 160 → zp0.toInt ≤ w0.toInt → K (some (.int x)) M1) : ∀ n : Nat, (∀ (M : zH) (b1 : Int32) (o2 : Option Value) (z0 : Int32), z_X T zw201 M0 M → 0 ≤ b1.toInt ∧ b1.toInt ≤ 1 → z_F M 19 24 = some (.int z0) → 0 ≤ z0.toInt ∧ z0.toInt ≤ 160 → zp0.toInt ≤ z0.toInt → ((0) * 2 + 0) * 161 + (160 - z0.toInt) < (n : Int) → z_ev (d + 6) 201 5 [some (.ref 19), some (.int b1), o2] [] M K) := by
  intro n
  induction n with
  | zero => exact by intros; exfalso; omega
  | succ n ih =>
    intro M b1 o2 z0 X hh0 hp0 hh2 hh3 hE
    refine z_xP zt201 3 8 [some (.ref 19), some (.int b1), o2] [.int 38, .ref 19] rfl rfl ?_
    have f19 : T[19]? = some (.inl (12, 0, 0, 0, 0)) := X.1.k rfl (by decide)
    refine z_xcV (vs := [.ref 19, .int 38]) (r := []) (L2 := [some (.ref 19), some (.int 38)]) zt201 4 rfl zo201 zzcV12_147 (Or.inl rfl) rfl X f19 rfl rfl rfl (Nat.le_of_ble_eq_true rfl) zzm192 (Nat.le_of_ble_eq_true rfl) rfl ?_
    refine z_xP zt192 0 1 [some (.ref 19), some (.int 38)] [.ref 19] rfl rfl ?_
    refine z_xgI zt192 1 rfl zo192 zzf12_136 X f19 (by decide) (by decide) rfl (fun (x2 : Int32) h1 (h3 : (-2147483648) ≤ x2.toInt) (h4 : x2.toInt ≤ 2147483647) => ?_)
    refine z_xZ zt192 2 rfl rfl (fun (h5 : 0 ≤ x2.toInt) => ?_) (fun (h5 : x2.toInt < 0) => ?_)
    · skip
      refine z_xP zt192 7 16 [some (.ref 19), some (.int 38)] [.int 0] rfl rfl ?_
      refine z_xrz zt192 8 rfl zzr192 (by decide) (by decide) ?_
      show z_ev (d + 6) 201 11 [some (.ref 19), some (.int b1), o2] [.int 0] M _
      refine z_xZ zt201 5 rfl rfl (fun (h6 : (0 : Int) = 0) => ?_) (fun (h6 : (0 : Int) ≠ 0) => absurd h6 (by omega))
      refine z_xP zt201 15 37 [some (.ref 19), some (.int b1), o2] [.int b1] rfl rfl ?_
      exact z_xrz zt201 16 rfl zzr201 (by omega) (by omega) (kk b1 M X (by omega) (by omega) z0 hp0 ⟨by omega, by omega⟩ (by omega))
    refine z_xP zt192 3 8 [some (.ref 19), some (.int 38)] [.ref 19] rfl rfl ?_
    refine z_xcV (vs := [.ref 19]) (r := []) (L2 := [some (.ref 19)]) zt192 4 rfl zo192 zzcV12_139 (Or.inl rfl) rfl X f19 rfl rfl rfl (Nat.le_of_ble_eq_true rfl) zzm193 (Nat.le_of_ble_eq_true rfl) rfl ?_
    refine z_xP zt193 0 1 [some (.ref 19)] [.ref 19] rfl rfl ?_
    refine z_xgv zt193 1 rfl zo193 zzf12_123 X f19 (by decide) hp0 ?_
    refine z_xP zt193 2 5 [some (.ref 19)] [.ref 19, .int z0] rfl rfl ?_
    refine z_xgI zt193 3 rfl zo193 zzf12_126 X f19 (by decide) (by decide) rfl (fun (x8 : Int32) h7 (h9 : 0 ≤ x8.toInt) (h10 : x8.toInt ≤ 160) => ?_)
    refine z_xJ zt193 4 rfl rfl (fun (h11 : x8.toInt ≤ z0.toInt) => ?_) (fun (h11 : z0.toInt < x8.toInt) => ?_)
    · skip
      refine z_xP zt193 24 52 [some (.ref 19)] [.int 0] rfl rfl ?_
      refine z_xri zt193 25 rfl zzr193 ?_
      show z_ev (d + 5) 192 11 [some (.ref 19), some (.int 38)] [.int 0] M _
      refine z_xP zt192 5 12 [some (.ref 19), some (.int 38)] [.int 38, .int 0] rfl rfl ?_
      refine z_xJ zt192 6 rfl rfl (fun (h12 : (0 : Int) = 38) => absurd h12 (by omega)) (fun (h12 : (0 : Int) ≠ 38) => ?_)
      refine z_xP zt192 7 16 [some (.ref 19), some (.int 38)] [.int 0] rfl rfl ?_
      refine z_xrz zt192 8 rfl zzr192 (by decide) (by decide) ?_
      show z_ev (d + 6) 201 11 [some (.ref 19), some (.int b1), o2] [.int 0] M _
      refine z_xZ zt201 5 rfl rfl (fun (h13 : (0 : Int) = 0) => ?_) (fun (h13 : (0 : Int) ≠ 0) => absurd h13 (by omega))
      refine z_xP zt201 15 37 [some (.ref 19), some (.int b1), o2] [.int b1] rfl rfl ?_
      exact z_xrz zt201 16 rfl zzr201 (by omega) (by omega) (kk b1 M X (by omega) (by omega) z0 hp0 ⟨by omega, by omega⟩ (by omega))
    refine z_xP zt193 5 12 [some (.ref 19)] [.ref 19] rfl rfl ?_
    refine z_xgI zt193 6 rfl zo193 zzf12_129 X f19 (by decide) (by decide) rfl (fun (x15 : Int32) h14 (h16 : 0 ≤ x15.toInt) (h17 : x15.toInt ≤ 1) => ?_)
    refine z_xZ zt193 7 rfl rfl (fun (h18 : x15.toInt = 0) => ?_) (fun (h18 : x15.toInt ≠ 0) => ?_)
    · skip
      refine z_xP zt193 14 31 [some (.ref 19)] [.ref 19] rfl rfl ?_
      refine z_xgX (b := 21) zt193 15 rfl zo193 zzf12_13 X f19 (by decide) (by decide) rfl ?_
      refine z_xP zt193 16 38 [some (.ref 19)] [.ref 19, .int 160, .ref 21] rfl rfl ?_
      refine z_xgI zt193 17 rfl zo193 zzf12_133 X f19 (by decide) (by decide) rfl (fun (x20 : Int32) h19 (h21 : 0 ≤ x20.toInt) (h22 : x20.toInt ≤ 7) => ?_)
      refine z_xI zt193 18 rfl rfl (fun (x23 : Int32) (h24 : x23.toInt = 160 * x20.toInt) => ?_) (z_pMul rfl rfl (by omega) (by omega))
      refine z_xP zt193 19 43 [some (.ref 19)] [.ref 19, .int x23, .ref 21] rfl rfl ?_
      refine z_xgv zt193 20 rfl zo193 zzf12_123 X f19 (by decide) hp0 ?_
      refine z_xI zt193 21 rfl rfl (fun (x25 : Int32) (h26 : x25.toInt = x23.toInt + z0.toInt) => ?_) (z_pAdd rfl rfl (by omega) (by omega))
      have f21 : T[21]? = some (.inr (21, 0, 1280, (-2147483648), 2147483647)) := X.1.k rfl (by decide)
      refine z_xil zt193 22 rfl X f21 (by decide) (by omega) (by omega) (fun (x27 : Int32) h28 (h29 : (-2147483648) ≤ x27.toInt) (h30 : x27.toInt ≤ 2147483647) => ?_)
      refine z_xP zt193 23 52 [some (.ref 19)] [.int x27] rfl rfl ?_
      refine z_xri zt193 25 rfl zzr193 ?_
      show z_ev (d + 5) 192 11 [some (.ref 19), some (.int 38)] [.int x27] M _
      refine z_xP zt192 5 12 [some (.ref 19), some (.int 38)] [.int 38, .int x27] rfl rfl ?_
      refine z_xJ zt192 6 rfl rfl (fun (h31 : x27.toInt = 38) => ?_) (fun (h31 : x27.toInt ≠ 38) => ?_)
      · skip
        refine z_xP zt192 9 19 [some (.ref 19), some (.int 38)] [.ref 19, .ref 19] rfl rfl ?_
        refine z_xgv zt192 10 rfl zo192 zzf12_123 X f19 (by decide) hp0 ?_
        refine z_xP zt192 11 23 [some (.ref 19), some (.int 38)] [.int 1, .int z0, .ref 19] rfl rfl ?_
        refine z_xI zt192 12 rfl rfl (fun (x32 : Int32) (h33 : x32.toInt = z0.toInt + 1) => ?_) (z_pAdd rfl rfl (by omega) (by omega))
        refine z_xpf zt192 13 rfl zo192 zzf12_123 X f19 (by decide) (by decide) ⟨by omega, by omega⟩ rfl (by decide) zw12_24 (fun M34 X35 e36 h37 => ?_)
        refine z_xP zt192 14 28 [some (.ref 19), some (.int 38)] [.int 1] rfl rfl ?_
        refine z_xrz zt192 15 rfl zzr192 (by decide) (by decide) ?_
        show z_ev (d + 6) 201 11 [some (.ref 19), some (.int b1), o2] [.int 1] M34 _
        refine z_xZ zt201 5 rfl rfl (fun (h38 : (1 : Int) = 0) => absurd h38 (by omega)) (fun (h38 : (1 : Int) ≠ 0) => ?_)
        refine z_xP zt201 6 15 [some (.ref 19), some (.int b1), o2] [.ref 19] rfl rfl ?_
        obtain ⟨d39, hdd39⟩ : ∃ e, d = e + 1 := ⟨d - 1, by omega⟩
        subst hdd39
        refine z_xcV (vs := [.ref 19]) (r := []) (L2 := [some (.ref 19), none, none]) zt201 7 rfl zo201 zzcV12_157 (Or.inl rfl) rfl X35 f19 rfl rfl rfl (Nat.le_of_ble_eq_true rfl) zzm202 (Nat.le_of_ble_eq_true rfl) rfl ?_
        refine ih202 X35.1 h37 ⟨by omega, by omega⟩ (z_GL.go hL X35 (by decide)) (by omega) (by omega) (fun x46 M40 X41 h47 h48 z42 h43 h44 h45 => ?_)
        have X49 := X35.go X41 (z_sb (by decide))
        show z_ev (d39 + 1 + 6) 201 18 [some (.ref 19), some (.int b1), o2] [.int x46] M40 _
        refine z_xP zt201 8 20 [some (.ref 19), some (.int b1), some (.int x46)] [.int b1] rfl rfl ?_
        refine z_xZ zt201 9 rfl rfl (fun (h51 : b1.toInt = 0) => ?_) (fun (h51 : b1.toInt ≠ 0) => ?_)
        · skip
          refine z_xP zt201 13 32 [some (.ref 19), some (.int b1), some (.int x46)] [.int 0] rfl rfl ?_
          refine z_xP zt201 14 5 [some (.ref 19), some (.int 0), some (.int x46)] [] rfl rfl ?_
          have q0 : ((0 : Int32)).toInt = 0 := rfl
          exact ih M40 (0) (some (.int x46)) z42 X49 (by decide) h43 ⟨by omega, by omega⟩ (by omega) (by omega)
        refine z_xP zt201 10 24 [some (.ref 19), some (.int b1), some (.int x46)] [.int x46] rfl rfl ?_
        refine z_xZ zt201 11 rfl rfl (fun (h52 : x46.toInt = 0) => ?_) (fun (h52 : x46.toInt ≠ 0) => ?_)
        · skip
          refine z_xP zt201 13 32 [some (.ref 19), some (.int b1), some (.int x46)] [.int 0] rfl rfl ?_
          refine z_xP zt201 14 5 [some (.ref 19), some (.int 0), some (.int x46)] [] rfl rfl ?_
          have q0 : ((0 : Int32)).toInt = 0 := rfl
          exact ih M40 (0) (some (.int x46)) z42 X49 (by decide) h43 ⟨by omega, by omega⟩ (by omega) (by omega)
        refine z_xP zt201 12 32 [some (.ref 19), some (.int b1), some (.int x46)] [.int 1] rfl rfl ?_
        refine z_xP zt201 14 5 [some (.ref 19), some (.int 1), some (.int x46)] [] rfl rfl ?_
        have q1 : ((1 : Int32)).toInt = 1 := rfl
        exact ih M40 (1) (some (.int x46)) z42 X49 (by decide) h43 ⟨by omega, by omega⟩ (by omega) (by omega)
      refine z_xP zt192 7 16 [some (.ref 19), some (.int 38)] [.int 0] rfl rfl ?_
      refine z_xrz zt192 8 rfl zzr192 (by decide) (by decide) ?_
      show z_ev (d + 6) 201 11 [some (.ref 19), some (.int b1), o2] [.int 0] M _
      refine z_xZ zt201 5 rfl rfl (fun (h53 : (0 : Int) = 0) => ?_) (fun (h53 : (0 : Int) ≠ 0) => absurd h53 (by omega))
      refine z_xP zt201 15 37 [some (.ref 19), some (.int b1), o2] [.int b1] rfl rfl ?_
      exact z_xrz zt201 16 rfl zzr201 (by omega) (by omega) (kk b1 M X (by omega) (by omega) z0 hp0 ⟨by omega, by omega⟩ (by omega))
    refine z_xP zt193 8 19 [some (.ref 19)] [.ref 19] rfl rfl ?_
    refine z_xgX (b := 20) zt193 9 rfl zo193 zzf12_9 X f19 (by decide) (by decide) rfl ?_
    refine z_xP zt193 10 23 [some (.ref 19)] [.ref 19, .ref 20] rfl rfl ?_
    refine z_xgv zt193 11 rfl zo193 zzf12_123 X f19 (by decide) hp0 ?_
    have f20 : T[20]? = some (.inr (20, 0, 160, (-2147483648), 2147483647)) := X.1.k rfl (by decide)
    refine z_xil zt193 12 rfl X f20 (by decide) (by omega) (by omega) (fun (x54 : Int32) h55 (h56 : (-2147483648) ≤ x54.toInt) (h57 : x54.toInt ≤ 2147483647) => ?_)
    refine z_xP zt193 13 52 [some (.ref 19)] [.int x54] rfl rfl ?_
    refine z_xri zt193 25 rfl zzr193 ?_
    show z_ev (d + 5) 192 11 [some (.ref 19), some (.int 38)] [.int x54] M _
    refine z_xP zt192 5 12 [some (.ref 19), some (.int 38)] [.int 38, .int x54] rfl rfl ?_
    refine z_xJ zt192 6 rfl rfl (fun (h58 : x54.toInt = 38) => ?_) (fun (h58 : x54.toInt ≠ 38) => ?_)
    · skip
      refine z_xP zt192 9 19 [some (.ref 19), some (.int 38)] [.ref 19, .ref 19] rfl rfl ?_
      refine z_xgv zt192 10 rfl zo192 zzf12_123 X f19 (by decide) hp0 ?_
      refine z_xP zt192 11 23 [some (.ref 19), some (.int 38)] [.int 1, .int z0, .ref 19] rfl rfl ?_
      refine z_xI zt192 12 rfl rfl (fun (x59 : Int32) (h60 : x59.toInt = z0.toInt + 1) => ?_) (z_pAdd rfl rfl (by omega) (by omega))
      refine z_xpf zt192 13 rfl zo192 zzf12_123 X f19 (by decide) (by decide) ⟨by omega, by omega⟩ rfl (by decide) zw12_24 (fun M61 X62 e63 h64 => ?_)
      refine z_xP zt192 14 28 [some (.ref 19), some (.int 38)] [.int 1] rfl rfl ?_
      refine z_xrz zt192 15 rfl zzr192 (by decide) (by decide) ?_
      show z_ev (d + 6) 201 11 [some (.ref 19), some (.int b1), o2] [.int 1] M61 _
      refine z_xZ zt201 5 rfl rfl (fun (h65 : (1 : Int) = 0) => absurd h65 (by omega)) (fun (h65 : (1 : Int) ≠ 0) => ?_)
      refine z_xP zt201 6 15 [some (.ref 19), some (.int b1), o2] [.ref 19] rfl rfl ?_
      obtain ⟨d66, hdd66⟩ : ∃ e, d = e + 1 := ⟨d - 1, by omega⟩
      subst hdd66
      refine z_xcV (vs := [.ref 19]) (r := []) (L2 := [some (.ref 19), none, none]) zt201 7 rfl zo201 zzcV12_157 (Or.inl rfl) rfl X62 f19 rfl rfl rfl (Nat.le_of_ble_eq_true rfl) zzm202 (Nat.le_of_ble_eq_true rfl) rfl ?_
      refine ih202 X62.1 h64 ⟨by omega, by omega⟩ (z_GL.go hL X62 (by decide)) (by omega) (by omega) (fun x73 M67 X68 h74 h75 z69 h70 h71 h72 => ?_)
      have X76 := X62.go X68 (z_sb (by decide))
      show z_ev (d66 + 1 + 6) 201 18 [some (.ref 19), some (.int b1), o2] [.int x73] M67 _
      refine z_xP zt201 8 20 [some (.ref 19), some (.int b1), some (.int x73)] [.int b1] rfl rfl ?_
      refine z_xZ zt201 9 rfl rfl (fun (h78 : b1.toInt = 0) => ?_) (fun (h78 : b1.toInt ≠ 0) => ?_)
      · skip
        refine z_xP zt201 13 32 [some (.ref 19), some (.int b1), some (.int x73)] [.int 0] rfl rfl ?_
        refine z_xP zt201 14 5 [some (.ref 19), some (.int 0), some (.int x73)] [] rfl rfl ?_
        have q0 : ((0 : Int32)).toInt = 0 := rfl
        exact ih M67 (0) (some (.int x73)) z69 X76 (by decide) h70 ⟨by omega, by omega⟩ (by omega) (by omega)
      refine z_xP zt201 10 24 [some (.ref 19), some (.int b1), some (.int x73)] [.int x73] rfl rfl ?_
      refine z_xZ zt201 11 rfl rfl (fun (h79 : x73.toInt = 0) => ?_) (fun (h79 : x73.toInt ≠ 0) => ?_)
      · skip
        refine z_xP zt201 13 32 [some (.ref 19), some (.int b1), some (.int x73)] [.int 0] rfl rfl ?_
        refine z_xP zt201 14 5 [some (.ref 19), some (.int 0), some (.int x73)] [] rfl rfl ?_
        have q0 : ((0 : Int32)).toInt = 0 := rfl
        exact ih M67 (0) (some (.int x73)) z69 X76 (by decide) h70 ⟨by omega, by omega⟩ (by omega) (by omega)
      refine z_xP zt201 12 32 [some (.ref 19), some (.int b1), some (.int x73)] [.int 1] rfl rfl ?_
      refine z_xP zt201 14 5 [some (.ref 19), some (.int 1), some (.int x73)] [] rfl rfl ?_
      have q1 : ((1 : Int32)).toInt = 1 := rfl
      exact ih M67 (1) (some (.int x73)) z69 X76 (by decide) h70 ⟨by omega, by omega⟩ (by omega) (by omega)
    refine z_xP zt192 7 16 [some (.ref 19), some (.int 38)] [.int 0] rfl rfl ?_
    refine z_xrz zt192 8 rfl zzr192 (by decide) (by decide) ?_
    show z_ev (d + 6) 201 11 [some (.ref 19), some (.int b1), o2] [.int 0] M _
    refine z_xZ zt201 5 rfl rfl (fun (h80 : (0 : Int) = 0) => ?_) (fun (h80 : (0 : Int) ≠ 0) => absurd h80 (by omega))
    refine z_xP zt201 15 37 [some (.ref 19), some (.int b1), o2] [.int b1] rfl rfl ?_
    exact z_xrz zt201 16 rfl zzr201 (by omega) (by omega) (kk b1 M X (by omega) (by omega) z0 hp0 ⟨by omega, by omega⟩ (by omega))
theorem zC201r {T : List zK} {d : Nat} {K : Option Value → zH → Prop} {zp0 : Int32} {N : Nat} {M0 : zH} (hW : z_W M0 T) (hz0 : z_F M0 19 24 = some (.int zp0)) (bz0 : 0 ≤ zp0.toInt ∧ zp0.toInt ≤ 160) (hL : z_GL M0) (ih198 : zQ198 T N) (ih199 : zQ199 T N) (ih200 : zQ200 T N) (ih201 : zQ201 T N) (ih202 : zQ202 T N) (ih204 : zQ204 T N) (hm : 6 * (160 - zp0.toInt) + 2 < (N : Int) + 1) (hd : 6 * (160 - zp0.toInt) + 2 ≤ (d : Int)) (kk : ∀ (x : Int32) (M1 : zH), z_X T zw201 M0 M1 → 0 ≤ x.toInt → x.toInt ≤ 1 → ∀ (w0 : Int32), z_F M1 19 24 = some (.int w0) → 0 ≤ w0.toInt ∧ w0.toInt ≤ 160 → zp0.toInt ≤ w0.toInt → K (some (.int x)) M1) : z_ev (d + 6) 201 0 [some (.ref 19), none, none] [] M0 K := by
  have X : z_X T zw201 M0 M0 := .refl hW
  refine z_xP zt201 0 1 [some (.ref 19), none, none] [.ref 19] rfl rfl ?_
  have f19 : T[19]? = some (.inl (12, 0, 0, 0, 0)) := X.1.k rfl (by decide)
  obtain ⟨d1, hdd1⟩ : ∃ e, d = e + 1 := ⟨d - 1, by omega⟩
  subst hdd1
  refine z_xcV (vs := [.ref 19]) (r := []) (L2 := [some (.ref 19), none, none]) zt201 1 rfl zo201 zzcV12_157 (Or.inl rfl) rfl X f19 rfl rfl rfl (Nat.le_of_ble_eq_true rfl) zzm202 (Nat.le_of_ble_eq_true rfl) rfl ?_
  refine ih202 X.1 hz0 ⟨by omega, by omega⟩ (z_GL.go hL X (by decide)) (by omega) (by omega) (fun x8 M2 X3 h9 h10 z4 h5 h6 h7 => ?_)
  have X11 := X.go X3 (z_sb (by decide))
  show z_ev (d1 + 1 + 6) 201 4 [some (.ref 19), none, none] [.int x8] M2 _
  refine z_xP zt201 2 5 [some (.ref 19), some (.int x8), none] [] rfl rfl ?_
  exact (zB201 hz0 bz0 hL ih198 ih199 ih200 ih201 ih202 ih204 hm hd kk 322) M2 x8 none z4 X11 ⟨by omega, by omega⟩ h5 ⟨by omega, by omega⟩ (by omega) (by omega)
theorem zC202r {T : List zK} {d : Nat} {K : Option Value → zH → Prop} {zp0 : Int32} {N : Nat} {M0 : zH} (hW : z_W M0 T) (hz0 : z_F M0 19 24 = some (.int zp0)) (bz0 : 0 ≤ zp0.toInt ∧ zp0.toInt ≤ 160) (hL : z_GL M0) (ih198 : zQ198 T N) (ih199 : zQ199 T N) (ih200 : zQ200 T N) (ih201 : zQ201 T N) (ih202 : zQ202 T N) (ih204 : zQ204 T N) (hm : 6 * (160 - zp0.toInt) + 1 < (N : Int) + 1) (hd : 6 * (160 - zp0.toInt) + 1 ≤ (d : Int)) (kk : ∀ (x : Int32) (M1 : zH), z_X T zw202 M0 M1 → 0 ≤ x.toInt → x.toInt ≤ 1 → ∀ (w0 : Int32), z_F M1 19 24 = some (.int w0) → 0 ≤ w0.toInt ∧ w0.toInt ≤ 160 → zp0.toInt ≤ w0.toInt → K (some (.int x)) M1) : z_ev (d + 6) 202 0 [some (.ref 19), none, none] [] M0 K := by
  have X : z_X T zw202 M0 M0 := .refl hW
  refine z_xP zt202 0 1 [some (.ref 19), none, none] [.ref 19] rfl rfl ?_
  have f19 : T[19]? = some (.inl (12, 0, 0, 0, 0)) := X.1.k rfl (by decide)
  refine z_xgI zt202 1 rfl zo202 zzf12_136 X f19 (by decide) (by decide) rfl (fun (x2 : Int32) h1 (h3 : (-2147483648) ≤ x2.toInt) (h4 : x2.toInt ≤ 2147483647) => ?_)
  refine z_xZ zt202 2 rfl rfl (fun (h5 : x2.toInt < 0) => ?_) (fun (h5 : 0 ≤ x2.toInt) => ?_)
  · skip
    refine z_xP zt202 5 10 [some (.ref 19), none, none] [.ref 19] rfl rfl ?_
    refine z_xcV (vs := [.ref 19]) (r := []) (L2 := [some (.ref 19)]) zt202 6 rfl zo202 zzcV12_139 (Or.inl rfl) rfl X f19 rfl rfl rfl (Nat.le_of_ble_eq_true rfl) zzm193 (Nat.le_of_ble_eq_true rfl) rfl ?_
    refine z_xP zt193 0 1 [some (.ref 19)] [.ref 19] rfl rfl ?_
    refine z_xgv zt193 1 rfl zo193 zzf12_123 X f19 (by decide) hz0 ?_
    refine z_xP zt193 2 5 [some (.ref 19)] [.ref 19, .int zp0] rfl rfl ?_
    refine z_xgI zt193 3 rfl zo193 zzf12_126 X f19 (by decide) (by decide) rfl (fun (x7 : Int32) h6 (h8 : 0 ≤ x7.toInt) (h9 : x7.toInt ≤ 160) => ?_)
    refine z_xJ zt193 4 rfl rfl (fun (h10 : x7.toInt ≤ zp0.toInt) => ?_) (fun (h10 : zp0.toInt < x7.toInt) => ?_)
    · skip
      refine z_xP zt193 24 52 [some (.ref 19)] [.int 0] rfl rfl ?_
      refine z_xri zt193 25 rfl zzr193 ?_
      show z_ev (d + 6) 202 13 [some (.ref 19), none, none] [.int 0] M0 _
      refine z_xP zt202 7 17 [some (.ref 19), some (.int 0), none] [.int 33, .int 0] rfl rfl ?_
      refine z_xJ zt202 8 rfl rfl (fun (h11 : (0 : Int) ≠ 33) => ?_) (fun (h11 : (0 : Int) = 33) => absurd h11 (by omega))
      refine z_xP zt202 26 57 [some (.ref 19), some (.int 0), none] [.int 40, .int 0] rfl rfl ?_
      refine z_xJ zt202 27 rfl rfl (fun (h12 : (0 : Int) ≠ 40) => ?_) (fun (h12 : (0 : Int) = 40) => absurd h12 (by omega))
      refine z_xP zt202 48 101 [some (.ref 19), some (.int 0), none] [.int 0] rfl rfl ?_
      refine z_xL zt202 49 rfl rfl (fun (y13 : Int64) (h14 : y13.toInt = 0) => ?_) (z_qI2L rfl)
      refine z_xl2 zt202 50 rfl zo202 zkl12_172 ?_
      refine z_xl2 zt202 51 rfl zo202 zkl12_174 ?_
      refine z_xcS (vs := [.long y13, .long 49, .long 57]) (r := []) (L2 := [some (.long y13), none, some (.long 49), none, some (.long 57), none]) zt202 52 rfl zo202 zzcS12_116 (Or.inl rfl) (Nat.le_of_ble_eq_true rfl) rfl rfl (Nat.le_of_ble_eq_true rfl) zzm189 (Nat.le_of_ble_eq_true rfl) rfl ?_
      refine z_xP zt189 0 2 [some (.long y13), none, some (.long 49), none, some (.long 57), none] [.long 49, .long y13] rfl rfl ?_
      refine z_xI zt189 1 rfl rfl (fun (x15 : Int32) (h16 : (x15.toInt < 0 ∧ y13.toInt < 49) ∨ (x15.toInt = 0 ∧ y13.toInt = 49) ∨ (0 < x15.toInt ∧ 49 < y13.toInt)) => ?_) (z_qCmp rfl rfl)
      refine z_xZ zt189 2 rfl rfl (fun (h17 : x15.toInt < 0) => ?_) (fun (h17 : 0 ≤ x15.toInt) => absurd h17 (by omega))
      refine z_xP zt189 7 18 [some (.long y13), none, some (.long 49), none, some (.long 57), none] [.int 0] rfl rfl ?_
      refine z_xrz zt189 8 rfl zzr189 (by decide) (by decide) ?_
      show z_ev (d + 6) 202 111 [some (.ref 19), some (.int 0), none] [.int 0] M0 _
      refine z_xZ zt202 53 rfl rfl (fun (h18 : (0 : Int) = 0) => ?_) (fun (h18 : (0 : Int) ≠ 0) => absurd h18 (by omega))
      refine z_xP zt202 58 125 [some (.ref 19), some (.int 0), none] [.int 0, .ref 19] rfl rfl ?_
      refine z_xcV (vs := [.ref 19, .int 0]) (r := []) (L2 := [some (.ref 19), some (.int 0), none]) zt202 59 rfl zo202 zzcV12_179 (Or.inl rfl) rfl X f19 rfl rfl rfl (Nat.le_of_ble_eq_true rfl) zzm195 (Nat.le_of_ble_eq_true rfl) rfl ?_
      have q0 : ((0 : Int32)).toInt = 0 := rfl
      obtain ⟨x19, h20, h21, h22⟩ := z_W.fi X.1 f19 (k := 22) (lo := 0) (hi := 7) (by decide) rfl
      have q0 : ((0 : Int32)).toInt = 0 := rfl
      refine zC195 X.1 h20 ⟨by omega, by omega⟩ (z_GL.go hL X (by decide)) (fun x31 M23 X24 h32 h33 h25 h26 z27 h28 h29 h30 => ?_)
      have X34 := X.go X24 (z_sb (by decide))
      show z_ev (d + 6) 202 128 [some (.ref 19), some (.int 0), none] [.int x31] M23 _
      refine z_xP zt202 60 130 [some (.ref 19), some (.int 0), some (.int x31)] [.int x31] rfl rfl ?_
      refine z_xZ zt202 61 rfl rfl (fun (h36 : 0 ≤ x31.toInt) => ?_) (fun (h36 : x31.toInt < 0) => ?_)
      · skip
        refine z_xP zt202 65 140 [some (.ref 19), some (.int 0), some (.int x31)] [.ref 19, .ref 19] rfl rfl ?_
        have h37 := (X24.2.f f19 (by decide) hz0)
        refine z_xgv zt202 66 rfl zo202 zzf12_123 X34 f19 (by decide) h37 ?_
        refine z_xP zt202 67 144 [some (.ref 19), some (.int 0), some (.int x31)] [.int 1, .int zp0, .ref 19] rfl rfl ?_
        refine z_xI zt202 68 rfl rfl (fun (x38 : Int32) (h39 : x38.toInt = zp0.toInt + 1) => ?_) (z_pAdd rfl rfl (by omega) (by omega))
        refine z_xpf zt202 69 rfl zo202 zzf12_123 X34 f19 (by decide) (by decide) ⟨by omega, by omega⟩ rfl (by decide) zw12_24 (fun M40 X41 e42 h43 => ?_)
        refine z_xP zt202 70 149 [some (.ref 19), some (.int 0), some (.int x31)] [.ref 19] rfl rfl ?_
        refine z_xgI zt202 71 rfl zo202 zzf12_183 X41 f19 (by decide) (by decide) rfl (fun (x45 : Int32) h44 (h46 : (-2147483648) ≤ x45.toInt) (h47 : x45.toInt ≤ 2147483647) => ?_)
        refine z_xP zt202 72 153 [some (.ref 19), some (.int 0), some (.int x31)] [.int x31, .int x45] rfl rfl ?_
        have h48 := z_b32 x45
        refine z_xI zt202 73 rfl rfl (P := fun _ => True) (fun (x49 : Int32) _ => ?_) trivial
        refine z_xP zt202 74 155 [some (.ref 19), some (.int 0), some (.int x31)] [.int 1, .int x49] rfl rfl ?_
        refine z_xI zt202 75 rfl rfl (fun (x51 : Int32) (h52 : 0 ≤ x51.toInt ∧ x51.toInt ≤ 1) => ?_) (z_pAnd rfl (by omega))
        refine z_xP zt202 76 157 [some (.ref 19), some (.int 0), some (.int x31)] [.int 1, .int x51] rfl rfl ?_
        refine z_xJ zt202 77 rfl rfl (fun (h53 : x51.toInt ≠ 1) => ?_) (fun (h53 : x51.toInt = 1) => ?_)
        · skip
          refine z_xP zt202 79 165 [some (.ref 19), some (.int 0), some (.int x31)] [.int 0] rfl rfl ?_
          have q0 : ((0 : Int32)).toInt = 0 := rfl
          exact z_xrz zt202 80 rfl zzr202 (by decide) (by decide) (kk 0 M40 X41 (by omega) (by omega) x38 h43 ⟨by omega, by omega⟩ (by omega))
        refine z_xP zt202 78 165 [some (.ref 19), some (.int 0), some (.int x31)] [.int 1] rfl rfl ?_
        have q1 : ((1 : Int32)).toInt = 1 := rfl
        exact z_xrz zt202 80 rfl zzr202 (by decide) (by decide) (kk 1 M40 X41 (by omega) (by omega) x38 h43 ⟨by omega, by omega⟩ (by omega))
      refine z_xP zt202 62 134 [some (.ref 19), some (.int 0), some (.int x31)] [.ref 19] rfl rfl ?_
      refine z_xcV (vs := [.ref 19]) (r := []) (L2 := [some (.ref 19)]) zt202 63 rfl zo202 zzcV12_163 (Or.inl rfl) rfl X34 f19 rfl rfl rfl (Nat.le_of_ble_eq_true rfl) zzm194 (Nat.le_of_ble_eq_true rfl) rfl ?_
      refine z_xP zt194 0 2 [some (.ref 19)] [.ref 19, .ref 19] rfl rfl ?_
      have h54 := (X24.2.f f19 (by decide) h1)
      refine z_xgv zt194 1 rfl zo194 zzf12_136 X34 f19 (by decide) h54 ?_
      refine z_xZ zt194 2 rfl rfl (fun (h55 : 0 ≤ x2.toInt) => absurd h55 (by omega)) (fun (h55 : x2.toInt < 0) => ?_)
      refine z_xP zt194 3 9 [some (.ref 19)] [.ref 19, .ref 19] rfl rfl ?_
      have h56 := (X24.2.f f19 (by decide) hz0)
      refine z_xgv zt194 4 rfl zo194 zzf12_123 X34 f19 (by decide) h56 ?_
      refine z_xP zt194 5 19 [some (.ref 19)] [.int zp0, .ref 19] rfl rfl ?_
      refine z_xpf zt194 8 rfl zo194 zzf12_136 X34 f19 (by decide) (by decide) ⟨Int32.le_toInt _, Int32.toInt_le _⟩ rfl (by decide) zw12_26 (fun M57 X58 e59 h60 => ?_)
      refine z_xP zt194 9 23 [some (.ref 19)] [.int 0] rfl rfl ?_
      refine z_xrz zt194 10 rfl zzr194 (by decide) (by decide) ?_
      show z_ev (d + 6) 202 137 [some (.ref 19), some (.int 0), some (.int x31)] [.int 0] M57 _
      have h61 := (e59.f f19 (by decide) h56)
      have q0 : ((0 : Int32)).toInt = 0 := rfl
      exact z_xrz zt202 64 rfl zzr202 (by decide) (by decide) (kk 0 M57 X58 (by omega) (by omega) zp0 h61 ⟨by omega, by omega⟩ (by omega))
    refine z_xP zt193 5 12 [some (.ref 19)] [.ref 19] rfl rfl ?_
    refine z_xgI zt193 6 rfl zo193 zzf12_129 X f19 (by decide) (by decide) rfl (fun (x63 : Int32) h62 (h64 : 0 ≤ x63.toInt) (h65 : x63.toInt ≤ 1) => ?_)
    refine z_xZ zt193 7 rfl rfl (fun (h66 : x63.toInt = 0) => ?_) (fun (h66 : x63.toInt ≠ 0) => ?_)
    · skip
      refine z_xP zt193 14 31 [some (.ref 19)] [.ref 19] rfl rfl ?_
      refine z_xgX (b := 21) zt193 15 rfl zo193 zzf12_13 X f19 (by decide) (by decide) rfl ?_
      refine z_xP zt193 16 38 [some (.ref 19)] [.ref 19, .int 160, .ref 21] rfl rfl ?_
      refine z_xgI zt193 17 rfl zo193 zzf12_133 X f19 (by decide) (by decide) rfl (fun (x68 : Int32) h67 (h69 : 0 ≤ x68.toInt) (h70 : x68.toInt ≤ 7) => ?_)
      refine z_xI zt193 18 rfl rfl (fun (x71 : Int32) (h72 : x71.toInt = 160 * x68.toInt) => ?_) (z_pMul rfl rfl (by omega) (by omega))
      refine z_xP zt193 19 43 [some (.ref 19)] [.ref 19, .int x71, .ref 21] rfl rfl ?_
      refine z_xgv zt193 20 rfl zo193 zzf12_123 X f19 (by decide) hz0 ?_
      refine z_xI zt193 21 rfl rfl (fun (x73 : Int32) (h74 : x73.toInt = x71.toInt + zp0.toInt) => ?_) (z_pAdd rfl rfl (by omega) (by omega))
      have f21 : T[21]? = some (.inr (21, 0, 1280, (-2147483648), 2147483647)) := X.1.k rfl (by decide)
      refine z_xil zt193 22 rfl X f21 (by decide) (by omega) (by omega) (fun (x75 : Int32) h76 (h77 : (-2147483648) ≤ x75.toInt) (h78 : x75.toInt ≤ 2147483647) => ?_)
      refine z_xP zt193 23 52 [some (.ref 19)] [.int x75] rfl rfl ?_
      refine z_xri zt193 25 rfl zzr193 ?_
      show z_ev (d + 6) 202 13 [some (.ref 19), none, none] [.int x75] M0 _
      refine z_xP zt202 7 17 [some (.ref 19), some (.int x75), none] [.int 33, .int x75] rfl rfl ?_
      refine z_xJ zt202 8 rfl rfl (fun (h79 : x75.toInt ≠ 33) => ?_) (fun (h79 : x75.toInt = 33) => ?_)
      · skip
        refine z_xP zt202 26 57 [some (.ref 19), some (.int x75), none] [.int 40, .int x75] rfl rfl ?_
        refine z_xJ zt202 27 rfl rfl (fun (h80 : x75.toInt ≠ 40) => ?_) (fun (h80 : x75.toInt = 40) => ?_)
        · skip
          refine z_xP zt202 48 101 [some (.ref 19), some (.int x75), none] [.int x75] rfl rfl ?_
          have h81 := z_b32 x75
          refine z_xL zt202 49 rfl rfl (fun (y82 : Int64) (h83 : y82.toInt = x75.toInt) => ?_) (z_qI2L rfl)
          refine z_xl2 zt202 50 rfl zo202 zkl12_172 ?_
          refine z_xl2 zt202 51 rfl zo202 zkl12_174 ?_
          refine z_xcS (vs := [.long y82, .long 49, .long 57]) (r := []) (L2 := [some (.long y82), none, some (.long 49), none, some (.long 57), none]) zt202 52 rfl zo202 zzcS12_116 (Or.inl rfl) (Nat.le_of_ble_eq_true rfl) rfl rfl (Nat.le_of_ble_eq_true rfl) zzm189 (Nat.le_of_ble_eq_true rfl) rfl ?_
          refine z_xP zt189 0 2 [some (.long y82), none, some (.long 49), none, some (.long 57), none] [.long 49, .long y82] rfl rfl ?_
          refine z_xI zt189 1 rfl rfl (fun (x84 : Int32) (h85 : (x84.toInt < 0 ∧ y82.toInt < 49) ∨ (x84.toInt = 0 ∧ y82.toInt = 49) ∨ (0 < x84.toInt ∧ 49 < y82.toInt)) => ?_) (z_qCmp rfl rfl)
          refine z_xZ zt189 2 rfl rfl (fun (h86 : x84.toInt < 0) => ?_) (fun (h86 : 0 ≤ x84.toInt) => ?_)
          · skip
            refine z_xP zt189 7 18 [some (.long y82), none, some (.long 49), none, some (.long 57), none] [.int 0] rfl rfl ?_
            refine z_xrz zt189 8 rfl zzr189 (by decide) (by decide) ?_
            show z_ev (d + 6) 202 111 [some (.ref 19), some (.int x75), none] [.int 0] M0 _
            refine z_xZ zt202 53 rfl rfl (fun (h87 : (0 : Int) = 0) => ?_) (fun (h87 : (0 : Int) ≠ 0) => absurd h87 (by omega))
            refine z_xP zt202 58 125 [some (.ref 19), some (.int x75), none] [.int x75, .ref 19] rfl rfl ?_
            refine z_xcV (vs := [.ref 19, .int x75]) (r := []) (L2 := [some (.ref 19), some (.int x75), none]) zt202 59 rfl zo202 zzcV12_179 (Or.inl rfl) rfl X f19 rfl rfl rfl (Nat.le_of_ble_eq_true rfl) zzm195 (Nat.le_of_ble_eq_true rfl) rfl ?_
            refine zC195 X.1 h67 ⟨by omega, by omega⟩ (z_GL.go hL X (by decide)) (fun x96 M88 X89 h97 h98 h90 h91 z92 h93 h94 h95 => ?_)
            have X99 := X.go X89 (z_sb (by decide))
            show z_ev (d + 6) 202 128 [some (.ref 19), some (.int x75), none] [.int x96] M88 _
            refine z_xP zt202 60 130 [some (.ref 19), some (.int x75), some (.int x96)] [.int x96] rfl rfl ?_
            refine z_xZ zt202 61 rfl rfl (fun (h101 : 0 ≤ x96.toInt) => ?_) (fun (h101 : x96.toInt < 0) => ?_)
            · skip
              refine z_xP zt202 65 140 [some (.ref 19), some (.int x75), some (.int x96)] [.ref 19, .ref 19] rfl rfl ?_
              have h102 := (X89.2.f f19 (by decide) hz0)
              refine z_xgv zt202 66 rfl zo202 zzf12_123 X99 f19 (by decide) h102 ?_
              refine z_xP zt202 67 144 [some (.ref 19), some (.int x75), some (.int x96)] [.int 1, .int zp0, .ref 19] rfl rfl ?_
              refine z_xI zt202 68 rfl rfl (fun (x103 : Int32) (h104 : x103.toInt = zp0.toInt + 1) => ?_) (z_pAdd rfl rfl (by omega) (by omega))
              refine z_xpf zt202 69 rfl zo202 zzf12_123 X99 f19 (by decide) (by decide) ⟨by omega, by omega⟩ rfl (by decide) zw12_24 (fun M105 X106 e107 h108 => ?_)
              refine z_xP zt202 70 149 [some (.ref 19), some (.int x75), some (.int x96)] [.ref 19] rfl rfl ?_
              refine z_xgI zt202 71 rfl zo202 zzf12_183 X106 f19 (by decide) (by decide) rfl (fun (x110 : Int32) h109 (h111 : (-2147483648) ≤ x110.toInt) (h112 : x110.toInt ≤ 2147483647) => ?_)
              refine z_xP zt202 72 153 [some (.ref 19), some (.int x75), some (.int x96)] [.int x96, .int x110] rfl rfl ?_
              have h113 := z_b32 x110
              refine z_xI zt202 73 rfl rfl (P := fun _ => True) (fun (x114 : Int32) _ => ?_) trivial
              refine z_xP zt202 74 155 [some (.ref 19), some (.int x75), some (.int x96)] [.int 1, .int x114] rfl rfl ?_
              refine z_xI zt202 75 rfl rfl (fun (x116 : Int32) (h117 : 0 ≤ x116.toInt ∧ x116.toInt ≤ 1) => ?_) (z_pAnd rfl (by omega))
              refine z_xP zt202 76 157 [some (.ref 19), some (.int x75), some (.int x96)] [.int 1, .int x116] rfl rfl ?_
              refine z_xJ zt202 77 rfl rfl (fun (h118 : x116.toInt ≠ 1) => ?_) (fun (h118 : x116.toInt = 1) => ?_)
              · skip
                refine z_xP zt202 79 165 [some (.ref 19), some (.int x75), some (.int x96)] [.int 0] rfl rfl ?_
                have q0 : ((0 : Int32)).toInt = 0 := rfl
                exact z_xrz zt202 80 rfl zzr202 (by decide) (by decide) (kk 0 M105 X106 (by omega) (by omega) x103 h108 ⟨by omega, by omega⟩ (by omega))
              refine z_xP zt202 78 165 [some (.ref 19), some (.int x75), some (.int x96)] [.int 1] rfl rfl ?_
              have q1 : ((1 : Int32)).toInt = 1 := rfl
              exact z_xrz zt202 80 rfl zzr202 (by decide) (by decide) (kk 1 M105 X106 (by omega) (by omega) x103 h108 ⟨by omega, by omega⟩ (by omega))
            refine z_xP zt202 62 134 [some (.ref 19), some (.int x75), some (.int x96)] [.ref 19] rfl rfl ?_
            refine z_xcV (vs := [.ref 19]) (r := []) (L2 := [some (.ref 19)]) zt202 63 rfl zo202 zzcV12_163 (Or.inl rfl) rfl X99 f19 rfl rfl rfl (Nat.le_of_ble_eq_true rfl) zzm194 (Nat.le_of_ble_eq_true rfl) rfl ?_
            refine z_xP zt194 0 2 [some (.ref 19)] [.ref 19, .ref 19] rfl rfl ?_
            have h119 := (X89.2.f f19 (by decide) h1)
            refine z_xgv zt194 1 rfl zo194 zzf12_136 X99 f19 (by decide) h119 ?_
            refine z_xZ zt194 2 rfl rfl (fun (h120 : 0 ≤ x2.toInt) => absurd h120 (by omega)) (fun (h120 : x2.toInt < 0) => ?_)
            refine z_xP zt194 3 9 [some (.ref 19)] [.ref 19, .ref 19] rfl rfl ?_
            have h121 := (X89.2.f f19 (by decide) hz0)
            refine z_xgv zt194 4 rfl zo194 zzf12_123 X99 f19 (by decide) h121 ?_
            refine z_xP zt194 5 19 [some (.ref 19)] [.int zp0, .ref 19] rfl rfl ?_
            refine z_xpf zt194 8 rfl zo194 zzf12_136 X99 f19 (by decide) (by decide) ⟨Int32.le_toInt _, Int32.toInt_le _⟩ rfl (by decide) zw12_26 (fun M122 X123 e124 h125 => ?_)
            refine z_xP zt194 9 23 [some (.ref 19)] [.int 0] rfl rfl ?_
            refine z_xrz zt194 10 rfl zzr194 (by decide) (by decide) ?_
            show z_ev (d + 6) 202 137 [some (.ref 19), some (.int x75), some (.int x96)] [.int 0] M122 _
            have h126 := (e124.f f19 (by decide) h121)
            have q0 : ((0 : Int32)).toInt = 0 := rfl
            exact z_xrz zt202 64 rfl zzr202 (by decide) (by decide) (kk 0 M122 X123 (by omega) (by omega) zp0 h126 ⟨by omega, by omega⟩ (by omega))
          refine z_xP zt189 3 9 [some (.long y82), none, some (.long 49), none, some (.long 57), none] [.long 57, .long y82] rfl rfl ?_
          refine z_xI zt189 4 rfl rfl (fun (x127 : Int32) (h128 : (x127.toInt < 0 ∧ y82.toInt < 57) ∨ (x127.toInt = 0 ∧ y82.toInt = 57) ∨ (0 < x127.toInt ∧ 57 < y82.toInt)) => ?_) (z_qCmp rfl rfl)
          refine z_xZ zt189 5 rfl rfl (fun (h129 : 0 < x127.toInt) => ?_) (fun (h129 : x127.toInt ≤ 0) => ?_)
          · skip
            refine z_xP zt189 7 18 [some (.long y82), none, some (.long 49), none, some (.long 57), none] [.int 0] rfl rfl ?_
            refine z_xrz zt189 8 rfl zzr189 (by decide) (by decide) ?_
            show z_ev (d + 6) 202 111 [some (.ref 19), some (.int x75), none] [.int 0] M0 _
            refine z_xZ zt202 53 rfl rfl (fun (h130 : (0 : Int) = 0) => ?_) (fun (h130 : (0 : Int) ≠ 0) => absurd h130 (by omega))
            refine z_xP zt202 58 125 [some (.ref 19), some (.int x75), none] [.int x75, .ref 19] rfl rfl ?_
            refine z_xcV (vs := [.ref 19, .int x75]) (r := []) (L2 := [some (.ref 19), some (.int x75), none]) zt202 59 rfl zo202 zzcV12_179 (Or.inl rfl) rfl X f19 rfl rfl rfl (Nat.le_of_ble_eq_true rfl) zzm195 (Nat.le_of_ble_eq_true rfl) rfl ?_
            refine zC195 X.1 h67 ⟨by omega, by omega⟩ (z_GL.go hL X (by decide)) (fun x139 M131 X132 h140 h141 h133 h134 z135 h136 h137 h138 => ?_)
            have X142 := X.go X132 (z_sb (by decide))
            show z_ev (d + 6) 202 128 [some (.ref 19), some (.int x75), none] [.int x139] M131 _
            refine z_xP zt202 60 130 [some (.ref 19), some (.int x75), some (.int x139)] [.int x139] rfl rfl ?_
            refine z_xZ zt202 61 rfl rfl (fun (h144 : 0 ≤ x139.toInt) => ?_) (fun (h144 : x139.toInt < 0) => ?_)
            · skip
              refine z_xP zt202 65 140 [some (.ref 19), some (.int x75), some (.int x139)] [.ref 19, .ref 19] rfl rfl ?_
              have h145 := (X132.2.f f19 (by decide) hz0)
              refine z_xgv zt202 66 rfl zo202 zzf12_123 X142 f19 (by decide) h145 ?_
              refine z_xP zt202 67 144 [some (.ref 19), some (.int x75), some (.int x139)] [.int 1, .int zp0, .ref 19] rfl rfl ?_
              refine z_xI zt202 68 rfl rfl (fun (x146 : Int32) (h147 : x146.toInt = zp0.toInt + 1) => ?_) (z_pAdd rfl rfl (by omega) (by omega))
              refine z_xpf zt202 69 rfl zo202 zzf12_123 X142 f19 (by decide) (by decide) ⟨by omega, by omega⟩ rfl (by decide) zw12_24 (fun M148 X149 e150 h151 => ?_)
              refine z_xP zt202 70 149 [some (.ref 19), some (.int x75), some (.int x139)] [.ref 19] rfl rfl ?_
              refine z_xgI zt202 71 rfl zo202 zzf12_183 X149 f19 (by decide) (by decide) rfl (fun (x153 : Int32) h152 (h154 : (-2147483648) ≤ x153.toInt) (h155 : x153.toInt ≤ 2147483647) => ?_)
              refine z_xP zt202 72 153 [some (.ref 19), some (.int x75), some (.int x139)] [.int x139, .int x153] rfl rfl ?_
              have h156 := z_b32 x153
              refine z_xI zt202 73 rfl rfl (P := fun _ => True) (fun (x157 : Int32) _ => ?_) trivial
              refine z_xP zt202 74 155 [some (.ref 19), some (.int x75), some (.int x139)] [.int 1, .int x157] rfl rfl ?_
              refine z_xI zt202 75 rfl rfl (fun (x159 : Int32) (h160 : 0 ≤ x159.toInt ∧ x159.toInt ≤ 1) => ?_) (z_pAnd rfl (by omega))
              refine z_xP zt202 76 157 [some (.ref 19), some (.int x75), some (.int x139)] [.int 1, .int x159] rfl rfl ?_
              refine z_xJ zt202 77 rfl rfl (fun (h161 : x159.toInt ≠ 1) => ?_) (fun (h161 : x159.toInt = 1) => ?_)
              · skip
                refine z_xP zt202 79 165 [some (.ref 19), some (.int x75), some (.int x139)] [.int 0] rfl rfl ?_
                have q0 : ((0 : Int32)).toInt = 0 := rfl
                exact z_xrz zt202 80 rfl zzr202 (by decide) (by decide) (kk 0 M148 X149 (by omega) (by omega) x146 h151 ⟨by omega, by omega⟩ (by omega))
              refine z_xP zt202 78 165 [some (.ref 19), some (.int x75), some (.int x139)] [.int 1] rfl rfl ?_
              have q1 : ((1 : Int32)).toInt = 1 := rfl
              exact z_xrz zt202 80 rfl zzr202 (by decide) (by decide) (kk 1 M148 X149 (by omega) (by omega) x146 h151 ⟨by omega, by omega⟩ (by omega))
            refine z_xP zt202 62 134 [some (.ref 19), some (.int x75), some (.int x139)] [.ref 19] rfl rfl ?_
            refine z_xcV (vs := [.ref 19]) (r := []) (L2 := [some (.ref 19)]) zt202 63 rfl zo202 zzcV12_163 (Or.inl rfl) rfl X142 f19 rfl rfl rfl (Nat.le_of_ble_eq_true rfl) zzm194 (Nat.le_of_ble_eq_true rfl) rfl ?_
            refine z_xP zt194 0 2 [some (.ref 19)] [.ref 19, .ref 19] rfl rfl ?_
            have h162 := (X132.2.f f19 (by decide) h1)
            refine z_xgv zt194 1 rfl zo194 zzf12_136 X142 f19 (by decide) h162 ?_
            refine z_xZ zt194 2 rfl rfl (fun (h163 : 0 ≤ x2.toInt) => absurd h163 (by omega)) (fun (h163 : x2.toInt < 0) => ?_)
            refine z_xP zt194 3 9 [some (.ref 19)] [.ref 19, .ref 19] rfl rfl ?_
            have h164 := (X132.2.f f19 (by decide) hz0)
            refine z_xgv zt194 4 rfl zo194 zzf12_123 X142 f19 (by decide) h164 ?_
            refine z_xP zt194 5 19 [some (.ref 19)] [.int zp0, .ref 19] rfl rfl ?_
            refine z_xpf zt194 8 rfl zo194 zzf12_136 X142 f19 (by decide) (by decide) ⟨Int32.le_toInt _, Int32.toInt_le _⟩ rfl (by decide) zw12_26 (fun M165 X166 e167 h168 => ?_)
            refine z_xP zt194 9 23 [some (.ref 19)] [.int 0] rfl rfl ?_
            refine z_xrz zt194 10 rfl zzr194 (by decide) (by decide) ?_
            show z_ev (d + 6) 202 137 [some (.ref 19), some (.int x75), some (.int x139)] [.int 0] M165 _
            have h169 := (e167.f f19 (by decide) h164)
            have q0 : ((0 : Int32)).toInt = 0 := rfl
            exact z_xrz zt202 64 rfl zzr202 (by decide) (by decide) (kk 0 M165 X166 (by omega) (by omega) zp0 h169 ⟨by omega, by omega⟩ (by omega))
          refine z_xP zt189 6 18 [some (.long y82), none, some (.long 49), none, some (.long 57), none] [.int 1] rfl rfl ?_
          refine z_xrz zt189 8 rfl zzr189 (by decide) (by decide) ?_
          show z_ev (d + 6) 202 111 [some (.ref 19), some (.int x75), none] [.int 1] M0 _
          refine z_xZ zt202 53 rfl rfl (fun (h170 : (1 : Int) = 0) => absurd h170 (by omega)) (fun (h170 : (1 : Int) ≠ 0) => ?_)
          refine z_xP zt202 54 118 [some (.ref 19), some (.int x75), none] [.int 48, .int x75, .ref 19] rfl rfl ?_
          refine z_xI zt202 55 rfl rfl (fun (x171 : Int32) (h172 : x171.toInt = x75.toInt - 48) => ?_) (z_pSub rfl rfl (by omega) (by omega))
          obtain ⟨d173, hdd173⟩ : ∃ e, d = e + 1 := ⟨d - 1, by omega⟩
          subst hdd173
          refine z_xcV (vs := [.ref 19, .int x171]) (r := []) (L2 := [some (.ref 19), some (.int x171), none, none]) zt202 56 rfl zo202 zzcV12_176 (Or.inl rfl) rfl X f19 rfl rfl rfl (Nat.le_of_ble_eq_true rfl) zzm204 (Nat.le_of_ble_eq_true rfl) rfl ?_
          refine ih204 X.1 (by omega) hz0 ⟨by omega, by omega⟩ (z_GL.go hL X (by decide)) (by omega) (by omega) (fun x180 M174 X175 h181 h182 z176 h177 h178 h179 => ?_)
          have X183 := X.go X175 (z_sb (by decide))
          show z_ev (d173 + 1 + 6) 202 122 [some (.ref 19), some (.int x75), none] [.int x180] M174 _
          exact z_xrz zt202 57 rfl zzr202 (by omega) (by omega) (kk x180 M174 X183 (by omega) (by omega) z176 h177 ⟨by omega, by omega⟩ (by omega))
        refine z_xP zt202 28 61 [some (.ref 19), some (.int x75), none] [.ref 19] rfl rfl ?_
        refine z_xcV (vs := [.ref 19]) (r := []) (L2 := [some (.ref 19)]) zt202 29 rfl zo202 zzcV12_166 (Or.inl rfl) rfl X f19 rfl rfl rfl (Nat.le_of_ble_eq_true rfl) zzm203 (Nat.le_of_ble_eq_true rfl) rfl ?_
        refine z_xP zt203 0 1 [some (.ref 19)] [.ref 19] rfl rfl ?_
        refine z_xgI zt203 1 rfl zo203 zzf12_160 X f19 (by decide) (by decide) rfl (fun (x186 : Int32) h185 (h187 : (-2147483648) ≤ x186.toInt) (h188 : x186.toInt ≤ 2147483647) => ?_)
        refine z_xP zt203 2 6 [some (.ref 19)] [.int 6, .int x186] rfl rfl ?_
        refine z_xJ zt203 3 rfl rfl (fun (h189 : x186.toInt ≠ 6) => ?_) (fun (h189 : x186.toInt = 6) => ?_)
        · skip
          refine z_xP zt203 7 16 [some (.ref 19)] [.ref 19, .ref 19] rfl rfl ?_
          refine z_xgv zt203 8 rfl zo203 zzf12_160 X f19 (by decide) h185 ?_
          refine z_xP zt203 9 20 [some (.ref 19)] [.int 1, .int x186, .ref 19] rfl rfl ?_
          have h190 := z_b32 x186
          refine z_xI zt203 10 rfl rfl (P := fun _ => True) (fun (x191 : Int32) _ => ?_) trivial
          refine z_xpf zt203 11 rfl zo203 zzf12_160 X f19 (by decide) (by decide) ⟨Int32.le_toInt _, Int32.toInt_le _⟩ rfl (by decide) zw12_27 (fun M193 X194 e195 h196 => ?_)
          refine z_xP zt203 12 26 [some (.ref 19)] [.ref 19, .ref 19] rfl rfl ?_
          have h197 := (e195.f f19 (by decide) hz0)
          refine z_xgv zt203 13 rfl zo203 zzf12_123 X194 f19 (by decide) h197 ?_
          refine z_xP zt203 14 30 [some (.ref 19)] [.int 1, .int zp0, .ref 19] rfl rfl ?_
          refine z_xI zt203 15 rfl rfl (fun (x198 : Int32) (h199 : x198.toInt = zp0.toInt + 1) => ?_) (z_pAdd rfl rfl (by omega) (by omega))
          refine z_xpf zt203 16 rfl zo203 zzf12_123 X194 f19 (by decide) (by decide) ⟨by omega, by omega⟩ rfl (by decide) zw12_24 (fun M200 X201 e202 h203 => ?_)
          refine z_xP zt203 17 35 [some (.ref 19)] [.int 1] rfl rfl ?_
          refine z_xrz zt203 18 rfl zzr203 (by decide) (by decide) ?_
          show z_ev (d + 6) 202 64 [some (.ref 19), some (.int x75), none] [.int 1] M200 _
          refine z_xZ zt202 30 rfl rfl (fun (h204 : (1 : Int) ≠ 0) => ?_) (fun (h204 : (1 : Int) = 0) => absurd h204 (by omega))
          refine z_xP zt202 33 70 [some (.ref 19), some (.int x75), none] [.ref 19] rfl rfl ?_
          obtain ⟨d205, hdd205⟩ : ∃ e, d = e + 1 := ⟨d - 1, by omega⟩
          subst hdd205
          refine z_xcV (vs := [.ref 19]) (r := []) (L2 := [some (.ref 19), none, none]) zt202 34 rfl zo202 zzcV12_169 (Or.inl rfl) rfl X201 f19 rfl rfl rfl (Nat.le_of_ble_eq_true rfl) zzm198 (Nat.le_of_ble_eq_true rfl) rfl ?_
          refine ih198 X201.1 h203 ⟨by omega, by omega⟩ (z_GL.go hL X201 (by decide)) (by omega) (by omega) (fun x212 M206 X207 h213 h214 z208 h209 h210 h211 => ?_)
          have X215 := X201.go X207 (z_sb (by decide))
          show z_ev (d205 + 1 + 6) 202 73 [some (.ref 19), some (.int x75), none] [.int x212] M206 _
          refine z_xP zt202 35 77 [some (.ref 19), some (.int x75), some (.int x212)] [.int 41, .ref 19] rfl rfl ?_
          refine z_xcV (vs := [.ref 19, .int 41]) (r := []) (L2 := [some (.ref 19), some (.int 41)]) zt202 36 rfl zo202 zzcV12_147 (Or.inl rfl) rfl X215 f19 rfl rfl rfl (Nat.le_of_ble_eq_true rfl) zzm192 (Nat.le_of_ble_eq_true rfl) rfl ?_
          refine z_xP zt192 0 1 [some (.ref 19), some (.int 41)] [.ref 19] rfl rfl ?_
          refine z_xgI zt192 1 rfl zo192 zzf12_136 X215 f19 (by decide) (by decide) rfl (fun (x218 : Int32) h217 (h219 : (-2147483648) ≤ x218.toInt) (h220 : x218.toInt ≤ 2147483647) => ?_)
          refine z_xZ zt192 2 rfl rfl (fun (h221 : 0 ≤ x218.toInt) => ?_) (fun (h221 : x218.toInt < 0) => ?_)
          · skip
            refine z_xP zt192 7 16 [some (.ref 19), some (.int 41)] [.int 0] rfl rfl ?_
            refine z_xrz zt192 8 rfl zzr192 (by decide) (by decide) ?_
            show z_ev (d205 + 1 + 6) 202 80 [some (.ref 19), some (.int x75), some (.int x212)] [.int 0] M206 _
            refine z_xZ zt202 37 rfl rfl (fun (h222 : (0 : Int) ≠ 0) => absurd h222 (by omega)) (fun (h222 : (0 : Int) = 0) => ?_)
            refine z_xP zt202 38 84 [some (.ref 19), some (.int x75), some (.int x212)] [.ref 19] rfl rfl ?_
            refine z_xcV (vs := [.ref 19]) (r := []) (L2 := [some (.ref 19)]) zt202 39 rfl zo202 zzcV12_163 (Or.inl rfl) rfl X215 f19 rfl rfl rfl (Nat.le_of_ble_eq_true rfl) zzm194 (Nat.le_of_ble_eq_true rfl) rfl ?_
            refine z_xP zt194 0 2 [some (.ref 19)] [.ref 19, .ref 19] rfl rfl ?_
            refine z_xgv zt194 1 rfl zo194 zzf12_136 X215 f19 (by decide) h217 ?_
            refine z_xZ zt194 2 rfl rfl (fun (h223 : 0 ≤ x218.toInt) => ?_) (fun (h223 : x218.toInt < 0) => absurd h223 (by omega))
            refine z_xP zt194 6 16 [some (.ref 19)] [.ref 19, .ref 19] rfl rfl ?_
            refine z_xgv zt194 7 rfl zo194 zzf12_136 X215 f19 (by decide) h217 ?_
            refine z_xpf zt194 8 rfl zo194 zzf12_136 X215 f19 (by decide) (by decide) ⟨Int32.le_toInt _, Int32.toInt_le _⟩ rfl (by decide) zw12_26 (fun M224 X225 e226 h227 => ?_)
            refine z_xP zt194 9 23 [some (.ref 19)] [.int 0] rfl rfl ?_
            refine z_xrz zt194 10 rfl zzr194 (by decide) (by decide) ?_
            show z_ev (d205 + 1 + 6) 202 87 [some (.ref 19), some (.int x75), some (.int x212)] [.int 0] M224 _
            have h228 := (e226.f f19 (by decide) h209)
            have q0 : ((0 : Int32)).toInt = 0 := rfl
            exact z_xrz zt202 40 rfl zzr202 (by decide) (by decide) (kk 0 M224 X225 (by omega) (by omega) z208 h228 ⟨by omega, by omega⟩ (by omega))
          refine z_xP zt192 3 8 [some (.ref 19), some (.int 41)] [.ref 19] rfl rfl ?_
          refine z_xcV (vs := [.ref 19]) (r := []) (L2 := [some (.ref 19)]) zt192 4 rfl zo192 zzcV12_139 (Or.inl rfl) rfl X215 f19 rfl rfl rfl (Nat.le_of_ble_eq_true rfl) zzm193 (Nat.le_of_ble_eq_true rfl) rfl ?_
          refine z_xP zt193 0 1 [some (.ref 19)] [.ref 19] rfl rfl ?_
          refine z_xgv zt193 1 rfl zo193 zzf12_123 X215 f19 (by decide) h209 ?_
          refine z_xP zt193 2 5 [some (.ref 19)] [.ref 19, .int z208] rfl rfl ?_
          have h229 := (X207.2.f f19 (by decide) (e202.f f19 (by decide) (e195.f f19 (by decide) h6)))
          refine z_xgv zt193 3 rfl zo193 zzf12_126 X215 f19 (by decide) h229 ?_
          refine z_xJ zt193 4 rfl rfl (fun (h230 : x7.toInt ≤ z208.toInt) => ?_) (fun (h230 : z208.toInt < x7.toInt) => ?_)
          · skip
            refine z_xP zt193 24 52 [some (.ref 19)] [.int 0] rfl rfl ?_
            refine z_xri zt193 25 rfl zzr193 ?_
            show z_ev (d205 + 1 + 5) 192 11 [some (.ref 19), some (.int 41)] [.int 0] M206 _
            refine z_xP zt192 5 12 [some (.ref 19), some (.int 41)] [.int 41, .int 0] rfl rfl ?_
            refine z_xJ zt192 6 rfl rfl (fun (h231 : (0 : Int) = 41) => absurd h231 (by omega)) (fun (h231 : (0 : Int) ≠ 41) => ?_)
            refine z_xP zt192 7 16 [some (.ref 19), some (.int 41)] [.int 0] rfl rfl ?_
            refine z_xrz zt192 8 rfl zzr192 (by decide) (by decide) ?_
            show z_ev (d205 + 1 + 6) 202 80 [some (.ref 19), some (.int x75), some (.int x212)] [.int 0] M206 _
            refine z_xZ zt202 37 rfl rfl (fun (h232 : (0 : Int) ≠ 0) => absurd h232 (by omega)) (fun (h232 : (0 : Int) = 0) => ?_)
            refine z_xP zt202 38 84 [some (.ref 19), some (.int x75), some (.int x212)] [.ref 19] rfl rfl ?_
            refine z_xcV (vs := [.ref 19]) (r := []) (L2 := [some (.ref 19)]) zt202 39 rfl zo202 zzcV12_163 (Or.inl rfl) rfl X215 f19 rfl rfl rfl (Nat.le_of_ble_eq_true rfl) zzm194 (Nat.le_of_ble_eq_true rfl) rfl ?_
            refine z_xP zt194 0 2 [some (.ref 19)] [.ref 19, .ref 19] rfl rfl ?_
            refine z_xgv zt194 1 rfl zo194 zzf12_136 X215 f19 (by decide) h217 ?_
            refine z_xZ zt194 2 rfl rfl (fun (h233 : 0 ≤ x218.toInt) => absurd h233 (by omega)) (fun (h233 : x218.toInt < 0) => ?_)
            refine z_xP zt194 3 9 [some (.ref 19)] [.ref 19, .ref 19] rfl rfl ?_
            refine z_xgv zt194 4 rfl zo194 zzf12_123 X215 f19 (by decide) h209 ?_
            refine z_xP zt194 5 19 [some (.ref 19)] [.int z208, .ref 19] rfl rfl ?_
            refine z_xpf zt194 8 rfl zo194 zzf12_136 X215 f19 (by decide) (by decide) ⟨Int32.le_toInt _, Int32.toInt_le _⟩ rfl (by decide) zw12_26 (fun M234 X235 e236 h237 => ?_)
            refine z_xP zt194 9 23 [some (.ref 19)] [.int 0] rfl rfl ?_
            refine z_xrz zt194 10 rfl zzr194 (by decide) (by decide) ?_
            show z_ev (d205 + 1 + 6) 202 87 [some (.ref 19), some (.int x75), some (.int x212)] [.int 0] M234 _
            have h238 := (e236.f f19 (by decide) h209)
            have q0 : ((0 : Int32)).toInt = 0 := rfl
            exact z_xrz zt202 40 rfl zzr202 (by decide) (by decide) (kk 0 M234 X235 (by omega) (by omega) z208 h238 ⟨by omega, by omega⟩ (by omega))
          refine z_xP zt193 5 12 [some (.ref 19)] [.ref 19] rfl rfl ?_
          have h239 := (X207.2.f f19 (by decide) (e202.f f19 (by decide) (e195.f f19 (by decide) h62)))
          refine z_xgv zt193 6 rfl zo193 zzf12_129 X215 f19 (by decide) h239 ?_
          refine z_xZ zt193 7 rfl rfl (fun (h240 : x63.toInt = 0) => ?_) (fun (h240 : x63.toInt ≠ 0) => absurd h240 (by omega))
          refine z_xP zt193 14 31 [some (.ref 19)] [.ref 19] rfl rfl ?_
          refine z_xgX (b := 21) zt193 15 rfl zo193 zzf12_13 X215 f19 (by decide) (by decide) rfl ?_
          refine z_xP zt193 16 38 [some (.ref 19)] [.ref 19, .int 160, .ref 21] rfl rfl ?_
          have h241 := (X207.2.f f19 (by decide) (e202.f f19 (by decide) (e195.f f19 (by decide) h67)))
          refine z_xgv zt193 17 rfl zo193 zzf12_133 X215 f19 (by decide) h241 ?_
          refine z_xI zt193 18 rfl rfl (fun (x242 : Int32) (h243 : x242.toInt = 160 * x68.toInt) => ?_) (z_pMul rfl rfl (by omega) (by omega))
          refine z_xP zt193 19 43 [some (.ref 19)] [.ref 19, .int x242, .ref 21] rfl rfl ?_
          refine z_xgv zt193 20 rfl zo193 zzf12_123 X215 f19 (by decide) h209 ?_
          refine z_xI zt193 21 rfl rfl (fun (x244 : Int32) (h245 : x244.toInt = x242.toInt + z208.toInt) => ?_) (z_pAdd rfl rfl (by omega) (by omega))
          refine z_xil zt193 22 rfl X215 f21 (by decide) (by omega) (by omega) (fun (x246 : Int32) h247 (h248 : (-2147483648) ≤ x246.toInt) (h249 : x246.toInt ≤ 2147483647) => ?_)
          refine z_xP zt193 23 52 [some (.ref 19)] [.int x246] rfl rfl ?_
          refine z_xri zt193 25 rfl zzr193 ?_
          show z_ev (d205 + 1 + 5) 192 11 [some (.ref 19), some (.int 41)] [.int x246] M206 _
          refine z_xP zt192 5 12 [some (.ref 19), some (.int 41)] [.int 41, .int x246] rfl rfl ?_
          refine z_xJ zt192 6 rfl rfl (fun (h250 : x246.toInt = 41) => ?_) (fun (h250 : x246.toInt ≠ 41) => ?_)
          · skip
            refine z_xP zt192 9 19 [some (.ref 19), some (.int 41)] [.ref 19, .ref 19] rfl rfl ?_
            refine z_xgv zt192 10 rfl zo192 zzf12_123 X215 f19 (by decide) h209 ?_
            refine z_xP zt192 11 23 [some (.ref 19), some (.int 41)] [.int 1, .int z208, .ref 19] rfl rfl ?_
            refine z_xI zt192 12 rfl rfl (fun (x251 : Int32) (h252 : x251.toInt = z208.toInt + 1) => ?_) (z_pAdd rfl rfl (by omega) (by omega))
            refine z_xpf zt192 13 rfl zo192 zzf12_123 X215 f19 (by decide) (by decide) ⟨by omega, by omega⟩ rfl (by decide) zw12_24 (fun M253 X254 e255 h256 => ?_)
            refine z_xP zt192 14 28 [some (.ref 19), some (.int 41)] [.int 1] rfl rfl ?_
            refine z_xrz zt192 15 rfl zzr192 (by decide) (by decide) ?_
            show z_ev (d205 + 1 + 6) 202 80 [some (.ref 19), some (.int x75), some (.int x212)] [.int 1] M253 _
            refine z_xZ zt202 37 rfl rfl (fun (h257 : (1 : Int) ≠ 0) => ?_) (fun (h257 : (1 : Int) = 0) => absurd h257 (by omega))
            refine z_xP zt202 41 90 [some (.ref 19), some (.int x75), some (.int x212)] [.ref 19, .ref 19] rfl rfl ?_
            refine z_xgI zt202 42 rfl zo202 zzf12_160 X254 f19 (by decide) (by decide) rfl (fun (x259 : Int32) h258 (h260 : (-2147483648) ≤ x259.toInt) (h261 : x259.toInt ≤ 2147483647) => ?_)
            refine z_xP zt202 43 94 [some (.ref 19), some (.int x75), some (.int x212)] [.int 1, .int x259, .ref 19] rfl rfl ?_
            have h262 := z_b32 x259
            refine z_xI zt202 44 rfl rfl (P := fun _ => True) (fun (x263 : Int32) _ => ?_) trivial
            refine z_xpf zt202 45 rfl zo202 zzf12_160 X254 f19 (by decide) (by decide) ⟨Int32.le_toInt _, Int32.toInt_le _⟩ rfl (by decide) zw12_27 (fun M265 X266 e267 h268 => ?_)
            refine z_xP zt202 46 99 [some (.ref 19), some (.int x75), some (.int x212)] [.int x212] rfl rfl ?_
            have h269 := (e267.f f19 (by decide) h256)
            exact z_xrz zt202 47 rfl zzr202 (by omega) (by omega) (kk x212 M265 X266 (by omega) (by omega) x251 h269 ⟨by omega, by omega⟩ (by omega))
          refine z_xP zt192 7 16 [some (.ref 19), some (.int 41)] [.int 0] rfl rfl ?_
          refine z_xrz zt192 8 rfl zzr192 (by decide) (by decide) ?_
          show z_ev (d205 + 1 + 6) 202 80 [some (.ref 19), some (.int x75), some (.int x212)] [.int 0] M206 _
          refine z_xZ zt202 37 rfl rfl (fun (h270 : (0 : Int) ≠ 0) => absurd h270 (by omega)) (fun (h270 : (0 : Int) = 0) => ?_)
          refine z_xP zt202 38 84 [some (.ref 19), some (.int x75), some (.int x212)] [.ref 19] rfl rfl ?_
          refine z_xcV (vs := [.ref 19]) (r := []) (L2 := [some (.ref 19)]) zt202 39 rfl zo202 zzcV12_163 (Or.inl rfl) rfl X215 f19 rfl rfl rfl (Nat.le_of_ble_eq_true rfl) zzm194 (Nat.le_of_ble_eq_true rfl) rfl ?_
          refine z_xP zt194 0 2 [some (.ref 19)] [.ref 19, .ref 19] rfl rfl ?_
          refine z_xgv zt194 1 rfl zo194 zzf12_136 X215 f19 (by decide) h217 ?_
          refine z_xZ zt194 2 rfl rfl (fun (h271 : 0 ≤ x218.toInt) => absurd h271 (by omega)) (fun (h271 : x218.toInt < 0) => ?_)
          refine z_xP zt194 3 9 [some (.ref 19)] [.ref 19, .ref 19] rfl rfl ?_
          refine z_xgv zt194 4 rfl zo194 zzf12_123 X215 f19 (by decide) h209 ?_
          refine z_xP zt194 5 19 [some (.ref 19)] [.int z208, .ref 19] rfl rfl ?_
          refine z_xpf zt194 8 rfl zo194 zzf12_136 X215 f19 (by decide) (by decide) ⟨Int32.le_toInt _, Int32.toInt_le _⟩ rfl (by decide) zw12_26 (fun M272 X273 e274 h275 => ?_)
          refine z_xP zt194 9 23 [some (.ref 19)] [.int 0] rfl rfl ?_
          refine z_xrz zt194 10 rfl zzr194 (by decide) (by decide) ?_
          show z_ev (d205 + 1 + 6) 202 87 [some (.ref 19), some (.int x75), some (.int x212)] [.int 0] M272 _
          have h276 := (e274.f f19 (by decide) h209)
          have q0 : ((0 : Int32)).toInt = 0 := rfl
          exact z_xrz zt202 40 rfl zzr202 (by decide) (by decide) (kk 0 M272 X273 (by omega) (by omega) z208 h276 ⟨by omega, by omega⟩ (by omega))
        refine z_xP zt203 4 10 [some (.ref 19)] [.ref 19] rfl rfl ?_
        refine z_xcV (vs := [.ref 19]) (r := []) (L2 := [some (.ref 19)]) zt203 5 rfl zo203 zzcV12_163 (Or.inl rfl) rfl X f19 rfl rfl rfl (Nat.le_of_ble_eq_true rfl) zzm194 (Nat.le_of_ble_eq_true rfl) rfl ?_
        refine z_xP zt194 0 2 [some (.ref 19)] [.ref 19, .ref 19] rfl rfl ?_
        refine z_xgv zt194 1 rfl zo194 zzf12_136 X f19 (by decide) h1 ?_
        refine z_xZ zt194 2 rfl rfl (fun (h277 : 0 ≤ x2.toInt) => absurd h277 (by omega)) (fun (h277 : x2.toInt < 0) => ?_)
        refine z_xP zt194 3 9 [some (.ref 19)] [.ref 19, .ref 19] rfl rfl ?_
        refine z_xgv zt194 4 rfl zo194 zzf12_123 X f19 (by decide) hz0 ?_
        refine z_xP zt194 5 19 [some (.ref 19)] [.int zp0, .ref 19] rfl rfl ?_
        refine z_xpf zt194 8 rfl zo194 zzf12_136 X f19 (by decide) (by decide) ⟨Int32.le_toInt _, Int32.toInt_le _⟩ rfl (by decide) zw12_26 (fun M278 X279 e280 h281 => ?_)
        refine z_xP zt194 9 23 [some (.ref 19)] [.int 0] rfl rfl ?_
        refine z_xrz zt194 10 rfl zzr194 (by decide) (by decide) ?_
        show z_ev (d + 5) 203 13 [some (.ref 19)] [.int 0] M278 _
        refine z_xrz zt203 6 rfl zzr203 (by decide) (by decide) ?_
        show z_ev (d + 6) 202 64 [some (.ref 19), some (.int x75), none] [.int 0] M278 _
        refine z_xZ zt202 30 rfl rfl (fun (h282 : (0 : Int) ≠ 0) => absurd h282 (by omega)) (fun (h282 : (0 : Int) = 0) => ?_)
        refine z_xP zt202 31 68 [some (.ref 19), some (.int x75), none] [.int 0] rfl rfl ?_
        have h283 := (e280.f f19 (by decide) hz0)
        have q0 : ((0 : Int32)).toInt = 0 := rfl
        exact z_xrz zt202 32 rfl zzr202 (by decide) (by decide) (kk 0 M278 X279 (by omega) (by omega) zp0 h283 ⟨by omega, by omega⟩ (by omega))
      refine z_xP zt202 9 21 [some (.ref 19), some (.int x75), none] [.ref 19] rfl rfl ?_
      refine z_xcV (vs := [.ref 19]) (r := []) (L2 := [some (.ref 19)]) zt202 10 rfl zo202 zzcV12_166 (Or.inl rfl) rfl X f19 rfl rfl rfl (Nat.le_of_ble_eq_true rfl) zzm203 (Nat.le_of_ble_eq_true rfl) rfl ?_
      refine z_xP zt203 0 1 [some (.ref 19)] [.ref 19] rfl rfl ?_
      refine z_xgI zt203 1 rfl zo203 zzf12_160 X f19 (by decide) (by decide) rfl (fun (x285 : Int32) h284 (h286 : (-2147483648) ≤ x285.toInt) (h287 : x285.toInt ≤ 2147483647) => ?_)
      refine z_xP zt203 2 6 [some (.ref 19)] [.int 6, .int x285] rfl rfl ?_
      refine z_xJ zt203 3 rfl rfl (fun (h288 : x285.toInt ≠ 6) => ?_) (fun (h288 : x285.toInt = 6) => ?_)
      · skip
        refine z_xP zt203 7 16 [some (.ref 19)] [.ref 19, .ref 19] rfl rfl ?_
        refine z_xgv zt203 8 rfl zo203 zzf12_160 X f19 (by decide) h284 ?_
        refine z_xP zt203 9 20 [some (.ref 19)] [.int 1, .int x285, .ref 19] rfl rfl ?_
        have h289 := z_b32 x285
        refine z_xI zt203 10 rfl rfl (P := fun _ => True) (fun (x290 : Int32) _ => ?_) trivial
        refine z_xpf zt203 11 rfl zo203 zzf12_160 X f19 (by decide) (by decide) ⟨Int32.le_toInt _, Int32.toInt_le _⟩ rfl (by decide) zw12_27 (fun M292 X293 e294 h295 => ?_)
        refine z_xP zt203 12 26 [some (.ref 19)] [.ref 19, .ref 19] rfl rfl ?_
        have h296 := (e294.f f19 (by decide) hz0)
        refine z_xgv zt203 13 rfl zo203 zzf12_123 X293 f19 (by decide) h296 ?_
        refine z_xP zt203 14 30 [some (.ref 19)] [.int 1, .int zp0, .ref 19] rfl rfl ?_
        refine z_xI zt203 15 rfl rfl (fun (x297 : Int32) (h298 : x297.toInt = zp0.toInt + 1) => ?_) (z_pAdd rfl rfl (by omega) (by omega))
        refine z_xpf zt203 16 rfl zo203 zzf12_123 X293 f19 (by decide) (by decide) ⟨by omega, by omega⟩ rfl (by decide) zw12_24 (fun M299 X300 e301 h302 => ?_)
        refine z_xP zt203 17 35 [some (.ref 19)] [.int 1] rfl rfl ?_
        refine z_xrz zt203 18 rfl zzr203 (by decide) (by decide) ?_
        show z_ev (d + 6) 202 24 [some (.ref 19), some (.int x75), none] [.int 1] M299 _
        refine z_xZ zt202 11 rfl rfl (fun (h303 : (1 : Int) ≠ 0) => ?_) (fun (h303 : (1 : Int) = 0) => absurd h303 (by omega))
        refine z_xP zt202 14 30 [some (.ref 19), some (.int x75), none] [.ref 19] rfl rfl ?_
        obtain ⟨d304, hdd304⟩ : ∃ e, d = e + 1 := ⟨d - 1, by omega⟩
        subst hdd304
        refine z_xcV (vs := [.ref 19]) (r := []) (L2 := [some (.ref 19), none, none]) zt202 15 rfl zo202 zzcV12_157 (Or.inl rfl) rfl X300 f19 rfl rfl rfl (Nat.le_of_ble_eq_true rfl) zzm202 (Nat.le_of_ble_eq_true rfl) rfl ?_
        refine ih202 X300.1 h302 ⟨by omega, by omega⟩ (z_GL.go hL X300 (by decide)) (by omega) (by omega) (fun x311 M305 X306 h312 h313 z307 h308 h309 h310 => ?_)
        have X314 := X300.go X306 (z_sb (by decide))
        show z_ev (d304 + 1 + 6) 202 33 [some (.ref 19), some (.int x75), none] [.int x311] M305 _
        refine z_xP zt202 16 36 [some (.ref 19), some (.int x75), some (.int x311)] [.ref 19, .ref 19] rfl rfl ?_
        refine z_xgI zt202 17 rfl zo202 zzf12_160 X314 f19 (by decide) (by decide) rfl (fun (x317 : Int32) h316 (h318 : (-2147483648) ≤ x317.toInt) (h319 : x317.toInt ≤ 2147483647) => ?_)
        refine z_xP zt202 18 40 [some (.ref 19), some (.int x75), some (.int x311)] [.int 1, .int x317, .ref 19] rfl rfl ?_
        have h320 := z_b32 x317
        refine z_xI zt202 19 rfl rfl (P := fun _ => True) (fun (x321 : Int32) _ => ?_) trivial
        refine z_xpf zt202 20 rfl zo202 zzf12_160 X314 f19 (by decide) (by decide) ⟨Int32.le_toInt _, Int32.toInt_le _⟩ rfl (by decide) zw12_27 (fun M323 X324 e325 h326 => ?_)
        refine z_xP zt202 21 45 [some (.ref 19), some (.int x75), some (.int x311)] [.int x311] rfl rfl ?_
        refine z_xZ zt202 22 rfl rfl (fun (h327 : x311.toInt ≠ 0) => ?_) (fun (h327 : x311.toInt = 0) => ?_)
        · skip
          refine z_xP zt202 24 53 [some (.ref 19), some (.int x75), some (.int x311)] [.int 0] rfl rfl ?_
          have h328 := (e325.f f19 (by decide) h308)
          have q0 : ((0 : Int32)).toInt = 0 := rfl
          exact z_xrz zt202 25 rfl zzr202 (by decide) (by decide) (kk 0 M323 X324 (by omega) (by omega) z307 h328 ⟨by omega, by omega⟩ (by omega))
        refine z_xP zt202 23 53 [some (.ref 19), some (.int x75), some (.int x311)] [.int 1] rfl rfl ?_
        have h329 := (e325.f f19 (by decide) h308)
        have q1 : ((1 : Int32)).toInt = 1 := rfl
        exact z_xrz zt202 25 rfl zzr202 (by decide) (by decide) (kk 1 M323 X324 (by omega) (by omega) z307 h329 ⟨by omega, by omega⟩ (by omega))
      refine z_xP zt203 4 10 [some (.ref 19)] [.ref 19] rfl rfl ?_
      refine z_xcV (vs := [.ref 19]) (r := []) (L2 := [some (.ref 19)]) zt203 5 rfl zo203 zzcV12_163 (Or.inl rfl) rfl X f19 rfl rfl rfl (Nat.le_of_ble_eq_true rfl) zzm194 (Nat.le_of_ble_eq_true rfl) rfl ?_
      refine z_xP zt194 0 2 [some (.ref 19)] [.ref 19, .ref 19] rfl rfl ?_
      refine z_xgv zt194 1 rfl zo194 zzf12_136 X f19 (by decide) h1 ?_
      refine z_xZ zt194 2 rfl rfl (fun (h330 : 0 ≤ x2.toInt) => absurd h330 (by omega)) (fun (h330 : x2.toInt < 0) => ?_)
      refine z_xP zt194 3 9 [some (.ref 19)] [.ref 19, .ref 19] rfl rfl ?_
      refine z_xgv zt194 4 rfl zo194 zzf12_123 X f19 (by decide) hz0 ?_
      refine z_xP zt194 5 19 [some (.ref 19)] [.int zp0, .ref 19] rfl rfl ?_
      refine z_xpf zt194 8 rfl zo194 zzf12_136 X f19 (by decide) (by decide) ⟨Int32.le_toInt _, Int32.toInt_le _⟩ rfl (by decide) zw12_26 (fun M331 X332 e333 h334 => ?_)
      refine z_xP zt194 9 23 [some (.ref 19)] [.int 0] rfl rfl ?_
      refine z_xrz zt194 10 rfl zzr194 (by decide) (by decide) ?_
      show z_ev (d + 5) 203 13 [some (.ref 19)] [.int 0] M331 _
      refine z_xrz zt203 6 rfl zzr203 (by decide) (by decide) ?_
      show z_ev (d + 6) 202 24 [some (.ref 19), some (.int x75), none] [.int 0] M331 _
      refine z_xZ zt202 11 rfl rfl (fun (h335 : (0 : Int) ≠ 0) => absurd h335 (by omega)) (fun (h335 : (0 : Int) = 0) => ?_)
      refine z_xP zt202 12 28 [some (.ref 19), some (.int x75), none] [.int 0] rfl rfl ?_
      have h336 := (e333.f f19 (by decide) hz0)
      have q0 : ((0 : Int32)).toInt = 0 := rfl
      exact z_xrz zt202 13 rfl zzr202 (by decide) (by decide) (kk 0 M331 X332 (by omega) (by omega) zp0 h336 ⟨by omega, by omega⟩ (by omega))
    refine z_xP zt193 8 19 [some (.ref 19)] [.ref 19] rfl rfl ?_
    refine z_xgX (b := 20) zt193 9 rfl zo193 zzf12_9 X f19 (by decide) (by decide) rfl ?_
    refine z_xP zt193 10 23 [some (.ref 19)] [.ref 19, .ref 20] rfl rfl ?_
    refine z_xgv zt193 11 rfl zo193 zzf12_123 X f19 (by decide) hz0 ?_
    have f20 : T[20]? = some (.inr (20, 0, 160, (-2147483648), 2147483647)) := X.1.k rfl (by decide)
    refine z_xil zt193 12 rfl X f20 (by decide) (by omega) (by omega) (fun (x337 : Int32) h338 (h339 : (-2147483648) ≤ x337.toInt) (h340 : x337.toInt ≤ 2147483647) => ?_)
    refine z_xP zt193 13 52 [some (.ref 19)] [.int x337] rfl rfl ?_
    refine z_xri zt193 25 rfl zzr193 ?_
    show z_ev (d + 6) 202 13 [some (.ref 19), none, none] [.int x337] M0 _
    refine z_xP zt202 7 17 [some (.ref 19), some (.int x337), none] [.int 33, .int x337] rfl rfl ?_
    refine z_xJ zt202 8 rfl rfl (fun (h341 : x337.toInt ≠ 33) => ?_) (fun (h341 : x337.toInt = 33) => ?_)
    · skip
      refine z_xP zt202 26 57 [some (.ref 19), some (.int x337), none] [.int 40, .int x337] rfl rfl ?_
      refine z_xJ zt202 27 rfl rfl (fun (h342 : x337.toInt ≠ 40) => ?_) (fun (h342 : x337.toInt = 40) => ?_)
      · skip
        refine z_xP zt202 48 101 [some (.ref 19), some (.int x337), none] [.int x337] rfl rfl ?_
        have h343 := z_b32 x337
        refine z_xL zt202 49 rfl rfl (fun (y344 : Int64) (h345 : y344.toInt = x337.toInt) => ?_) (z_qI2L rfl)
        refine z_xl2 zt202 50 rfl zo202 zkl12_172 ?_
        refine z_xl2 zt202 51 rfl zo202 zkl12_174 ?_
        refine z_xcS (vs := [.long y344, .long 49, .long 57]) (r := []) (L2 := [some (.long y344), none, some (.long 49), none, some (.long 57), none]) zt202 52 rfl zo202 zzcS12_116 (Or.inl rfl) (Nat.le_of_ble_eq_true rfl) rfl rfl (Nat.le_of_ble_eq_true rfl) zzm189 (Nat.le_of_ble_eq_true rfl) rfl ?_
        refine z_xP zt189 0 2 [some (.long y344), none, some (.long 49), none, some (.long 57), none] [.long 49, .long y344] rfl rfl ?_
        refine z_xI zt189 1 rfl rfl (fun (x346 : Int32) (h347 : (x346.toInt < 0 ∧ y344.toInt < 49) ∨ (x346.toInt = 0 ∧ y344.toInt = 49) ∨ (0 < x346.toInt ∧ 49 < y344.toInt)) => ?_) (z_qCmp rfl rfl)
        refine z_xZ zt189 2 rfl rfl (fun (h348 : x346.toInt < 0) => ?_) (fun (h348 : 0 ≤ x346.toInt) => ?_)
        · skip
          refine z_xP zt189 7 18 [some (.long y344), none, some (.long 49), none, some (.long 57), none] [.int 0] rfl rfl ?_
          refine z_xrz zt189 8 rfl zzr189 (by decide) (by decide) ?_
          show z_ev (d + 6) 202 111 [some (.ref 19), some (.int x337), none] [.int 0] M0 _
          refine z_xZ zt202 53 rfl rfl (fun (h349 : (0 : Int) = 0) => ?_) (fun (h349 : (0 : Int) ≠ 0) => absurd h349 (by omega))
          refine z_xP zt202 58 125 [some (.ref 19), some (.int x337), none] [.int x337, .ref 19] rfl rfl ?_
          refine z_xcV (vs := [.ref 19, .int x337]) (r := []) (L2 := [some (.ref 19), some (.int x337), none]) zt202 59 rfl zo202 zzcV12_179 (Or.inl rfl) rfl X f19 rfl rfl rfl (Nat.le_of_ble_eq_true rfl) zzm195 (Nat.le_of_ble_eq_true rfl) rfl ?_
          obtain ⟨x350, h351, h352, h353⟩ := z_W.fi X.1 f19 (k := 22) (lo := 0) (hi := 7) (by decide) rfl
          refine zC195 X.1 h351 ⟨by omega, by omega⟩ (z_GL.go hL X (by decide)) (fun x362 M354 X355 h363 h364 h356 h357 z358 h359 h360 h361 => ?_)
          have X365 := X.go X355 (z_sb (by decide))
          show z_ev (d + 6) 202 128 [some (.ref 19), some (.int x337), none] [.int x362] M354 _
          refine z_xP zt202 60 130 [some (.ref 19), some (.int x337), some (.int x362)] [.int x362] rfl rfl ?_
          refine z_xZ zt202 61 rfl rfl (fun (h367 : 0 ≤ x362.toInt) => ?_) (fun (h367 : x362.toInt < 0) => ?_)
          · skip
            refine z_xP zt202 65 140 [some (.ref 19), some (.int x337), some (.int x362)] [.ref 19, .ref 19] rfl rfl ?_
            have h368 := (X355.2.f f19 (by decide) hz0)
            refine z_xgv zt202 66 rfl zo202 zzf12_123 X365 f19 (by decide) h368 ?_
            refine z_xP zt202 67 144 [some (.ref 19), some (.int x337), some (.int x362)] [.int 1, .int zp0, .ref 19] rfl rfl ?_
            refine z_xI zt202 68 rfl rfl (fun (x369 : Int32) (h370 : x369.toInt = zp0.toInt + 1) => ?_) (z_pAdd rfl rfl (by omega) (by omega))
            refine z_xpf zt202 69 rfl zo202 zzf12_123 X365 f19 (by decide) (by decide) ⟨by omega, by omega⟩ rfl (by decide) zw12_24 (fun M371 X372 e373 h374 => ?_)
            refine z_xP zt202 70 149 [some (.ref 19), some (.int x337), some (.int x362)] [.ref 19] rfl rfl ?_
            refine z_xgI zt202 71 rfl zo202 zzf12_183 X372 f19 (by decide) (by decide) rfl (fun (x376 : Int32) h375 (h377 : (-2147483648) ≤ x376.toInt) (h378 : x376.toInt ≤ 2147483647) => ?_)
            refine z_xP zt202 72 153 [some (.ref 19), some (.int x337), some (.int x362)] [.int x362, .int x376] rfl rfl ?_
            have h379 := z_b32 x376
            refine z_xI zt202 73 rfl rfl (P := fun _ => True) (fun (x380 : Int32) _ => ?_) trivial
            refine z_xP zt202 74 155 [some (.ref 19), some (.int x337), some (.int x362)] [.int 1, .int x380] rfl rfl ?_
            refine z_xI zt202 75 rfl rfl (fun (x382 : Int32) (h383 : 0 ≤ x382.toInt ∧ x382.toInt ≤ 1) => ?_) (z_pAnd rfl (by omega))
            refine z_xP zt202 76 157 [some (.ref 19), some (.int x337), some (.int x362)] [.int 1, .int x382] rfl rfl ?_
            refine z_xJ zt202 77 rfl rfl (fun (h384 : x382.toInt ≠ 1) => ?_) (fun (h384 : x382.toInt = 1) => ?_)
            · skip
              refine z_xP zt202 79 165 [some (.ref 19), some (.int x337), some (.int x362)] [.int 0] rfl rfl ?_
              have q0 : ((0 : Int32)).toInt = 0 := rfl
              exact z_xrz zt202 80 rfl zzr202 (by decide) (by decide) (kk 0 M371 X372 (by omega) (by omega) x369 h374 ⟨by omega, by omega⟩ (by omega))
            refine z_xP zt202 78 165 [some (.ref 19), some (.int x337), some (.int x362)] [.int 1] rfl rfl ?_
            have q1 : ((1 : Int32)).toInt = 1 := rfl
            exact z_xrz zt202 80 rfl zzr202 (by decide) (by decide) (kk 1 M371 X372 (by omega) (by omega) x369 h374 ⟨by omega, by omega⟩ (by omega))
          refine z_xP zt202 62 134 [some (.ref 19), some (.int x337), some (.int x362)] [.ref 19] rfl rfl ?_
          refine z_xcV (vs := [.ref 19]) (r := []) (L2 := [some (.ref 19)]) zt202 63 rfl zo202 zzcV12_163 (Or.inl rfl) rfl X365 f19 rfl rfl rfl (Nat.le_of_ble_eq_true rfl) zzm194 (Nat.le_of_ble_eq_true rfl) rfl ?_
          refine z_xP zt194 0 2 [some (.ref 19)] [.ref 19, .ref 19] rfl rfl ?_
          have h385 := (X355.2.f f19 (by decide) h1)
          refine z_xgv zt194 1 rfl zo194 zzf12_136 X365 f19 (by decide) h385 ?_
          refine z_xZ zt194 2 rfl rfl (fun (h386 : 0 ≤ x2.toInt) => absurd h386 (by omega)) (fun (h386 : x2.toInt < 0) => ?_)
          refine z_xP zt194 3 9 [some (.ref 19)] [.ref 19, .ref 19] rfl rfl ?_
          have h387 := (X355.2.f f19 (by decide) hz0)
          refine z_xgv zt194 4 rfl zo194 zzf12_123 X365 f19 (by decide) h387 ?_
          refine z_xP zt194 5 19 [some (.ref 19)] [.int zp0, .ref 19] rfl rfl ?_
          refine z_xpf zt194 8 rfl zo194 zzf12_136 X365 f19 (by decide) (by decide) ⟨Int32.le_toInt _, Int32.toInt_le _⟩ rfl (by decide) zw12_26 (fun M388 X389 e390 h391 => ?_)
          refine z_xP zt194 9 23 [some (.ref 19)] [.int 0] rfl rfl ?_
          refine z_xrz zt194 10 rfl zzr194 (by decide) (by decide) ?_
          show z_ev (d + 6) 202 137 [some (.ref 19), some (.int x337), some (.int x362)] [.int 0] M388 _
          have h392 := (e390.f f19 (by decide) h387)
          have q0 : ((0 : Int32)).toInt = 0 := rfl
          exact z_xrz zt202 64 rfl zzr202 (by decide) (by decide) (kk 0 M388 X389 (by omega) (by omega) zp0 h392 ⟨by omega, by omega⟩ (by omega))
        refine z_xP zt189 3 9 [some (.long y344), none, some (.long 49), none, some (.long 57), none] [.long 57, .long y344] rfl rfl ?_
        refine z_xI zt189 4 rfl rfl (fun (x393 : Int32) (h394 : (x393.toInt < 0 ∧ y344.toInt < 57) ∨ (x393.toInt = 0 ∧ y344.toInt = 57) ∨ (0 < x393.toInt ∧ 57 < y344.toInt)) => ?_) (z_qCmp rfl rfl)
        refine z_xZ zt189 5 rfl rfl (fun (h395 : 0 < x393.toInt) => ?_) (fun (h395 : x393.toInt ≤ 0) => ?_)
        · skip
          refine z_xP zt189 7 18 [some (.long y344), none, some (.long 49), none, some (.long 57), none] [.int 0] rfl rfl ?_
          refine z_xrz zt189 8 rfl zzr189 (by decide) (by decide) ?_
          show z_ev (d + 6) 202 111 [some (.ref 19), some (.int x337), none] [.int 0] M0 _
          refine z_xZ zt202 53 rfl rfl (fun (h396 : (0 : Int) = 0) => ?_) (fun (h396 : (0 : Int) ≠ 0) => absurd h396 (by omega))
          refine z_xP zt202 58 125 [some (.ref 19), some (.int x337), none] [.int x337, .ref 19] rfl rfl ?_
          refine z_xcV (vs := [.ref 19, .int x337]) (r := []) (L2 := [some (.ref 19), some (.int x337), none]) zt202 59 rfl zo202 zzcV12_179 (Or.inl rfl) rfl X f19 rfl rfl rfl (Nat.le_of_ble_eq_true rfl) zzm195 (Nat.le_of_ble_eq_true rfl) rfl ?_
          obtain ⟨x397, h398, h399, h400⟩ := z_W.fi X.1 f19 (k := 22) (lo := 0) (hi := 7) (by decide) rfl
          refine zC195 X.1 h398 ⟨by omega, by omega⟩ (z_GL.go hL X (by decide)) (fun x409 M401 X402 h410 h411 h403 h404 z405 h406 h407 h408 => ?_)
          have X412 := X.go X402 (z_sb (by decide))
          show z_ev (d + 6) 202 128 [some (.ref 19), some (.int x337), none] [.int x409] M401 _
          refine z_xP zt202 60 130 [some (.ref 19), some (.int x337), some (.int x409)] [.int x409] rfl rfl ?_
          refine z_xZ zt202 61 rfl rfl (fun (h414 : 0 ≤ x409.toInt) => ?_) (fun (h414 : x409.toInt < 0) => ?_)
          · skip
            refine z_xP zt202 65 140 [some (.ref 19), some (.int x337), some (.int x409)] [.ref 19, .ref 19] rfl rfl ?_
            have h415 := (X402.2.f f19 (by decide) hz0)
            refine z_xgv zt202 66 rfl zo202 zzf12_123 X412 f19 (by decide) h415 ?_
            refine z_xP zt202 67 144 [some (.ref 19), some (.int x337), some (.int x409)] [.int 1, .int zp0, .ref 19] rfl rfl ?_
            refine z_xI zt202 68 rfl rfl (fun (x416 : Int32) (h417 : x416.toInt = zp0.toInt + 1) => ?_) (z_pAdd rfl rfl (by omega) (by omega))
            refine z_xpf zt202 69 rfl zo202 zzf12_123 X412 f19 (by decide) (by decide) ⟨by omega, by omega⟩ rfl (by decide) zw12_24 (fun M418 X419 e420 h421 => ?_)
            refine z_xP zt202 70 149 [some (.ref 19), some (.int x337), some (.int x409)] [.ref 19] rfl rfl ?_
            refine z_xgI zt202 71 rfl zo202 zzf12_183 X419 f19 (by decide) (by decide) rfl (fun (x423 : Int32) h422 (h424 : (-2147483648) ≤ x423.toInt) (h425 : x423.toInt ≤ 2147483647) => ?_)
            refine z_xP zt202 72 153 [some (.ref 19), some (.int x337), some (.int x409)] [.int x409, .int x423] rfl rfl ?_
            have h426 := z_b32 x423
            refine z_xI zt202 73 rfl rfl (P := fun _ => True) (fun (x427 : Int32) _ => ?_) trivial
            refine z_xP zt202 74 155 [some (.ref 19), some (.int x337), some (.int x409)] [.int 1, .int x427] rfl rfl ?_
            refine z_xI zt202 75 rfl rfl (fun (x429 : Int32) (h430 : 0 ≤ x429.toInt ∧ x429.toInt ≤ 1) => ?_) (z_pAnd rfl (by omega))
            refine z_xP zt202 76 157 [some (.ref 19), some (.int x337), some (.int x409)] [.int 1, .int x429] rfl rfl ?_
            refine z_xJ zt202 77 rfl rfl (fun (h431 : x429.toInt ≠ 1) => ?_) (fun (h431 : x429.toInt = 1) => ?_)
            · skip
              refine z_xP zt202 79 165 [some (.ref 19), some (.int x337), some (.int x409)] [.int 0] rfl rfl ?_
              have q0 : ((0 : Int32)).toInt = 0 := rfl
              exact z_xrz zt202 80 rfl zzr202 (by decide) (by decide) (kk 0 M418 X419 (by omega) (by omega) x416 h421 ⟨by omega, by omega⟩ (by omega))
            refine z_xP zt202 78 165 [some (.ref 19), some (.int x337), some (.int x409)] [.int 1] rfl rfl ?_
            have q1 : ((1 : Int32)).toInt = 1 := rfl
            exact z_xrz zt202 80 rfl zzr202 (by decide) (by decide) (kk 1 M418 X419 (by omega) (by omega) x416 h421 ⟨by omega, by omega⟩ (by omega))
          refine z_xP zt202 62 134 [some (.ref 19), some (.int x337), some (.int x409)] [.ref 19] rfl rfl ?_
          refine z_xcV (vs := [.ref 19]) (r := []) (L2 := [some (.ref 19)]) zt202 63 rfl zo202 zzcV12_163 (Or.inl rfl) rfl X412 f19 rfl rfl rfl (Nat.le_of_ble_eq_true rfl) zzm194 (Nat.le_of_ble_eq_true rfl) rfl ?_
          refine z_xP zt194 0 2 [some (.ref 19)] [.ref 19, .ref 19] rfl rfl ?_
          have h432 := (X402.2.f f19 (by decide) h1)
          refine z_xgv zt194 1 rfl zo194 zzf12_136 X412 f19 (by decide) h432 ?_
          refine z_xZ zt194 2 rfl rfl (fun (h433 : 0 ≤ x2.toInt) => absurd h433 (by omega)) (fun (h433 : x2.toInt < 0) => ?_)
          refine z_xP zt194 3 9 [some (.ref 19)] [.ref 19, .ref 19] rfl rfl ?_
          have h434 := (X402.2.f f19 (by decide) hz0)
          refine z_xgv zt194 4 rfl zo194 zzf12_123 X412 f19 (by decide) h434 ?_
          refine z_xP zt194 5 19 [some (.ref 19)] [.int zp0, .ref 19] rfl rfl ?_
          refine z_xpf zt194 8 rfl zo194 zzf12_136 X412 f19 (by decide) (by decide) ⟨Int32.le_toInt _, Int32.toInt_le _⟩ rfl (by decide) zw12_26 (fun M435 X436 e437 h438 => ?_)
          refine z_xP zt194 9 23 [some (.ref 19)] [.int 0] rfl rfl ?_
          refine z_xrz zt194 10 rfl zzr194 (by decide) (by decide) ?_
          show z_ev (d + 6) 202 137 [some (.ref 19), some (.int x337), some (.int x409)] [.int 0] M435 _
          have h439 := (e437.f f19 (by decide) h434)
          have q0 : ((0 : Int32)).toInt = 0 := rfl
          exact z_xrz zt202 64 rfl zzr202 (by decide) (by decide) (kk 0 M435 X436 (by omega) (by omega) zp0 h439 ⟨by omega, by omega⟩ (by omega))
        refine z_xP zt189 6 18 [some (.long y344), none, some (.long 49), none, some (.long 57), none] [.int 1] rfl rfl ?_
        refine z_xrz zt189 8 rfl zzr189 (by decide) (by decide) ?_
        show z_ev (d + 6) 202 111 [some (.ref 19), some (.int x337), none] [.int 1] M0 _
        refine z_xZ zt202 53 rfl rfl (fun (h440 : (1 : Int) = 0) => absurd h440 (by omega)) (fun (h440 : (1 : Int) ≠ 0) => ?_)
        refine z_xP zt202 54 118 [some (.ref 19), some (.int x337), none] [.int 48, .int x337, .ref 19] rfl rfl ?_
        refine z_xI zt202 55 rfl rfl (fun (x441 : Int32) (h442 : x441.toInt = x337.toInt - 48) => ?_) (z_pSub rfl rfl (by omega) (by omega))
        obtain ⟨d443, hdd443⟩ : ∃ e, d = e + 1 := ⟨d - 1, by omega⟩
        subst hdd443
        refine z_xcV (vs := [.ref 19, .int x441]) (r := []) (L2 := [some (.ref 19), some (.int x441), none, none]) zt202 56 rfl zo202 zzcV12_176 (Or.inl rfl) rfl X f19 rfl rfl rfl (Nat.le_of_ble_eq_true rfl) zzm204 (Nat.le_of_ble_eq_true rfl) rfl ?_
        refine ih204 X.1 (by omega) hz0 ⟨by omega, by omega⟩ (z_GL.go hL X (by decide)) (by omega) (by omega) (fun x450 M444 X445 h451 h452 z446 h447 h448 h449 => ?_)
        have X453 := X.go X445 (z_sb (by decide))
        show z_ev (d443 + 1 + 6) 202 122 [some (.ref 19), some (.int x337), none] [.int x450] M444 _
        exact z_xrz zt202 57 rfl zzr202 (by omega) (by omega) (kk x450 M444 X453 (by omega) (by omega) z446 h447 ⟨by omega, by omega⟩ (by omega))
      refine z_xP zt202 28 61 [some (.ref 19), some (.int x337), none] [.ref 19] rfl rfl ?_
      refine z_xcV (vs := [.ref 19]) (r := []) (L2 := [some (.ref 19)]) zt202 29 rfl zo202 zzcV12_166 (Or.inl rfl) rfl X f19 rfl rfl rfl (Nat.le_of_ble_eq_true rfl) zzm203 (Nat.le_of_ble_eq_true rfl) rfl ?_
      refine z_xP zt203 0 1 [some (.ref 19)] [.ref 19] rfl rfl ?_
      refine z_xgI zt203 1 rfl zo203 zzf12_160 X f19 (by decide) (by decide) rfl (fun (x456 : Int32) h455 (h457 : (-2147483648) ≤ x456.toInt) (h458 : x456.toInt ≤ 2147483647) => ?_)
      refine z_xP zt203 2 6 [some (.ref 19)] [.int 6, .int x456] rfl rfl ?_
      refine z_xJ zt203 3 rfl rfl (fun (h459 : x456.toInt ≠ 6) => ?_) (fun (h459 : x456.toInt = 6) => ?_)
      · skip
        refine z_xP zt203 7 16 [some (.ref 19)] [.ref 19, .ref 19] rfl rfl ?_
        refine z_xgv zt203 8 rfl zo203 zzf12_160 X f19 (by decide) h455 ?_
        refine z_xP zt203 9 20 [some (.ref 19)] [.int 1, .int x456, .ref 19] rfl rfl ?_
        have h460 := z_b32 x456
        refine z_xI zt203 10 rfl rfl (P := fun _ => True) (fun (x461 : Int32) _ => ?_) trivial
        refine z_xpf zt203 11 rfl zo203 zzf12_160 X f19 (by decide) (by decide) ⟨Int32.le_toInt _, Int32.toInt_le _⟩ rfl (by decide) zw12_27 (fun M463 X464 e465 h466 => ?_)
        refine z_xP zt203 12 26 [some (.ref 19)] [.ref 19, .ref 19] rfl rfl ?_
        have h467 := (e465.f f19 (by decide) hz0)
        refine z_xgv zt203 13 rfl zo203 zzf12_123 X464 f19 (by decide) h467 ?_
        refine z_xP zt203 14 30 [some (.ref 19)] [.int 1, .int zp0, .ref 19] rfl rfl ?_
        refine z_xI zt203 15 rfl rfl (fun (x468 : Int32) (h469 : x468.toInt = zp0.toInt + 1) => ?_) (z_pAdd rfl rfl (by omega) (by omega))
        refine z_xpf zt203 16 rfl zo203 zzf12_123 X464 f19 (by decide) (by decide) ⟨by omega, by omega⟩ rfl (by decide) zw12_24 (fun M470 X471 e472 h473 => ?_)
        refine z_xP zt203 17 35 [some (.ref 19)] [.int 1] rfl rfl ?_
        refine z_xrz zt203 18 rfl zzr203 (by decide) (by decide) ?_
        show z_ev (d + 6) 202 64 [some (.ref 19), some (.int x337), none] [.int 1] M470 _
        refine z_xZ zt202 30 rfl rfl (fun (h474 : (1 : Int) ≠ 0) => ?_) (fun (h474 : (1 : Int) = 0) => absurd h474 (by omega))
        refine z_xP zt202 33 70 [some (.ref 19), some (.int x337), none] [.ref 19] rfl rfl ?_
        obtain ⟨d475, hdd475⟩ : ∃ e, d = e + 1 := ⟨d - 1, by omega⟩
        subst hdd475
        refine z_xcV (vs := [.ref 19]) (r := []) (L2 := [some (.ref 19), none, none]) zt202 34 rfl zo202 zzcV12_169 (Or.inl rfl) rfl X471 f19 rfl rfl rfl (Nat.le_of_ble_eq_true rfl) zzm198 (Nat.le_of_ble_eq_true rfl) rfl ?_
        refine ih198 X471.1 h473 ⟨by omega, by omega⟩ (z_GL.go hL X471 (by decide)) (by omega) (by omega) (fun x482 M476 X477 h483 h484 z478 h479 h480 h481 => ?_)
        have X485 := X471.go X477 (z_sb (by decide))
        show z_ev (d475 + 1 + 6) 202 73 [some (.ref 19), some (.int x337), none] [.int x482] M476 _
        refine z_xP zt202 35 77 [some (.ref 19), some (.int x337), some (.int x482)] [.int 41, .ref 19] rfl rfl ?_
        refine z_xcV (vs := [.ref 19, .int 41]) (r := []) (L2 := [some (.ref 19), some (.int 41)]) zt202 36 rfl zo202 zzcV12_147 (Or.inl rfl) rfl X485 f19 rfl rfl rfl (Nat.le_of_ble_eq_true rfl) zzm192 (Nat.le_of_ble_eq_true rfl) rfl ?_
        refine z_xP zt192 0 1 [some (.ref 19), some (.int 41)] [.ref 19] rfl rfl ?_
        refine z_xgI zt192 1 rfl zo192 zzf12_136 X485 f19 (by decide) (by decide) rfl (fun (x488 : Int32) h487 (h489 : (-2147483648) ≤ x488.toInt) (h490 : x488.toInt ≤ 2147483647) => ?_)
        refine z_xZ zt192 2 rfl rfl (fun (h491 : 0 ≤ x488.toInt) => ?_) (fun (h491 : x488.toInt < 0) => ?_)
        · skip
          refine z_xP zt192 7 16 [some (.ref 19), some (.int 41)] [.int 0] rfl rfl ?_
          refine z_xrz zt192 8 rfl zzr192 (by decide) (by decide) ?_
          show z_ev (d475 + 1 + 6) 202 80 [some (.ref 19), some (.int x337), some (.int x482)] [.int 0] M476 _
          refine z_xZ zt202 37 rfl rfl (fun (h492 : (0 : Int) ≠ 0) => absurd h492 (by omega)) (fun (h492 : (0 : Int) = 0) => ?_)
          refine z_xP zt202 38 84 [some (.ref 19), some (.int x337), some (.int x482)] [.ref 19] rfl rfl ?_
          refine z_xcV (vs := [.ref 19]) (r := []) (L2 := [some (.ref 19)]) zt202 39 rfl zo202 zzcV12_163 (Or.inl rfl) rfl X485 f19 rfl rfl rfl (Nat.le_of_ble_eq_true rfl) zzm194 (Nat.le_of_ble_eq_true rfl) rfl ?_
          refine z_xP zt194 0 2 [some (.ref 19)] [.ref 19, .ref 19] rfl rfl ?_
          refine z_xgv zt194 1 rfl zo194 zzf12_136 X485 f19 (by decide) h487 ?_
          refine z_xZ zt194 2 rfl rfl (fun (h493 : 0 ≤ x488.toInt) => ?_) (fun (h493 : x488.toInt < 0) => absurd h493 (by omega))
          refine z_xP zt194 6 16 [some (.ref 19)] [.ref 19, .ref 19] rfl rfl ?_
          refine z_xgv zt194 7 rfl zo194 zzf12_136 X485 f19 (by decide) h487 ?_
          refine z_xpf zt194 8 rfl zo194 zzf12_136 X485 f19 (by decide) (by decide) ⟨Int32.le_toInt _, Int32.toInt_le _⟩ rfl (by decide) zw12_26 (fun M494 X495 e496 h497 => ?_)
          refine z_xP zt194 9 23 [some (.ref 19)] [.int 0] rfl rfl ?_
          refine z_xrz zt194 10 rfl zzr194 (by decide) (by decide) ?_
          show z_ev (d475 + 1 + 6) 202 87 [some (.ref 19), some (.int x337), some (.int x482)] [.int 0] M494 _
          have h498 := (e496.f f19 (by decide) h479)
          have q0 : ((0 : Int32)).toInt = 0 := rfl
          exact z_xrz zt202 40 rfl zzr202 (by decide) (by decide) (kk 0 M494 X495 (by omega) (by omega) z478 h498 ⟨by omega, by omega⟩ (by omega))
        refine z_xP zt192 3 8 [some (.ref 19), some (.int 41)] [.ref 19] rfl rfl ?_
        refine z_xcV (vs := [.ref 19]) (r := []) (L2 := [some (.ref 19)]) zt192 4 rfl zo192 zzcV12_139 (Or.inl rfl) rfl X485 f19 rfl rfl rfl (Nat.le_of_ble_eq_true rfl) zzm193 (Nat.le_of_ble_eq_true rfl) rfl ?_
        refine z_xP zt193 0 1 [some (.ref 19)] [.ref 19] rfl rfl ?_
        refine z_xgv zt193 1 rfl zo193 zzf12_123 X485 f19 (by decide) h479 ?_
        refine z_xP zt193 2 5 [some (.ref 19)] [.ref 19, .int z478] rfl rfl ?_
        have h499 := (X477.2.f f19 (by decide) (e472.f f19 (by decide) (e465.f f19 (by decide) h6)))
        refine z_xgv zt193 3 rfl zo193 zzf12_126 X485 f19 (by decide) h499 ?_
        refine z_xJ zt193 4 rfl rfl (fun (h500 : x7.toInt ≤ z478.toInt) => ?_) (fun (h500 : z478.toInt < x7.toInt) => ?_)
        · skip
          refine z_xP zt193 24 52 [some (.ref 19)] [.int 0] rfl rfl ?_
          refine z_xri zt193 25 rfl zzr193 ?_
          show z_ev (d475 + 1 + 5) 192 11 [some (.ref 19), some (.int 41)] [.int 0] M476 _
          refine z_xP zt192 5 12 [some (.ref 19), some (.int 41)] [.int 41, .int 0] rfl rfl ?_
          refine z_xJ zt192 6 rfl rfl (fun (h501 : (0 : Int) = 41) => absurd h501 (by omega)) (fun (h501 : (0 : Int) ≠ 41) => ?_)
          refine z_xP zt192 7 16 [some (.ref 19), some (.int 41)] [.int 0] rfl rfl ?_
          refine z_xrz zt192 8 rfl zzr192 (by decide) (by decide) ?_
          show z_ev (d475 + 1 + 6) 202 80 [some (.ref 19), some (.int x337), some (.int x482)] [.int 0] M476 _
          refine z_xZ zt202 37 rfl rfl (fun (h502 : (0 : Int) ≠ 0) => absurd h502 (by omega)) (fun (h502 : (0 : Int) = 0) => ?_)
          refine z_xP zt202 38 84 [some (.ref 19), some (.int x337), some (.int x482)] [.ref 19] rfl rfl ?_
          refine z_xcV (vs := [.ref 19]) (r := []) (L2 := [some (.ref 19)]) zt202 39 rfl zo202 zzcV12_163 (Or.inl rfl) rfl X485 f19 rfl rfl rfl (Nat.le_of_ble_eq_true rfl) zzm194 (Nat.le_of_ble_eq_true rfl) rfl ?_
          refine z_xP zt194 0 2 [some (.ref 19)] [.ref 19, .ref 19] rfl rfl ?_
          refine z_xgv zt194 1 rfl zo194 zzf12_136 X485 f19 (by decide) h487 ?_
          refine z_xZ zt194 2 rfl rfl (fun (h503 : 0 ≤ x488.toInt) => absurd h503 (by omega)) (fun (h503 : x488.toInt < 0) => ?_)
          refine z_xP zt194 3 9 [some (.ref 19)] [.ref 19, .ref 19] rfl rfl ?_
          refine z_xgv zt194 4 rfl zo194 zzf12_123 X485 f19 (by decide) h479 ?_
          refine z_xP zt194 5 19 [some (.ref 19)] [.int z478, .ref 19] rfl rfl ?_
          refine z_xpf zt194 8 rfl zo194 zzf12_136 X485 f19 (by decide) (by decide) ⟨Int32.le_toInt _, Int32.toInt_le _⟩ rfl (by decide) zw12_26 (fun M504 X505 e506 h507 => ?_)
          refine z_xP zt194 9 23 [some (.ref 19)] [.int 0] rfl rfl ?_
          refine z_xrz zt194 10 rfl zzr194 (by decide) (by decide) ?_
          show z_ev (d475 + 1 + 6) 202 87 [some (.ref 19), some (.int x337), some (.int x482)] [.int 0] M504 _
          have h508 := (e506.f f19 (by decide) h479)
          have q0 : ((0 : Int32)).toInt = 0 := rfl
          exact z_xrz zt202 40 rfl zzr202 (by decide) (by decide) (kk 0 M504 X505 (by omega) (by omega) z478 h508 ⟨by omega, by omega⟩ (by omega))
        refine z_xP zt193 5 12 [some (.ref 19)] [.ref 19] rfl rfl ?_
        have h509 := (X477.2.f f19 (by decide) (e472.f f19 (by decide) (e465.f f19 (by decide) h62)))
        refine z_xgv zt193 6 rfl zo193 zzf12_129 X485 f19 (by decide) h509 ?_
        refine z_xZ zt193 7 rfl rfl (fun (h510 : x63.toInt = 0) => absurd h510 (by omega)) (fun (h510 : x63.toInt ≠ 0) => ?_)
        refine z_xP zt193 8 19 [some (.ref 19)] [.ref 19] rfl rfl ?_
        refine z_xgX (b := 20) zt193 9 rfl zo193 zzf12_9 X485 f19 (by decide) (by decide) rfl ?_
        refine z_xP zt193 10 23 [some (.ref 19)] [.ref 19, .ref 20] rfl rfl ?_
        refine z_xgv zt193 11 rfl zo193 zzf12_123 X485 f19 (by decide) h479 ?_
        refine z_xil zt193 12 rfl X485 f20 (by decide) (by omega) (by omega) (fun (x511 : Int32) h512 (h513 : (-2147483648) ≤ x511.toInt) (h514 : x511.toInt ≤ 2147483647) => ?_)
        refine z_xP zt193 13 52 [some (.ref 19)] [.int x511] rfl rfl ?_
        refine z_xri zt193 25 rfl zzr193 ?_
        show z_ev (d475 + 1 + 5) 192 11 [some (.ref 19), some (.int 41)] [.int x511] M476 _
        refine z_xP zt192 5 12 [some (.ref 19), some (.int 41)] [.int 41, .int x511] rfl rfl ?_
        refine z_xJ zt192 6 rfl rfl (fun (h515 : x511.toInt = 41) => ?_) (fun (h515 : x511.toInt ≠ 41) => ?_)
        · skip
          refine z_xP zt192 9 19 [some (.ref 19), some (.int 41)] [.ref 19, .ref 19] rfl rfl ?_
          refine z_xgv zt192 10 rfl zo192 zzf12_123 X485 f19 (by decide) h479 ?_
          refine z_xP zt192 11 23 [some (.ref 19), some (.int 41)] [.int 1, .int z478, .ref 19] rfl rfl ?_
          refine z_xI zt192 12 rfl rfl (fun (x516 : Int32) (h517 : x516.toInt = z478.toInt + 1) => ?_) (z_pAdd rfl rfl (by omega) (by omega))
          refine z_xpf zt192 13 rfl zo192 zzf12_123 X485 f19 (by decide) (by decide) ⟨by omega, by omega⟩ rfl (by decide) zw12_24 (fun M518 X519 e520 h521 => ?_)
          refine z_xP zt192 14 28 [some (.ref 19), some (.int 41)] [.int 1] rfl rfl ?_
          refine z_xrz zt192 15 rfl zzr192 (by decide) (by decide) ?_
          show z_ev (d475 + 1 + 6) 202 80 [some (.ref 19), some (.int x337), some (.int x482)] [.int 1] M518 _
          refine z_xZ zt202 37 rfl rfl (fun (h522 : (1 : Int) ≠ 0) => ?_) (fun (h522 : (1 : Int) = 0) => absurd h522 (by omega))
          refine z_xP zt202 41 90 [some (.ref 19), some (.int x337), some (.int x482)] [.ref 19, .ref 19] rfl rfl ?_
          refine z_xgI zt202 42 rfl zo202 zzf12_160 X519 f19 (by decide) (by decide) rfl (fun (x524 : Int32) h523 (h525 : (-2147483648) ≤ x524.toInt) (h526 : x524.toInt ≤ 2147483647) => ?_)
          refine z_xP zt202 43 94 [some (.ref 19), some (.int x337), some (.int x482)] [.int 1, .int x524, .ref 19] rfl rfl ?_
          have h527 := z_b32 x524
          refine z_xI zt202 44 rfl rfl (P := fun _ => True) (fun (x528 : Int32) _ => ?_) trivial
          refine z_xpf zt202 45 rfl zo202 zzf12_160 X519 f19 (by decide) (by decide) ⟨Int32.le_toInt _, Int32.toInt_le _⟩ rfl (by decide) zw12_27 (fun M530 X531 e532 h533 => ?_)
          refine z_xP zt202 46 99 [some (.ref 19), some (.int x337), some (.int x482)] [.int x482] rfl rfl ?_
          have h534 := (e532.f f19 (by decide) h521)
          exact z_xrz zt202 47 rfl zzr202 (by omega) (by omega) (kk x482 M530 X531 (by omega) (by omega) x516 h534 ⟨by omega, by omega⟩ (by omega))
        refine z_xP zt192 7 16 [some (.ref 19), some (.int 41)] [.int 0] rfl rfl ?_
        refine z_xrz zt192 8 rfl zzr192 (by decide) (by decide) ?_
        show z_ev (d475 + 1 + 6) 202 80 [some (.ref 19), some (.int x337), some (.int x482)] [.int 0] M476 _
        refine z_xZ zt202 37 rfl rfl (fun (h535 : (0 : Int) ≠ 0) => absurd h535 (by omega)) (fun (h535 : (0 : Int) = 0) => ?_)
        refine z_xP zt202 38 84 [some (.ref 19), some (.int x337), some (.int x482)] [.ref 19] rfl rfl ?_
        refine z_xcV (vs := [.ref 19]) (r := []) (L2 := [some (.ref 19)]) zt202 39 rfl zo202 zzcV12_163 (Or.inl rfl) rfl X485 f19 rfl rfl rfl (Nat.le_of_ble_eq_true rfl) zzm194 (Nat.le_of_ble_eq_true rfl) rfl ?_
        refine z_xP zt194 0 2 [some (.ref 19)] [.ref 19, .ref 19] rfl rfl ?_
        refine z_xgv zt194 1 rfl zo194 zzf12_136 X485 f19 (by decide) h487 ?_
        refine z_xZ zt194 2 rfl rfl (fun (h536 : 0 ≤ x488.toInt) => absurd h536 (by omega)) (fun (h536 : x488.toInt < 0) => ?_)
        refine z_xP zt194 3 9 [some (.ref 19)] [.ref 19, .ref 19] rfl rfl ?_
        refine z_xgv zt194 4 rfl zo194 zzf12_123 X485 f19 (by decide) h479 ?_
        refine z_xP zt194 5 19 [some (.ref 19)] [.int z478, .ref 19] rfl rfl ?_
        refine z_xpf zt194 8 rfl zo194 zzf12_136 X485 f19 (by decide) (by decide) ⟨Int32.le_toInt _, Int32.toInt_le _⟩ rfl (by decide) zw12_26 (fun M537 X538 e539 h540 => ?_)
        refine z_xP zt194 9 23 [some (.ref 19)] [.int 0] rfl rfl ?_
        refine z_xrz zt194 10 rfl zzr194 (by decide) (by decide) ?_
        show z_ev (d475 + 1 + 6) 202 87 [some (.ref 19), some (.int x337), some (.int x482)] [.int 0] M537 _
        have h541 := (e539.f f19 (by decide) h479)
        have q0 : ((0 : Int32)).toInt = 0 := rfl
        exact z_xrz zt202 40 rfl zzr202 (by decide) (by decide) (kk 0 M537 X538 (by omega) (by omega) z478 h541 ⟨by omega, by omega⟩ (by omega))
      refine z_xP zt203 4 10 [some (.ref 19)] [.ref 19] rfl rfl ?_
      refine z_xcV (vs := [.ref 19]) (r := []) (L2 := [some (.ref 19)]) zt203 5 rfl zo203 zzcV12_163 (Or.inl rfl) rfl X f19 rfl rfl rfl (Nat.le_of_ble_eq_true rfl) zzm194 (Nat.le_of_ble_eq_true rfl) rfl ?_
      refine z_xP zt194 0 2 [some (.ref 19)] [.ref 19, .ref 19] rfl rfl ?_
      refine z_xgv zt194 1 rfl zo194 zzf12_136 X f19 (by decide) h1 ?_
      refine z_xZ zt194 2 rfl rfl (fun (h542 : 0 ≤ x2.toInt) => absurd h542 (by omega)) (fun (h542 : x2.toInt < 0) => ?_)
      refine z_xP zt194 3 9 [some (.ref 19)] [.ref 19, .ref 19] rfl rfl ?_
      refine z_xgv zt194 4 rfl zo194 zzf12_123 X f19 (by decide) hz0 ?_
      refine z_xP zt194 5 19 [some (.ref 19)] [.int zp0, .ref 19] rfl rfl ?_
      refine z_xpf zt194 8 rfl zo194 zzf12_136 X f19 (by decide) (by decide) ⟨Int32.le_toInt _, Int32.toInt_le _⟩ rfl (by decide) zw12_26 (fun M543 X544 e545 h546 => ?_)
      refine z_xP zt194 9 23 [some (.ref 19)] [.int 0] rfl rfl ?_
      refine z_xrz zt194 10 rfl zzr194 (by decide) (by decide) ?_
      show z_ev (d + 5) 203 13 [some (.ref 19)] [.int 0] M543 _
      refine z_xrz zt203 6 rfl zzr203 (by decide) (by decide) ?_
      show z_ev (d + 6) 202 64 [some (.ref 19), some (.int x337), none] [.int 0] M543 _
      refine z_xZ zt202 30 rfl rfl (fun (h547 : (0 : Int) ≠ 0) => absurd h547 (by omega)) (fun (h547 : (0 : Int) = 0) => ?_)
      refine z_xP zt202 31 68 [some (.ref 19), some (.int x337), none] [.int 0] rfl rfl ?_
      have h548 := (e545.f f19 (by decide) hz0)
      have q0 : ((0 : Int32)).toInt = 0 := rfl
      exact z_xrz zt202 32 rfl zzr202 (by decide) (by decide) (kk 0 M543 X544 (by omega) (by omega) zp0 h548 ⟨by omega, by omega⟩ (by omega))
    refine z_xP zt202 9 21 [some (.ref 19), some (.int x337), none] [.ref 19] rfl rfl ?_
    refine z_xcV (vs := [.ref 19]) (r := []) (L2 := [some (.ref 19)]) zt202 10 rfl zo202 zzcV12_166 (Or.inl rfl) rfl X f19 rfl rfl rfl (Nat.le_of_ble_eq_true rfl) zzm203 (Nat.le_of_ble_eq_true rfl) rfl ?_
    refine z_xP zt203 0 1 [some (.ref 19)] [.ref 19] rfl rfl ?_
    refine z_xgI zt203 1 rfl zo203 zzf12_160 X f19 (by decide) (by decide) rfl (fun (x550 : Int32) h549 (h551 : (-2147483648) ≤ x550.toInt) (h552 : x550.toInt ≤ 2147483647) => ?_)
    refine z_xP zt203 2 6 [some (.ref 19)] [.int 6, .int x550] rfl rfl ?_
    refine z_xJ zt203 3 rfl rfl (fun (h553 : x550.toInt ≠ 6) => ?_) (fun (h553 : x550.toInt = 6) => ?_)
    · skip
      refine z_xP zt203 7 16 [some (.ref 19)] [.ref 19, .ref 19] rfl rfl ?_
      refine z_xgv zt203 8 rfl zo203 zzf12_160 X f19 (by decide) h549 ?_
      refine z_xP zt203 9 20 [some (.ref 19)] [.int 1, .int x550, .ref 19] rfl rfl ?_
      have h554 := z_b32 x550
      refine z_xI zt203 10 rfl rfl (P := fun _ => True) (fun (x555 : Int32) _ => ?_) trivial
      refine z_xpf zt203 11 rfl zo203 zzf12_160 X f19 (by decide) (by decide) ⟨Int32.le_toInt _, Int32.toInt_le _⟩ rfl (by decide) zw12_27 (fun M557 X558 e559 h560 => ?_)
      refine z_xP zt203 12 26 [some (.ref 19)] [.ref 19, .ref 19] rfl rfl ?_
      have h561 := (e559.f f19 (by decide) hz0)
      refine z_xgv zt203 13 rfl zo203 zzf12_123 X558 f19 (by decide) h561 ?_
      refine z_xP zt203 14 30 [some (.ref 19)] [.int 1, .int zp0, .ref 19] rfl rfl ?_
      refine z_xI zt203 15 rfl rfl (fun (x562 : Int32) (h563 : x562.toInt = zp0.toInt + 1) => ?_) (z_pAdd rfl rfl (by omega) (by omega))
      refine z_xpf zt203 16 rfl zo203 zzf12_123 X558 f19 (by decide) (by decide) ⟨by omega, by omega⟩ rfl (by decide) zw12_24 (fun M564 X565 e566 h567 => ?_)
      refine z_xP zt203 17 35 [some (.ref 19)] [.int 1] rfl rfl ?_
      refine z_xrz zt203 18 rfl zzr203 (by decide) (by decide) ?_
      show z_ev (d + 6) 202 24 [some (.ref 19), some (.int x337), none] [.int 1] M564 _
      refine z_xZ zt202 11 rfl rfl (fun (h568 : (1 : Int) ≠ 0) => ?_) (fun (h568 : (1 : Int) = 0) => absurd h568 (by omega))
      refine z_xP zt202 14 30 [some (.ref 19), some (.int x337), none] [.ref 19] rfl rfl ?_
      obtain ⟨d569, hdd569⟩ : ∃ e, d = e + 1 := ⟨d - 1, by omega⟩
      subst hdd569
      refine z_xcV (vs := [.ref 19]) (r := []) (L2 := [some (.ref 19), none, none]) zt202 15 rfl zo202 zzcV12_157 (Or.inl rfl) rfl X565 f19 rfl rfl rfl (Nat.le_of_ble_eq_true rfl) zzm202 (Nat.le_of_ble_eq_true rfl) rfl ?_
      refine ih202 X565.1 h567 ⟨by omega, by omega⟩ (z_GL.go hL X565 (by decide)) (by omega) (by omega) (fun x576 M570 X571 h577 h578 z572 h573 h574 h575 => ?_)
      have X579 := X565.go X571 (z_sb (by decide))
      show z_ev (d569 + 1 + 6) 202 33 [some (.ref 19), some (.int x337), none] [.int x576] M570 _
      refine z_xP zt202 16 36 [some (.ref 19), some (.int x337), some (.int x576)] [.ref 19, .ref 19] rfl rfl ?_
      refine z_xgI zt202 17 rfl zo202 zzf12_160 X579 f19 (by decide) (by decide) rfl (fun (x582 : Int32) h581 (h583 : (-2147483648) ≤ x582.toInt) (h584 : x582.toInt ≤ 2147483647) => ?_)
      refine z_xP zt202 18 40 [some (.ref 19), some (.int x337), some (.int x576)] [.int 1, .int x582, .ref 19] rfl rfl ?_
      have h585 := z_b32 x582
      refine z_xI zt202 19 rfl rfl (P := fun _ => True) (fun (x586 : Int32) _ => ?_) trivial
      refine z_xpf zt202 20 rfl zo202 zzf12_160 X579 f19 (by decide) (by decide) ⟨Int32.le_toInt _, Int32.toInt_le _⟩ rfl (by decide) zw12_27 (fun M588 X589 e590 h591 => ?_)
      refine z_xP zt202 21 45 [some (.ref 19), some (.int x337), some (.int x576)] [.int x576] rfl rfl ?_
      refine z_xZ zt202 22 rfl rfl (fun (h592 : x576.toInt ≠ 0) => ?_) (fun (h592 : x576.toInt = 0) => ?_)
      · skip
        refine z_xP zt202 24 53 [some (.ref 19), some (.int x337), some (.int x576)] [.int 0] rfl rfl ?_
        have h593 := (e590.f f19 (by decide) h573)
        have q0 : ((0 : Int32)).toInt = 0 := rfl
        exact z_xrz zt202 25 rfl zzr202 (by decide) (by decide) (kk 0 M588 X589 (by omega) (by omega) z572 h593 ⟨by omega, by omega⟩ (by omega))
      refine z_xP zt202 23 53 [some (.ref 19), some (.int x337), some (.int x576)] [.int 1] rfl rfl ?_
      have h594 := (e590.f f19 (by decide) h573)
      have q1 : ((1 : Int32)).toInt = 1 := rfl
      exact z_xrz zt202 25 rfl zzr202 (by decide) (by decide) (kk 1 M588 X589 (by omega) (by omega) z572 h594 ⟨by omega, by omega⟩ (by omega))
    refine z_xP zt203 4 10 [some (.ref 19)] [.ref 19] rfl rfl ?_
    refine z_xcV (vs := [.ref 19]) (r := []) (L2 := [some (.ref 19)]) zt203 5 rfl zo203 zzcV12_163 (Or.inl rfl) rfl X f19 rfl rfl rfl (Nat.le_of_ble_eq_true rfl) zzm194 (Nat.le_of_ble_eq_true rfl) rfl ?_
    refine z_xP zt194 0 2 [some (.ref 19)] [.ref 19, .ref 19] rfl rfl ?_
    refine z_xgv zt194 1 rfl zo194 zzf12_136 X f19 (by decide) h1 ?_
    refine z_xZ zt194 2 rfl rfl (fun (h595 : 0 ≤ x2.toInt) => absurd h595 (by omega)) (fun (h595 : x2.toInt < 0) => ?_)
    refine z_xP zt194 3 9 [some (.ref 19)] [.ref 19, .ref 19] rfl rfl ?_
    refine z_xgv zt194 4 rfl zo194 zzf12_123 X f19 (by decide) hz0 ?_
    refine z_xP zt194 5 19 [some (.ref 19)] [.int zp0, .ref 19] rfl rfl ?_
    refine z_xpf zt194 8 rfl zo194 zzf12_136 X f19 (by decide) (by decide) ⟨Int32.le_toInt _, Int32.toInt_le _⟩ rfl (by decide) zw12_26 (fun M596 X597 e598 h599 => ?_)
    refine z_xP zt194 9 23 [some (.ref 19)] [.int 0] rfl rfl ?_
    refine z_xrz zt194 10 rfl zzr194 (by decide) (by decide) ?_
    show z_ev (d + 5) 203 13 [some (.ref 19)] [.int 0] M596 _
    refine z_xrz zt203 6 rfl zzr203 (by decide) (by decide) ?_
    show z_ev (d + 6) 202 24 [some (.ref 19), some (.int x337), none] [.int 0] M596 _
    refine z_xZ zt202 11 rfl rfl (fun (h600 : (0 : Int) ≠ 0) => absurd h600 (by omega)) (fun (h600 : (0 : Int) = 0) => ?_)
    refine z_xP zt202 12 28 [some (.ref 19), some (.int x337), none] [.int 0] rfl rfl ?_
    have h601 := (e598.f f19 (by decide) hz0)
    have q0 : ((0 : Int32)).toInt = 0 := rfl
    exact z_xrz zt202 13 rfl zzr202 (by decide) (by decide) (kk 0 M596 X597 (by omega) (by omega) zp0 h601 ⟨by omega, by omega⟩ (by omega))
  refine z_xP zt202 3 8 [some (.ref 19), none, none] [.int 0] rfl rfl ?_
  have q0 : ((0 : Int32)).toInt = 0 := rfl
  exact z_xrz zt202 4 rfl zzr202 (by decide) (by decide) (kk 0 M0 X (by omega) (by omega) zp0 hz0 ⟨by omega, by omega⟩ (by omega))
theorem zB204 {T : List zK} {d : Nat} {K : Option Value → zH → Prop} {p1 : Int32} {zp0 : Int32} {N : Nat} {M0 : zH} (u1 : 1 ≤ p1.toInt ∧ p1.toInt ≤ 9) (hz0 : z_F M0 19 24 = some (.int zp0)) (bz0 : 0 ≤ zp0.toInt ∧ zp0.toInt ≤ 159) (hL : z_GL M0) (ih198 : zQ198 T N) (ih199 : zQ199 T N) (ih200 : zQ200 T N) (ih201 : zQ201 T N) (ih202 : zQ202 T N) (ih204 : zQ204 T N) (hm : 6 * (160 - zp0.toInt) + 0 < (N : Int) + 1) (hd : 6 * (160 - zp0.toInt) + 0 ≤ (d : Int)) (kk : ∀ (x : Int32) (M1 : zH), z_X T zw204 M0 M1 → 0 ≤ x.toInt → x.toInt ≤ 1 → ∀ (w0 : Int32), z_F M1 19 24 = some (.int w0) → 0 ≤ w0.toInt ∧ w0.toInt ≤ 160 → zp0.toInt ≤ w0.toInt → K (some (.int x)) M1) : ∀ n : Nat, (∀ (M : zH) (b2 : Int32) (b3 : Int32) (z0 : Int32), z_X T zw204 M0 M → 0 ≤ b3.toInt ∧ b3.toInt ≤ 1 → z_F M 19 24 = some (.int z0) → 0 ≤ z0.toInt ∧ z0.toInt ≤ 160 → zp0.toInt + 1 ≤ z0.toInt → ((0) * 2 + 0) * 323 + (2 * (160 - z0.toInt) + b3.toInt) < (n : Int) → z_ev (d + 6) 204 37 [some (.ref 19), some (.int p1), some (.int b2), some (.int b3)] [] M K) := by
  intro n
  induction n with
  | zero => exact by intros; exfalso; omega
  | succ n ih =>
    intro M b2 b3 z0 X hh0 hp0 hh2 hh3 hE
    refine z_xP zt204 18 38 [some (.ref 19), some (.int p1), some (.int b2), some (.int b3)] [.int b3] rfl rfl ?_
    refine z_xZ zt204 19 rfl rfl (fun (h1 : b3.toInt = 0) => ?_) (fun (h1 : b3.toInt ≠ 0) => ?_)
    · skip
      refine z_xP zt204 29 69 [some (.ref 19), some (.int p1), some (.int b2), some (.int b3)] [.int 125, .ref 19] rfl rfl ?_
      have f19 : T[19]? = some (.inl (12, 0, 0, 0, 0)) := X.1.k rfl (by decide)
      refine z_xcV (vs := [.ref 19, .int 125]) (r := []) (L2 := [some (.ref 19), some (.int 125)]) zt204 30 rfl zo204 zzcV12_147 (Or.inl rfl) rfl X f19 rfl rfl rfl (Nat.le_of_ble_eq_true rfl) zzm192 (Nat.le_of_ble_eq_true rfl) rfl ?_
      refine z_xP zt192 0 1 [some (.ref 19), some (.int 125)] [.ref 19] rfl rfl ?_
      refine z_xgI zt192 1 rfl zo192 zzf12_136 X f19 (by decide) (by decide) rfl (fun (x3 : Int32) h2 (h4 : (-2147483648) ≤ x3.toInt) (h5 : x3.toInt ≤ 2147483647) => ?_)
      refine z_xZ zt192 2 rfl rfl (fun (h6 : 0 ≤ x3.toInt) => ?_) (fun (h6 : x3.toInt < 0) => ?_)
      · skip
        refine z_xP zt192 7 16 [some (.ref 19), some (.int 125)] [.int 0] rfl rfl ?_
        refine z_xrz zt192 8 rfl zzr192 (by decide) (by decide) ?_
        show z_ev (d + 6) 204 72 [some (.ref 19), some (.int p1), some (.int b2), some (.int b3)] [.int 0] M _
        refine z_xZ zt204 31 rfl rfl (fun (h7 : (0 : Int) ≠ 0) => absurd h7 (by omega)) (fun (h7 : (0 : Int) = 0) => ?_)
        refine z_xP zt204 32 76 [some (.ref 19), some (.int p1), some (.int b2), some (.int b3)] [.ref 19] rfl rfl ?_
        refine z_xcV (vs := [.ref 19]) (r := []) (L2 := [some (.ref 19)]) zt204 33 rfl zo204 zzcV12_163 (Or.inl rfl) rfl X f19 rfl rfl rfl (Nat.le_of_ble_eq_true rfl) zzm194 (Nat.le_of_ble_eq_true rfl) rfl ?_
        refine z_xP zt194 0 2 [some (.ref 19)] [.ref 19, .ref 19] rfl rfl ?_
        refine z_xgv zt194 1 rfl zo194 zzf12_136 X f19 (by decide) h2 ?_
        refine z_xZ zt194 2 rfl rfl (fun (h8 : 0 ≤ x3.toInt) => ?_) (fun (h8 : x3.toInt < 0) => absurd h8 (by omega))
        refine z_xP zt194 6 16 [some (.ref 19)] [.ref 19, .ref 19] rfl rfl ?_
        refine z_xgv zt194 7 rfl zo194 zzf12_136 X f19 (by decide) h2 ?_
        refine z_xpf zt194 8 rfl zo194 zzf12_136 X f19 (by decide) (by decide) ⟨Int32.le_toInt _, Int32.toInt_le _⟩ rfl (by decide) zw12_26 (fun M9 X10 e11 h12 => ?_)
        refine z_xP zt194 9 23 [some (.ref 19)] [.int 0] rfl rfl ?_
        refine z_xrz zt194 10 rfl zzr194 (by decide) (by decide) ?_
        show z_ev (d + 6) 204 79 [some (.ref 19), some (.int p1), some (.int b2), some (.int b3)] [.int 0] M9 _
        have h13 := (e11.f f19 (by decide) hp0)
        have q0 : ((0 : Int32)).toInt = 0 := rfl
        exact z_xrz zt204 34 rfl zzr204 (by decide) (by decide) (kk 0 M9 X10 (by omega) (by omega) z0 h13 ⟨by omega, by omega⟩ (by omega))
      refine z_xP zt192 3 8 [some (.ref 19), some (.int 125)] [.ref 19] rfl rfl ?_
      refine z_xcV (vs := [.ref 19]) (r := []) (L2 := [some (.ref 19)]) zt192 4 rfl zo192 zzcV12_139 (Or.inl rfl) rfl X f19 rfl rfl rfl (Nat.le_of_ble_eq_true rfl) zzm193 (Nat.le_of_ble_eq_true rfl) rfl ?_
      refine z_xP zt193 0 1 [some (.ref 19)] [.ref 19] rfl rfl ?_
      refine z_xgv zt193 1 rfl zo193 zzf12_123 X f19 (by decide) hp0 ?_
      refine z_xP zt193 2 5 [some (.ref 19)] [.ref 19, .int z0] rfl rfl ?_
      refine z_xgI zt193 3 rfl zo193 zzf12_126 X f19 (by decide) (by decide) rfl (fun (x15 : Int32) h14 (h16 : 0 ≤ x15.toInt) (h17 : x15.toInt ≤ 160) => ?_)
      refine z_xJ zt193 4 rfl rfl (fun (h18 : x15.toInt ≤ z0.toInt) => ?_) (fun (h18 : z0.toInt < x15.toInt) => ?_)
      · skip
        refine z_xP zt193 24 52 [some (.ref 19)] [.int 0] rfl rfl ?_
        refine z_xri zt193 25 rfl zzr193 ?_
        show z_ev (d + 5) 192 11 [some (.ref 19), some (.int 125)] [.int 0] M _
        refine z_xP zt192 5 12 [some (.ref 19), some (.int 125)] [.int 125, .int 0] rfl rfl ?_
        refine z_xJ zt192 6 rfl rfl (fun (h19 : (0 : Int) = 125) => absurd h19 (by omega)) (fun (h19 : (0 : Int) ≠ 125) => ?_)
        refine z_xP zt192 7 16 [some (.ref 19), some (.int 125)] [.int 0] rfl rfl ?_
        refine z_xrz zt192 8 rfl zzr192 (by decide) (by decide) ?_
        show z_ev (d + 6) 204 72 [some (.ref 19), some (.int p1), some (.int b2), some (.int b3)] [.int 0] M _
        refine z_xZ zt204 31 rfl rfl (fun (h20 : (0 : Int) ≠ 0) => absurd h20 (by omega)) (fun (h20 : (0 : Int) = 0) => ?_)
        refine z_xP zt204 32 76 [some (.ref 19), some (.int p1), some (.int b2), some (.int b3)] [.ref 19] rfl rfl ?_
        refine z_xcV (vs := [.ref 19]) (r := []) (L2 := [some (.ref 19)]) zt204 33 rfl zo204 zzcV12_163 (Or.inl rfl) rfl X f19 rfl rfl rfl (Nat.le_of_ble_eq_true rfl) zzm194 (Nat.le_of_ble_eq_true rfl) rfl ?_
        refine z_xP zt194 0 2 [some (.ref 19)] [.ref 19, .ref 19] rfl rfl ?_
        refine z_xgv zt194 1 rfl zo194 zzf12_136 X f19 (by decide) h2 ?_
        refine z_xZ zt194 2 rfl rfl (fun (h21 : 0 ≤ x3.toInt) => absurd h21 (by omega)) (fun (h21 : x3.toInt < 0) => ?_)
        refine z_xP zt194 3 9 [some (.ref 19)] [.ref 19, .ref 19] rfl rfl ?_
        refine z_xgv zt194 4 rfl zo194 zzf12_123 X f19 (by decide) hp0 ?_
        refine z_xP zt194 5 19 [some (.ref 19)] [.int z0, .ref 19] rfl rfl ?_
        refine z_xpf zt194 8 rfl zo194 zzf12_136 X f19 (by decide) (by decide) ⟨Int32.le_toInt _, Int32.toInt_le _⟩ rfl (by decide) zw12_26 (fun M22 X23 e24 h25 => ?_)
        refine z_xP zt194 9 23 [some (.ref 19)] [.int 0] rfl rfl ?_
        refine z_xrz zt194 10 rfl zzr194 (by decide) (by decide) ?_
        show z_ev (d + 6) 204 79 [some (.ref 19), some (.int p1), some (.int b2), some (.int b3)] [.int 0] M22 _
        have h26 := (e24.f f19 (by decide) hp0)
        have q0 : ((0 : Int32)).toInt = 0 := rfl
        exact z_xrz zt204 34 rfl zzr204 (by decide) (by decide) (kk 0 M22 X23 (by omega) (by omega) z0 h26 ⟨by omega, by omega⟩ (by omega))
      refine z_xP zt193 5 12 [some (.ref 19)] [.ref 19] rfl rfl ?_
      refine z_xgI zt193 6 rfl zo193 zzf12_129 X f19 (by decide) (by decide) rfl (fun (x28 : Int32) h27 (h29 : 0 ≤ x28.toInt) (h30 : x28.toInt ≤ 1) => ?_)
      refine z_xZ zt193 7 rfl rfl (fun (h31 : x28.toInt = 0) => ?_) (fun (h31 : x28.toInt ≠ 0) => ?_)
      · skip
        refine z_xP zt193 14 31 [some (.ref 19)] [.ref 19] rfl rfl ?_
        refine z_xgX (b := 21) zt193 15 rfl zo193 zzf12_13 X f19 (by decide) (by decide) rfl ?_
        refine z_xP zt193 16 38 [some (.ref 19)] [.ref 19, .int 160, .ref 21] rfl rfl ?_
        refine z_xgI zt193 17 rfl zo193 zzf12_133 X f19 (by decide) (by decide) rfl (fun (x33 : Int32) h32 (h34 : 0 ≤ x33.toInt) (h35 : x33.toInt ≤ 7) => ?_)
        refine z_xI zt193 18 rfl rfl (fun (x36 : Int32) (h37 : x36.toInt = 160 * x33.toInt) => ?_) (z_pMul rfl rfl (by omega) (by omega))
        refine z_xP zt193 19 43 [some (.ref 19)] [.ref 19, .int x36, .ref 21] rfl rfl ?_
        refine z_xgv zt193 20 rfl zo193 zzf12_123 X f19 (by decide) hp0 ?_
        refine z_xI zt193 21 rfl rfl (fun (x38 : Int32) (h39 : x38.toInt = x36.toInt + z0.toInt) => ?_) (z_pAdd rfl rfl (by omega) (by omega))
        have f21 : T[21]? = some (.inr (21, 0, 1280, (-2147483648), 2147483647)) := X.1.k rfl (by decide)
        refine z_xil zt193 22 rfl X f21 (by decide) (by omega) (by omega) (fun (x40 : Int32) h41 (h42 : (-2147483648) ≤ x40.toInt) (h43 : x40.toInt ≤ 2147483647) => ?_)
        refine z_xP zt193 23 52 [some (.ref 19)] [.int x40] rfl rfl ?_
        refine z_xri zt193 25 rfl zzr193 ?_
        show z_ev (d + 5) 192 11 [some (.ref 19), some (.int 125)] [.int x40] M _
        refine z_xP zt192 5 12 [some (.ref 19), some (.int 125)] [.int 125, .int x40] rfl rfl ?_
        refine z_xJ zt192 6 rfl rfl (fun (h44 : x40.toInt = 125) => ?_) (fun (h44 : x40.toInt ≠ 125) => ?_)
        · skip
          refine z_xP zt192 9 19 [some (.ref 19), some (.int 125)] [.ref 19, .ref 19] rfl rfl ?_
          refine z_xgv zt192 10 rfl zo192 zzf12_123 X f19 (by decide) hp0 ?_
          refine z_xP zt192 11 23 [some (.ref 19), some (.int 125)] [.int 1, .int z0, .ref 19] rfl rfl ?_
          refine z_xI zt192 12 rfl rfl (fun (x45 : Int32) (h46 : x45.toInt = z0.toInt + 1) => ?_) (z_pAdd rfl rfl (by omega) (by omega))
          refine z_xpf zt192 13 rfl zo192 zzf12_123 X f19 (by decide) (by decide) ⟨by omega, by omega⟩ rfl (by decide) zw12_24 (fun M47 X48 e49 h50 => ?_)
          refine z_xP zt192 14 28 [some (.ref 19), some (.int 125)] [.int 1] rfl rfl ?_
          refine z_xrz zt192 15 rfl zzr192 (by decide) (by decide) ?_
          show z_ev (d + 6) 204 72 [some (.ref 19), some (.int p1), some (.int b2), some (.int b3)] [.int 1] M47 _
          refine z_xZ zt204 31 rfl rfl (fun (h51 : (1 : Int) ≠ 0) => ?_) (fun (h51 : (1 : Int) = 0) => absurd h51 (by omega))
          refine z_xP zt204 35 82 [some (.ref 19), some (.int p1), some (.int b2), some (.int b3)] [.ref 19, .ref 19] rfl rfl ?_
          refine z_xgI zt204 36 rfl zo204 zzf12_160 X48 f19 (by decide) (by decide) rfl (fun (x53 : Int32) h52 (h54 : (-2147483648) ≤ x53.toInt) (h55 : x53.toInt ≤ 2147483647) => ?_)
          refine z_xP zt204 37 86 [some (.ref 19), some (.int p1), some (.int b2), some (.int b3)] [.int 1, .int x53, .ref 19] rfl rfl ?_
          have h56 := z_b32 x53
          refine z_xI zt204 38 rfl rfl (P := fun _ => True) (fun (x57 : Int32) _ => ?_) trivial
          refine z_xpf zt204 39 rfl zo204 zzf12_160 X48 f19 (by decide) (by decide) ⟨Int32.le_toInt _, Int32.toInt_le _⟩ rfl (by decide) zw12_27 (fun M59 X60 e61 h62 => ?_)
          refine z_xP zt204 40 92 [some (.ref 19), some (.int p1), some (.int b2), some (.int b3)] [.int p1, .int b2] rfl rfl ?_
          have h63 := z_b32 b2
          refine z_xJ zt204 41 rfl rfl (fun (h64 : b2.toInt < p1.toInt) => ?_) (fun (h64 : p1.toInt ≤ b2.toInt) => ?_)
          · skip
            refine z_xP zt204 43 100 [some (.ref 19), some (.int p1), some (.int b2), some (.int b3)] [.int 0] rfl rfl ?_
            have h65 := (e61.f f19 (by decide) h50)
            have q0 : ((0 : Int32)).toInt = 0 := rfl
            exact z_xrz zt204 44 rfl zzr204 (by decide) (by decide) (kk 0 M59 X60 (by omega) (by omega) x45 h65 ⟨by omega, by omega⟩ (by omega))
          refine z_xP zt204 42 100 [some (.ref 19), some (.int p1), some (.int b2), some (.int b3)] [.int 1] rfl rfl ?_
          have h66 := (e61.f f19 (by decide) h50)
          have q1 : ((1 : Int32)).toInt = 1 := rfl
          exact z_xrz zt204 44 rfl zzr204 (by decide) (by decide) (kk 1 M59 X60 (by omega) (by omega) x45 h66 ⟨by omega, by omega⟩ (by omega))
        refine z_xP zt192 7 16 [some (.ref 19), some (.int 125)] [.int 0] rfl rfl ?_
        refine z_xrz zt192 8 rfl zzr192 (by decide) (by decide) ?_
        show z_ev (d + 6) 204 72 [some (.ref 19), some (.int p1), some (.int b2), some (.int b3)] [.int 0] M _
        refine z_xZ zt204 31 rfl rfl (fun (h67 : (0 : Int) ≠ 0) => absurd h67 (by omega)) (fun (h67 : (0 : Int) = 0) => ?_)
        refine z_xP zt204 32 76 [some (.ref 19), some (.int p1), some (.int b2), some (.int b3)] [.ref 19] rfl rfl ?_
        refine z_xcV (vs := [.ref 19]) (r := []) (L2 := [some (.ref 19)]) zt204 33 rfl zo204 zzcV12_163 (Or.inl rfl) rfl X f19 rfl rfl rfl (Nat.le_of_ble_eq_true rfl) zzm194 (Nat.le_of_ble_eq_true rfl) rfl ?_
        refine z_xP zt194 0 2 [some (.ref 19)] [.ref 19, .ref 19] rfl rfl ?_
        refine z_xgv zt194 1 rfl zo194 zzf12_136 X f19 (by decide) h2 ?_
        refine z_xZ zt194 2 rfl rfl (fun (h68 : 0 ≤ x3.toInt) => absurd h68 (by omega)) (fun (h68 : x3.toInt < 0) => ?_)
        refine z_xP zt194 3 9 [some (.ref 19)] [.ref 19, .ref 19] rfl rfl ?_
        refine z_xgv zt194 4 rfl zo194 zzf12_123 X f19 (by decide) hp0 ?_
        refine z_xP zt194 5 19 [some (.ref 19)] [.int z0, .ref 19] rfl rfl ?_
        refine z_xpf zt194 8 rfl zo194 zzf12_136 X f19 (by decide) (by decide) ⟨Int32.le_toInt _, Int32.toInt_le _⟩ rfl (by decide) zw12_26 (fun M69 X70 e71 h72 => ?_)
        refine z_xP zt194 9 23 [some (.ref 19)] [.int 0] rfl rfl ?_
        refine z_xrz zt194 10 rfl zzr194 (by decide) (by decide) ?_
        show z_ev (d + 6) 204 79 [some (.ref 19), some (.int p1), some (.int b2), some (.int b3)] [.int 0] M69 _
        have h73 := (e71.f f19 (by decide) hp0)
        have q0 : ((0 : Int32)).toInt = 0 := rfl
        exact z_xrz zt204 34 rfl zzr204 (by decide) (by decide) (kk 0 M69 X70 (by omega) (by omega) z0 h73 ⟨by omega, by omega⟩ (by omega))
      refine z_xP zt193 8 19 [some (.ref 19)] [.ref 19] rfl rfl ?_
      refine z_xgX (b := 20) zt193 9 rfl zo193 zzf12_9 X f19 (by decide) (by decide) rfl ?_
      refine z_xP zt193 10 23 [some (.ref 19)] [.ref 19, .ref 20] rfl rfl ?_
      refine z_xgv zt193 11 rfl zo193 zzf12_123 X f19 (by decide) hp0 ?_
      have f20 : T[20]? = some (.inr (20, 0, 160, (-2147483648), 2147483647)) := X.1.k rfl (by decide)
      refine z_xil zt193 12 rfl X f20 (by decide) (by omega) (by omega) (fun (x74 : Int32) h75 (h76 : (-2147483648) ≤ x74.toInt) (h77 : x74.toInt ≤ 2147483647) => ?_)
      refine z_xP zt193 13 52 [some (.ref 19)] [.int x74] rfl rfl ?_
      refine z_xri zt193 25 rfl zzr193 ?_
      show z_ev (d + 5) 192 11 [some (.ref 19), some (.int 125)] [.int x74] M _
      refine z_xP zt192 5 12 [some (.ref 19), some (.int 125)] [.int 125, .int x74] rfl rfl ?_
      refine z_xJ zt192 6 rfl rfl (fun (h78 : x74.toInt = 125) => ?_) (fun (h78 : x74.toInt ≠ 125) => ?_)
      · skip
        refine z_xP zt192 9 19 [some (.ref 19), some (.int 125)] [.ref 19, .ref 19] rfl rfl ?_
        refine z_xgv zt192 10 rfl zo192 zzf12_123 X f19 (by decide) hp0 ?_
        refine z_xP zt192 11 23 [some (.ref 19), some (.int 125)] [.int 1, .int z0, .ref 19] rfl rfl ?_
        refine z_xI zt192 12 rfl rfl (fun (x79 : Int32) (h80 : x79.toInt = z0.toInt + 1) => ?_) (z_pAdd rfl rfl (by omega) (by omega))
        refine z_xpf zt192 13 rfl zo192 zzf12_123 X f19 (by decide) (by decide) ⟨by omega, by omega⟩ rfl (by decide) zw12_24 (fun M81 X82 e83 h84 => ?_)
        refine z_xP zt192 14 28 [some (.ref 19), some (.int 125)] [.int 1] rfl rfl ?_
        refine z_xrz zt192 15 rfl zzr192 (by decide) (by decide) ?_
        show z_ev (d + 6) 204 72 [some (.ref 19), some (.int p1), some (.int b2), some (.int b3)] [.int 1] M81 _
        refine z_xZ zt204 31 rfl rfl (fun (h85 : (1 : Int) ≠ 0) => ?_) (fun (h85 : (1 : Int) = 0) => absurd h85 (by omega))
        refine z_xP zt204 35 82 [some (.ref 19), some (.int p1), some (.int b2), some (.int b3)] [.ref 19, .ref 19] rfl rfl ?_
        refine z_xgI zt204 36 rfl zo204 zzf12_160 X82 f19 (by decide) (by decide) rfl (fun (x87 : Int32) h86 (h88 : (-2147483648) ≤ x87.toInt) (h89 : x87.toInt ≤ 2147483647) => ?_)
        refine z_xP zt204 37 86 [some (.ref 19), some (.int p1), some (.int b2), some (.int b3)] [.int 1, .int x87, .ref 19] rfl rfl ?_
        have h90 := z_b32 x87
        refine z_xI zt204 38 rfl rfl (P := fun _ => True) (fun (x91 : Int32) _ => ?_) trivial
        refine z_xpf zt204 39 rfl zo204 zzf12_160 X82 f19 (by decide) (by decide) ⟨Int32.le_toInt _, Int32.toInt_le _⟩ rfl (by decide) zw12_27 (fun M93 X94 e95 h96 => ?_)
        refine z_xP zt204 40 92 [some (.ref 19), some (.int p1), some (.int b2), some (.int b3)] [.int p1, .int b2] rfl rfl ?_
        have h97 := z_b32 b2
        refine z_xJ zt204 41 rfl rfl (fun (h98 : b2.toInt < p1.toInt) => ?_) (fun (h98 : p1.toInt ≤ b2.toInt) => ?_)
        · skip
          refine z_xP zt204 43 100 [some (.ref 19), some (.int p1), some (.int b2), some (.int b3)] [.int 0] rfl rfl ?_
          have h99 := (e95.f f19 (by decide) h84)
          have q0 : ((0 : Int32)).toInt = 0 := rfl
          exact z_xrz zt204 44 rfl zzr204 (by decide) (by decide) (kk 0 M93 X94 (by omega) (by omega) x79 h99 ⟨by omega, by omega⟩ (by omega))
        refine z_xP zt204 42 100 [some (.ref 19), some (.int p1), some (.int b2), some (.int b3)] [.int 1] rfl rfl ?_
        have h100 := (e95.f f19 (by decide) h84)
        have q1 : ((1 : Int32)).toInt = 1 := rfl
        exact z_xrz zt204 44 rfl zzr204 (by decide) (by decide) (kk 1 M93 X94 (by omega) (by omega) x79 h100 ⟨by omega, by omega⟩ (by omega))
      refine z_xP zt192 7 16 [some (.ref 19), some (.int 125)] [.int 0] rfl rfl ?_
      refine z_xrz zt192 8 rfl zzr192 (by decide) (by decide) ?_
      show z_ev (d + 6) 204 72 [some (.ref 19), some (.int p1), some (.int b2), some (.int b3)] [.int 0] M _
      refine z_xZ zt204 31 rfl rfl (fun (h101 : (0 : Int) ≠ 0) => absurd h101 (by omega)) (fun (h101 : (0 : Int) = 0) => ?_)
      refine z_xP zt204 32 76 [some (.ref 19), some (.int p1), some (.int b2), some (.int b3)] [.ref 19] rfl rfl ?_
      refine z_xcV (vs := [.ref 19]) (r := []) (L2 := [some (.ref 19)]) zt204 33 rfl zo204 zzcV12_163 (Or.inl rfl) rfl X f19 rfl rfl rfl (Nat.le_of_ble_eq_true rfl) zzm194 (Nat.le_of_ble_eq_true rfl) rfl ?_
      refine z_xP zt194 0 2 [some (.ref 19)] [.ref 19, .ref 19] rfl rfl ?_
      refine z_xgv zt194 1 rfl zo194 zzf12_136 X f19 (by decide) h2 ?_
      refine z_xZ zt194 2 rfl rfl (fun (h102 : 0 ≤ x3.toInt) => absurd h102 (by omega)) (fun (h102 : x3.toInt < 0) => ?_)
      refine z_xP zt194 3 9 [some (.ref 19)] [.ref 19, .ref 19] rfl rfl ?_
      refine z_xgv zt194 4 rfl zo194 zzf12_123 X f19 (by decide) hp0 ?_
      refine z_xP zt194 5 19 [some (.ref 19)] [.int z0, .ref 19] rfl rfl ?_
      refine z_xpf zt194 8 rfl zo194 zzf12_136 X f19 (by decide) (by decide) ⟨Int32.le_toInt _, Int32.toInt_le _⟩ rfl (by decide) zw12_26 (fun M103 X104 e105 h106 => ?_)
      refine z_xP zt194 9 23 [some (.ref 19)] [.int 0] rfl rfl ?_
      refine z_xrz zt194 10 rfl zzr194 (by decide) (by decide) ?_
      show z_ev (d + 6) 204 79 [some (.ref 19), some (.int p1), some (.int b2), some (.int b3)] [.int 0] M103 _
      have h107 := (e105.f f19 (by decide) hp0)
      have q0 : ((0 : Int32)).toInt = 0 := rfl
      exact z_xrz zt204 34 rfl zzr204 (by decide) (by decide) (kk 0 M103 X104 (by omega) (by omega) z0 h107 ⟨by omega, by omega⟩ (by omega))
    refine z_xP zt204 20 43 [some (.ref 19), some (.int p1), some (.int b2), some (.int b3)] [.ref 19, .int b2] rfl rfl ?_
    have f19 : T[19]? = some (.inl (12, 0, 0, 0, 0)) := X.1.k rfl (by decide)
    obtain ⟨d108, hdd108⟩ : ∃ e, d = e + 1 := ⟨d - 1, by omega⟩
    subst hdd108
    refine z_xcV (vs := [.ref 19]) (r := [.int b2]) (L2 := [some (.ref 19), none, none]) zt204 21 rfl zo204 zzcV12_169 (Or.inl rfl) rfl X f19 rfl rfl rfl (Nat.le_of_ble_eq_true rfl) zzm198 (Nat.le_of_ble_eq_true rfl) rfl ?_
    refine ih198 X.1 hp0 ⟨by omega, by omega⟩ (z_GL.go hL X (by decide)) (by omega) (by omega) (fun x115 M109 X110 h116 h117 z111 h112 h113 h114 => ?_)
    have X118 := X.go X110 (z_sb (by decide))
    show z_ev (d108 + 1 + 6) 204 46 [some (.ref 19), some (.int p1), some (.int b2), some (.int b3)] [.int x115, .int b2] M109 _
    refine z_xZ zt204 22 rfl rfl (fun (h120 : x115.toInt = 0) => ?_) (fun (h120 : x115.toInt ≠ 0) => ?_)
    · skip
      refine z_xP zt204 24 54 [some (.ref 19), some (.int p1), some (.int b2), some (.int b3)] [.int 0, .int b2] rfl rfl ?_
      have h121 := z_b32 b2
      refine z_xI zt204 25 rfl rfl (fun (x122 : Int32) (h123 : x122.toInt = b2.toInt + 0) => ?_) (z_pAdd rfl rfl (by omega) (by omega))
      refine z_xP zt204 26 59 [some (.ref 19), some (.int p1), some (.int x122), some (.int b3)] [.int 44, .ref 19] rfl rfl ?_
      refine z_xcV (vs := [.ref 19, .int 44]) (r := []) (L2 := [some (.ref 19), some (.int 44)]) zt204 27 rfl zo204 zzcV12_147 (Or.inl rfl) rfl X118 f19 rfl rfl rfl (Nat.le_of_ble_eq_true rfl) zzm192 (Nat.le_of_ble_eq_true rfl) rfl ?_
      refine z_xP zt192 0 1 [some (.ref 19), some (.int 44)] [.ref 19] rfl rfl ?_
      refine z_xgI zt192 1 rfl zo192 zzf12_136 X118 f19 (by decide) (by decide) rfl (fun (x125 : Int32) h124 (h126 : (-2147483648) ≤ x125.toInt) (h127 : x125.toInt ≤ 2147483647) => ?_)
      refine z_xZ zt192 2 rfl rfl (fun (h128 : 0 ≤ x125.toInt) => ?_) (fun (h128 : x125.toInt < 0) => ?_)
      · skip
        refine z_xP zt192 7 16 [some (.ref 19), some (.int 44)] [.int 0] rfl rfl ?_
        refine z_xrz zt192 8 rfl zzr192 (by decide) (by decide) ?_
        show z_ev (d108 + 1 + 6) 204 62 [some (.ref 19), some (.int p1), some (.int x122), some (.int b3)] [.int 0] M109 _
        refine z_xP zt204 28 37 [some (.ref 19), some (.int p1), some (.int x122), some (.int 0)] [] rfl rfl ?_
        have q0 : ((0 : Int32)).toInt = 0 := rfl
        exact ih M109 x122 (0) z111 X118 (by decide) h112 ⟨by omega, by omega⟩ (by omega) (by omega)
      refine z_xP zt192 3 8 [some (.ref 19), some (.int 44)] [.ref 19] rfl rfl ?_
      refine z_xcV (vs := [.ref 19]) (r := []) (L2 := [some (.ref 19)]) zt192 4 rfl zo192 zzcV12_139 (Or.inl rfl) rfl X118 f19 rfl rfl rfl (Nat.le_of_ble_eq_true rfl) zzm193 (Nat.le_of_ble_eq_true rfl) rfl ?_
      refine z_xP zt193 0 1 [some (.ref 19)] [.ref 19] rfl rfl ?_
      refine z_xgv zt193 1 rfl zo193 zzf12_123 X118 f19 (by decide) h112 ?_
      refine z_xP zt193 2 5 [some (.ref 19)] [.ref 19, .int z111] rfl rfl ?_
      refine z_xgI zt193 3 rfl zo193 zzf12_126 X118 f19 (by decide) (by decide) rfl (fun (x130 : Int32) h129 (h131 : 0 ≤ x130.toInt) (h132 : x130.toInt ≤ 160) => ?_)
      refine z_xJ zt193 4 rfl rfl (fun (h133 : x130.toInt ≤ z111.toInt) => ?_) (fun (h133 : z111.toInt < x130.toInt) => ?_)
      · skip
        refine z_xP zt193 24 52 [some (.ref 19)] [.int 0] rfl rfl ?_
        refine z_xri zt193 25 rfl zzr193 ?_
        show z_ev (d108 + 1 + 5) 192 11 [some (.ref 19), some (.int 44)] [.int 0] M109 _
        refine z_xP zt192 5 12 [some (.ref 19), some (.int 44)] [.int 44, .int 0] rfl rfl ?_
        refine z_xJ zt192 6 rfl rfl (fun (h134 : (0 : Int) = 44) => absurd h134 (by omega)) (fun (h134 : (0 : Int) ≠ 44) => ?_)
        refine z_xP zt192 7 16 [some (.ref 19), some (.int 44)] [.int 0] rfl rfl ?_
        refine z_xrz zt192 8 rfl zzr192 (by decide) (by decide) ?_
        show z_ev (d108 + 1 + 6) 204 62 [some (.ref 19), some (.int p1), some (.int x122), some (.int b3)] [.int 0] M109 _
        refine z_xP zt204 28 37 [some (.ref 19), some (.int p1), some (.int x122), some (.int 0)] [] rfl rfl ?_
        have q0 : ((0 : Int32)).toInt = 0 := rfl
        exact ih M109 x122 (0) z111 X118 (by decide) h112 ⟨by omega, by omega⟩ (by omega) (by omega)
      refine z_xP zt193 5 12 [some (.ref 19)] [.ref 19] rfl rfl ?_
      refine z_xgI zt193 6 rfl zo193 zzf12_129 X118 f19 (by decide) (by decide) rfl (fun (x136 : Int32) h135 (h137 : 0 ≤ x136.toInt) (h138 : x136.toInt ≤ 1) => ?_)
      refine z_xZ zt193 7 rfl rfl (fun (h139 : x136.toInt = 0) => ?_) (fun (h139 : x136.toInt ≠ 0) => ?_)
      · skip
        refine z_xP zt193 14 31 [some (.ref 19)] [.ref 19] rfl rfl ?_
        refine z_xgX (b := 21) zt193 15 rfl zo193 zzf12_13 X118 f19 (by decide) (by decide) rfl ?_
        refine z_xP zt193 16 38 [some (.ref 19)] [.ref 19, .int 160, .ref 21] rfl rfl ?_
        refine z_xgI zt193 17 rfl zo193 zzf12_133 X118 f19 (by decide) (by decide) rfl (fun (x141 : Int32) h140 (h142 : 0 ≤ x141.toInt) (h143 : x141.toInt ≤ 7) => ?_)
        refine z_xI zt193 18 rfl rfl (fun (x144 : Int32) (h145 : x144.toInt = 160 * x141.toInt) => ?_) (z_pMul rfl rfl (by omega) (by omega))
        refine z_xP zt193 19 43 [some (.ref 19)] [.ref 19, .int x144, .ref 21] rfl rfl ?_
        refine z_xgv zt193 20 rfl zo193 zzf12_123 X118 f19 (by decide) h112 ?_
        refine z_xI zt193 21 rfl rfl (fun (x146 : Int32) (h147 : x146.toInt = x144.toInt + z111.toInt) => ?_) (z_pAdd rfl rfl (by omega) (by omega))
        have f21 : T[21]? = some (.inr (21, 0, 1280, (-2147483648), 2147483647)) := X118.1.k rfl (by decide)
        refine z_xil zt193 22 rfl X118 f21 (by decide) (by omega) (by omega) (fun (x148 : Int32) h149 (h150 : (-2147483648) ≤ x148.toInt) (h151 : x148.toInt ≤ 2147483647) => ?_)
        refine z_xP zt193 23 52 [some (.ref 19)] [.int x148] rfl rfl ?_
        refine z_xri zt193 25 rfl zzr193 ?_
        show z_ev (d108 + 1 + 5) 192 11 [some (.ref 19), some (.int 44)] [.int x148] M109 _
        refine z_xP zt192 5 12 [some (.ref 19), some (.int 44)] [.int 44, .int x148] rfl rfl ?_
        refine z_xJ zt192 6 rfl rfl (fun (h152 : x148.toInt = 44) => ?_) (fun (h152 : x148.toInt ≠ 44) => ?_)
        · skip
          refine z_xP zt192 9 19 [some (.ref 19), some (.int 44)] [.ref 19, .ref 19] rfl rfl ?_
          refine z_xgv zt192 10 rfl zo192 zzf12_123 X118 f19 (by decide) h112 ?_
          refine z_xP zt192 11 23 [some (.ref 19), some (.int 44)] [.int 1, .int z111, .ref 19] rfl rfl ?_
          refine z_xI zt192 12 rfl rfl (fun (x153 : Int32) (h154 : x153.toInt = z111.toInt + 1) => ?_) (z_pAdd rfl rfl (by omega) (by omega))
          refine z_xpf zt192 13 rfl zo192 zzf12_123 X118 f19 (by decide) (by decide) ⟨by omega, by omega⟩ rfl (by decide) zw12_24 (fun M155 X156 e157 h158 => ?_)
          refine z_xP zt192 14 28 [some (.ref 19), some (.int 44)] [.int 1] rfl rfl ?_
          refine z_xrz zt192 15 rfl zzr192 (by decide) (by decide) ?_
          show z_ev (d108 + 1 + 6) 204 62 [some (.ref 19), some (.int p1), some (.int x122), some (.int b3)] [.int 1] M155 _
          refine z_xP zt204 28 37 [some (.ref 19), some (.int p1), some (.int x122), some (.int 1)] [] rfl rfl ?_
          have q1 : ((1 : Int32)).toInt = 1 := rfl
          exact ih M155 x122 (1) x153 X156 (by decide) h158 ⟨by omega, by omega⟩ (by omega) (by omega)
        refine z_xP zt192 7 16 [some (.ref 19), some (.int 44)] [.int 0] rfl rfl ?_
        refine z_xrz zt192 8 rfl zzr192 (by decide) (by decide) ?_
        show z_ev (d108 + 1 + 6) 204 62 [some (.ref 19), some (.int p1), some (.int x122), some (.int b3)] [.int 0] M109 _
        refine z_xP zt204 28 37 [some (.ref 19), some (.int p1), some (.int x122), some (.int 0)] [] rfl rfl ?_
        have q0 : ((0 : Int32)).toInt = 0 := rfl
        exact ih M109 x122 (0) z111 X118 (by decide) h112 ⟨by omega, by omega⟩ (by omega) (by omega)
      refine z_xP zt193 8 19 [some (.ref 19)] [.ref 19] rfl rfl ?_
      refine z_xgX (b := 20) zt193 9 rfl zo193 zzf12_9 X118 f19 (by decide) (by decide) rfl ?_
      refine z_xP zt193 10 23 [some (.ref 19)] [.ref 19, .ref 20] rfl rfl ?_
      refine z_xgv zt193 11 rfl zo193 zzf12_123 X118 f19 (by decide) h112 ?_
      have f20 : T[20]? = some (.inr (20, 0, 160, (-2147483648), 2147483647)) := X118.1.k rfl (by decide)
      refine z_xil zt193 12 rfl X118 f20 (by decide) (by omega) (by omega) (fun (x159 : Int32) h160 (h161 : (-2147483648) ≤ x159.toInt) (h162 : x159.toInt ≤ 2147483647) => ?_)
      refine z_xP zt193 13 52 [some (.ref 19)] [.int x159] rfl rfl ?_
      refine z_xri zt193 25 rfl zzr193 ?_
      show z_ev (d108 + 1 + 5) 192 11 [some (.ref 19), some (.int 44)] [.int x159] M109 _
      refine z_xP zt192 5 12 [some (.ref 19), some (.int 44)] [.int 44, .int x159] rfl rfl ?_
      refine z_xJ zt192 6 rfl rfl (fun (h163 : x159.toInt = 44) => ?_) (fun (h163 : x159.toInt ≠ 44) => ?_)
      · skip
        refine z_xP zt192 9 19 [some (.ref 19), some (.int 44)] [.ref 19, .ref 19] rfl rfl ?_
        refine z_xgv zt192 10 rfl zo192 zzf12_123 X118 f19 (by decide) h112 ?_
        refine z_xP zt192 11 23 [some (.ref 19), some (.int 44)] [.int 1, .int z111, .ref 19] rfl rfl ?_
        refine z_xI zt192 12 rfl rfl (fun (x164 : Int32) (h165 : x164.toInt = z111.toInt + 1) => ?_) (z_pAdd rfl rfl (by omega) (by omega))
        refine z_xpf zt192 13 rfl zo192 zzf12_123 X118 f19 (by decide) (by decide) ⟨by omega, by omega⟩ rfl (by decide) zw12_24 (fun M166 X167 e168 h169 => ?_)
        refine z_xP zt192 14 28 [some (.ref 19), some (.int 44)] [.int 1] rfl rfl ?_
        refine z_xrz zt192 15 rfl zzr192 (by decide) (by decide) ?_
        show z_ev (d108 + 1 + 6) 204 62 [some (.ref 19), some (.int p1), some (.int x122), some (.int b3)] [.int 1] M166 _
        refine z_xP zt204 28 37 [some (.ref 19), some (.int p1), some (.int x122), some (.int 1)] [] rfl rfl ?_
        have q1 : ((1 : Int32)).toInt = 1 := rfl
        exact ih M166 x122 (1) x164 X167 (by decide) h169 ⟨by omega, by omega⟩ (by omega) (by omega)
      refine z_xP zt192 7 16 [some (.ref 19), some (.int 44)] [.int 0] rfl rfl ?_
      refine z_xrz zt192 8 rfl zzr192 (by decide) (by decide) ?_
      show z_ev (d108 + 1 + 6) 204 62 [some (.ref 19), some (.int p1), some (.int x122), some (.int b3)] [.int 0] M109 _
      refine z_xP zt204 28 37 [some (.ref 19), some (.int p1), some (.int x122), some (.int 0)] [] rfl rfl ?_
      have q0 : ((0 : Int32)).toInt = 0 := rfl
      exact ih M109 x122 (0) z111 X118 (by decide) h112 ⟨by omega, by omega⟩ (by omega) (by omega)
    refine z_xP zt204 23 54 [some (.ref 19), some (.int p1), some (.int b2), some (.int b3)] [.int 1, .int b2] rfl rfl ?_
    have h170 := z_b32 b2
    refine z_xI zt204 25 rfl rfl (P := fun _ => True) (fun (x171 : Int32) _ => ?_) trivial
    refine z_xP zt204 26 59 [some (.ref 19), some (.int p1), some (.int x171), some (.int b3)] [.int 44, .ref 19] rfl rfl ?_
    refine z_xcV (vs := [.ref 19, .int 44]) (r := []) (L2 := [some (.ref 19), some (.int 44)]) zt204 27 rfl zo204 zzcV12_147 (Or.inl rfl) rfl X118 f19 rfl rfl rfl (Nat.le_of_ble_eq_true rfl) zzm192 (Nat.le_of_ble_eq_true rfl) rfl ?_
    refine z_xP zt192 0 1 [some (.ref 19), some (.int 44)] [.ref 19] rfl rfl ?_
    refine z_xgI zt192 1 rfl zo192 zzf12_136 X118 f19 (by decide) (by decide) rfl (fun (x174 : Int32) h173 (h175 : (-2147483648) ≤ x174.toInt) (h176 : x174.toInt ≤ 2147483647) => ?_)
    refine z_xZ zt192 2 rfl rfl (fun (h177 : 0 ≤ x174.toInt) => ?_) (fun (h177 : x174.toInt < 0) => ?_)
    · skip
      refine z_xP zt192 7 16 [some (.ref 19), some (.int 44)] [.int 0] rfl rfl ?_
      refine z_xrz zt192 8 rfl zzr192 (by decide) (by decide) ?_
      show z_ev (d108 + 1 + 6) 204 62 [some (.ref 19), some (.int p1), some (.int x171), some (.int b3)] [.int 0] M109 _
      refine z_xP zt204 28 37 [some (.ref 19), some (.int p1), some (.int x171), some (.int 0)] [] rfl rfl ?_
      have q0 : ((0 : Int32)).toInt = 0 := rfl
      exact ih M109 x171 (0) z111 X118 (by decide) h112 ⟨by omega, by omega⟩ (by omega) (by omega)
    refine z_xP zt192 3 8 [some (.ref 19), some (.int 44)] [.ref 19] rfl rfl ?_
    refine z_xcV (vs := [.ref 19]) (r := []) (L2 := [some (.ref 19)]) zt192 4 rfl zo192 zzcV12_139 (Or.inl rfl) rfl X118 f19 rfl rfl rfl (Nat.le_of_ble_eq_true rfl) zzm193 (Nat.le_of_ble_eq_true rfl) rfl ?_
    refine z_xP zt193 0 1 [some (.ref 19)] [.ref 19] rfl rfl ?_
    refine z_xgv zt193 1 rfl zo193 zzf12_123 X118 f19 (by decide) h112 ?_
    refine z_xP zt193 2 5 [some (.ref 19)] [.ref 19, .int z111] rfl rfl ?_
    refine z_xgI zt193 3 rfl zo193 zzf12_126 X118 f19 (by decide) (by decide) rfl (fun (x179 : Int32) h178 (h180 : 0 ≤ x179.toInt) (h181 : x179.toInt ≤ 160) => ?_)
    refine z_xJ zt193 4 rfl rfl (fun (h182 : x179.toInt ≤ z111.toInt) => ?_) (fun (h182 : z111.toInt < x179.toInt) => ?_)
    · skip
      refine z_xP zt193 24 52 [some (.ref 19)] [.int 0] rfl rfl ?_
      refine z_xri zt193 25 rfl zzr193 ?_
      show z_ev (d108 + 1 + 5) 192 11 [some (.ref 19), some (.int 44)] [.int 0] M109 _
      refine z_xP zt192 5 12 [some (.ref 19), some (.int 44)] [.int 44, .int 0] rfl rfl ?_
      refine z_xJ zt192 6 rfl rfl (fun (h183 : (0 : Int) = 44) => absurd h183 (by omega)) (fun (h183 : (0 : Int) ≠ 44) => ?_)
      refine z_xP zt192 7 16 [some (.ref 19), some (.int 44)] [.int 0] rfl rfl ?_
      refine z_xrz zt192 8 rfl zzr192 (by decide) (by decide) ?_
      show z_ev (d108 + 1 + 6) 204 62 [some (.ref 19), some (.int p1), some (.int x171), some (.int b3)] [.int 0] M109 _
      refine z_xP zt204 28 37 [some (.ref 19), some (.int p1), some (.int x171), some (.int 0)] [] rfl rfl ?_
      have q0 : ((0 : Int32)).toInt = 0 := rfl
      exact ih M109 x171 (0) z111 X118 (by decide) h112 ⟨by omega, by omega⟩ (by omega) (by omega)
    refine z_xP zt193 5 12 [some (.ref 19)] [.ref 19] rfl rfl ?_
    refine z_xgI zt193 6 rfl zo193 zzf12_129 X118 f19 (by decide) (by decide) rfl (fun (x185 : Int32) h184 (h186 : 0 ≤ x185.toInt) (h187 : x185.toInt ≤ 1) => ?_)
    refine z_xZ zt193 7 rfl rfl (fun (h188 : x185.toInt = 0) => ?_) (fun (h188 : x185.toInt ≠ 0) => ?_)
    · skip
      refine z_xP zt193 14 31 [some (.ref 19)] [.ref 19] rfl rfl ?_
      refine z_xgX (b := 21) zt193 15 rfl zo193 zzf12_13 X118 f19 (by decide) (by decide) rfl ?_
      refine z_xP zt193 16 38 [some (.ref 19)] [.ref 19, .int 160, .ref 21] rfl rfl ?_
      refine z_xgI zt193 17 rfl zo193 zzf12_133 X118 f19 (by decide) (by decide) rfl (fun (x190 : Int32) h189 (h191 : 0 ≤ x190.toInt) (h192 : x190.toInt ≤ 7) => ?_)
      refine z_xI zt193 18 rfl rfl (fun (x193 : Int32) (h194 : x193.toInt = 160 * x190.toInt) => ?_) (z_pMul rfl rfl (by omega) (by omega))
      refine z_xP zt193 19 43 [some (.ref 19)] [.ref 19, .int x193, .ref 21] rfl rfl ?_
      refine z_xgv zt193 20 rfl zo193 zzf12_123 X118 f19 (by decide) h112 ?_
      refine z_xI zt193 21 rfl rfl (fun (x195 : Int32) (h196 : x195.toInt = x193.toInt + z111.toInt) => ?_) (z_pAdd rfl rfl (by omega) (by omega))
      have f21 : T[21]? = some (.inr (21, 0, 1280, (-2147483648), 2147483647)) := X118.1.k rfl (by decide)
      refine z_xil zt193 22 rfl X118 f21 (by decide) (by omega) (by omega) (fun (x197 : Int32) h198 (h199 : (-2147483648) ≤ x197.toInt) (h200 : x197.toInt ≤ 2147483647) => ?_)
      refine z_xP zt193 23 52 [some (.ref 19)] [.int x197] rfl rfl ?_
      refine z_xri zt193 25 rfl zzr193 ?_
      show z_ev (d108 + 1 + 5) 192 11 [some (.ref 19), some (.int 44)] [.int x197] M109 _
      refine z_xP zt192 5 12 [some (.ref 19), some (.int 44)] [.int 44, .int x197] rfl rfl ?_
      refine z_xJ zt192 6 rfl rfl (fun (h201 : x197.toInt = 44) => ?_) (fun (h201 : x197.toInt ≠ 44) => ?_)
      · skip
        refine z_xP zt192 9 19 [some (.ref 19), some (.int 44)] [.ref 19, .ref 19] rfl rfl ?_
        refine z_xgv zt192 10 rfl zo192 zzf12_123 X118 f19 (by decide) h112 ?_
        refine z_xP zt192 11 23 [some (.ref 19), some (.int 44)] [.int 1, .int z111, .ref 19] rfl rfl ?_
        refine z_xI zt192 12 rfl rfl (fun (x202 : Int32) (h203 : x202.toInt = z111.toInt + 1) => ?_) (z_pAdd rfl rfl (by omega) (by omega))
        refine z_xpf zt192 13 rfl zo192 zzf12_123 X118 f19 (by decide) (by decide) ⟨by omega, by omega⟩ rfl (by decide) zw12_24 (fun M204 X205 e206 h207 => ?_)
        refine z_xP zt192 14 28 [some (.ref 19), some (.int 44)] [.int 1] rfl rfl ?_
        refine z_xrz zt192 15 rfl zzr192 (by decide) (by decide) ?_
        show z_ev (d108 + 1 + 6) 204 62 [some (.ref 19), some (.int p1), some (.int x171), some (.int b3)] [.int 1] M204 _
        refine z_xP zt204 28 37 [some (.ref 19), some (.int p1), some (.int x171), some (.int 1)] [] rfl rfl ?_
        have q1 : ((1 : Int32)).toInt = 1 := rfl
        exact ih M204 x171 (1) x202 X205 (by decide) h207 ⟨by omega, by omega⟩ (by omega) (by omega)
      refine z_xP zt192 7 16 [some (.ref 19), some (.int 44)] [.int 0] rfl rfl ?_
      refine z_xrz zt192 8 rfl zzr192 (by decide) (by decide) ?_
      show z_ev (d108 + 1 + 6) 204 62 [some (.ref 19), some (.int p1), some (.int x171), some (.int b3)] [.int 0] M109 _
      refine z_xP zt204 28 37 [some (.ref 19), some (.int p1), some (.int x171), some (.int 0)] [] rfl rfl ?_
      have q0 : ((0 : Int32)).toInt = 0 := rfl
      exact ih M109 x171 (0) z111 X118 (by decide) h112 ⟨by omega, by omega⟩ (by omega) (by omega)
    refine z_xP zt193 8 19 [some (.ref 19)] [.ref 19] rfl rfl ?_
    refine z_xgX (b := 20) zt193 9 rfl zo193 zzf12_9 X118 f19 (by decide) (by decide) rfl ?_
    refine z_xP zt193 10 23 [some (.ref 19)] [.ref 19, .ref 20] rfl rfl ?_
    refine z_xgv zt193 11 rfl zo193 zzf12_123 X118 f19 (by decide) h112 ?_
    have f20 : T[20]? = some (.inr (20, 0, 160, (-2147483648), 2147483647)) := X118.1.k rfl (by decide)
    refine z_xil zt193 12 rfl X118 f20 (by decide) (by omega) (by omega) (fun (x208 : Int32) h209 (h210 : (-2147483648) ≤ x208.toInt) (h211 : x208.toInt ≤ 2147483647) => ?_)
    refine z_xP zt193 13 52 [some (.ref 19)] [.int x208] rfl rfl ?_
    refine z_xri zt193 25 rfl zzr193 ?_
    show z_ev (d108 + 1 + 5) 192 11 [some (.ref 19), some (.int 44)] [.int x208] M109 _
    refine z_xP zt192 5 12 [some (.ref 19), some (.int 44)] [.int 44, .int x208] rfl rfl ?_
    refine z_xJ zt192 6 rfl rfl (fun (h212 : x208.toInt = 44) => ?_) (fun (h212 : x208.toInt ≠ 44) => ?_)
    · skip
      refine z_xP zt192 9 19 [some (.ref 19), some (.int 44)] [.ref 19, .ref 19] rfl rfl ?_
      refine z_xgv zt192 10 rfl zo192 zzf12_123 X118 f19 (by decide) h112 ?_
      refine z_xP zt192 11 23 [some (.ref 19), some (.int 44)] [.int 1, .int z111, .ref 19] rfl rfl ?_
      refine z_xI zt192 12 rfl rfl (fun (x213 : Int32) (h214 : x213.toInt = z111.toInt + 1) => ?_) (z_pAdd rfl rfl (by omega) (by omega))
      refine z_xpf zt192 13 rfl zo192 zzf12_123 X118 f19 (by decide) (by decide) ⟨by omega, by omega⟩ rfl (by decide) zw12_24 (fun M215 X216 e217 h218 => ?_)
      refine z_xP zt192 14 28 [some (.ref 19), some (.int 44)] [.int 1] rfl rfl ?_
      refine z_xrz zt192 15 rfl zzr192 (by decide) (by decide) ?_
      show z_ev (d108 + 1 + 6) 204 62 [some (.ref 19), some (.int p1), some (.int x171), some (.int b3)] [.int 1] M215 _
      refine z_xP zt204 28 37 [some (.ref 19), some (.int p1), some (.int x171), some (.int 1)] [] rfl rfl ?_
      have q1 : ((1 : Int32)).toInt = 1 := rfl
      exact ih M215 x171 (1) x213 X216 (by decide) h218 ⟨by omega, by omega⟩ (by omega) (by omega)
    refine z_xP zt192 7 16 [some (.ref 19), some (.int 44)] [.int 0] rfl rfl ?_
    refine z_xrz zt192 8 rfl zzr192 (by decide) (by decide) ?_
    show z_ev (d108 + 1 + 6) 204 62 [some (.ref 19), some (.int p1), some (.int x171), some (.int b3)] [.int 0] M109 _
    refine z_xP zt204 28 37 [some (.ref 19), some (.int p1), some (.int x171), some (.int 0)] [] rfl rfl ?_
    have q0 : ((0 : Int32)).toInt = 0 := rfl
    exact ih M109 x171 (0) z111 X118 (by decide) h112 ⟨by omega, by omega⟩ (by omega) (by omega)
theorem zC204r {T : List zK} {d : Nat} {K : Option Value → zH → Prop} {p1 : Int32} {zp0 : Int32} {N : Nat} {M0 : zH} (hW : z_W M0 T) (u1 : 1 ≤ p1.toInt ∧ p1.toInt ≤ 9) (hz0 : z_F M0 19 24 = some (.int zp0)) (bz0 : 0 ≤ zp0.toInt ∧ zp0.toInt ≤ 159) (hL : z_GL M0) (ih198 : zQ198 T N) (ih199 : zQ199 T N) (ih200 : zQ200 T N) (ih201 : zQ201 T N) (ih202 : zQ202 T N) (ih204 : zQ204 T N) (hm : 6 * (160 - zp0.toInt) + 0 < (N : Int) + 1) (hd : 6 * (160 - zp0.toInt) + 0 ≤ (d : Int)) (kk : ∀ (x : Int32) (M1 : zH), z_X T zw204 M0 M1 → 0 ≤ x.toInt → x.toInt ≤ 1 → ∀ (w0 : Int32), z_F M1 19 24 = some (.int w0) → 0 ≤ w0.toInt ∧ w0.toInt ≤ 160 → zp0.toInt ≤ w0.toInt → K (some (.int x)) M1) : z_ev (d + 6) 204 0 [some (.ref 19), some (.int p1), none, none] [] M0 K := by
  have X : z_X T zw204 M0 M0 := .refl hW
  refine z_xP zt204 0 2 [some (.ref 19), some (.int p1), none, none] [.ref 19, .ref 19] rfl rfl ?_
  have f19 : T[19]? = some (.inl (12, 0, 0, 0, 0)) := X.1.k rfl (by decide)
  refine z_xgv zt204 1 rfl zo204 zzf12_123 X f19 (by decide) hz0 ?_
  refine z_xP zt204 2 6 [some (.ref 19), some (.int p1), none, none] [.int 1, .int zp0, .ref 19] rfl rfl ?_
  refine z_xI zt204 3 rfl rfl (fun (x1 : Int32) (h2 : x1.toInt = zp0.toInt + 1) => ?_) (z_pAdd rfl rfl (by omega) (by omega))
  refine z_xpf zt204 4 rfl zo204 zzf12_123 X f19 (by decide) (by decide) ⟨by omega, by omega⟩ rfl (by decide) zw12_24 (fun M3 X4 e5 h6 => ?_)
  refine z_xP zt204 5 11 [some (.ref 19), some (.int p1), none, none] [.ref 19] rfl rfl ?_
  refine z_xcV (vs := [.ref 19]) (r := []) (L2 := [some (.ref 19)]) zt204 6 rfl zo204 zzcV12_139 (Or.inl rfl) rfl X4 f19 rfl rfl rfl (Nat.le_of_ble_eq_true rfl) zzm193 (Nat.le_of_ble_eq_true rfl) rfl ?_
  refine z_xP zt193 0 1 [some (.ref 19)] [.ref 19] rfl rfl ?_
  refine z_xgv zt193 1 rfl zo193 zzf12_123 X4 f19 (by decide) h6 ?_
  refine z_xP zt193 2 5 [some (.ref 19)] [.ref 19, .int x1] rfl rfl ?_
  refine z_xgI zt193 3 rfl zo193 zzf12_126 X4 f19 (by decide) (by decide) rfl (fun (x8 : Int32) h7 (h9 : 0 ≤ x8.toInt) (h10 : x8.toInt ≤ 160) => ?_)
  refine z_xJ zt193 4 rfl rfl (fun (h11 : x8.toInt ≤ x1.toInt) => ?_) (fun (h11 : x1.toInt < x8.toInt) => ?_)
  · skip
    refine z_xP zt193 24 52 [some (.ref 19)] [.int 0] rfl rfl ?_
    refine z_xri zt193 25 rfl zzr193 ?_
    show z_ev (d + 6) 204 14 [some (.ref 19), some (.int p1), none, none] [.int 0] M3 _
    refine z_xP zt204 7 16 [some (.ref 19), some (.int p1), none, none] [.int 123, .int 0] rfl rfl ?_
    refine z_xJ zt204 8 rfl rfl (fun (h12 : (0 : Int) = 123) => absurd h12 (by omega)) (fun (h12 : (0 : Int) ≠ 123) => ?_)
    refine z_xP zt204 9 20 [some (.ref 19), some (.int p1), none, none] [.ref 19] rfl rfl ?_
    refine z_xcV (vs := [.ref 19]) (r := []) (L2 := [some (.ref 19)]) zt204 10 rfl zo204 zzcV12_163 (Or.inl rfl) rfl X4 f19 rfl rfl rfl (Nat.le_of_ble_eq_true rfl) zzm194 (Nat.le_of_ble_eq_true rfl) rfl ?_
    refine z_xP zt194 0 2 [some (.ref 19)] [.ref 19, .ref 19] rfl rfl ?_
    refine z_xgI zt194 1 rfl zo194 zzf12_136 X4 f19 (by decide) (by decide) rfl (fun (x14 : Int32) h13 (h15 : (-2147483648) ≤ x14.toInt) (h16 : x14.toInt ≤ 2147483647) => ?_)
    refine z_xZ zt194 2 rfl rfl (fun (h17 : 0 ≤ x14.toInt) => ?_) (fun (h17 : x14.toInt < 0) => ?_)
    · skip
      refine z_xP zt194 6 16 [some (.ref 19)] [.ref 19, .ref 19] rfl rfl ?_
      refine z_xgv zt194 7 rfl zo194 zzf12_136 X4 f19 (by decide) h13 ?_
      refine z_xpf zt194 8 rfl zo194 zzf12_136 X4 f19 (by decide) (by decide) ⟨Int32.le_toInt _, Int32.toInt_le _⟩ rfl (by decide) zw12_26 (fun M18 X19 e20 h21 => ?_)
      refine z_xP zt194 9 23 [some (.ref 19)] [.int 0] rfl rfl ?_
      refine z_xrz zt194 10 rfl zzr194 (by decide) (by decide) ?_
      show z_ev (d + 6) 204 23 [some (.ref 19), some (.int p1), none, none] [.int 0] M18 _
      have h22 := (e20.f f19 (by decide) h6)
      have q0 : ((0 : Int32)).toInt = 0 := rfl
      exact z_xrz zt204 11 rfl zzr204 (by decide) (by decide) (kk 0 M18 X19 (by omega) (by omega) x1 h22 ⟨by omega, by omega⟩ (by omega))
    refine z_xP zt194 3 9 [some (.ref 19)] [.ref 19, .ref 19] rfl rfl ?_
    refine z_xgv zt194 4 rfl zo194 zzf12_123 X4 f19 (by decide) h6 ?_
    refine z_xP zt194 5 19 [some (.ref 19)] [.int x1, .ref 19] rfl rfl ?_
    refine z_xpf zt194 8 rfl zo194 zzf12_136 X4 f19 (by decide) (by decide) ⟨Int32.le_toInt _, Int32.toInt_le _⟩ rfl (by decide) zw12_26 (fun M23 X24 e25 h26 => ?_)
    refine z_xP zt194 9 23 [some (.ref 19)] [.int 0] rfl rfl ?_
    refine z_xrz zt194 10 rfl zzr194 (by decide) (by decide) ?_
    show z_ev (d + 6) 204 23 [some (.ref 19), some (.int p1), none, none] [.int 0] M23 _
    have h27 := (e25.f f19 (by decide) h6)
    have q0 : ((0 : Int32)).toInt = 0 := rfl
    exact z_xrz zt204 11 rfl zzr204 (by decide) (by decide) (kk 0 M23 X24 (by omega) (by omega) x1 h27 ⟨by omega, by omega⟩ (by omega))
  refine z_xP zt193 5 12 [some (.ref 19)] [.ref 19] rfl rfl ?_
  refine z_xgI zt193 6 rfl zo193 zzf12_129 X4 f19 (by decide) (by decide) rfl (fun (x29 : Int32) h28 (h30 : 0 ≤ x29.toInt) (h31 : x29.toInt ≤ 1) => ?_)
  refine z_xZ zt193 7 rfl rfl (fun (h32 : x29.toInt = 0) => ?_) (fun (h32 : x29.toInt ≠ 0) => ?_)
  · skip
    refine z_xP zt193 14 31 [some (.ref 19)] [.ref 19] rfl rfl ?_
    refine z_xgX (b := 21) zt193 15 rfl zo193 zzf12_13 X4 f19 (by decide) (by decide) rfl ?_
    refine z_xP zt193 16 38 [some (.ref 19)] [.ref 19, .int 160, .ref 21] rfl rfl ?_
    refine z_xgI zt193 17 rfl zo193 zzf12_133 X4 f19 (by decide) (by decide) rfl (fun (x34 : Int32) h33 (h35 : 0 ≤ x34.toInt) (h36 : x34.toInt ≤ 7) => ?_)
    refine z_xI zt193 18 rfl rfl (fun (x37 : Int32) (h38 : x37.toInt = 160 * x34.toInt) => ?_) (z_pMul rfl rfl (by omega) (by omega))
    refine z_xP zt193 19 43 [some (.ref 19)] [.ref 19, .int x37, .ref 21] rfl rfl ?_
    refine z_xgv zt193 20 rfl zo193 zzf12_123 X4 f19 (by decide) h6 ?_
    refine z_xI zt193 21 rfl rfl (fun (x39 : Int32) (h40 : x39.toInt = x37.toInt + x1.toInt) => ?_) (z_pAdd rfl rfl (by omega) (by omega))
    have f21 : T[21]? = some (.inr (21, 0, 1280, (-2147483648), 2147483647)) := X4.1.k rfl (by decide)
    refine z_xil zt193 22 rfl X4 f21 (by decide) (by omega) (by omega) (fun (x41 : Int32) h42 (h43 : (-2147483648) ≤ x41.toInt) (h44 : x41.toInt ≤ 2147483647) => ?_)
    refine z_xP zt193 23 52 [some (.ref 19)] [.int x41] rfl rfl ?_
    refine z_xri zt193 25 rfl zzr193 ?_
    show z_ev (d + 6) 204 14 [some (.ref 19), some (.int p1), none, none] [.int x41] M3 _
    refine z_xP zt204 7 16 [some (.ref 19), some (.int p1), none, none] [.int 123, .int x41] rfl rfl ?_
    refine z_xJ zt204 8 rfl rfl (fun (h45 : x41.toInt = 123) => ?_) (fun (h45 : x41.toInt ≠ 123) => ?_)
    · skip
      refine z_xP zt204 12 25 [some (.ref 19), some (.int p1), none, none] [.ref 19] rfl rfl ?_
      refine z_xcV (vs := [.ref 19]) (r := []) (L2 := [some (.ref 19)]) zt204 13 rfl zo204 zzcV12_166 (Or.inl rfl) rfl X4 f19 rfl rfl rfl (Nat.le_of_ble_eq_true rfl) zzm203 (Nat.le_of_ble_eq_true rfl) rfl ?_
      refine z_xP zt203 0 1 [some (.ref 19)] [.ref 19] rfl rfl ?_
      refine z_xgI zt203 1 rfl zo203 zzf12_160 X4 f19 (by decide) (by decide) rfl (fun (x47 : Int32) h46 (h48 : (-2147483648) ≤ x47.toInt) (h49 : x47.toInt ≤ 2147483647) => ?_)
      refine z_xP zt203 2 6 [some (.ref 19)] [.int 6, .int x47] rfl rfl ?_
      refine z_xJ zt203 3 rfl rfl (fun (h50 : x47.toInt ≠ 6) => ?_) (fun (h50 : x47.toInt = 6) => ?_)
      · skip
        refine z_xP zt203 7 16 [some (.ref 19)] [.ref 19, .ref 19] rfl rfl ?_
        refine z_xgv zt203 8 rfl zo203 zzf12_160 X4 f19 (by decide) h46 ?_
        refine z_xP zt203 9 20 [some (.ref 19)] [.int 1, .int x47, .ref 19] rfl rfl ?_
        have h51 := z_b32 x47
        refine z_xI zt203 10 rfl rfl (P := fun _ => True) (fun (x52 : Int32) _ => ?_) trivial
        refine z_xpf zt203 11 rfl zo203 zzf12_160 X4 f19 (by decide) (by decide) ⟨Int32.le_toInt _, Int32.toInt_le _⟩ rfl (by decide) zw12_27 (fun M54 X55 e56 h57 => ?_)
        refine z_xP zt203 12 26 [some (.ref 19)] [.ref 19, .ref 19] rfl rfl ?_
        have h58 := (e56.f f19 (by decide) h6)
        refine z_xgv zt203 13 rfl zo203 zzf12_123 X55 f19 (by decide) h58 ?_
        refine z_xP zt203 14 30 [some (.ref 19)] [.int 1, .int x1, .ref 19] rfl rfl ?_
        refine z_xI zt203 15 rfl rfl (fun (x59 : Int32) (h60 : x59.toInt = x1.toInt + 1) => ?_) (z_pAdd rfl rfl (by omega) (by omega))
        refine z_xpf zt203 16 rfl zo203 zzf12_123 X55 f19 (by decide) (by decide) ⟨by omega, by omega⟩ rfl (by decide) zw12_24 (fun M61 X62 e63 h64 => ?_)
        refine z_xP zt203 17 35 [some (.ref 19)] [.int 1] rfl rfl ?_
        refine z_xrz zt203 18 rfl zzr203 (by decide) (by decide) ?_
        show z_ev (d + 6) 204 28 [some (.ref 19), some (.int p1), none, none] [.int 1] M61 _
        refine z_xZ zt204 14 rfl rfl (fun (h65 : (1 : Int) ≠ 0) => ?_) (fun (h65 : (1 : Int) = 0) => absurd h65 (by omega))
        refine z_xP zt204 17 37 [some (.ref 19), some (.int p1), some (.int 0), some (.int 1)] [] rfl rfl ?_
        have q0 : ((0 : Int32)).toInt = 0 := rfl
        have q1 : ((1 : Int32)).toInt = 1 := rfl
        exact (zB204 u1 hz0 bz0 hL ih198 ih199 ih200 ih201 ih202 ih204 hm hd kk 646) M61 (0) (1) x59 X62 (by decide) h64 ⟨by omega, by omega⟩ (by omega) (by omega)
      refine z_xP zt203 4 10 [some (.ref 19)] [.ref 19] rfl rfl ?_
      refine z_xcV (vs := [.ref 19]) (r := []) (L2 := [some (.ref 19)]) zt203 5 rfl zo203 zzcV12_163 (Or.inl rfl) rfl X4 f19 rfl rfl rfl (Nat.le_of_ble_eq_true rfl) zzm194 (Nat.le_of_ble_eq_true rfl) rfl ?_
      refine z_xP zt194 0 2 [some (.ref 19)] [.ref 19, .ref 19] rfl rfl ?_
      refine z_xgI zt194 1 rfl zo194 zzf12_136 X4 f19 (by decide) (by decide) rfl (fun (x67 : Int32) h66 (h68 : (-2147483648) ≤ x67.toInt) (h69 : x67.toInt ≤ 2147483647) => ?_)
      refine z_xZ zt194 2 rfl rfl (fun (h70 : 0 ≤ x67.toInt) => ?_) (fun (h70 : x67.toInt < 0) => ?_)
      · skip
        refine z_xP zt194 6 16 [some (.ref 19)] [.ref 19, .ref 19] rfl rfl ?_
        refine z_xgv zt194 7 rfl zo194 zzf12_136 X4 f19 (by decide) h66 ?_
        refine z_xpf zt194 8 rfl zo194 zzf12_136 X4 f19 (by decide) (by decide) ⟨Int32.le_toInt _, Int32.toInt_le _⟩ rfl (by decide) zw12_26 (fun M71 X72 e73 h74 => ?_)
        refine z_xP zt194 9 23 [some (.ref 19)] [.int 0] rfl rfl ?_
        refine z_xrz zt194 10 rfl zzr194 (by decide) (by decide) ?_
        show z_ev (d + 5) 203 13 [some (.ref 19)] [.int 0] M71 _
        refine z_xrz zt203 6 rfl zzr203 (by decide) (by decide) ?_
        show z_ev (d + 6) 204 28 [some (.ref 19), some (.int p1), none, none] [.int 0] M71 _
        refine z_xZ zt204 14 rfl rfl (fun (h75 : (0 : Int) ≠ 0) => absurd h75 (by omega)) (fun (h75 : (0 : Int) = 0) => ?_)
        refine z_xP zt204 15 32 [some (.ref 19), some (.int p1), none, none] [.int 0] rfl rfl ?_
        have h76 := (e73.f f19 (by decide) h6)
        have q0 : ((0 : Int32)).toInt = 0 := rfl
        exact z_xrz zt204 16 rfl zzr204 (by decide) (by decide) (kk 0 M71 X72 (by omega) (by omega) x1 h76 ⟨by omega, by omega⟩ (by omega))
      refine z_xP zt194 3 9 [some (.ref 19)] [.ref 19, .ref 19] rfl rfl ?_
      refine z_xgv zt194 4 rfl zo194 zzf12_123 X4 f19 (by decide) h6 ?_
      refine z_xP zt194 5 19 [some (.ref 19)] [.int x1, .ref 19] rfl rfl ?_
      refine z_xpf zt194 8 rfl zo194 zzf12_136 X4 f19 (by decide) (by decide) ⟨Int32.le_toInt _, Int32.toInt_le _⟩ rfl (by decide) zw12_26 (fun M77 X78 e79 h80 => ?_)
      refine z_xP zt194 9 23 [some (.ref 19)] [.int 0] rfl rfl ?_
      refine z_xrz zt194 10 rfl zzr194 (by decide) (by decide) ?_
      show z_ev (d + 5) 203 13 [some (.ref 19)] [.int 0] M77 _
      refine z_xrz zt203 6 rfl zzr203 (by decide) (by decide) ?_
      show z_ev (d + 6) 204 28 [some (.ref 19), some (.int p1), none, none] [.int 0] M77 _
      refine z_xZ zt204 14 rfl rfl (fun (h81 : (0 : Int) ≠ 0) => absurd h81 (by omega)) (fun (h81 : (0 : Int) = 0) => ?_)
      refine z_xP zt204 15 32 [some (.ref 19), some (.int p1), none, none] [.int 0] rfl rfl ?_
      have h82 := (e79.f f19 (by decide) h6)
      have q0 : ((0 : Int32)).toInt = 0 := rfl
      exact z_xrz zt204 16 rfl zzr204 (by decide) (by decide) (kk 0 M77 X78 (by omega) (by omega) x1 h82 ⟨by omega, by omega⟩ (by omega))
    refine z_xP zt204 9 20 [some (.ref 19), some (.int p1), none, none] [.ref 19] rfl rfl ?_
    refine z_xcV (vs := [.ref 19]) (r := []) (L2 := [some (.ref 19)]) zt204 10 rfl zo204 zzcV12_163 (Or.inl rfl) rfl X4 f19 rfl rfl rfl (Nat.le_of_ble_eq_true rfl) zzm194 (Nat.le_of_ble_eq_true rfl) rfl ?_
    refine z_xP zt194 0 2 [some (.ref 19)] [.ref 19, .ref 19] rfl rfl ?_
    refine z_xgI zt194 1 rfl zo194 zzf12_136 X4 f19 (by decide) (by decide) rfl (fun (x84 : Int32) h83 (h85 : (-2147483648) ≤ x84.toInt) (h86 : x84.toInt ≤ 2147483647) => ?_)
    refine z_xZ zt194 2 rfl rfl (fun (h87 : 0 ≤ x84.toInt) => ?_) (fun (h87 : x84.toInt < 0) => ?_)
    · skip
      refine z_xP zt194 6 16 [some (.ref 19)] [.ref 19, .ref 19] rfl rfl ?_
      refine z_xgv zt194 7 rfl zo194 zzf12_136 X4 f19 (by decide) h83 ?_
      refine z_xpf zt194 8 rfl zo194 zzf12_136 X4 f19 (by decide) (by decide) ⟨Int32.le_toInt _, Int32.toInt_le _⟩ rfl (by decide) zw12_26 (fun M88 X89 e90 h91 => ?_)
      refine z_xP zt194 9 23 [some (.ref 19)] [.int 0] rfl rfl ?_
      refine z_xrz zt194 10 rfl zzr194 (by decide) (by decide) ?_
      show z_ev (d + 6) 204 23 [some (.ref 19), some (.int p1), none, none] [.int 0] M88 _
      have h92 := (e90.f f19 (by decide) h6)
      have q0 : ((0 : Int32)).toInt = 0 := rfl
      exact z_xrz zt204 11 rfl zzr204 (by decide) (by decide) (kk 0 M88 X89 (by omega) (by omega) x1 h92 ⟨by omega, by omega⟩ (by omega))
    refine z_xP zt194 3 9 [some (.ref 19)] [.ref 19, .ref 19] rfl rfl ?_
    refine z_xgv zt194 4 rfl zo194 zzf12_123 X4 f19 (by decide) h6 ?_
    refine z_xP zt194 5 19 [some (.ref 19)] [.int x1, .ref 19] rfl rfl ?_
    refine z_xpf zt194 8 rfl zo194 zzf12_136 X4 f19 (by decide) (by decide) ⟨Int32.le_toInt _, Int32.toInt_le _⟩ rfl (by decide) zw12_26 (fun M93 X94 e95 h96 => ?_)
    refine z_xP zt194 9 23 [some (.ref 19)] [.int 0] rfl rfl ?_
    refine z_xrz zt194 10 rfl zzr194 (by decide) (by decide) ?_
    show z_ev (d + 6) 204 23 [some (.ref 19), some (.int p1), none, none] [.int 0] M93 _
    have h97 := (e95.f f19 (by decide) h6)
    have q0 : ((0 : Int32)).toInt = 0 := rfl
    exact z_xrz zt204 11 rfl zzr204 (by decide) (by decide) (kk 0 M93 X94 (by omega) (by omega) x1 h97 ⟨by omega, by omega⟩ (by omega))
  refine z_xP zt193 8 19 [some (.ref 19)] [.ref 19] rfl rfl ?_
  refine z_xgX (b := 20) zt193 9 rfl zo193 zzf12_9 X4 f19 (by decide) (by decide) rfl ?_
  refine z_xP zt193 10 23 [some (.ref 19)] [.ref 19, .ref 20] rfl rfl ?_
  refine z_xgv zt193 11 rfl zo193 zzf12_123 X4 f19 (by decide) h6 ?_
  have f20 : T[20]? = some (.inr (20, 0, 160, (-2147483648), 2147483647)) := X4.1.k rfl (by decide)
  refine z_xil zt193 12 rfl X4 f20 (by decide) (by omega) (by omega) (fun (x98 : Int32) h99 (h100 : (-2147483648) ≤ x98.toInt) (h101 : x98.toInt ≤ 2147483647) => ?_)
  refine z_xP zt193 13 52 [some (.ref 19)] [.int x98] rfl rfl ?_
  refine z_xri zt193 25 rfl zzr193 ?_
  show z_ev (d + 6) 204 14 [some (.ref 19), some (.int p1), none, none] [.int x98] M3 _
  refine z_xP zt204 7 16 [some (.ref 19), some (.int p1), none, none] [.int 123, .int x98] rfl rfl ?_
  refine z_xJ zt204 8 rfl rfl (fun (h102 : x98.toInt = 123) => ?_) (fun (h102 : x98.toInt ≠ 123) => ?_)
  · skip
    refine z_xP zt204 12 25 [some (.ref 19), some (.int p1), none, none] [.ref 19] rfl rfl ?_
    refine z_xcV (vs := [.ref 19]) (r := []) (L2 := [some (.ref 19)]) zt204 13 rfl zo204 zzcV12_166 (Or.inl rfl) rfl X4 f19 rfl rfl rfl (Nat.le_of_ble_eq_true rfl) zzm203 (Nat.le_of_ble_eq_true rfl) rfl ?_
    refine z_xP zt203 0 1 [some (.ref 19)] [.ref 19] rfl rfl ?_
    refine z_xgI zt203 1 rfl zo203 zzf12_160 X4 f19 (by decide) (by decide) rfl (fun (x104 : Int32) h103 (h105 : (-2147483648) ≤ x104.toInt) (h106 : x104.toInt ≤ 2147483647) => ?_)
    refine z_xP zt203 2 6 [some (.ref 19)] [.int 6, .int x104] rfl rfl ?_
    refine z_xJ zt203 3 rfl rfl (fun (h107 : x104.toInt ≠ 6) => ?_) (fun (h107 : x104.toInt = 6) => ?_)
    · skip
      refine z_xP zt203 7 16 [some (.ref 19)] [.ref 19, .ref 19] rfl rfl ?_
      refine z_xgv zt203 8 rfl zo203 zzf12_160 X4 f19 (by decide) h103 ?_
      refine z_xP zt203 9 20 [some (.ref 19)] [.int 1, .int x104, .ref 19] rfl rfl ?_
      have h108 := z_b32 x104
      refine z_xI zt203 10 rfl rfl (P := fun _ => True) (fun (x109 : Int32) _ => ?_) trivial
      refine z_xpf zt203 11 rfl zo203 zzf12_160 X4 f19 (by decide) (by decide) ⟨Int32.le_toInt _, Int32.toInt_le _⟩ rfl (by decide) zw12_27 (fun M111 X112 e113 h114 => ?_)
      refine z_xP zt203 12 26 [some (.ref 19)] [.ref 19, .ref 19] rfl rfl ?_
      have h115 := (e113.f f19 (by decide) h6)
      refine z_xgv zt203 13 rfl zo203 zzf12_123 X112 f19 (by decide) h115 ?_
      refine z_xP zt203 14 30 [some (.ref 19)] [.int 1, .int x1, .ref 19] rfl rfl ?_
      refine z_xI zt203 15 rfl rfl (fun (x116 : Int32) (h117 : x116.toInt = x1.toInt + 1) => ?_) (z_pAdd rfl rfl (by omega) (by omega))
      refine z_xpf zt203 16 rfl zo203 zzf12_123 X112 f19 (by decide) (by decide) ⟨by omega, by omega⟩ rfl (by decide) zw12_24 (fun M118 X119 e120 h121 => ?_)
      refine z_xP zt203 17 35 [some (.ref 19)] [.int 1] rfl rfl ?_
      refine z_xrz zt203 18 rfl zzr203 (by decide) (by decide) ?_
      show z_ev (d + 6) 204 28 [some (.ref 19), some (.int p1), none, none] [.int 1] M118 _
      refine z_xZ zt204 14 rfl rfl (fun (h122 : (1 : Int) ≠ 0) => ?_) (fun (h122 : (1 : Int) = 0) => absurd h122 (by omega))
      refine z_xP zt204 17 37 [some (.ref 19), some (.int p1), some (.int 0), some (.int 1)] [] rfl rfl ?_
      have q0 : ((0 : Int32)).toInt = 0 := rfl
      have q1 : ((1 : Int32)).toInt = 1 := rfl
      exact (zB204 u1 hz0 bz0 hL ih198 ih199 ih200 ih201 ih202 ih204 hm hd kk 646) M118 (0) (1) x116 X119 (by decide) h121 ⟨by omega, by omega⟩ (by omega) (by omega)
    refine z_xP zt203 4 10 [some (.ref 19)] [.ref 19] rfl rfl ?_
    refine z_xcV (vs := [.ref 19]) (r := []) (L2 := [some (.ref 19)]) zt203 5 rfl zo203 zzcV12_163 (Or.inl rfl) rfl X4 f19 rfl rfl rfl (Nat.le_of_ble_eq_true rfl) zzm194 (Nat.le_of_ble_eq_true rfl) rfl ?_
    refine z_xP zt194 0 2 [some (.ref 19)] [.ref 19, .ref 19] rfl rfl ?_
    refine z_xgI zt194 1 rfl zo194 zzf12_136 X4 f19 (by decide) (by decide) rfl (fun (x124 : Int32) h123 (h125 : (-2147483648) ≤ x124.toInt) (h126 : x124.toInt ≤ 2147483647) => ?_)
    refine z_xZ zt194 2 rfl rfl (fun (h127 : 0 ≤ x124.toInt) => ?_) (fun (h127 : x124.toInt < 0) => ?_)
    · skip
      refine z_xP zt194 6 16 [some (.ref 19)] [.ref 19, .ref 19] rfl rfl ?_
      refine z_xgv zt194 7 rfl zo194 zzf12_136 X4 f19 (by decide) h123 ?_
      refine z_xpf zt194 8 rfl zo194 zzf12_136 X4 f19 (by decide) (by decide) ⟨Int32.le_toInt _, Int32.toInt_le _⟩ rfl (by decide) zw12_26 (fun M128 X129 e130 h131 => ?_)
      refine z_xP zt194 9 23 [some (.ref 19)] [.int 0] rfl rfl ?_
      refine z_xrz zt194 10 rfl zzr194 (by decide) (by decide) ?_
      show z_ev (d + 5) 203 13 [some (.ref 19)] [.int 0] M128 _
      refine z_xrz zt203 6 rfl zzr203 (by decide) (by decide) ?_
      show z_ev (d + 6) 204 28 [some (.ref 19), some (.int p1), none, none] [.int 0] M128 _
      refine z_xZ zt204 14 rfl rfl (fun (h132 : (0 : Int) ≠ 0) => absurd h132 (by omega)) (fun (h132 : (0 : Int) = 0) => ?_)
      refine z_xP zt204 15 32 [some (.ref 19), some (.int p1), none, none] [.int 0] rfl rfl ?_
      have h133 := (e130.f f19 (by decide) h6)
      have q0 : ((0 : Int32)).toInt = 0 := rfl
      exact z_xrz zt204 16 rfl zzr204 (by decide) (by decide) (kk 0 M128 X129 (by omega) (by omega) x1 h133 ⟨by omega, by omega⟩ (by omega))
    refine z_xP zt194 3 9 [some (.ref 19)] [.ref 19, .ref 19] rfl rfl ?_
    refine z_xgv zt194 4 rfl zo194 zzf12_123 X4 f19 (by decide) h6 ?_
    refine z_xP zt194 5 19 [some (.ref 19)] [.int x1, .ref 19] rfl rfl ?_
    refine z_xpf zt194 8 rfl zo194 zzf12_136 X4 f19 (by decide) (by decide) ⟨Int32.le_toInt _, Int32.toInt_le _⟩ rfl (by decide) zw12_26 (fun M134 X135 e136 h137 => ?_)
    refine z_xP zt194 9 23 [some (.ref 19)] [.int 0] rfl rfl ?_
    refine z_xrz zt194 10 rfl zzr194 (by decide) (by decide) ?_
    show z_ev (d + 5) 203 13 [some (.ref 19)] [.int 0] M134 _
    refine z_xrz zt203 6 rfl zzr203 (by decide) (by decide) ?_
    show z_ev (d + 6) 204 28 [some (.ref 19), some (.int p1), none, none] [.int 0] M134 _
    refine z_xZ zt204 14 rfl rfl (fun (h138 : (0 : Int) ≠ 0) => absurd h138 (by omega)) (fun (h138 : (0 : Int) = 0) => ?_)
    refine z_xP zt204 15 32 [some (.ref 19), some (.int p1), none, none] [.int 0] rfl rfl ?_
    have h139 := (e136.f f19 (by decide) h6)
    have q0 : ((0 : Int32)).toInt = 0 := rfl
    exact z_xrz zt204 16 rfl zzr204 (by decide) (by decide) (kk 0 M134 X135 (by omega) (by omega) x1 h139 ⟨by omega, by omega⟩ (by omega))
  refine z_xP zt204 9 20 [some (.ref 19), some (.int p1), none, none] [.ref 19] rfl rfl ?_
  refine z_xcV (vs := [.ref 19]) (r := []) (L2 := [some (.ref 19)]) zt204 10 rfl zo204 zzcV12_163 (Or.inl rfl) rfl X4 f19 rfl rfl rfl (Nat.le_of_ble_eq_true rfl) zzm194 (Nat.le_of_ble_eq_true rfl) rfl ?_
  refine z_xP zt194 0 2 [some (.ref 19)] [.ref 19, .ref 19] rfl rfl ?_
  refine z_xgI zt194 1 rfl zo194 zzf12_136 X4 f19 (by decide) (by decide) rfl (fun (x141 : Int32) h140 (h142 : (-2147483648) ≤ x141.toInt) (h143 : x141.toInt ≤ 2147483647) => ?_)
  refine z_xZ zt194 2 rfl rfl (fun (h144 : 0 ≤ x141.toInt) => ?_) (fun (h144 : x141.toInt < 0) => ?_)
  · skip
    refine z_xP zt194 6 16 [some (.ref 19)] [.ref 19, .ref 19] rfl rfl ?_
    refine z_xgv zt194 7 rfl zo194 zzf12_136 X4 f19 (by decide) h140 ?_
    refine z_xpf zt194 8 rfl zo194 zzf12_136 X4 f19 (by decide) (by decide) ⟨Int32.le_toInt _, Int32.toInt_le _⟩ rfl (by decide) zw12_26 (fun M145 X146 e147 h148 => ?_)
    refine z_xP zt194 9 23 [some (.ref 19)] [.int 0] rfl rfl ?_
    refine z_xrz zt194 10 rfl zzr194 (by decide) (by decide) ?_
    show z_ev (d + 6) 204 23 [some (.ref 19), some (.int p1), none, none] [.int 0] M145 _
    have h149 := (e147.f f19 (by decide) h6)
    have q0 : ((0 : Int32)).toInt = 0 := rfl
    exact z_xrz zt204 11 rfl zzr204 (by decide) (by decide) (kk 0 M145 X146 (by omega) (by omega) x1 h149 ⟨by omega, by omega⟩ (by omega))
  refine z_xP zt194 3 9 [some (.ref 19)] [.ref 19, .ref 19] rfl rfl ?_
  refine z_xgv zt194 4 rfl zo194 zzf12_123 X4 f19 (by decide) h6 ?_
  refine z_xP zt194 5 19 [some (.ref 19)] [.int x1, .ref 19] rfl rfl ?_
  refine z_xpf zt194 8 rfl zo194 zzf12_136 X4 f19 (by decide) (by decide) ⟨Int32.le_toInt _, Int32.toInt_le _⟩ rfl (by decide) zw12_26 (fun M150 X151 e152 h153 => ?_)
  refine z_xP zt194 9 23 [some (.ref 19)] [.int 0] rfl rfl ?_
  refine z_xrz zt194 10 rfl zzr194 (by decide) (by decide) ?_
  show z_ev (d + 6) 204 23 [some (.ref 19), some (.int p1), none, none] [.int 0] M150 _
  have h154 := (e152.f f19 (by decide) h6)
  have q0 : ((0 : Int32)).toInt = 0 := rfl
  exact z_xrz zt204 11 rfl zzr204 (by decide) (by decide) (kk 0 M150 X151 (by omega) (by omega) x1 h154 ⟨by omega, by omega⟩ (by omega))
theorem zR198 {T : List zK} : ∀ N : Nat, zQ198 T N ∧ zQ199 T N ∧ zQ200 T N ∧ zQ201 T N ∧ zQ202 T N ∧ zQ204 T N := by
  intro N
  induction N with
  | zero => exact ⟨(by unfold zQ198; intros; exfalso; omega), (by unfold zQ199; intros; exfalso; omega), (by unfold zQ200; intros; exfalso; omega), (by unfold zQ201; intros; exfalso; omega), (by unfold zQ202; intros; exfalso; omega), (by unfold zQ204; intros; exfalso; omega)⟩
  | succ N ih =>
    refine ⟨?_, ?_, ?_, ?_, ?_, ?_⟩
    · skip
      intro d K zp0 M0 hW hz0 bz0 hL hm hd kk
      exact zC198r hW hz0 bz0 hL ih.1 ih.2.1 ih.2.2.1 ih.2.2.2.1 ih.2.2.2.2.1 ih.2.2.2.2.2 (by omega) hd kk
    · skip
      intro d K zp0 M0 hW hz0 bz0 hL hm hd kk
      exact zC199r hW hz0 bz0 hL ih.1 ih.2.1 ih.2.2.1 ih.2.2.2.1 ih.2.2.2.2.1 ih.2.2.2.2.2 (by omega) hd kk
    · skip
      intro d K zp0 M0 hW hz0 bz0 hL hm hd kk
      exact zC200r hW hz0 bz0 hL ih.1 ih.2.1 ih.2.2.1 ih.2.2.2.1 ih.2.2.2.2.1 ih.2.2.2.2.2 (by omega) hd kk
    · skip
      intro d K zp0 M0 hW hz0 bz0 hL hm hd kk
      exact zC201r hW hz0 bz0 hL ih.1 ih.2.1 ih.2.2.1 ih.2.2.2.1 ih.2.2.2.2.1 ih.2.2.2.2.2 (by omega) hd kk
    · skip
      intro d K zp0 M0 hW hz0 bz0 hL hm hd kk
      exact zC202r hW hz0 bz0 hL ih.1 ih.2.1 ih.2.2.1 ih.2.2.2.1 ih.2.2.2.2.1 ih.2.2.2.2.2 (by omega) hd kk
    · skip
      intro d K p1 zp0 M0 hW u1 hz0 bz0 hL hm hd kk
      exact zC204r hW u1 hz0 bz0 hL ih.1 ih.2.1 ih.2.2.1 ih.2.2.2.1 ih.2.2.2.2.1 ih.2.2.2.2.2 (by omega) hd kk
theorem zC198 {T : List zK} {d : Nat} {K : Option Value → zH → Prop} {zp0 : Int32} {M0 : zH} (hW : z_W M0 T) (hz0 : z_F M0 19 24 = some (.int zp0)) (bz0 : 0 ≤ zp0.toInt ∧ zp0.toInt ≤ 160) (hL : z_GL M0) (kk : ∀ (x : Int32) (M1 : zH), z_X T zw198 M0 M1 → 0 ≤ x.toInt → x.toInt ≤ 1 → ∀ (w0 : Int32), z_F M1 19 24 = some (.int w0) → 0 ≤ w0.toInt ∧ w0.toInt ≤ 160 → zp0.toInt ≤ w0.toInt → K (some (.int x)) M1) : z_ev (d + 971) 198 0 [some (.ref 19), none, none] [] M0 K := by
  exact (zR198 966).1 (d := d + 965) (K := K) hW hz0 bz0 hL (by omega) (by omega) kk
def zw196 : List Nat := [25, 26, 27, 28, 2224, 2226, 2227]
theorem zC196 {T : List zK} {d : Nat} {K : Option Value → zH → Prop} {zp0 : Int32} {M0 : zH} (hW : z_W M0 T) (hz0 : z_F M0 19 24 = some (.int zp0)) (bz0 : 0 ≤ zp0.toInt ∧ zp0.toInt ≤ 160) (hL : z_GL M0) (kk : ∀ (M1 : zH), z_X T zw196 M0 M1 → ∀ (w0 : Int32), z_F M1 19 24 = some (.int w0) → 0 ≤ w0.toInt ∧ w0.toInt ≤ 160 → zp0.toInt ≤ w0.toInt → K none M1) : z_ev (d + 972) 196 0 [some (.ref 19), none, none, none] [] M0 K := by
  have X : z_X T zw196 M0 M0 := .refl hW
  refine z_xP zt196 0 1 [some (.ref 19), none, none, none] [.ref 19] rfl rfl ?_
  have f19 : T[19]? = some (.inl (12, 0, 0, 0, 0)) := X.1.k rfl (by decide)
  refine z_xcV (vs := [.ref 19]) (r := []) (L2 := [some (.ref 19)]) zt196 1 rfl zo196 zzcV12_139 (Or.inl rfl) rfl X f19 rfl rfl rfl (Nat.le_of_ble_eq_true rfl) zzm193 (Nat.le_of_ble_eq_true rfl) rfl ?_
  refine z_xP zt193 0 1 [some (.ref 19)] [.ref 19] rfl rfl ?_
  refine z_xgv zt193 1 rfl zo193 zzf12_123 X f19 (by decide) hz0 ?_
  refine z_xP zt193 2 5 [some (.ref 19)] [.ref 19, .int zp0] rfl rfl ?_
  refine z_xgI zt193 3 rfl zo193 zzf12_126 X f19 (by decide) (by decide) rfl (fun (x2 : Int32) h1 (h3 : 0 ≤ x2.toInt) (h4 : x2.toInt ≤ 160) => ?_)
  refine z_xJ zt193 4 rfl rfl (fun (h5 : x2.toInt ≤ zp0.toInt) => ?_) (fun (h5 : zp0.toInt < x2.toInt) => ?_)
  · skip
    refine z_xP zt193 24 52 [some (.ref 19)] [.int 0] rfl rfl ?_
    refine z_xri zt193 25 rfl zzr193 ?_
    show z_ev (d + 972) 196 4 [some (.ref 19), none, none, none] [.int 0] M0 _
    refine z_xP zt196 2 8 [some (.ref 19), some (.int 0), none, none] [.int 112, .int 0] rfl rfl ?_
    refine z_xJ zt196 3 rfl rfl (fun (h6 : (0 : Int) ≠ 112) => ?_) (fun (h6 : (0 : Int) = 112) => absurd h6 (by omega))
    refine z_xP zt196 10 26 [some (.ref 19), some (.int 0), none, none] [.int 101, .int 0] rfl rfl ?_
    refine z_xJ zt196 11 rfl rfl (fun (h7 : (0 : Int) ≠ 101) => ?_) (fun (h7 : (0 : Int) = 101) => absurd h7 (by omega))
    refine z_xP zt196 18 44 [some (.ref 19), some (.int 0), none, none] [.int 116, .int 0] rfl rfl ?_
    refine z_xJ zt196 19 rfl rfl (fun (h8 : (0 : Int) ≠ 116) => ?_) (fun (h8 : (0 : Int) = 116) => absurd h8 (by omega))
    refine z_xP zt196 28 66 [some (.ref 19), some (.int 0), none, none] [.int 0] rfl rfl ?_
    refine z_xP zt196 29 70 [some (.ref 19), some (.int 0), some (.int 0), none] [.int 112, .int 0] rfl rfl ?_
    refine z_xJ zt196 30 rfl rfl (fun (h9 : (0 : Int) = 112) => absurd h9 (by omega)) (fun (h9 : (0 : Int) ≠ 112) => ?_)
    refine z_xP zt196 31 76 [some (.ref 19), some (.int 0), some (.int 0), none] [.int 101, .int 0] rfl rfl ?_
    refine z_xJ zt196 32 rfl rfl (fun (h10 : (0 : Int) = 101) => absurd h10 (by omega)) (fun (h10 : (0 : Int) ≠ 101) => ?_)
    refine z_xP zt196 33 82 [some (.ref 19), some (.int 0), some (.int 0), none] [.int 116, .int 0] rfl rfl ?_
    refine z_xJ zt196 34 rfl rfl (fun (h11 : (0 : Int) ≠ 116) => ?_) (fun (h11 : (0 : Int) = 116) => absurd h11 (by omega))
    refine z_xP zt196 37 90 [some (.ref 19), some (.int 0), some (.int 0), none] [.ref 19] rfl rfl ?_
    refine z_xcV (vs := [.ref 19]) (r := []) (L2 := [some (.ref 19)]) zt196 38 rfl zo196 zzcV12_163 (Or.inl rfl) rfl X f19 rfl rfl rfl (Nat.le_of_ble_eq_true rfl) zzm194 (Nat.le_of_ble_eq_true rfl) rfl ?_
    refine z_xP zt194 0 2 [some (.ref 19)] [.ref 19, .ref 19] rfl rfl ?_
    refine z_xgI zt194 1 rfl zo194 zzf12_136 X f19 (by decide) (by decide) rfl (fun (x13 : Int32) h12 (h14 : (-2147483648) ≤ x13.toInt) (h15 : x13.toInt ≤ 2147483647) => ?_)
    refine z_xZ zt194 2 rfl rfl (fun (h16 : 0 ≤ x13.toInt) => ?_) (fun (h16 : x13.toInt < 0) => ?_)
    · skip
      refine z_xP zt194 6 16 [some (.ref 19)] [.ref 19, .ref 19] rfl rfl ?_
      refine z_xgv zt194 7 rfl zo194 zzf12_136 X f19 (by decide) h12 ?_
      refine z_xpf zt194 8 rfl zo194 zzf12_136 X f19 (by decide) (by decide) ⟨Int32.le_toInt _, Int32.toInt_le _⟩ rfl (by decide) zw12_26 (fun M17 X18 e19 h20 => ?_)
      refine z_xP zt194 9 23 [some (.ref 19)] [.int 0] rfl rfl ?_
      refine z_xrz zt194 10 rfl zzr194 (by decide) (by decide) ?_
      show z_ev (d + 972) 196 93 [some (.ref 19), some (.int 0), some (.int 0), none] [.int 0] M17 _
      refine z_xP zt196 39 94 [some (.ref 19), some (.int 0), some (.int 0), some (.int 0)] [] rfl rfl ?_
      have h21 := (e19.f f19 (by decide) hz0)
      exact z_xrv zt196 40 rfl zzr196 (kk M17 X18 zp0 h21 ⟨by omega, by omega⟩ (by omega))
    refine z_xP zt194 3 9 [some (.ref 19)] [.ref 19, .ref 19] rfl rfl ?_
    refine z_xgv zt194 4 rfl zo194 zzf12_123 X f19 (by decide) hz0 ?_
    refine z_xP zt194 5 19 [some (.ref 19)] [.int zp0, .ref 19] rfl rfl ?_
    refine z_xpf zt194 8 rfl zo194 zzf12_136 X f19 (by decide) (by decide) ⟨Int32.le_toInt _, Int32.toInt_le _⟩ rfl (by decide) zw12_26 (fun M22 X23 e24 h25 => ?_)
    refine z_xP zt194 9 23 [some (.ref 19)] [.int 0] rfl rfl ?_
    refine z_xrz zt194 10 rfl zzr194 (by decide) (by decide) ?_
    show z_ev (d + 972) 196 93 [some (.ref 19), some (.int 0), some (.int 0), none] [.int 0] M22 _
    refine z_xP zt196 39 94 [some (.ref 19), some (.int 0), some (.int 0), some (.int 0)] [] rfl rfl ?_
    have h26 := (e24.f f19 (by decide) hz0)
    exact z_xrv zt196 40 rfl zzr196 (kk M22 X23 zp0 h26 ⟨by omega, by omega⟩ (by omega))
  refine z_xP zt193 5 12 [some (.ref 19)] [.ref 19] rfl rfl ?_
  refine z_xgI zt193 6 rfl zo193 zzf12_129 X f19 (by decide) (by decide) rfl (fun (x28 : Int32) h27 (h29 : 0 ≤ x28.toInt) (h30 : x28.toInt ≤ 1) => ?_)
  refine z_xZ zt193 7 rfl rfl (fun (h31 : x28.toInt = 0) => ?_) (fun (h31 : x28.toInt ≠ 0) => ?_)
  · skip
    refine z_xP zt193 14 31 [some (.ref 19)] [.ref 19] rfl rfl ?_
    refine z_xgX (b := 21) zt193 15 rfl zo193 zzf12_13 X f19 (by decide) (by decide) rfl ?_
    refine z_xP zt193 16 38 [some (.ref 19)] [.ref 19, .int 160, .ref 21] rfl rfl ?_
    refine z_xgI zt193 17 rfl zo193 zzf12_133 X f19 (by decide) (by decide) rfl (fun (x33 : Int32) h32 (h34 : 0 ≤ x33.toInt) (h35 : x33.toInt ≤ 7) => ?_)
    refine z_xI zt193 18 rfl rfl (fun (x36 : Int32) (h37 : x36.toInt = 160 * x33.toInt) => ?_) (z_pMul rfl rfl (by omega) (by omega))
    refine z_xP zt193 19 43 [some (.ref 19)] [.ref 19, .int x36, .ref 21] rfl rfl ?_
    refine z_xgv zt193 20 rfl zo193 zzf12_123 X f19 (by decide) hz0 ?_
    refine z_xI zt193 21 rfl rfl (fun (x38 : Int32) (h39 : x38.toInt = x36.toInt + zp0.toInt) => ?_) (z_pAdd rfl rfl (by omega) (by omega))
    have f21 : T[21]? = some (.inr (21, 0, 1280, (-2147483648), 2147483647)) := X.1.k rfl (by decide)
    refine z_xil zt193 22 rfl X f21 (by decide) (by omega) (by omega) (fun (x40 : Int32) h41 (h42 : (-2147483648) ≤ x40.toInt) (h43 : x40.toInt ≤ 2147483647) => ?_)
    refine z_xP zt193 23 52 [some (.ref 19)] [.int x40] rfl rfl ?_
    refine z_xri zt193 25 rfl zzr193 ?_
    show z_ev (d + 972) 196 4 [some (.ref 19), none, none, none] [.int x40] M0 _
    refine z_xP zt196 2 8 [some (.ref 19), some (.int x40), none, none] [.int 112, .int x40] rfl rfl ?_
    refine z_xJ zt196 3 rfl rfl (fun (h44 : x40.toInt ≠ 112) => ?_) (fun (h44 : x40.toInt = 112) => ?_)
    · skip
      refine z_xP zt196 10 26 [some (.ref 19), some (.int x40), none, none] [.int 101, .int x40] rfl rfl ?_
      refine z_xJ zt196 11 rfl rfl (fun (h45 : x40.toInt ≠ 101) => ?_) (fun (h45 : x40.toInt = 101) => ?_)
      · skip
        refine z_xP zt196 18 44 [some (.ref 19), some (.int x40), none, none] [.int 116, .int x40] rfl rfl ?_
        refine z_xJ zt196 19 rfl rfl (fun (h46 : x40.toInt ≠ 116) => ?_) (fun (h46 : x40.toInt = 116) => ?_)
        · skip
          refine z_xP zt196 28 66 [some (.ref 19), some (.int x40), none, none] [.int 0] rfl rfl ?_
          refine z_xP zt196 29 70 [some (.ref 19), some (.int x40), some (.int 0), none] [.int 112, .int x40] rfl rfl ?_
          refine z_xJ zt196 30 rfl rfl (fun (h47 : x40.toInt = 112) => ?_) (fun (h47 : x40.toInt ≠ 112) => ?_)
          · skip
            refine z_xP zt196 35 86 [some (.ref 19), some (.int x40), some (.int 0), none] [.int 0] rfl rfl ?_
            refine z_xZ zt196 36 rfl rfl (fun (h48 : (0 : Int) = 0) => ?_) (fun (h48 : (0 : Int) ≠ 0) => absurd h48 (by omega))
            refine z_xP zt196 41 97 [some (.ref 19), some (.int x40), some (.int 0), none] [.ref 19, .ref 19] rfl rfl ?_
            refine z_xgv zt196 42 rfl zo196 zzf12_123 X f19 (by decide) hz0 ?_
            refine z_xP zt196 43 101 [some (.ref 19), some (.int x40), some (.int 0), none] [.int 1, .int zp0, .ref 19] rfl rfl ?_
            refine z_xI zt196 44 rfl rfl (fun (x49 : Int32) (h50 : x49.toInt = zp0.toInt + 1) => ?_) (z_pAdd rfl rfl (by omega) (by omega))
            refine z_xpf zt196 45 rfl zo196 zzf12_123 X f19 (by decide) (by decide) ⟨by omega, by omega⟩ rfl (by decide) zw12_24 (fun M51 X52 e53 h54 => ?_)
            refine z_xP zt196 46 108 [some (.ref 19), some (.int x40), some (.int 0), none] [.int 32, .ref 19] rfl rfl ?_
            refine z_xcV (vs := [.ref 19, .int 32]) (r := []) (L2 := [some (.ref 19), some (.int 32)]) zt196 47 rfl zo196 zzcV12_147 (Or.inl rfl) rfl X52 f19 rfl rfl rfl (Nat.le_of_ble_eq_true rfl) zzm192 (Nat.le_of_ble_eq_true rfl) rfl ?_
            refine z_xP zt192 0 1 [some (.ref 19), some (.int 32)] [.ref 19] rfl rfl ?_
            refine z_xgI zt192 1 rfl zo192 zzf12_136 X52 f19 (by decide) (by decide) rfl (fun (x56 : Int32) h55 (h57 : (-2147483648) ≤ x56.toInt) (h58 : x56.toInt ≤ 2147483647) => ?_)
            refine z_xZ zt192 2 rfl rfl (fun (h59 : 0 ≤ x56.toInt) => ?_) (fun (h59 : x56.toInt < 0) => ?_)
            · skip
              refine z_xP zt192 7 16 [some (.ref 19), some (.int 32)] [.int 0] rfl rfl ?_
              refine z_xrz zt192 8 rfl zzr192 (by decide) (by decide) ?_
              show z_ev (d + 972) 196 111 [some (.ref 19), some (.int x40), some (.int 0), none] [.int 0] M51 _
              refine z_xZ zt196 48 rfl rfl (fun (h60 : (0 : Int) ≠ 0) => absurd h60 (by omega)) (fun (h60 : (0 : Int) = 0) => ?_)
              refine z_xP zt196 49 115 [some (.ref 19), some (.int x40), some (.int 0), none] [.ref 19] rfl rfl ?_
              refine z_xcV (vs := [.ref 19]) (r := []) (L2 := [some (.ref 19)]) zt196 50 rfl zo196 zzcV12_163 (Or.inl rfl) rfl X52 f19 rfl rfl rfl (Nat.le_of_ble_eq_true rfl) zzm194 (Nat.le_of_ble_eq_true rfl) rfl ?_
              refine z_xP zt194 0 2 [some (.ref 19)] [.ref 19, .ref 19] rfl rfl ?_
              refine z_xgv zt194 1 rfl zo194 zzf12_136 X52 f19 (by decide) h55 ?_
              refine z_xZ zt194 2 rfl rfl (fun (h61 : 0 ≤ x56.toInt) => ?_) (fun (h61 : x56.toInt < 0) => absurd h61 (by omega))
              refine z_xP zt194 6 16 [some (.ref 19)] [.ref 19, .ref 19] rfl rfl ?_
              refine z_xgv zt194 7 rfl zo194 zzf12_136 X52 f19 (by decide) h55 ?_
              refine z_xpf zt194 8 rfl zo194 zzf12_136 X52 f19 (by decide) (by decide) ⟨Int32.le_toInt _, Int32.toInt_le _⟩ rfl (by decide) zw12_26 (fun M62 X63 e64 h65 => ?_)
              refine z_xP zt194 9 23 [some (.ref 19)] [.int 0] rfl rfl ?_
              refine z_xrz zt194 10 rfl zzr194 (by decide) (by decide) ?_
              show z_ev (d + 972) 196 118 [some (.ref 19), some (.int x40), some (.int 0), none] [.int 0] M62 _
              refine z_xP zt196 51 119 [some (.ref 19), some (.int x40), some (.int 0), some (.int 0)] [] rfl rfl ?_
              have h66 := (e64.f f19 (by decide) h54)
              exact z_xrv zt196 52 rfl zzr196 (kk M62 X63 x49 h66 ⟨by omega, by omega⟩ (by omega))
            refine z_xP zt192 3 8 [some (.ref 19), some (.int 32)] [.ref 19] rfl rfl ?_
            refine z_xcV (vs := [.ref 19]) (r := []) (L2 := [some (.ref 19)]) zt192 4 rfl zo192 zzcV12_139 (Or.inl rfl) rfl X52 f19 rfl rfl rfl (Nat.le_of_ble_eq_true rfl) zzm193 (Nat.le_of_ble_eq_true rfl) rfl ?_
            refine z_xP zt193 0 1 [some (.ref 19)] [.ref 19] rfl rfl ?_
            refine z_xgv zt193 1 rfl zo193 zzf12_123 X52 f19 (by decide) h54 ?_
            refine z_xP zt193 2 5 [some (.ref 19)] [.ref 19, .int x49] rfl rfl ?_
            have h67 := (e53.f f19 (by decide) h1)
            refine z_xgv zt193 3 rfl zo193 zzf12_126 X52 f19 (by decide) h67 ?_
            refine z_xJ zt193 4 rfl rfl (fun (h68 : x2.toInt ≤ x49.toInt) => ?_) (fun (h68 : x49.toInt < x2.toInt) => ?_)
            · skip
              refine z_xP zt193 24 52 [some (.ref 19)] [.int 0] rfl rfl ?_
              refine z_xri zt193 25 rfl zzr193 ?_
              show z_ev (d + 971) 192 11 [some (.ref 19), some (.int 32)] [.int 0] M51 _
              refine z_xP zt192 5 12 [some (.ref 19), some (.int 32)] [.int 32, .int 0] rfl rfl ?_
              refine z_xJ zt192 6 rfl rfl (fun (h69 : (0 : Int) = 32) => absurd h69 (by omega)) (fun (h69 : (0 : Int) ≠ 32) => ?_)
              refine z_xP zt192 7 16 [some (.ref 19), some (.int 32)] [.int 0] rfl rfl ?_
              refine z_xrz zt192 8 rfl zzr192 (by decide) (by decide) ?_
              show z_ev (d + 972) 196 111 [some (.ref 19), some (.int x40), some (.int 0), none] [.int 0] M51 _
              refine z_xZ zt196 48 rfl rfl (fun (h70 : (0 : Int) ≠ 0) => absurd h70 (by omega)) (fun (h70 : (0 : Int) = 0) => ?_)
              refine z_xP zt196 49 115 [some (.ref 19), some (.int x40), some (.int 0), none] [.ref 19] rfl rfl ?_
              refine z_xcV (vs := [.ref 19]) (r := []) (L2 := [some (.ref 19)]) zt196 50 rfl zo196 zzcV12_163 (Or.inl rfl) rfl X52 f19 rfl rfl rfl (Nat.le_of_ble_eq_true rfl) zzm194 (Nat.le_of_ble_eq_true rfl) rfl ?_
              refine z_xP zt194 0 2 [some (.ref 19)] [.ref 19, .ref 19] rfl rfl ?_
              refine z_xgv zt194 1 rfl zo194 zzf12_136 X52 f19 (by decide) h55 ?_
              refine z_xZ zt194 2 rfl rfl (fun (h71 : 0 ≤ x56.toInt) => absurd h71 (by omega)) (fun (h71 : x56.toInt < 0) => ?_)
              refine z_xP zt194 3 9 [some (.ref 19)] [.ref 19, .ref 19] rfl rfl ?_
              refine z_xgv zt194 4 rfl zo194 zzf12_123 X52 f19 (by decide) h54 ?_
              refine z_xP zt194 5 19 [some (.ref 19)] [.int x49, .ref 19] rfl rfl ?_
              refine z_xpf zt194 8 rfl zo194 zzf12_136 X52 f19 (by decide) (by decide) ⟨Int32.le_toInt _, Int32.toInt_le _⟩ rfl (by decide) zw12_26 (fun M72 X73 e74 h75 => ?_)
              refine z_xP zt194 9 23 [some (.ref 19)] [.int 0] rfl rfl ?_
              refine z_xrz zt194 10 rfl zzr194 (by decide) (by decide) ?_
              show z_ev (d + 972) 196 118 [some (.ref 19), some (.int x40), some (.int 0), none] [.int 0] M72 _
              refine z_xP zt196 51 119 [some (.ref 19), some (.int x40), some (.int 0), some (.int 0)] [] rfl rfl ?_
              have h76 := (e74.f f19 (by decide) h54)
              exact z_xrv zt196 52 rfl zzr196 (kk M72 X73 x49 h76 ⟨by omega, by omega⟩ (by omega))
            refine z_xP zt193 5 12 [some (.ref 19)] [.ref 19] rfl rfl ?_
            have h77 := (e53.f f19 (by decide) h27)
            refine z_xgv zt193 6 rfl zo193 zzf12_129 X52 f19 (by decide) h77 ?_
            refine z_xZ zt193 7 rfl rfl (fun (h78 : x28.toInt = 0) => ?_) (fun (h78 : x28.toInt ≠ 0) => absurd h78 (by omega))
            refine z_xP zt193 14 31 [some (.ref 19)] [.ref 19] rfl rfl ?_
            refine z_xgX (b := 21) zt193 15 rfl zo193 zzf12_13 X52 f19 (by decide) (by decide) rfl ?_
            refine z_xP zt193 16 38 [some (.ref 19)] [.ref 19, .int 160, .ref 21] rfl rfl ?_
            have h79 := (e53.f f19 (by decide) h32)
            refine z_xgv zt193 17 rfl zo193 zzf12_133 X52 f19 (by decide) h79 ?_
            refine z_xI zt193 18 rfl rfl (fun (x80 : Int32) (h81 : x80.toInt = 160 * x33.toInt) => ?_) (z_pMul rfl rfl (by omega) (by omega))
            refine z_xP zt193 19 43 [some (.ref 19)] [.ref 19, .int x80, .ref 21] rfl rfl ?_
            refine z_xgv zt193 20 rfl zo193 zzf12_123 X52 f19 (by decide) h54 ?_
            refine z_xI zt193 21 rfl rfl (fun (x82 : Int32) (h83 : x82.toInt = x80.toInt + x49.toInt) => ?_) (z_pAdd rfl rfl (by omega) (by omega))
            refine z_xil zt193 22 rfl X52 f21 (by decide) (by omega) (by omega) (fun (x84 : Int32) h85 (h86 : (-2147483648) ≤ x84.toInt) (h87 : x84.toInt ≤ 2147483647) => ?_)
            refine z_xP zt193 23 52 [some (.ref 19)] [.int x84] rfl rfl ?_
            refine z_xri zt193 25 rfl zzr193 ?_
            show z_ev (d + 971) 192 11 [some (.ref 19), some (.int 32)] [.int x84] M51 _
            refine z_xP zt192 5 12 [some (.ref 19), some (.int 32)] [.int 32, .int x84] rfl rfl ?_
            refine z_xJ zt192 6 rfl rfl (fun (h88 : x84.toInt = 32) => ?_) (fun (h88 : x84.toInt ≠ 32) => ?_)
            · skip
              refine z_xP zt192 9 19 [some (.ref 19), some (.int 32)] [.ref 19, .ref 19] rfl rfl ?_
              refine z_xgv zt192 10 rfl zo192 zzf12_123 X52 f19 (by decide) h54 ?_
              refine z_xP zt192 11 23 [some (.ref 19), some (.int 32)] [.int 1, .int x49, .ref 19] rfl rfl ?_
              refine z_xI zt192 12 rfl rfl (fun (x89 : Int32) (h90 : x89.toInt = x49.toInt + 1) => ?_) (z_pAdd rfl rfl (by omega) (by omega))
              refine z_xpf zt192 13 rfl zo192 zzf12_123 X52 f19 (by decide) (by decide) ⟨by omega, by omega⟩ rfl (by decide) zw12_24 (fun M91 X92 e93 h94 => ?_)
              refine z_xP zt192 14 28 [some (.ref 19), some (.int 32)] [.int 1] rfl rfl ?_
              refine z_xrz zt192 15 rfl zzr192 (by decide) (by decide) ?_
              show z_ev (d + 972) 196 111 [some (.ref 19), some (.int x40), some (.int 0), none] [.int 1] M91 _
              refine z_xZ zt196 48 rfl rfl (fun (h95 : (1 : Int) ≠ 0) => ?_) (fun (h95 : (1 : Int) = 0) => absurd h95 (by omega))
              refine z_xP zt196 53 123 [some (.ref 19), some (.int x40), some (.int 0), none] [.int 112, .int x40] rfl rfl ?_
              refine z_xJ zt196 54 rfl rfl (fun (h96 : x40.toInt ≠ 112) => absurd h96 (by omega)) (fun (h96 : x40.toInt = 112) => ?_)
              refine z_xP zt196 55 127 [some (.ref 19), some (.int x40), some (.int 0), none] [.ref 19] rfl rfl ?_
              refine z_xgX (b := 27) zt196 56 rfl zo196 zzf12_31 X92 f19 (by decide) (by decide) rfl ?_
              refine z_xP zt196 57 131 [some (.ref 19), some (.int x40), some (.int 0), none] [.ref 19, .ref 27] rfl rfl ?_
              have h97 := (e93.f f19 (by decide) h79)
              refine z_xgv zt196 58 rfl zo196 zzf12_133 X92 f19 (by decide) h97 ?_
              refine z_xP zt196 59 135 [some (.ref 19), some (.int x40), some (.int 0), none] [.ref 19, .int x33, .ref 27] rfl rfl ?_
              refine z_xcV (vs := [.ref 19]) (r := [.int x33, .ref 27]) (L2 := [some (.ref 19), none, none, none, none]) zt196 60 rfl zo196 zzcV12_190 (Or.inl rfl) rfl X92 f19 rfl rfl rfl (Nat.le_of_ble_eq_true rfl) zzm197 (Nat.le_of_ble_eq_true rfl) rfl ?_
              refine zC197 X92.1 h94 ⟨by omega, by omega⟩ (z_GL.go hL X92 (by decide)) (fun x104 M98 X99 h105 h106 z100 h101 h102 h103 => ?_)
              have X107 := X92.go X99 (z_sb (by decide))
              show z_ev (d + 972) 196 138 [some (.ref 19), some (.int x40), some (.int 0), none] [.int x104, .int x33, .ref 27] M98 _
              have f27 : T[27]? = some (.inr (27, 0, 8, (-2147483648), 2147483647)) := X107.1.k rfl (by decide)
              refine z_xis zt196 61 rfl X107 f27 (by decide) (by decide) (by omega) (by omega) (Int32.le_toInt _) (Int32.toInt_le _) (by decide) (fun M109 X110 e111 h112 => ?_)
              refine z_xP zt196 62 208 [some (.ref 19), some (.int x40), some (.int 0), none] [] rfl rfl ?_
              have h113 := (e111.f f19 (by decide) h101)
              exact z_xrv zt196 99 rfl zzr196 (kk M109 X110 z100 h113 ⟨by omega, by omega⟩ (by omega))
            refine z_xP zt192 7 16 [some (.ref 19), some (.int 32)] [.int 0] rfl rfl ?_
            refine z_xrz zt192 8 rfl zzr192 (by decide) (by decide) ?_
            show z_ev (d + 972) 196 111 [some (.ref 19), some (.int x40), some (.int 0), none] [.int 0] M51 _
            refine z_xZ zt196 48 rfl rfl (fun (h114 : (0 : Int) ≠ 0) => absurd h114 (by omega)) (fun (h114 : (0 : Int) = 0) => ?_)
            refine z_xP zt196 49 115 [some (.ref 19), some (.int x40), some (.int 0), none] [.ref 19] rfl rfl ?_
            refine z_xcV (vs := [.ref 19]) (r := []) (L2 := [some (.ref 19)]) zt196 50 rfl zo196 zzcV12_163 (Or.inl rfl) rfl X52 f19 rfl rfl rfl (Nat.le_of_ble_eq_true rfl) zzm194 (Nat.le_of_ble_eq_true rfl) rfl ?_
            refine z_xP zt194 0 2 [some (.ref 19)] [.ref 19, .ref 19] rfl rfl ?_
            refine z_xgv zt194 1 rfl zo194 zzf12_136 X52 f19 (by decide) h55 ?_
            refine z_xZ zt194 2 rfl rfl (fun (h115 : 0 ≤ x56.toInt) => absurd h115 (by omega)) (fun (h115 : x56.toInt < 0) => ?_)
            refine z_xP zt194 3 9 [some (.ref 19)] [.ref 19, .ref 19] rfl rfl ?_
            refine z_xgv zt194 4 rfl zo194 zzf12_123 X52 f19 (by decide) h54 ?_
            refine z_xP zt194 5 19 [some (.ref 19)] [.int x49, .ref 19] rfl rfl ?_
            refine z_xpf zt194 8 rfl zo194 zzf12_136 X52 f19 (by decide) (by decide) ⟨Int32.le_toInt _, Int32.toInt_le _⟩ rfl (by decide) zw12_26 (fun M116 X117 e118 h119 => ?_)
            refine z_xP zt194 9 23 [some (.ref 19)] [.int 0] rfl rfl ?_
            refine z_xrz zt194 10 rfl zzr194 (by decide) (by decide) ?_
            show z_ev (d + 972) 196 118 [some (.ref 19), some (.int x40), some (.int 0), none] [.int 0] M116 _
            refine z_xP zt196 51 119 [some (.ref 19), some (.int x40), some (.int 0), some (.int 0)] [] rfl rfl ?_
            have h120 := (e118.f f19 (by decide) h54)
            exact z_xrv zt196 52 rfl zzr196 (kk M116 X117 x49 h120 ⟨by omega, by omega⟩ (by omega))
          refine z_xP zt196 31 76 [some (.ref 19), some (.int x40), some (.int 0), none] [.int 101, .int x40] rfl rfl ?_
          refine z_xJ zt196 32 rfl rfl (fun (h121 : x40.toInt = 101) => ?_) (fun (h121 : x40.toInt ≠ 101) => ?_)
          · skip
            refine z_xP zt196 35 86 [some (.ref 19), some (.int x40), some (.int 0), none] [.int 0] rfl rfl ?_
            refine z_xZ zt196 36 rfl rfl (fun (h122 : (0 : Int) = 0) => ?_) (fun (h122 : (0 : Int) ≠ 0) => absurd h122 (by omega))
            refine z_xP zt196 41 97 [some (.ref 19), some (.int x40), some (.int 0), none] [.ref 19, .ref 19] rfl rfl ?_
            refine z_xgv zt196 42 rfl zo196 zzf12_123 X f19 (by decide) hz0 ?_
            refine z_xP zt196 43 101 [some (.ref 19), some (.int x40), some (.int 0), none] [.int 1, .int zp0, .ref 19] rfl rfl ?_
            refine z_xI zt196 44 rfl rfl (fun (x123 : Int32) (h124 : x123.toInt = zp0.toInt + 1) => ?_) (z_pAdd rfl rfl (by omega) (by omega))
            refine z_xpf zt196 45 rfl zo196 zzf12_123 X f19 (by decide) (by decide) ⟨by omega, by omega⟩ rfl (by decide) zw12_24 (fun M125 X126 e127 h128 => ?_)
            refine z_xP zt196 46 108 [some (.ref 19), some (.int x40), some (.int 0), none] [.int 32, .ref 19] rfl rfl ?_
            refine z_xcV (vs := [.ref 19, .int 32]) (r := []) (L2 := [some (.ref 19), some (.int 32)]) zt196 47 rfl zo196 zzcV12_147 (Or.inl rfl) rfl X126 f19 rfl rfl rfl (Nat.le_of_ble_eq_true rfl) zzm192 (Nat.le_of_ble_eq_true rfl) rfl ?_
            refine z_xP zt192 0 1 [some (.ref 19), some (.int 32)] [.ref 19] rfl rfl ?_
            refine z_xgI zt192 1 rfl zo192 zzf12_136 X126 f19 (by decide) (by decide) rfl (fun (x130 : Int32) h129 (h131 : (-2147483648) ≤ x130.toInt) (h132 : x130.toInt ≤ 2147483647) => ?_)
            refine z_xZ zt192 2 rfl rfl (fun (h133 : 0 ≤ x130.toInt) => ?_) (fun (h133 : x130.toInt < 0) => ?_)
            · skip
              refine z_xP zt192 7 16 [some (.ref 19), some (.int 32)] [.int 0] rfl rfl ?_
              refine z_xrz zt192 8 rfl zzr192 (by decide) (by decide) ?_
              show z_ev (d + 972) 196 111 [some (.ref 19), some (.int x40), some (.int 0), none] [.int 0] M125 _
              refine z_xZ zt196 48 rfl rfl (fun (h134 : (0 : Int) ≠ 0) => absurd h134 (by omega)) (fun (h134 : (0 : Int) = 0) => ?_)
              refine z_xP zt196 49 115 [some (.ref 19), some (.int x40), some (.int 0), none] [.ref 19] rfl rfl ?_
              refine z_xcV (vs := [.ref 19]) (r := []) (L2 := [some (.ref 19)]) zt196 50 rfl zo196 zzcV12_163 (Or.inl rfl) rfl X126 f19 rfl rfl rfl (Nat.le_of_ble_eq_true rfl) zzm194 (Nat.le_of_ble_eq_true rfl) rfl ?_
              refine z_xP zt194 0 2 [some (.ref 19)] [.ref 19, .ref 19] rfl rfl ?_
              refine z_xgv zt194 1 rfl zo194 zzf12_136 X126 f19 (by decide) h129 ?_
              refine z_xZ zt194 2 rfl rfl (fun (h135 : 0 ≤ x130.toInt) => ?_) (fun (h135 : x130.toInt < 0) => absurd h135 (by omega))
              refine z_xP zt194 6 16 [some (.ref 19)] [.ref 19, .ref 19] rfl rfl ?_
              refine z_xgv zt194 7 rfl zo194 zzf12_136 X126 f19 (by decide) h129 ?_
              refine z_xpf zt194 8 rfl zo194 zzf12_136 X126 f19 (by decide) (by decide) ⟨Int32.le_toInt _, Int32.toInt_le _⟩ rfl (by decide) zw12_26 (fun M136 X137 e138 h139 => ?_)
              refine z_xP zt194 9 23 [some (.ref 19)] [.int 0] rfl rfl ?_
              refine z_xrz zt194 10 rfl zzr194 (by decide) (by decide) ?_
              show z_ev (d + 972) 196 118 [some (.ref 19), some (.int x40), some (.int 0), none] [.int 0] M136 _
              refine z_xP zt196 51 119 [some (.ref 19), some (.int x40), some (.int 0), some (.int 0)] [] rfl rfl ?_
              have h140 := (e138.f f19 (by decide) h128)
              exact z_xrv zt196 52 rfl zzr196 (kk M136 X137 x123 h140 ⟨by omega, by omega⟩ (by omega))
            refine z_xP zt192 3 8 [some (.ref 19), some (.int 32)] [.ref 19] rfl rfl ?_
            refine z_xcV (vs := [.ref 19]) (r := []) (L2 := [some (.ref 19)]) zt192 4 rfl zo192 zzcV12_139 (Or.inl rfl) rfl X126 f19 rfl rfl rfl (Nat.le_of_ble_eq_true rfl) zzm193 (Nat.le_of_ble_eq_true rfl) rfl ?_
            refine z_xP zt193 0 1 [some (.ref 19)] [.ref 19] rfl rfl ?_
            refine z_xgv zt193 1 rfl zo193 zzf12_123 X126 f19 (by decide) h128 ?_
            refine z_xP zt193 2 5 [some (.ref 19)] [.ref 19, .int x123] rfl rfl ?_
            have h141 := (e127.f f19 (by decide) h1)
            refine z_xgv zt193 3 rfl zo193 zzf12_126 X126 f19 (by decide) h141 ?_
            refine z_xJ zt193 4 rfl rfl (fun (h142 : x2.toInt ≤ x123.toInt) => ?_) (fun (h142 : x123.toInt < x2.toInt) => ?_)
            · skip
              refine z_xP zt193 24 52 [some (.ref 19)] [.int 0] rfl rfl ?_
              refine z_xri zt193 25 rfl zzr193 ?_
              show z_ev (d + 971) 192 11 [some (.ref 19), some (.int 32)] [.int 0] M125 _
              refine z_xP zt192 5 12 [some (.ref 19), some (.int 32)] [.int 32, .int 0] rfl rfl ?_
              refine z_xJ zt192 6 rfl rfl (fun (h143 : (0 : Int) = 32) => absurd h143 (by omega)) (fun (h143 : (0 : Int) ≠ 32) => ?_)
              refine z_xP zt192 7 16 [some (.ref 19), some (.int 32)] [.int 0] rfl rfl ?_
              refine z_xrz zt192 8 rfl zzr192 (by decide) (by decide) ?_
              show z_ev (d + 972) 196 111 [some (.ref 19), some (.int x40), some (.int 0), none] [.int 0] M125 _
              refine z_xZ zt196 48 rfl rfl (fun (h144 : (0 : Int) ≠ 0) => absurd h144 (by omega)) (fun (h144 : (0 : Int) = 0) => ?_)
              refine z_xP zt196 49 115 [some (.ref 19), some (.int x40), some (.int 0), none] [.ref 19] rfl rfl ?_
              refine z_xcV (vs := [.ref 19]) (r := []) (L2 := [some (.ref 19)]) zt196 50 rfl zo196 zzcV12_163 (Or.inl rfl) rfl X126 f19 rfl rfl rfl (Nat.le_of_ble_eq_true rfl) zzm194 (Nat.le_of_ble_eq_true rfl) rfl ?_
              refine z_xP zt194 0 2 [some (.ref 19)] [.ref 19, .ref 19] rfl rfl ?_
              refine z_xgv zt194 1 rfl zo194 zzf12_136 X126 f19 (by decide) h129 ?_
              refine z_xZ zt194 2 rfl rfl (fun (h145 : 0 ≤ x130.toInt) => absurd h145 (by omega)) (fun (h145 : x130.toInt < 0) => ?_)
              refine z_xP zt194 3 9 [some (.ref 19)] [.ref 19, .ref 19] rfl rfl ?_
              refine z_xgv zt194 4 rfl zo194 zzf12_123 X126 f19 (by decide) h128 ?_
              refine z_xP zt194 5 19 [some (.ref 19)] [.int x123, .ref 19] rfl rfl ?_
              refine z_xpf zt194 8 rfl zo194 zzf12_136 X126 f19 (by decide) (by decide) ⟨Int32.le_toInt _, Int32.toInt_le _⟩ rfl (by decide) zw12_26 (fun M146 X147 e148 h149 => ?_)
              refine z_xP zt194 9 23 [some (.ref 19)] [.int 0] rfl rfl ?_
              refine z_xrz zt194 10 rfl zzr194 (by decide) (by decide) ?_
              show z_ev (d + 972) 196 118 [some (.ref 19), some (.int x40), some (.int 0), none] [.int 0] M146 _
              refine z_xP zt196 51 119 [some (.ref 19), some (.int x40), some (.int 0), some (.int 0)] [] rfl rfl ?_
              have h150 := (e148.f f19 (by decide) h128)
              exact z_xrv zt196 52 rfl zzr196 (kk M146 X147 x123 h150 ⟨by omega, by omega⟩ (by omega))
            refine z_xP zt193 5 12 [some (.ref 19)] [.ref 19] rfl rfl ?_
            have h151 := (e127.f f19 (by decide) h27)
            refine z_xgv zt193 6 rfl zo193 zzf12_129 X126 f19 (by decide) h151 ?_
            refine z_xZ zt193 7 rfl rfl (fun (h152 : x28.toInt = 0) => ?_) (fun (h152 : x28.toInt ≠ 0) => absurd h152 (by omega))
            refine z_xP zt193 14 31 [some (.ref 19)] [.ref 19] rfl rfl ?_
            refine z_xgX (b := 21) zt193 15 rfl zo193 zzf12_13 X126 f19 (by decide) (by decide) rfl ?_
            refine z_xP zt193 16 38 [some (.ref 19)] [.ref 19, .int 160, .ref 21] rfl rfl ?_
            have h153 := (e127.f f19 (by decide) h32)
            refine z_xgv zt193 17 rfl zo193 zzf12_133 X126 f19 (by decide) h153 ?_
            refine z_xI zt193 18 rfl rfl (fun (x154 : Int32) (h155 : x154.toInt = 160 * x33.toInt) => ?_) (z_pMul rfl rfl (by omega) (by omega))
            refine z_xP zt193 19 43 [some (.ref 19)] [.ref 19, .int x154, .ref 21] rfl rfl ?_
            refine z_xgv zt193 20 rfl zo193 zzf12_123 X126 f19 (by decide) h128 ?_
            refine z_xI zt193 21 rfl rfl (fun (x156 : Int32) (h157 : x156.toInt = x154.toInt + x123.toInt) => ?_) (z_pAdd rfl rfl (by omega) (by omega))
            refine z_xil zt193 22 rfl X126 f21 (by decide) (by omega) (by omega) (fun (x158 : Int32) h159 (h160 : (-2147483648) ≤ x158.toInt) (h161 : x158.toInt ≤ 2147483647) => ?_)
            refine z_xP zt193 23 52 [some (.ref 19)] [.int x158] rfl rfl ?_
            refine z_xri zt193 25 rfl zzr193 ?_
            show z_ev (d + 971) 192 11 [some (.ref 19), some (.int 32)] [.int x158] M125 _
            refine z_xP zt192 5 12 [some (.ref 19), some (.int 32)] [.int 32, .int x158] rfl rfl ?_
            refine z_xJ zt192 6 rfl rfl (fun (h162 : x158.toInt = 32) => ?_) (fun (h162 : x158.toInt ≠ 32) => ?_)
            · skip
              refine z_xP zt192 9 19 [some (.ref 19), some (.int 32)] [.ref 19, .ref 19] rfl rfl ?_
              refine z_xgv zt192 10 rfl zo192 zzf12_123 X126 f19 (by decide) h128 ?_
              refine z_xP zt192 11 23 [some (.ref 19), some (.int 32)] [.int 1, .int x123, .ref 19] rfl rfl ?_
              refine z_xI zt192 12 rfl rfl (fun (x163 : Int32) (h164 : x163.toInt = x123.toInt + 1) => ?_) (z_pAdd rfl rfl (by omega) (by omega))
              refine z_xpf zt192 13 rfl zo192 zzf12_123 X126 f19 (by decide) (by decide) ⟨by omega, by omega⟩ rfl (by decide) zw12_24 (fun M165 X166 e167 h168 => ?_)
              refine z_xP zt192 14 28 [some (.ref 19), some (.int 32)] [.int 1] rfl rfl ?_
              refine z_xrz zt192 15 rfl zzr192 (by decide) (by decide) ?_
              show z_ev (d + 972) 196 111 [some (.ref 19), some (.int x40), some (.int 0), none] [.int 1] M165 _
              refine z_xZ zt196 48 rfl rfl (fun (h169 : (1 : Int) ≠ 0) => ?_) (fun (h169 : (1 : Int) = 0) => absurd h169 (by omega))
              refine z_xP zt196 53 123 [some (.ref 19), some (.int x40), some (.int 0), none] [.int 112, .int x40] rfl rfl ?_
              refine z_xJ zt196 54 rfl rfl (fun (h170 : x40.toInt ≠ 112) => ?_) (fun (h170 : x40.toInt = 112) => absurd h170 (by omega))
              refine z_xP zt196 63 145 [some (.ref 19), some (.int x40), some (.int 0), none] [.int 101, .int x40] rfl rfl ?_
              refine z_xJ zt196 64 rfl rfl (fun (h171 : x40.toInt ≠ 101) => absurd h171 (by omega)) (fun (h171 : x40.toInt = 101) => ?_)
              refine z_xP zt196 65 149 [some (.ref 19), some (.int x40), some (.int 0), none] [.ref 19] rfl rfl ?_
              refine z_xgX (b := 28) zt196 66 rfl zo196 zzf12_34 X166 f19 (by decide) (by decide) rfl ?_
              refine z_xP zt196 67 153 [some (.ref 19), some (.int x40), some (.int 0), none] [.ref 19, .ref 28] rfl rfl ?_
              have h172 := (e167.f f19 (by decide) h153)
              refine z_xgv zt196 68 rfl zo196 zzf12_133 X166 f19 (by decide) h172 ?_
              refine z_xP zt196 69 157 [some (.ref 19), some (.int x40), some (.int 0), none] [.ref 19, .int x33, .ref 28] rfl rfl ?_
              refine z_xcV (vs := [.ref 19]) (r := [.int x33, .ref 28]) (L2 := [some (.ref 19), none, none, none, none]) zt196 70 rfl zo196 zzcV12_190 (Or.inl rfl) rfl X166 f19 rfl rfl rfl (Nat.le_of_ble_eq_true rfl) zzm197 (Nat.le_of_ble_eq_true rfl) rfl ?_
              refine zC197 X166.1 h168 ⟨by omega, by omega⟩ (z_GL.go hL X166 (by decide)) (fun x179 M173 X174 h180 h181 z175 h176 h177 h178 => ?_)
              have X182 := X166.go X174 (z_sb (by decide))
              show z_ev (d + 972) 196 160 [some (.ref 19), some (.int x40), some (.int 0), none] [.int x179, .int x33, .ref 28] M173 _
              have f28 : T[28]? = some (.inr (28, 0, 8, (-2147483648), 2147483647)) := X182.1.k rfl (by decide)
              refine z_xis zt196 71 rfl X182 f28 (by decide) (by decide) (by omega) (by omega) (Int32.le_toInt _) (Int32.toInt_le _) (by decide) (fun M184 X185 e186 h187 => ?_)
              refine z_xP zt196 72 208 [some (.ref 19), some (.int x40), some (.int 0), none] [] rfl rfl ?_
              have h188 := (e186.f f19 (by decide) h176)
              exact z_xrv zt196 99 rfl zzr196 (kk M184 X185 z175 h188 ⟨by omega, by omega⟩ (by omega))
            refine z_xP zt192 7 16 [some (.ref 19), some (.int 32)] [.int 0] rfl rfl ?_
            refine z_xrz zt192 8 rfl zzr192 (by decide) (by decide) ?_
            show z_ev (d + 972) 196 111 [some (.ref 19), some (.int x40), some (.int 0), none] [.int 0] M125 _
            refine z_xZ zt196 48 rfl rfl (fun (h189 : (0 : Int) ≠ 0) => absurd h189 (by omega)) (fun (h189 : (0 : Int) = 0) => ?_)
            refine z_xP zt196 49 115 [some (.ref 19), some (.int x40), some (.int 0), none] [.ref 19] rfl rfl ?_
            refine z_xcV (vs := [.ref 19]) (r := []) (L2 := [some (.ref 19)]) zt196 50 rfl zo196 zzcV12_163 (Or.inl rfl) rfl X126 f19 rfl rfl rfl (Nat.le_of_ble_eq_true rfl) zzm194 (Nat.le_of_ble_eq_true rfl) rfl ?_
            refine z_xP zt194 0 2 [some (.ref 19)] [.ref 19, .ref 19] rfl rfl ?_
            refine z_xgv zt194 1 rfl zo194 zzf12_136 X126 f19 (by decide) h129 ?_
            refine z_xZ zt194 2 rfl rfl (fun (h190 : 0 ≤ x130.toInt) => absurd h190 (by omega)) (fun (h190 : x130.toInt < 0) => ?_)
            refine z_xP zt194 3 9 [some (.ref 19)] [.ref 19, .ref 19] rfl rfl ?_
            refine z_xgv zt194 4 rfl zo194 zzf12_123 X126 f19 (by decide) h128 ?_
            refine z_xP zt194 5 19 [some (.ref 19)] [.int x123, .ref 19] rfl rfl ?_
            refine z_xpf zt194 8 rfl zo194 zzf12_136 X126 f19 (by decide) (by decide) ⟨Int32.le_toInt _, Int32.toInt_le _⟩ rfl (by decide) zw12_26 (fun M191 X192 e193 h194 => ?_)
            refine z_xP zt194 9 23 [some (.ref 19)] [.int 0] rfl rfl ?_
            refine z_xrz zt194 10 rfl zzr194 (by decide) (by decide) ?_
            show z_ev (d + 972) 196 118 [some (.ref 19), some (.int x40), some (.int 0), none] [.int 0] M191 _
            refine z_xP zt196 51 119 [some (.ref 19), some (.int x40), some (.int 0), some (.int 0)] [] rfl rfl ?_
            have h195 := (e193.f f19 (by decide) h128)
            exact z_xrv zt196 52 rfl zzr196 (kk M191 X192 x123 h195 ⟨by omega, by omega⟩ (by omega))
          refine z_xP zt196 33 82 [some (.ref 19), some (.int x40), some (.int 0), none] [.int 116, .int x40] rfl rfl ?_
          refine z_xJ zt196 34 rfl rfl (fun (h196 : x40.toInt ≠ 116) => ?_) (fun (h196 : x40.toInt = 116) => ?_)
          · skip
            refine z_xP zt196 37 90 [some (.ref 19), some (.int x40), some (.int 0), none] [.ref 19] rfl rfl ?_
            refine z_xcV (vs := [.ref 19]) (r := []) (L2 := [some (.ref 19)]) zt196 38 rfl zo196 zzcV12_163 (Or.inl rfl) rfl X f19 rfl rfl rfl (Nat.le_of_ble_eq_true rfl) zzm194 (Nat.le_of_ble_eq_true rfl) rfl ?_
            refine z_xP zt194 0 2 [some (.ref 19)] [.ref 19, .ref 19] rfl rfl ?_
            refine z_xgI zt194 1 rfl zo194 zzf12_136 X f19 (by decide) (by decide) rfl (fun (x198 : Int32) h197 (h199 : (-2147483648) ≤ x198.toInt) (h200 : x198.toInt ≤ 2147483647) => ?_)
            refine z_xZ zt194 2 rfl rfl (fun (h201 : 0 ≤ x198.toInt) => ?_) (fun (h201 : x198.toInt < 0) => ?_)
            · skip
              refine z_xP zt194 6 16 [some (.ref 19)] [.ref 19, .ref 19] rfl rfl ?_
              refine z_xgv zt194 7 rfl zo194 zzf12_136 X f19 (by decide) h197 ?_
              refine z_xpf zt194 8 rfl zo194 zzf12_136 X f19 (by decide) (by decide) ⟨Int32.le_toInt _, Int32.toInt_le _⟩ rfl (by decide) zw12_26 (fun M202 X203 e204 h205 => ?_)
              refine z_xP zt194 9 23 [some (.ref 19)] [.int 0] rfl rfl ?_
              refine z_xrz zt194 10 rfl zzr194 (by decide) (by decide) ?_
              show z_ev (d + 972) 196 93 [some (.ref 19), some (.int x40), some (.int 0), none] [.int 0] M202 _
              refine z_xP zt196 39 94 [some (.ref 19), some (.int x40), some (.int 0), some (.int 0)] [] rfl rfl ?_
              have h206 := (e204.f f19 (by decide) hz0)
              exact z_xrv zt196 40 rfl zzr196 (kk M202 X203 zp0 h206 ⟨by omega, by omega⟩ (by omega))
            refine z_xP zt194 3 9 [some (.ref 19)] [.ref 19, .ref 19] rfl rfl ?_
            refine z_xgv zt194 4 rfl zo194 zzf12_123 X f19 (by decide) hz0 ?_
            refine z_xP zt194 5 19 [some (.ref 19)] [.int zp0, .ref 19] rfl rfl ?_
            refine z_xpf zt194 8 rfl zo194 zzf12_136 X f19 (by decide) (by decide) ⟨Int32.le_toInt _, Int32.toInt_le _⟩ rfl (by decide) zw12_26 (fun M207 X208 e209 h210 => ?_)
            refine z_xP zt194 9 23 [some (.ref 19)] [.int 0] rfl rfl ?_
            refine z_xrz zt194 10 rfl zzr194 (by decide) (by decide) ?_
            show z_ev (d + 972) 196 93 [some (.ref 19), some (.int x40), some (.int 0), none] [.int 0] M207 _
            refine z_xP zt196 39 94 [some (.ref 19), some (.int x40), some (.int 0), some (.int 0)] [] rfl rfl ?_
            have h211 := (e209.f f19 (by decide) hz0)
            exact z_xrv zt196 40 rfl zzr196 (kk M207 X208 zp0 h211 ⟨by omega, by omega⟩ (by omega))
          refine z_xP zt196 35 86 [some (.ref 19), some (.int x40), some (.int 0), none] [.int 0] rfl rfl ?_
          refine z_xZ zt196 36 rfl rfl (fun (h212 : (0 : Int) = 0) => ?_) (fun (h212 : (0 : Int) ≠ 0) => absurd h212 (by omega))
          refine z_xP zt196 41 97 [some (.ref 19), some (.int x40), some (.int 0), none] [.ref 19, .ref 19] rfl rfl ?_
          refine z_xgv zt196 42 rfl zo196 zzf12_123 X f19 (by decide) hz0 ?_
          refine z_xP zt196 43 101 [some (.ref 19), some (.int x40), some (.int 0), none] [.int 1, .int zp0, .ref 19] rfl rfl ?_
          refine z_xI zt196 44 rfl rfl (fun (x213 : Int32) (h214 : x213.toInt = zp0.toInt + 1) => ?_) (z_pAdd rfl rfl (by omega) (by omega))
          refine z_xpf zt196 45 rfl zo196 zzf12_123 X f19 (by decide) (by decide) ⟨by omega, by omega⟩ rfl (by decide) zw12_24 (fun M215 X216 e217 h218 => ?_)
          refine z_xP zt196 46 108 [some (.ref 19), some (.int x40), some (.int 0), none] [.int 32, .ref 19] rfl rfl ?_
          refine z_xcV (vs := [.ref 19, .int 32]) (r := []) (L2 := [some (.ref 19), some (.int 32)]) zt196 47 rfl zo196 zzcV12_147 (Or.inl rfl) rfl X216 f19 rfl rfl rfl (Nat.le_of_ble_eq_true rfl) zzm192 (Nat.le_of_ble_eq_true rfl) rfl ?_
          refine z_xP zt192 0 1 [some (.ref 19), some (.int 32)] [.ref 19] rfl rfl ?_
          refine z_xgI zt192 1 rfl zo192 zzf12_136 X216 f19 (by decide) (by decide) rfl (fun (x220 : Int32) h219 (h221 : (-2147483648) ≤ x220.toInt) (h222 : x220.toInt ≤ 2147483647) => ?_)
          refine z_xZ zt192 2 rfl rfl (fun (h223 : 0 ≤ x220.toInt) => ?_) (fun (h223 : x220.toInt < 0) => ?_)
          · skip
            refine z_xP zt192 7 16 [some (.ref 19), some (.int 32)] [.int 0] rfl rfl ?_
            refine z_xrz zt192 8 rfl zzr192 (by decide) (by decide) ?_
            show z_ev (d + 972) 196 111 [some (.ref 19), some (.int x40), some (.int 0), none] [.int 0] M215 _
            refine z_xZ zt196 48 rfl rfl (fun (h224 : (0 : Int) ≠ 0) => absurd h224 (by omega)) (fun (h224 : (0 : Int) = 0) => ?_)
            refine z_xP zt196 49 115 [some (.ref 19), some (.int x40), some (.int 0), none] [.ref 19] rfl rfl ?_
            refine z_xcV (vs := [.ref 19]) (r := []) (L2 := [some (.ref 19)]) zt196 50 rfl zo196 zzcV12_163 (Or.inl rfl) rfl X216 f19 rfl rfl rfl (Nat.le_of_ble_eq_true rfl) zzm194 (Nat.le_of_ble_eq_true rfl) rfl ?_
            refine z_xP zt194 0 2 [some (.ref 19)] [.ref 19, .ref 19] rfl rfl ?_
            refine z_xgv zt194 1 rfl zo194 zzf12_136 X216 f19 (by decide) h219 ?_
            refine z_xZ zt194 2 rfl rfl (fun (h225 : 0 ≤ x220.toInt) => ?_) (fun (h225 : x220.toInt < 0) => absurd h225 (by omega))
            refine z_xP zt194 6 16 [some (.ref 19)] [.ref 19, .ref 19] rfl rfl ?_
            refine z_xgv zt194 7 rfl zo194 zzf12_136 X216 f19 (by decide) h219 ?_
            refine z_xpf zt194 8 rfl zo194 zzf12_136 X216 f19 (by decide) (by decide) ⟨Int32.le_toInt _, Int32.toInt_le _⟩ rfl (by decide) zw12_26 (fun M226 X227 e228 h229 => ?_)
            refine z_xP zt194 9 23 [some (.ref 19)] [.int 0] rfl rfl ?_
            refine z_xrz zt194 10 rfl zzr194 (by decide) (by decide) ?_
            show z_ev (d + 972) 196 118 [some (.ref 19), some (.int x40), some (.int 0), none] [.int 0] M226 _
            refine z_xP zt196 51 119 [some (.ref 19), some (.int x40), some (.int 0), some (.int 0)] [] rfl rfl ?_
            have h230 := (e228.f f19 (by decide) h218)
            exact z_xrv zt196 52 rfl zzr196 (kk M226 X227 x213 h230 ⟨by omega, by omega⟩ (by omega))
          refine z_xP zt192 3 8 [some (.ref 19), some (.int 32)] [.ref 19] rfl rfl ?_
          refine z_xcV (vs := [.ref 19]) (r := []) (L2 := [some (.ref 19)]) zt192 4 rfl zo192 zzcV12_139 (Or.inl rfl) rfl X216 f19 rfl rfl rfl (Nat.le_of_ble_eq_true rfl) zzm193 (Nat.le_of_ble_eq_true rfl) rfl ?_
          refine z_xP zt193 0 1 [some (.ref 19)] [.ref 19] rfl rfl ?_
          refine z_xgv zt193 1 rfl zo193 zzf12_123 X216 f19 (by decide) h218 ?_
          refine z_xP zt193 2 5 [some (.ref 19)] [.ref 19, .int x213] rfl rfl ?_
          have h231 := (e217.f f19 (by decide) h1)
          refine z_xgv zt193 3 rfl zo193 zzf12_126 X216 f19 (by decide) h231 ?_
          refine z_xJ zt193 4 rfl rfl (fun (h232 : x2.toInt ≤ x213.toInt) => ?_) (fun (h232 : x213.toInt < x2.toInt) => ?_)
          · skip
            refine z_xP zt193 24 52 [some (.ref 19)] [.int 0] rfl rfl ?_
            refine z_xri zt193 25 rfl zzr193 ?_
            show z_ev (d + 971) 192 11 [some (.ref 19), some (.int 32)] [.int 0] M215 _
            refine z_xP zt192 5 12 [some (.ref 19), some (.int 32)] [.int 32, .int 0] rfl rfl ?_
            refine z_xJ zt192 6 rfl rfl (fun (h233 : (0 : Int) = 32) => absurd h233 (by omega)) (fun (h233 : (0 : Int) ≠ 32) => ?_)
            refine z_xP zt192 7 16 [some (.ref 19), some (.int 32)] [.int 0] rfl rfl ?_
            refine z_xrz zt192 8 rfl zzr192 (by decide) (by decide) ?_
            show z_ev (d + 972) 196 111 [some (.ref 19), some (.int x40), some (.int 0), none] [.int 0] M215 _
            refine z_xZ zt196 48 rfl rfl (fun (h234 : (0 : Int) ≠ 0) => absurd h234 (by omega)) (fun (h234 : (0 : Int) = 0) => ?_)
            refine z_xP zt196 49 115 [some (.ref 19), some (.int x40), some (.int 0), none] [.ref 19] rfl rfl ?_
            refine z_xcV (vs := [.ref 19]) (r := []) (L2 := [some (.ref 19)]) zt196 50 rfl zo196 zzcV12_163 (Or.inl rfl) rfl X216 f19 rfl rfl rfl (Nat.le_of_ble_eq_true rfl) zzm194 (Nat.le_of_ble_eq_true rfl) rfl ?_
            refine z_xP zt194 0 2 [some (.ref 19)] [.ref 19, .ref 19] rfl rfl ?_
            refine z_xgv zt194 1 rfl zo194 zzf12_136 X216 f19 (by decide) h219 ?_
            refine z_xZ zt194 2 rfl rfl (fun (h235 : 0 ≤ x220.toInt) => absurd h235 (by omega)) (fun (h235 : x220.toInt < 0) => ?_)
            refine z_xP zt194 3 9 [some (.ref 19)] [.ref 19, .ref 19] rfl rfl ?_
            refine z_xgv zt194 4 rfl zo194 zzf12_123 X216 f19 (by decide) h218 ?_
            refine z_xP zt194 5 19 [some (.ref 19)] [.int x213, .ref 19] rfl rfl ?_
            refine z_xpf zt194 8 rfl zo194 zzf12_136 X216 f19 (by decide) (by decide) ⟨Int32.le_toInt _, Int32.toInt_le _⟩ rfl (by decide) zw12_26 (fun M236 X237 e238 h239 => ?_)
            refine z_xP zt194 9 23 [some (.ref 19)] [.int 0] rfl rfl ?_
            refine z_xrz zt194 10 rfl zzr194 (by decide) (by decide) ?_
            show z_ev (d + 972) 196 118 [some (.ref 19), some (.int x40), some (.int 0), none] [.int 0] M236 _
            refine z_xP zt196 51 119 [some (.ref 19), some (.int x40), some (.int 0), some (.int 0)] [] rfl rfl ?_
            have h240 := (e238.f f19 (by decide) h218)
            exact z_xrv zt196 52 rfl zzr196 (kk M236 X237 x213 h240 ⟨by omega, by omega⟩ (by omega))
          refine z_xP zt193 5 12 [some (.ref 19)] [.ref 19] rfl rfl ?_
          have h241 := (e217.f f19 (by decide) h27)
          refine z_xgv zt193 6 rfl zo193 zzf12_129 X216 f19 (by decide) h241 ?_
          refine z_xZ zt193 7 rfl rfl (fun (h242 : x28.toInt = 0) => ?_) (fun (h242 : x28.toInt ≠ 0) => absurd h242 (by omega))
          refine z_xP zt193 14 31 [some (.ref 19)] [.ref 19] rfl rfl ?_
          refine z_xgX (b := 21) zt193 15 rfl zo193 zzf12_13 X216 f19 (by decide) (by decide) rfl ?_
          refine z_xP zt193 16 38 [some (.ref 19)] [.ref 19, .int 160, .ref 21] rfl rfl ?_
          have h243 := (e217.f f19 (by decide) h32)
          refine z_xgv zt193 17 rfl zo193 zzf12_133 X216 f19 (by decide) h243 ?_
          refine z_xI zt193 18 rfl rfl (fun (x244 : Int32) (h245 : x244.toInt = 160 * x33.toInt) => ?_) (z_pMul rfl rfl (by omega) (by omega))
          refine z_xP zt193 19 43 [some (.ref 19)] [.ref 19, .int x244, .ref 21] rfl rfl ?_
          refine z_xgv zt193 20 rfl zo193 zzf12_123 X216 f19 (by decide) h218 ?_
          refine z_xI zt193 21 rfl rfl (fun (x246 : Int32) (h247 : x246.toInt = x244.toInt + x213.toInt) => ?_) (z_pAdd rfl rfl (by omega) (by omega))
          refine z_xil zt193 22 rfl X216 f21 (by decide) (by omega) (by omega) (fun (x248 : Int32) h249 (h250 : (-2147483648) ≤ x248.toInt) (h251 : x248.toInt ≤ 2147483647) => ?_)
          refine z_xP zt193 23 52 [some (.ref 19)] [.int x248] rfl rfl ?_
          refine z_xri zt193 25 rfl zzr193 ?_
          show z_ev (d + 971) 192 11 [some (.ref 19), some (.int 32)] [.int x248] M215 _
          refine z_xP zt192 5 12 [some (.ref 19), some (.int 32)] [.int 32, .int x248] rfl rfl ?_
          refine z_xJ zt192 6 rfl rfl (fun (h252 : x248.toInt = 32) => ?_) (fun (h252 : x248.toInt ≠ 32) => ?_)
          · skip
            refine z_xP zt192 9 19 [some (.ref 19), some (.int 32)] [.ref 19, .ref 19] rfl rfl ?_
            refine z_xgv zt192 10 rfl zo192 zzf12_123 X216 f19 (by decide) h218 ?_
            refine z_xP zt192 11 23 [some (.ref 19), some (.int 32)] [.int 1, .int x213, .ref 19] rfl rfl ?_
            refine z_xI zt192 12 rfl rfl (fun (x253 : Int32) (h254 : x253.toInt = x213.toInt + 1) => ?_) (z_pAdd rfl rfl (by omega) (by omega))
            refine z_xpf zt192 13 rfl zo192 zzf12_123 X216 f19 (by decide) (by decide) ⟨by omega, by omega⟩ rfl (by decide) zw12_24 (fun M255 X256 e257 h258 => ?_)
            refine z_xP zt192 14 28 [some (.ref 19), some (.int 32)] [.int 1] rfl rfl ?_
            refine z_xrz zt192 15 rfl zzr192 (by decide) (by decide) ?_
            show z_ev (d + 972) 196 111 [some (.ref 19), some (.int x40), some (.int 0), none] [.int 1] M255 _
            refine z_xZ zt196 48 rfl rfl (fun (h259 : (1 : Int) ≠ 0) => ?_) (fun (h259 : (1 : Int) = 0) => absurd h259 (by omega))
            refine z_xP zt196 53 123 [some (.ref 19), some (.int x40), some (.int 0), none] [.int 112, .int x40] rfl rfl ?_
            refine z_xJ zt196 54 rfl rfl (fun (h260 : x40.toInt ≠ 112) => ?_) (fun (h260 : x40.toInt = 112) => absurd h260 (by omega))
            refine z_xP zt196 63 145 [some (.ref 19), some (.int x40), some (.int 0), none] [.int 101, .int x40] rfl rfl ?_
            refine z_xJ zt196 64 rfl rfl (fun (h261 : x40.toInt ≠ 101) => ?_) (fun (h261 : x40.toInt = 101) => absurd h261 (by omega))
            refine z_xP zt196 73 165 [some (.ref 19), some (.int x40), some (.int 0), none] [.ref 19] rfl rfl ?_
            refine z_xgX (b := 26) zt196 74 rfl zo196 zzf12_28 X256 f19 (by decide) (by decide) rfl ?_
            refine z_xP zt196 75 171 [some (.ref 19), some (.int x40), some (.int 0), none] [.ref 19, .int 8, .ref 26] rfl rfl ?_
            have h262 := (e257.f f19 (by decide) h243)
            refine z_xgv zt196 76 rfl zo196 zzf12_133 X256 f19 (by decide) h262 ?_
            refine z_xI zt196 77 rfl rfl (fun (x263 : Int32) (h264 : x263.toInt = 8 * x33.toInt) => ?_) (z_pMul rfl rfl (by omega) (by omega))
            refine z_xP zt196 78 176 [some (.ref 19), some (.int x40), some (.int 0), none] [.ref 19, .int x263, .ref 26] rfl rfl ?_
            refine z_xgX (b := 25) zt196 79 rfl zo196 zzf12_25 X256 f19 (by decide) (by decide) rfl ?_
            refine z_xP zt196 80 180 [some (.ref 19), some (.int x40), some (.int 0), none] [.ref 19, .ref 25, .int x263, .ref 26] rfl rfl ?_
            refine z_xgv zt196 81 rfl zo196 zzf12_133 X256 f19 (by decide) h262 ?_
            have f25 : T[25]? = some (.inr (25, 0, 8, 0, 8)) := X256.1.k rfl (by decide)
            refine z_xil zt196 82 rfl X256 f25 (by decide) (by omega) (by omega) (fun (x265 : Int32) h266 (h267 : 0 ≤ x265.toInt) (h268 : x265.toInt ≤ 8) => ?_)
            refine z_xI zt196 83 rfl rfl (fun (x269 : Int32) (h270 : x269.toInt = x263.toInt + x265.toInt) => ?_) (z_pAdd rfl rfl (by omega) (by omega))
            refine z_xP zt196 84 186 [some (.ref 19), some (.int x40), some (.int 0), none] [.ref 19, .int x269, .ref 26] rfl rfl ?_
            refine z_xgv zt196 85 rfl zo196 zzf12_123 X256 f19 (by decide) h258 ?_
            have f26 : T[26]? = some (.inr (26, 0, 64, 0, 160)) := X256.1.k rfl (by decide)
            refine z_xis zt196 86 rfl X256 f26 (by decide) (by decide) (by omega) (by omega) (by omega) (by omega) (by decide) (fun M271 X272 e273 h274 => ?_)
            refine z_xP zt196 87 191 [some (.ref 19), some (.int x40), some (.int 0), none] [.ref 19] rfl rfl ?_
            refine z_xgX (b := 25) zt196 88 rfl zo196 zzf12_25 X272 f19 (by decide) (by decide) rfl ?_
            refine z_xP zt196 89 195 [some (.ref 19), some (.int x40), some (.int 0), none] [.ref 19, .ref 25] rfl rfl ?_
            have h275 := (e273.f f19 (by decide) h262)
            refine z_xgv zt196 90 rfl zo196 zzf12_133 X272 f19 (by decide) h275 ?_
            refine z_xP zt196 91 199 [some (.ref 19), some (.int x40), some (.int 0), none] [.int x33, .ref 25, .int x33, .ref 25] rfl rfl ?_
            refine z_xil zt196 92 rfl X272 f25 (by decide) (by omega) (by omega) (fun (x276 : Int32) h277 (h278 : 0 ≤ x276.toInt) (h279 : x276.toInt ≤ 8) => ?_)
            have h280 := congrArg Int32.toInt (h277.symm.trans ((congrFun (e273.a f25 (by decide)) _).trans h266))
            refine z_xP zt196 93 201 [some (.ref 19), some (.int x40), some (.int 0), none] [.int 1, .int x276, .int x33, .ref 25] rfl rfl ?_
            refine z_xI zt196 94 rfl rfl (fun (x281 : Int32) (h282 : x281.toInt = x276.toInt + 1) => ?_) (z_pAdd rfl rfl (by omega) (by omega))
            refine z_xis zt196 95 rfl X272 f25 (by decide) (by decide) (by omega) (by omega) (by omega) (by omega) (by decide) (fun M283 X284 e285 h286 => ?_)
            refine z_xP zt196 96 204 [some (.ref 19), some (.int x40), some (.int 0), none] [.ref 19] rfl rfl ?_
            refine z_xcV (vs := [.ref 19]) (r := []) (L2 := [some (.ref 19), none, none]) zt196 97 rfl zo196 zzcV12_169 (Or.inl rfl) rfl X284 f19 rfl rfl rfl (Nat.le_of_ble_eq_true rfl) zzm198 (Nat.le_of_ble_eq_true rfl) rfl ?_
            have h287 := (e285.f f19 (by decide) (e273.f f19 (by decide) h258))
            refine zC198 X284.1 h287 ⟨by omega, by omega⟩ (z_GL.go hL X284 (by decide)) (fun x294 M288 X289 h295 h296 z290 h291 h292 h293 => ?_)
            have X297 := X284.go X289 (z_sb (by decide))
            show z_ev (d + 972) 196 207 [some (.ref 19), some (.int x40), some (.int 0), none] [.int x294] M288 _
            refine z_xP zt196 98 208 [some (.ref 19), some (.int x40), some (.int 0), some (.int x294)] [] rfl rfl ?_
            exact z_xrv zt196 99 rfl zzr196 (kk M288 X297 z290 h291 ⟨by omega, by omega⟩ (by omega))
          refine z_xP zt192 7 16 [some (.ref 19), some (.int 32)] [.int 0] rfl rfl ?_
          refine z_xrz zt192 8 rfl zzr192 (by decide) (by decide) ?_
          show z_ev (d + 972) 196 111 [some (.ref 19), some (.int x40), some (.int 0), none] [.int 0] M215 _
          refine z_xZ zt196 48 rfl rfl (fun (h299 : (0 : Int) ≠ 0) => absurd h299 (by omega)) (fun (h299 : (0 : Int) = 0) => ?_)
          refine z_xP zt196 49 115 [some (.ref 19), some (.int x40), some (.int 0), none] [.ref 19] rfl rfl ?_
          refine z_xcV (vs := [.ref 19]) (r := []) (L2 := [some (.ref 19)]) zt196 50 rfl zo196 zzcV12_163 (Or.inl rfl) rfl X216 f19 rfl rfl rfl (Nat.le_of_ble_eq_true rfl) zzm194 (Nat.le_of_ble_eq_true rfl) rfl ?_
          refine z_xP zt194 0 2 [some (.ref 19)] [.ref 19, .ref 19] rfl rfl ?_
          refine z_xgv zt194 1 rfl zo194 zzf12_136 X216 f19 (by decide) h219 ?_
          refine z_xZ zt194 2 rfl rfl (fun (h300 : 0 ≤ x220.toInt) => absurd h300 (by omega)) (fun (h300 : x220.toInt < 0) => ?_)
          refine z_xP zt194 3 9 [some (.ref 19)] [.ref 19, .ref 19] rfl rfl ?_
          refine z_xgv zt194 4 rfl zo194 zzf12_123 X216 f19 (by decide) h218 ?_
          refine z_xP zt194 5 19 [some (.ref 19)] [.int x213, .ref 19] rfl rfl ?_
          refine z_xpf zt194 8 rfl zo194 zzf12_136 X216 f19 (by decide) (by decide) ⟨Int32.le_toInt _, Int32.toInt_le _⟩ rfl (by decide) zw12_26 (fun M301 X302 e303 h304 => ?_)
          refine z_xP zt194 9 23 [some (.ref 19)] [.int 0] rfl rfl ?_
          refine z_xrz zt194 10 rfl zzr194 (by decide) (by decide) ?_
          show z_ev (d + 972) 196 118 [some (.ref 19), some (.int x40), some (.int 0), none] [.int 0] M301 _
          refine z_xP zt196 51 119 [some (.ref 19), some (.int x40), some (.int 0), some (.int 0)] [] rfl rfl ?_
          have h305 := (e303.f f19 (by decide) h218)
          exact z_xrv zt196 52 rfl zzr196 (kk M301 X302 x213 h305 ⟨by omega, by omega⟩ (by omega))
        refine z_xP zt196 20 48 [some (.ref 19), some (.int x40), none, none] [.ref 19] rfl rfl ?_
        refine z_xgX (b := 25) zt196 21 rfl zo196 zzf12_25 X f19 (by decide) (by decide) rfl ?_
        refine z_xP zt196 22 52 [some (.ref 19), some (.int x40), none, none] [.ref 19, .ref 25] rfl rfl ?_
        refine z_xgv zt196 23 rfl zo196 zzf12_133 X f19 (by decide) h32 ?_
        have f25 : T[25]? = some (.inr (25, 0, 8, 0, 8)) := X.1.k rfl (by decide)
        refine z_xil zt196 24 rfl X f25 (by decide) (by omega) (by omega) (fun (x306 : Int32) h307 (h308 : 0 ≤ x306.toInt) (h309 : x306.toInt ≤ 8) => ?_)
        refine z_xP zt196 25 58 [some (.ref 19), some (.int x40), none, none] [.int 8, .int x306] rfl rfl ?_
        refine z_xJ zt196 26 rfl rfl (fun (h310 : x306.toInt ≠ 8) => ?_) (fun (h310 : x306.toInt = 8) => ?_)
        · skip
          refine z_xP zt196 28 66 [some (.ref 19), some (.int x40), none, none] [.int 0] rfl rfl ?_
          refine z_xP zt196 29 70 [some (.ref 19), some (.int x40), some (.int 0), none] [.int 112, .int x40] rfl rfl ?_
          refine z_xJ zt196 30 rfl rfl (fun (h311 : x40.toInt = 112) => absurd h311 (by omega)) (fun (h311 : x40.toInt ≠ 112) => ?_)
          refine z_xP zt196 31 76 [some (.ref 19), some (.int x40), some (.int 0), none] [.int 101, .int x40] rfl rfl ?_
          refine z_xJ zt196 32 rfl rfl (fun (h312 : x40.toInt = 101) => absurd h312 (by omega)) (fun (h312 : x40.toInt ≠ 101) => ?_)
          refine z_xP zt196 33 82 [some (.ref 19), some (.int x40), some (.int 0), none] [.int 116, .int x40] rfl rfl ?_
          refine z_xJ zt196 34 rfl rfl (fun (h313 : x40.toInt ≠ 116) => absurd h313 (by omega)) (fun (h313 : x40.toInt = 116) => ?_)
          refine z_xP zt196 35 86 [some (.ref 19), some (.int x40), some (.int 0), none] [.int 0] rfl rfl ?_
          refine z_xZ zt196 36 rfl rfl (fun (h314 : (0 : Int) = 0) => ?_) (fun (h314 : (0 : Int) ≠ 0) => absurd h314 (by omega))
          refine z_xP zt196 41 97 [some (.ref 19), some (.int x40), some (.int 0), none] [.ref 19, .ref 19] rfl rfl ?_
          refine z_xgv zt196 42 rfl zo196 zzf12_123 X f19 (by decide) hz0 ?_
          refine z_xP zt196 43 101 [some (.ref 19), some (.int x40), some (.int 0), none] [.int 1, .int zp0, .ref 19] rfl rfl ?_
          refine z_xI zt196 44 rfl rfl (fun (x315 : Int32) (h316 : x315.toInt = zp0.toInt + 1) => ?_) (z_pAdd rfl rfl (by omega) (by omega))
          refine z_xpf zt196 45 rfl zo196 zzf12_123 X f19 (by decide) (by decide) ⟨by omega, by omega⟩ rfl (by decide) zw12_24 (fun M317 X318 e319 h320 => ?_)
          refine z_xP zt196 46 108 [some (.ref 19), some (.int x40), some (.int 0), none] [.int 32, .ref 19] rfl rfl ?_
          refine z_xcV (vs := [.ref 19, .int 32]) (r := []) (L2 := [some (.ref 19), some (.int 32)]) zt196 47 rfl zo196 zzcV12_147 (Or.inl rfl) rfl X318 f19 rfl rfl rfl (Nat.le_of_ble_eq_true rfl) zzm192 (Nat.le_of_ble_eq_true rfl) rfl ?_
          refine z_xP zt192 0 1 [some (.ref 19), some (.int 32)] [.ref 19] rfl rfl ?_
          refine z_xgI zt192 1 rfl zo192 zzf12_136 X318 f19 (by decide) (by decide) rfl (fun (x322 : Int32) h321 (h323 : (-2147483648) ≤ x322.toInt) (h324 : x322.toInt ≤ 2147483647) => ?_)
          refine z_xZ zt192 2 rfl rfl (fun (h325 : 0 ≤ x322.toInt) => ?_) (fun (h325 : x322.toInt < 0) => ?_)
          · skip
            refine z_xP zt192 7 16 [some (.ref 19), some (.int 32)] [.int 0] rfl rfl ?_
            refine z_xrz zt192 8 rfl zzr192 (by decide) (by decide) ?_
            show z_ev (d + 972) 196 111 [some (.ref 19), some (.int x40), some (.int 0), none] [.int 0] M317 _
            refine z_xZ zt196 48 rfl rfl (fun (h326 : (0 : Int) ≠ 0) => absurd h326 (by omega)) (fun (h326 : (0 : Int) = 0) => ?_)
            refine z_xP zt196 49 115 [some (.ref 19), some (.int x40), some (.int 0), none] [.ref 19] rfl rfl ?_
            refine z_xcV (vs := [.ref 19]) (r := []) (L2 := [some (.ref 19)]) zt196 50 rfl zo196 zzcV12_163 (Or.inl rfl) rfl X318 f19 rfl rfl rfl (Nat.le_of_ble_eq_true rfl) zzm194 (Nat.le_of_ble_eq_true rfl) rfl ?_
            refine z_xP zt194 0 2 [some (.ref 19)] [.ref 19, .ref 19] rfl rfl ?_
            refine z_xgv zt194 1 rfl zo194 zzf12_136 X318 f19 (by decide) h321 ?_
            refine z_xZ zt194 2 rfl rfl (fun (h327 : 0 ≤ x322.toInt) => ?_) (fun (h327 : x322.toInt < 0) => absurd h327 (by omega))
            refine z_xP zt194 6 16 [some (.ref 19)] [.ref 19, .ref 19] rfl rfl ?_
            refine z_xgv zt194 7 rfl zo194 zzf12_136 X318 f19 (by decide) h321 ?_
            refine z_xpf zt194 8 rfl zo194 zzf12_136 X318 f19 (by decide) (by decide) ⟨Int32.le_toInt _, Int32.toInt_le _⟩ rfl (by decide) zw12_26 (fun M328 X329 e330 h331 => ?_)
            refine z_xP zt194 9 23 [some (.ref 19)] [.int 0] rfl rfl ?_
            refine z_xrz zt194 10 rfl zzr194 (by decide) (by decide) ?_
            show z_ev (d + 972) 196 118 [some (.ref 19), some (.int x40), some (.int 0), none] [.int 0] M328 _
            refine z_xP zt196 51 119 [some (.ref 19), some (.int x40), some (.int 0), some (.int 0)] [] rfl rfl ?_
            have h332 := (e330.f f19 (by decide) h320)
            exact z_xrv zt196 52 rfl zzr196 (kk M328 X329 x315 h332 ⟨by omega, by omega⟩ (by omega))
          refine z_xP zt192 3 8 [some (.ref 19), some (.int 32)] [.ref 19] rfl rfl ?_
          refine z_xcV (vs := [.ref 19]) (r := []) (L2 := [some (.ref 19)]) zt192 4 rfl zo192 zzcV12_139 (Or.inl rfl) rfl X318 f19 rfl rfl rfl (Nat.le_of_ble_eq_true rfl) zzm193 (Nat.le_of_ble_eq_true rfl) rfl ?_
          refine z_xP zt193 0 1 [some (.ref 19)] [.ref 19] rfl rfl ?_
          refine z_xgv zt193 1 rfl zo193 zzf12_123 X318 f19 (by decide) h320 ?_
          refine z_xP zt193 2 5 [some (.ref 19)] [.ref 19, .int x315] rfl rfl ?_
          have h333 := (e319.f f19 (by decide) h1)
          refine z_xgv zt193 3 rfl zo193 zzf12_126 X318 f19 (by decide) h333 ?_
          refine z_xJ zt193 4 rfl rfl (fun (h334 : x2.toInt ≤ x315.toInt) => ?_) (fun (h334 : x315.toInt < x2.toInt) => ?_)
          · skip
            refine z_xP zt193 24 52 [some (.ref 19)] [.int 0] rfl rfl ?_
            refine z_xri zt193 25 rfl zzr193 ?_
            show z_ev (d + 971) 192 11 [some (.ref 19), some (.int 32)] [.int 0] M317 _
            refine z_xP zt192 5 12 [some (.ref 19), some (.int 32)] [.int 32, .int 0] rfl rfl ?_
            refine z_xJ zt192 6 rfl rfl (fun (h335 : (0 : Int) = 32) => absurd h335 (by omega)) (fun (h335 : (0 : Int) ≠ 32) => ?_)
            refine z_xP zt192 7 16 [some (.ref 19), some (.int 32)] [.int 0] rfl rfl ?_
            refine z_xrz zt192 8 rfl zzr192 (by decide) (by decide) ?_
            show z_ev (d + 972) 196 111 [some (.ref 19), some (.int x40), some (.int 0), none] [.int 0] M317 _
            refine z_xZ zt196 48 rfl rfl (fun (h336 : (0 : Int) ≠ 0) => absurd h336 (by omega)) (fun (h336 : (0 : Int) = 0) => ?_)
            refine z_xP zt196 49 115 [some (.ref 19), some (.int x40), some (.int 0), none] [.ref 19] rfl rfl ?_
            refine z_xcV (vs := [.ref 19]) (r := []) (L2 := [some (.ref 19)]) zt196 50 rfl zo196 zzcV12_163 (Or.inl rfl) rfl X318 f19 rfl rfl rfl (Nat.le_of_ble_eq_true rfl) zzm194 (Nat.le_of_ble_eq_true rfl) rfl ?_
            refine z_xP zt194 0 2 [some (.ref 19)] [.ref 19, .ref 19] rfl rfl ?_
            refine z_xgv zt194 1 rfl zo194 zzf12_136 X318 f19 (by decide) h321 ?_
            refine z_xZ zt194 2 rfl rfl (fun (h337 : 0 ≤ x322.toInt) => absurd h337 (by omega)) (fun (h337 : x322.toInt < 0) => ?_)
            refine z_xP zt194 3 9 [some (.ref 19)] [.ref 19, .ref 19] rfl rfl ?_
            refine z_xgv zt194 4 rfl zo194 zzf12_123 X318 f19 (by decide) h320 ?_
            refine z_xP zt194 5 19 [some (.ref 19)] [.int x315, .ref 19] rfl rfl ?_
            refine z_xpf zt194 8 rfl zo194 zzf12_136 X318 f19 (by decide) (by decide) ⟨Int32.le_toInt _, Int32.toInt_le _⟩ rfl (by decide) zw12_26 (fun M338 X339 e340 h341 => ?_)
            refine z_xP zt194 9 23 [some (.ref 19)] [.int 0] rfl rfl ?_
            refine z_xrz zt194 10 rfl zzr194 (by decide) (by decide) ?_
            show z_ev (d + 972) 196 118 [some (.ref 19), some (.int x40), some (.int 0), none] [.int 0] M338 _
            refine z_xP zt196 51 119 [some (.ref 19), some (.int x40), some (.int 0), some (.int 0)] [] rfl rfl ?_
            have h342 := (e340.f f19 (by decide) h320)
            exact z_xrv zt196 52 rfl zzr196 (kk M338 X339 x315 h342 ⟨by omega, by omega⟩ (by omega))
          refine z_xP zt193 5 12 [some (.ref 19)] [.ref 19] rfl rfl ?_
          have h343 := (e319.f f19 (by decide) h27)
          refine z_xgv zt193 6 rfl zo193 zzf12_129 X318 f19 (by decide) h343 ?_
          refine z_xZ zt193 7 rfl rfl (fun (h344 : x28.toInt = 0) => ?_) (fun (h344 : x28.toInt ≠ 0) => absurd h344 (by omega))
          refine z_xP zt193 14 31 [some (.ref 19)] [.ref 19] rfl rfl ?_
          refine z_xgX (b := 21) zt193 15 rfl zo193 zzf12_13 X318 f19 (by decide) (by decide) rfl ?_
          refine z_xP zt193 16 38 [some (.ref 19)] [.ref 19, .int 160, .ref 21] rfl rfl ?_
          have h345 := (e319.f f19 (by decide) h32)
          refine z_xgv zt193 17 rfl zo193 zzf12_133 X318 f19 (by decide) h345 ?_
          refine z_xI zt193 18 rfl rfl (fun (x346 : Int32) (h347 : x346.toInt = 160 * x33.toInt) => ?_) (z_pMul rfl rfl (by omega) (by omega))
          refine z_xP zt193 19 43 [some (.ref 19)] [.ref 19, .int x346, .ref 21] rfl rfl ?_
          refine z_xgv zt193 20 rfl zo193 zzf12_123 X318 f19 (by decide) h320 ?_
          refine z_xI zt193 21 rfl rfl (fun (x348 : Int32) (h349 : x348.toInt = x346.toInt + x315.toInt) => ?_) (z_pAdd rfl rfl (by omega) (by omega))
          refine z_xil zt193 22 rfl X318 f21 (by decide) (by omega) (by omega) (fun (x350 : Int32) h351 (h352 : (-2147483648) ≤ x350.toInt) (h353 : x350.toInt ≤ 2147483647) => ?_)
          refine z_xP zt193 23 52 [some (.ref 19)] [.int x350] rfl rfl ?_
          refine z_xri zt193 25 rfl zzr193 ?_
          show z_ev (d + 971) 192 11 [some (.ref 19), some (.int 32)] [.int x350] M317 _
          refine z_xP zt192 5 12 [some (.ref 19), some (.int 32)] [.int 32, .int x350] rfl rfl ?_
          refine z_xJ zt192 6 rfl rfl (fun (h354 : x350.toInt = 32) => ?_) (fun (h354 : x350.toInt ≠ 32) => ?_)
          · skip
            refine z_xP zt192 9 19 [some (.ref 19), some (.int 32)] [.ref 19, .ref 19] rfl rfl ?_
            refine z_xgv zt192 10 rfl zo192 zzf12_123 X318 f19 (by decide) h320 ?_
            refine z_xP zt192 11 23 [some (.ref 19), some (.int 32)] [.int 1, .int x315, .ref 19] rfl rfl ?_
            refine z_xI zt192 12 rfl rfl (fun (x355 : Int32) (h356 : x355.toInt = x315.toInt + 1) => ?_) (z_pAdd rfl rfl (by omega) (by omega))
            refine z_xpf zt192 13 rfl zo192 zzf12_123 X318 f19 (by decide) (by decide) ⟨by omega, by omega⟩ rfl (by decide) zw12_24 (fun M357 X358 e359 h360 => ?_)
            refine z_xP zt192 14 28 [some (.ref 19), some (.int 32)] [.int 1] rfl rfl ?_
            refine z_xrz zt192 15 rfl zzr192 (by decide) (by decide) ?_
            show z_ev (d + 972) 196 111 [some (.ref 19), some (.int x40), some (.int 0), none] [.int 1] M357 _
            refine z_xZ zt196 48 rfl rfl (fun (h361 : (1 : Int) ≠ 0) => ?_) (fun (h361 : (1 : Int) = 0) => absurd h361 (by omega))
            refine z_xP zt196 53 123 [some (.ref 19), some (.int x40), some (.int 0), none] [.int 112, .int x40] rfl rfl ?_
            refine z_xJ zt196 54 rfl rfl (fun (h362 : x40.toInt ≠ 112) => ?_) (fun (h362 : x40.toInt = 112) => absurd h362 (by omega))
            refine z_xP zt196 63 145 [some (.ref 19), some (.int x40), some (.int 0), none] [.int 101, .int x40] rfl rfl ?_
            refine z_xJ zt196 64 rfl rfl (fun (h363 : x40.toInt ≠ 101) => ?_) (fun (h363 : x40.toInt = 101) => absurd h363 (by omega))
            refine z_xP zt196 73 165 [some (.ref 19), some (.int x40), some (.int 0), none] [.ref 19] rfl rfl ?_
            refine z_xgX (b := 26) zt196 74 rfl zo196 zzf12_28 X358 f19 (by decide) (by decide) rfl ?_
            refine z_xP zt196 75 171 [some (.ref 19), some (.int x40), some (.int 0), none] [.ref 19, .int 8, .ref 26] rfl rfl ?_
            have h364 := (e359.f f19 (by decide) h345)
            refine z_xgv zt196 76 rfl zo196 zzf12_133 X358 f19 (by decide) h364 ?_
            refine z_xI zt196 77 rfl rfl (fun (x365 : Int32) (h366 : x365.toInt = 8 * x33.toInt) => ?_) (z_pMul rfl rfl (by omega) (by omega))
            refine z_xP zt196 78 176 [some (.ref 19), some (.int x40), some (.int 0), none] [.ref 19, .int x365, .ref 26] rfl rfl ?_
            refine z_xgX (b := 25) zt196 79 rfl zo196 zzf12_25 X358 f19 (by decide) (by decide) rfl ?_
            refine z_xP zt196 80 180 [some (.ref 19), some (.int x40), some (.int 0), none] [.ref 19, .ref 25, .int x365, .ref 26] rfl rfl ?_
            refine z_xgv zt196 81 rfl zo196 zzf12_133 X358 f19 (by decide) h364 ?_
            refine z_xil zt196 82 rfl X358 f25 (by decide) (by omega) (by omega) (fun (x367 : Int32) h368 (h369 : 0 ≤ x367.toInt) (h370 : x367.toInt ≤ 8) => ?_)
            have h371 := congrArg Int32.toInt (h368.symm.trans ((congrFun (e359.a f25 (by decide)) _).trans ((congrFun (e319.a f25 (by decide)) _).trans h307)))
            refine z_xI zt196 83 rfl rfl (fun (x372 : Int32) (h373 : x372.toInt = x365.toInt + x367.toInt) => ?_) (z_pAdd rfl rfl (by omega) (by omega))
            refine z_xP zt196 84 186 [some (.ref 19), some (.int x40), some (.int 0), none] [.ref 19, .int x372, .ref 26] rfl rfl ?_
            refine z_xgv zt196 85 rfl zo196 zzf12_123 X358 f19 (by decide) h360 ?_
            have f26 : T[26]? = some (.inr (26, 0, 64, 0, 160)) := X358.1.k rfl (by decide)
            refine z_xis zt196 86 rfl X358 f26 (by decide) (by decide) (by omega) (by omega) (by omega) (by omega) (by decide) (fun M374 X375 e376 h377 => ?_)
            refine z_xP zt196 87 191 [some (.ref 19), some (.int x40), some (.int 0), none] [.ref 19] rfl rfl ?_
            refine z_xgX (b := 25) zt196 88 rfl zo196 zzf12_25 X375 f19 (by decide) (by decide) rfl ?_
            refine z_xP zt196 89 195 [some (.ref 19), some (.int x40), some (.int 0), none] [.ref 19, .ref 25] rfl rfl ?_
            have h378 := (e376.f f19 (by decide) h364)
            refine z_xgv zt196 90 rfl zo196 zzf12_133 X375 f19 (by decide) h378 ?_
            refine z_xP zt196 91 199 [some (.ref 19), some (.int x40), some (.int 0), none] [.int x33, .ref 25, .int x33, .ref 25] rfl rfl ?_
            refine z_xil zt196 92 rfl X375 f25 (by decide) (by omega) (by omega) (fun (x379 : Int32) h380 (h381 : 0 ≤ x379.toInt) (h382 : x379.toInt ≤ 8) => ?_)
            have h383 := congrArg Int32.toInt (h380.symm.trans ((congrFun (e376.a f25 (by decide)) _).trans ((congrFun (e359.a f25 (by decide)) _).trans ((congrFun (e319.a f25 (by decide)) _).trans h307))))
            refine z_xP zt196 93 201 [some (.ref 19), some (.int x40), some (.int 0), none] [.int 1, .int x379, .int x33, .ref 25] rfl rfl ?_
            refine z_xI zt196 94 rfl rfl (fun (x384 : Int32) (h385 : x384.toInt = x379.toInt + 1) => ?_) (z_pAdd rfl rfl (by omega) (by omega))
            refine z_xis zt196 95 rfl X375 f25 (by decide) (by decide) (by omega) (by omega) (by omega) (by omega) (by decide) (fun M386 X387 e388 h389 => ?_)
            refine z_xP zt196 96 204 [some (.ref 19), some (.int x40), some (.int 0), none] [.ref 19] rfl rfl ?_
            refine z_xcV (vs := [.ref 19]) (r := []) (L2 := [some (.ref 19), none, none]) zt196 97 rfl zo196 zzcV12_169 (Or.inl rfl) rfl X387 f19 rfl rfl rfl (Nat.le_of_ble_eq_true rfl) zzm198 (Nat.le_of_ble_eq_true rfl) rfl ?_
            have h390 := (e388.f f19 (by decide) (e376.f f19 (by decide) h360))
            refine zC198 X387.1 h390 ⟨by omega, by omega⟩ (z_GL.go hL X387 (by decide)) (fun x397 M391 X392 h398 h399 z393 h394 h395 h396 => ?_)
            have X400 := X387.go X392 (z_sb (by decide))
            show z_ev (d + 972) 196 207 [some (.ref 19), some (.int x40), some (.int 0), none] [.int x397] M391 _
            refine z_xP zt196 98 208 [some (.ref 19), some (.int x40), some (.int 0), some (.int x397)] [] rfl rfl ?_
            exact z_xrv zt196 99 rfl zzr196 (kk M391 X400 z393 h394 ⟨by omega, by omega⟩ (by omega))
          refine z_xP zt192 7 16 [some (.ref 19), some (.int 32)] [.int 0] rfl rfl ?_
          refine z_xrz zt192 8 rfl zzr192 (by decide) (by decide) ?_
          show z_ev (d + 972) 196 111 [some (.ref 19), some (.int x40), some (.int 0), none] [.int 0] M317 _
          refine z_xZ zt196 48 rfl rfl (fun (h402 : (0 : Int) ≠ 0) => absurd h402 (by omega)) (fun (h402 : (0 : Int) = 0) => ?_)
          refine z_xP zt196 49 115 [some (.ref 19), some (.int x40), some (.int 0), none] [.ref 19] rfl rfl ?_
          refine z_xcV (vs := [.ref 19]) (r := []) (L2 := [some (.ref 19)]) zt196 50 rfl zo196 zzcV12_163 (Or.inl rfl) rfl X318 f19 rfl rfl rfl (Nat.le_of_ble_eq_true rfl) zzm194 (Nat.le_of_ble_eq_true rfl) rfl ?_
          refine z_xP zt194 0 2 [some (.ref 19)] [.ref 19, .ref 19] rfl rfl ?_
          refine z_xgv zt194 1 rfl zo194 zzf12_136 X318 f19 (by decide) h321 ?_
          refine z_xZ zt194 2 rfl rfl (fun (h403 : 0 ≤ x322.toInt) => absurd h403 (by omega)) (fun (h403 : x322.toInt < 0) => ?_)
          refine z_xP zt194 3 9 [some (.ref 19)] [.ref 19, .ref 19] rfl rfl ?_
          refine z_xgv zt194 4 rfl zo194 zzf12_123 X318 f19 (by decide) h320 ?_
          refine z_xP zt194 5 19 [some (.ref 19)] [.int x315, .ref 19] rfl rfl ?_
          refine z_xpf zt194 8 rfl zo194 zzf12_136 X318 f19 (by decide) (by decide) ⟨Int32.le_toInt _, Int32.toInt_le _⟩ rfl (by decide) zw12_26 (fun M404 X405 e406 h407 => ?_)
          refine z_xP zt194 9 23 [some (.ref 19)] [.int 0] rfl rfl ?_
          refine z_xrz zt194 10 rfl zzr194 (by decide) (by decide) ?_
          show z_ev (d + 972) 196 118 [some (.ref 19), some (.int x40), some (.int 0), none] [.int 0] M404 _
          refine z_xP zt196 51 119 [some (.ref 19), some (.int x40), some (.int 0), some (.int 0)] [] rfl rfl ?_
          have h408 := (e406.f f19 (by decide) h320)
          exact z_xrv zt196 52 rfl zzr196 (kk M404 X405 x315 h408 ⟨by omega, by omega⟩ (by omega))
        refine z_xP zt196 27 66 [some (.ref 19), some (.int x40), none, none] [.int 1] rfl rfl ?_
        refine z_xP zt196 29 70 [some (.ref 19), some (.int x40), some (.int 1), none] [.int 112, .int x40] rfl rfl ?_
        refine z_xJ zt196 30 rfl rfl (fun (h409 : x40.toInt = 112) => absurd h409 (by omega)) (fun (h409 : x40.toInt ≠ 112) => ?_)
        refine z_xP zt196 31 76 [some (.ref 19), some (.int x40), some (.int 1), none] [.int 101, .int x40] rfl rfl ?_
        refine z_xJ zt196 32 rfl rfl (fun (h410 : x40.toInt = 101) => absurd h410 (by omega)) (fun (h410 : x40.toInt ≠ 101) => ?_)
        refine z_xP zt196 33 82 [some (.ref 19), some (.int x40), some (.int 1), none] [.int 116, .int x40] rfl rfl ?_
        refine z_xJ zt196 34 rfl rfl (fun (h411 : x40.toInt ≠ 116) => absurd h411 (by omega)) (fun (h411 : x40.toInt = 116) => ?_)
        refine z_xP zt196 35 86 [some (.ref 19), some (.int x40), some (.int 1), none] [.int 1] rfl rfl ?_
        refine z_xZ zt196 36 rfl rfl (fun (h412 : (1 : Int) = 0) => absurd h412 (by omega)) (fun (h412 : (1 : Int) ≠ 0) => ?_)
        refine z_xP zt196 37 90 [some (.ref 19), some (.int x40), some (.int 1), none] [.ref 19] rfl rfl ?_
        refine z_xcV (vs := [.ref 19]) (r := []) (L2 := [some (.ref 19)]) zt196 38 rfl zo196 zzcV12_163 (Or.inl rfl) rfl X f19 rfl rfl rfl (Nat.le_of_ble_eq_true rfl) zzm194 (Nat.le_of_ble_eq_true rfl) rfl ?_
        refine z_xP zt194 0 2 [some (.ref 19)] [.ref 19, .ref 19] rfl rfl ?_
        refine z_xgI zt194 1 rfl zo194 zzf12_136 X f19 (by decide) (by decide) rfl (fun (x414 : Int32) h413 (h415 : (-2147483648) ≤ x414.toInt) (h416 : x414.toInt ≤ 2147483647) => ?_)
        refine z_xZ zt194 2 rfl rfl (fun (h417 : 0 ≤ x414.toInt) => ?_) (fun (h417 : x414.toInt < 0) => ?_)
        · skip
          refine z_xP zt194 6 16 [some (.ref 19)] [.ref 19, .ref 19] rfl rfl ?_
          refine z_xgv zt194 7 rfl zo194 zzf12_136 X f19 (by decide) h413 ?_
          refine z_xpf zt194 8 rfl zo194 zzf12_136 X f19 (by decide) (by decide) ⟨Int32.le_toInt _, Int32.toInt_le _⟩ rfl (by decide) zw12_26 (fun M418 X419 e420 h421 => ?_)
          refine z_xP zt194 9 23 [some (.ref 19)] [.int 0] rfl rfl ?_
          refine z_xrz zt194 10 rfl zzr194 (by decide) (by decide) ?_
          show z_ev (d + 972) 196 93 [some (.ref 19), some (.int x40), some (.int 1), none] [.int 0] M418 _
          refine z_xP zt196 39 94 [some (.ref 19), some (.int x40), some (.int 1), some (.int 0)] [] rfl rfl ?_
          have h422 := (e420.f f19 (by decide) hz0)
          exact z_xrv zt196 40 rfl zzr196 (kk M418 X419 zp0 h422 ⟨by omega, by omega⟩ (by omega))
        refine z_xP zt194 3 9 [some (.ref 19)] [.ref 19, .ref 19] rfl rfl ?_
        refine z_xgv zt194 4 rfl zo194 zzf12_123 X f19 (by decide) hz0 ?_
        refine z_xP zt194 5 19 [some (.ref 19)] [.int zp0, .ref 19] rfl rfl ?_
        refine z_xpf zt194 8 rfl zo194 zzf12_136 X f19 (by decide) (by decide) ⟨Int32.le_toInt _, Int32.toInt_le _⟩ rfl (by decide) zw12_26 (fun M423 X424 e425 h426 => ?_)
        refine z_xP zt194 9 23 [some (.ref 19)] [.int 0] rfl rfl ?_
        refine z_xrz zt194 10 rfl zzr194 (by decide) (by decide) ?_
        show z_ev (d + 972) 196 93 [some (.ref 19), some (.int x40), some (.int 1), none] [.int 0] M423 _
        refine z_xP zt196 39 94 [some (.ref 19), some (.int x40), some (.int 1), some (.int 0)] [] rfl rfl ?_
        have h427 := (e425.f f19 (by decide) hz0)
        exact z_xrv zt196 40 rfl zzr196 (kk M423 X424 zp0 h427 ⟨by omega, by omega⟩ (by omega))
      refine z_xP zt196 12 30 [some (.ref 19), some (.int x40), none, none] [.ref 19] rfl rfl ?_
      refine z_xgX (b := 28) zt196 13 rfl zo196 zzf12_34 X f19 (by decide) (by decide) rfl ?_
      refine z_xP zt196 14 34 [some (.ref 19), some (.int x40), none, none] [.ref 19, .ref 28] rfl rfl ?_
      refine z_xgv zt196 15 rfl zo196 zzf12_133 X f19 (by decide) h32 ?_
      have f28 : T[28]? = some (.inr (28, 0, 8, (-2147483648), 2147483647)) := X.1.k rfl (by decide)
      refine z_xil zt196 16 rfl X f28 (by decide) (by omega) (by omega) (fun (x428 : Int32) h429 (h430 : (-2147483648) ≤ x428.toInt) (h431 : x428.toInt ≤ 2147483647) => ?_)
      refine z_xZ zt196 17 rfl rfl (fun (h432 : 0 < x428.toInt) => ?_) (fun (h432 : x428.toInt ≤ 0) => ?_)
      · skip
        refine z_xP zt196 27 66 [some (.ref 19), some (.int x40), none, none] [.int 1] rfl rfl ?_
        refine z_xP zt196 29 70 [some (.ref 19), some (.int x40), some (.int 1), none] [.int 112, .int x40] rfl rfl ?_
        refine z_xJ zt196 30 rfl rfl (fun (h433 : x40.toInt = 112) => absurd h433 (by omega)) (fun (h433 : x40.toInt ≠ 112) => ?_)
        refine z_xP zt196 31 76 [some (.ref 19), some (.int x40), some (.int 1), none] [.int 101, .int x40] rfl rfl ?_
        refine z_xJ zt196 32 rfl rfl (fun (h434 : x40.toInt = 101) => ?_) (fun (h434 : x40.toInt ≠ 101) => absurd h434 (by omega))
        refine z_xP zt196 35 86 [some (.ref 19), some (.int x40), some (.int 1), none] [.int 1] rfl rfl ?_
        refine z_xZ zt196 36 rfl rfl (fun (h435 : (1 : Int) = 0) => absurd h435 (by omega)) (fun (h435 : (1 : Int) ≠ 0) => ?_)
        refine z_xP zt196 37 90 [some (.ref 19), some (.int x40), some (.int 1), none] [.ref 19] rfl rfl ?_
        refine z_xcV (vs := [.ref 19]) (r := []) (L2 := [some (.ref 19)]) zt196 38 rfl zo196 zzcV12_163 (Or.inl rfl) rfl X f19 rfl rfl rfl (Nat.le_of_ble_eq_true rfl) zzm194 (Nat.le_of_ble_eq_true rfl) rfl ?_
        refine z_xP zt194 0 2 [some (.ref 19)] [.ref 19, .ref 19] rfl rfl ?_
        refine z_xgI zt194 1 rfl zo194 zzf12_136 X f19 (by decide) (by decide) rfl (fun (x437 : Int32) h436 (h438 : (-2147483648) ≤ x437.toInt) (h439 : x437.toInt ≤ 2147483647) => ?_)
        refine z_xZ zt194 2 rfl rfl (fun (h440 : 0 ≤ x437.toInt) => ?_) (fun (h440 : x437.toInt < 0) => ?_)
        · skip
          refine z_xP zt194 6 16 [some (.ref 19)] [.ref 19, .ref 19] rfl rfl ?_
          refine z_xgv zt194 7 rfl zo194 zzf12_136 X f19 (by decide) h436 ?_
          refine z_xpf zt194 8 rfl zo194 zzf12_136 X f19 (by decide) (by decide) ⟨Int32.le_toInt _, Int32.toInt_le _⟩ rfl (by decide) zw12_26 (fun M441 X442 e443 h444 => ?_)
          refine z_xP zt194 9 23 [some (.ref 19)] [.int 0] rfl rfl ?_
          refine z_xrz zt194 10 rfl zzr194 (by decide) (by decide) ?_
          show z_ev (d + 972) 196 93 [some (.ref 19), some (.int x40), some (.int 1), none] [.int 0] M441 _
          refine z_xP zt196 39 94 [some (.ref 19), some (.int x40), some (.int 1), some (.int 0)] [] rfl rfl ?_
          have h445 := (e443.f f19 (by decide) hz0)
          exact z_xrv zt196 40 rfl zzr196 (kk M441 X442 zp0 h445 ⟨by omega, by omega⟩ (by omega))
        refine z_xP zt194 3 9 [some (.ref 19)] [.ref 19, .ref 19] rfl rfl ?_
        refine z_xgv zt194 4 rfl zo194 zzf12_123 X f19 (by decide) hz0 ?_
        refine z_xP zt194 5 19 [some (.ref 19)] [.int zp0, .ref 19] rfl rfl ?_
        refine z_xpf zt194 8 rfl zo194 zzf12_136 X f19 (by decide) (by decide) ⟨Int32.le_toInt _, Int32.toInt_le _⟩ rfl (by decide) zw12_26 (fun M446 X447 e448 h449 => ?_)
        refine z_xP zt194 9 23 [some (.ref 19)] [.int 0] rfl rfl ?_
        refine z_xrz zt194 10 rfl zzr194 (by decide) (by decide) ?_
        show z_ev (d + 972) 196 93 [some (.ref 19), some (.int x40), some (.int 1), none] [.int 0] M446 _
        refine z_xP zt196 39 94 [some (.ref 19), some (.int x40), some (.int 1), some (.int 0)] [] rfl rfl ?_
        have h450 := (e448.f f19 (by decide) hz0)
        exact z_xrv zt196 40 rfl zzr196 (kk M446 X447 zp0 h450 ⟨by omega, by omega⟩ (by omega))
      refine z_xP zt196 18 44 [some (.ref 19), some (.int x40), none, none] [.int 116, .int x40] rfl rfl ?_
      refine z_xJ zt196 19 rfl rfl (fun (h451 : x40.toInt ≠ 116) => ?_) (fun (h451 : x40.toInt = 116) => absurd h451 (by omega))
      refine z_xP zt196 28 66 [some (.ref 19), some (.int x40), none, none] [.int 0] rfl rfl ?_
      refine z_xP zt196 29 70 [some (.ref 19), some (.int x40), some (.int 0), none] [.int 112, .int x40] rfl rfl ?_
      refine z_xJ zt196 30 rfl rfl (fun (h452 : x40.toInt = 112) => absurd h452 (by omega)) (fun (h452 : x40.toInt ≠ 112) => ?_)
      refine z_xP zt196 31 76 [some (.ref 19), some (.int x40), some (.int 0), none] [.int 101, .int x40] rfl rfl ?_
      refine z_xJ zt196 32 rfl rfl (fun (h453 : x40.toInt = 101) => ?_) (fun (h453 : x40.toInt ≠ 101) => absurd h453 (by omega))
      refine z_xP zt196 35 86 [some (.ref 19), some (.int x40), some (.int 0), none] [.int 0] rfl rfl ?_
      refine z_xZ zt196 36 rfl rfl (fun (h454 : (0 : Int) = 0) => ?_) (fun (h454 : (0 : Int) ≠ 0) => absurd h454 (by omega))
      refine z_xP zt196 41 97 [some (.ref 19), some (.int x40), some (.int 0), none] [.ref 19, .ref 19] rfl rfl ?_
      refine z_xgv zt196 42 rfl zo196 zzf12_123 X f19 (by decide) hz0 ?_
      refine z_xP zt196 43 101 [some (.ref 19), some (.int x40), some (.int 0), none] [.int 1, .int zp0, .ref 19] rfl rfl ?_
      refine z_xI zt196 44 rfl rfl (fun (x455 : Int32) (h456 : x455.toInt = zp0.toInt + 1) => ?_) (z_pAdd rfl rfl (by omega) (by omega))
      refine z_xpf zt196 45 rfl zo196 zzf12_123 X f19 (by decide) (by decide) ⟨by omega, by omega⟩ rfl (by decide) zw12_24 (fun M457 X458 e459 h460 => ?_)
      refine z_xP zt196 46 108 [some (.ref 19), some (.int x40), some (.int 0), none] [.int 32, .ref 19] rfl rfl ?_
      refine z_xcV (vs := [.ref 19, .int 32]) (r := []) (L2 := [some (.ref 19), some (.int 32)]) zt196 47 rfl zo196 zzcV12_147 (Or.inl rfl) rfl X458 f19 rfl rfl rfl (Nat.le_of_ble_eq_true rfl) zzm192 (Nat.le_of_ble_eq_true rfl) rfl ?_
      refine z_xP zt192 0 1 [some (.ref 19), some (.int 32)] [.ref 19] rfl rfl ?_
      refine z_xgI zt192 1 rfl zo192 zzf12_136 X458 f19 (by decide) (by decide) rfl (fun (x462 : Int32) h461 (h463 : (-2147483648) ≤ x462.toInt) (h464 : x462.toInt ≤ 2147483647) => ?_)
      refine z_xZ zt192 2 rfl rfl (fun (h465 : 0 ≤ x462.toInt) => ?_) (fun (h465 : x462.toInt < 0) => ?_)
      · skip
        refine z_xP zt192 7 16 [some (.ref 19), some (.int 32)] [.int 0] rfl rfl ?_
        refine z_xrz zt192 8 rfl zzr192 (by decide) (by decide) ?_
        show z_ev (d + 972) 196 111 [some (.ref 19), some (.int x40), some (.int 0), none] [.int 0] M457 _
        refine z_xZ zt196 48 rfl rfl (fun (h466 : (0 : Int) ≠ 0) => absurd h466 (by omega)) (fun (h466 : (0 : Int) = 0) => ?_)
        refine z_xP zt196 49 115 [some (.ref 19), some (.int x40), some (.int 0), none] [.ref 19] rfl rfl ?_
        refine z_xcV (vs := [.ref 19]) (r := []) (L2 := [some (.ref 19)]) zt196 50 rfl zo196 zzcV12_163 (Or.inl rfl) rfl X458 f19 rfl rfl rfl (Nat.le_of_ble_eq_true rfl) zzm194 (Nat.le_of_ble_eq_true rfl) rfl ?_
        refine z_xP zt194 0 2 [some (.ref 19)] [.ref 19, .ref 19] rfl rfl ?_
        refine z_xgv zt194 1 rfl zo194 zzf12_136 X458 f19 (by decide) h461 ?_
        refine z_xZ zt194 2 rfl rfl (fun (h467 : 0 ≤ x462.toInt) => ?_) (fun (h467 : x462.toInt < 0) => absurd h467 (by omega))
        refine z_xP zt194 6 16 [some (.ref 19)] [.ref 19, .ref 19] rfl rfl ?_
        refine z_xgv zt194 7 rfl zo194 zzf12_136 X458 f19 (by decide) h461 ?_
        refine z_xpf zt194 8 rfl zo194 zzf12_136 X458 f19 (by decide) (by decide) ⟨Int32.le_toInt _, Int32.toInt_le _⟩ rfl (by decide) zw12_26 (fun M468 X469 e470 h471 => ?_)
        refine z_xP zt194 9 23 [some (.ref 19)] [.int 0] rfl rfl ?_
        refine z_xrz zt194 10 rfl zzr194 (by decide) (by decide) ?_
        show z_ev (d + 972) 196 118 [some (.ref 19), some (.int x40), some (.int 0), none] [.int 0] M468 _
        refine z_xP zt196 51 119 [some (.ref 19), some (.int x40), some (.int 0), some (.int 0)] [] rfl rfl ?_
        have h472 := (e470.f f19 (by decide) h460)
        exact z_xrv zt196 52 rfl zzr196 (kk M468 X469 x455 h472 ⟨by omega, by omega⟩ (by omega))
      refine z_xP zt192 3 8 [some (.ref 19), some (.int 32)] [.ref 19] rfl rfl ?_
      refine z_xcV (vs := [.ref 19]) (r := []) (L2 := [some (.ref 19)]) zt192 4 rfl zo192 zzcV12_139 (Or.inl rfl) rfl X458 f19 rfl rfl rfl (Nat.le_of_ble_eq_true rfl) zzm193 (Nat.le_of_ble_eq_true rfl) rfl ?_
      refine z_xP zt193 0 1 [some (.ref 19)] [.ref 19] rfl rfl ?_
      refine z_xgv zt193 1 rfl zo193 zzf12_123 X458 f19 (by decide) h460 ?_
      refine z_xP zt193 2 5 [some (.ref 19)] [.ref 19, .int x455] rfl rfl ?_
      have h473 := (e459.f f19 (by decide) h1)
      refine z_xgv zt193 3 rfl zo193 zzf12_126 X458 f19 (by decide) h473 ?_
      refine z_xJ zt193 4 rfl rfl (fun (h474 : x2.toInt ≤ x455.toInt) => ?_) (fun (h474 : x455.toInt < x2.toInt) => ?_)
      · skip
        refine z_xP zt193 24 52 [some (.ref 19)] [.int 0] rfl rfl ?_
        refine z_xri zt193 25 rfl zzr193 ?_
        show z_ev (d + 971) 192 11 [some (.ref 19), some (.int 32)] [.int 0] M457 _
        refine z_xP zt192 5 12 [some (.ref 19), some (.int 32)] [.int 32, .int 0] rfl rfl ?_
        refine z_xJ zt192 6 rfl rfl (fun (h475 : (0 : Int) = 32) => absurd h475 (by omega)) (fun (h475 : (0 : Int) ≠ 32) => ?_)
        refine z_xP zt192 7 16 [some (.ref 19), some (.int 32)] [.int 0] rfl rfl ?_
        refine z_xrz zt192 8 rfl zzr192 (by decide) (by decide) ?_
        show z_ev (d + 972) 196 111 [some (.ref 19), some (.int x40), some (.int 0), none] [.int 0] M457 _
        refine z_xZ zt196 48 rfl rfl (fun (h476 : (0 : Int) ≠ 0) => absurd h476 (by omega)) (fun (h476 : (0 : Int) = 0) => ?_)
        refine z_xP zt196 49 115 [some (.ref 19), some (.int x40), some (.int 0), none] [.ref 19] rfl rfl ?_
        refine z_xcV (vs := [.ref 19]) (r := []) (L2 := [some (.ref 19)]) zt196 50 rfl zo196 zzcV12_163 (Or.inl rfl) rfl X458 f19 rfl rfl rfl (Nat.le_of_ble_eq_true rfl) zzm194 (Nat.le_of_ble_eq_true rfl) rfl ?_
        refine z_xP zt194 0 2 [some (.ref 19)] [.ref 19, .ref 19] rfl rfl ?_
        refine z_xgv zt194 1 rfl zo194 zzf12_136 X458 f19 (by decide) h461 ?_
        refine z_xZ zt194 2 rfl rfl (fun (h477 : 0 ≤ x462.toInt) => absurd h477 (by omega)) (fun (h477 : x462.toInt < 0) => ?_)
        refine z_xP zt194 3 9 [some (.ref 19)] [.ref 19, .ref 19] rfl rfl ?_
        refine z_xgv zt194 4 rfl zo194 zzf12_123 X458 f19 (by decide) h460 ?_
        refine z_xP zt194 5 19 [some (.ref 19)] [.int x455, .ref 19] rfl rfl ?_
        refine z_xpf zt194 8 rfl zo194 zzf12_136 X458 f19 (by decide) (by decide) ⟨Int32.le_toInt _, Int32.toInt_le _⟩ rfl (by decide) zw12_26 (fun M478 X479 e480 h481 => ?_)
        refine z_xP zt194 9 23 [some (.ref 19)] [.int 0] rfl rfl ?_
        refine z_xrz zt194 10 rfl zzr194 (by decide) (by decide) ?_
        show z_ev (d + 972) 196 118 [some (.ref 19), some (.int x40), some (.int 0), none] [.int 0] M478 _
        refine z_xP zt196 51 119 [some (.ref 19), some (.int x40), some (.int 0), some (.int 0)] [] rfl rfl ?_
        have h482 := (e480.f f19 (by decide) h460)
        exact z_xrv zt196 52 rfl zzr196 (kk M478 X479 x455 h482 ⟨by omega, by omega⟩ (by omega))
      refine z_xP zt193 5 12 [some (.ref 19)] [.ref 19] rfl rfl ?_
      have h483 := (e459.f f19 (by decide) h27)
      refine z_xgv zt193 6 rfl zo193 zzf12_129 X458 f19 (by decide) h483 ?_
      refine z_xZ zt193 7 rfl rfl (fun (h484 : x28.toInt = 0) => ?_) (fun (h484 : x28.toInt ≠ 0) => absurd h484 (by omega))
      refine z_xP zt193 14 31 [some (.ref 19)] [.ref 19] rfl rfl ?_
      refine z_xgX (b := 21) zt193 15 rfl zo193 zzf12_13 X458 f19 (by decide) (by decide) rfl ?_
      refine z_xP zt193 16 38 [some (.ref 19)] [.ref 19, .int 160, .ref 21] rfl rfl ?_
      have h485 := (e459.f f19 (by decide) h32)
      refine z_xgv zt193 17 rfl zo193 zzf12_133 X458 f19 (by decide) h485 ?_
      refine z_xI zt193 18 rfl rfl (fun (x486 : Int32) (h487 : x486.toInt = 160 * x33.toInt) => ?_) (z_pMul rfl rfl (by omega) (by omega))
      refine z_xP zt193 19 43 [some (.ref 19)] [.ref 19, .int x486, .ref 21] rfl rfl ?_
      refine z_xgv zt193 20 rfl zo193 zzf12_123 X458 f19 (by decide) h460 ?_
      refine z_xI zt193 21 rfl rfl (fun (x488 : Int32) (h489 : x488.toInt = x486.toInt + x455.toInt) => ?_) (z_pAdd rfl rfl (by omega) (by omega))
      refine z_xil zt193 22 rfl X458 f21 (by decide) (by omega) (by omega) (fun (x490 : Int32) h491 (h492 : (-2147483648) ≤ x490.toInt) (h493 : x490.toInt ≤ 2147483647) => ?_)
      refine z_xP zt193 23 52 [some (.ref 19)] [.int x490] rfl rfl ?_
      refine z_xri zt193 25 rfl zzr193 ?_
      show z_ev (d + 971) 192 11 [some (.ref 19), some (.int 32)] [.int x490] M457 _
      refine z_xP zt192 5 12 [some (.ref 19), some (.int 32)] [.int 32, .int x490] rfl rfl ?_
      refine z_xJ zt192 6 rfl rfl (fun (h494 : x490.toInt = 32) => ?_) (fun (h494 : x490.toInt ≠ 32) => ?_)
      · skip
        refine z_xP zt192 9 19 [some (.ref 19), some (.int 32)] [.ref 19, .ref 19] rfl rfl ?_
        refine z_xgv zt192 10 rfl zo192 zzf12_123 X458 f19 (by decide) h460 ?_
        refine z_xP zt192 11 23 [some (.ref 19), some (.int 32)] [.int 1, .int x455, .ref 19] rfl rfl ?_
        refine z_xI zt192 12 rfl rfl (fun (x495 : Int32) (h496 : x495.toInt = x455.toInt + 1) => ?_) (z_pAdd rfl rfl (by omega) (by omega))
        refine z_xpf zt192 13 rfl zo192 zzf12_123 X458 f19 (by decide) (by decide) ⟨by omega, by omega⟩ rfl (by decide) zw12_24 (fun M497 X498 e499 h500 => ?_)
        refine z_xP zt192 14 28 [some (.ref 19), some (.int 32)] [.int 1] rfl rfl ?_
        refine z_xrz zt192 15 rfl zzr192 (by decide) (by decide) ?_
        show z_ev (d + 972) 196 111 [some (.ref 19), some (.int x40), some (.int 0), none] [.int 1] M497 _
        refine z_xZ zt196 48 rfl rfl (fun (h501 : (1 : Int) ≠ 0) => ?_) (fun (h501 : (1 : Int) = 0) => absurd h501 (by omega))
        refine z_xP zt196 53 123 [some (.ref 19), some (.int x40), some (.int 0), none] [.int 112, .int x40] rfl rfl ?_
        refine z_xJ zt196 54 rfl rfl (fun (h502 : x40.toInt ≠ 112) => ?_) (fun (h502 : x40.toInt = 112) => absurd h502 (by omega))
        refine z_xP zt196 63 145 [some (.ref 19), some (.int x40), some (.int 0), none] [.int 101, .int x40] rfl rfl ?_
        refine z_xJ zt196 64 rfl rfl (fun (h503 : x40.toInt ≠ 101) => absurd h503 (by omega)) (fun (h503 : x40.toInt = 101) => ?_)
        refine z_xP zt196 65 149 [some (.ref 19), some (.int x40), some (.int 0), none] [.ref 19] rfl rfl ?_
        refine z_xgX (b := 28) zt196 66 rfl zo196 zzf12_34 X498 f19 (by decide) (by decide) rfl ?_
        refine z_xP zt196 67 153 [some (.ref 19), some (.int x40), some (.int 0), none] [.ref 19, .ref 28] rfl rfl ?_
        have h504 := (e499.f f19 (by decide) h485)
        refine z_xgv zt196 68 rfl zo196 zzf12_133 X498 f19 (by decide) h504 ?_
        refine z_xP zt196 69 157 [some (.ref 19), some (.int x40), some (.int 0), none] [.ref 19, .int x33, .ref 28] rfl rfl ?_
        refine z_xcV (vs := [.ref 19]) (r := [.int x33, .ref 28]) (L2 := [some (.ref 19), none, none, none, none]) zt196 70 rfl zo196 zzcV12_190 (Or.inl rfl) rfl X498 f19 rfl rfl rfl (Nat.le_of_ble_eq_true rfl) zzm197 (Nat.le_of_ble_eq_true rfl) rfl ?_
        refine zC197 X498.1 h500 ⟨by omega, by omega⟩ (z_GL.go hL X498 (by decide)) (fun x511 M505 X506 h512 h513 z507 h508 h509 h510 => ?_)
        have X514 := X498.go X506 (z_sb (by decide))
        show z_ev (d + 972) 196 160 [some (.ref 19), some (.int x40), some (.int 0), none] [.int x511, .int x33, .ref 28] M505 _
        refine z_xis zt196 71 rfl X514 f28 (by decide) (by decide) (by omega) (by omega) (Int32.le_toInt _) (Int32.toInt_le _) (by decide) (fun M516 X517 e518 h519 => ?_)
        refine z_xP zt196 72 208 [some (.ref 19), some (.int x40), some (.int 0), none] [] rfl rfl ?_
        have h520 := (e518.f f19 (by decide) h508)
        exact z_xrv zt196 99 rfl zzr196 (kk M516 X517 z507 h520 ⟨by omega, by omega⟩ (by omega))
      refine z_xP zt192 7 16 [some (.ref 19), some (.int 32)] [.int 0] rfl rfl ?_
      refine z_xrz zt192 8 rfl zzr192 (by decide) (by decide) ?_
      show z_ev (d + 972) 196 111 [some (.ref 19), some (.int x40), some (.int 0), none] [.int 0] M457 _
      refine z_xZ zt196 48 rfl rfl (fun (h521 : (0 : Int) ≠ 0) => absurd h521 (by omega)) (fun (h521 : (0 : Int) = 0) => ?_)
      refine z_xP zt196 49 115 [some (.ref 19), some (.int x40), some (.int 0), none] [.ref 19] rfl rfl ?_
      refine z_xcV (vs := [.ref 19]) (r := []) (L2 := [some (.ref 19)]) zt196 50 rfl zo196 zzcV12_163 (Or.inl rfl) rfl X458 f19 rfl rfl rfl (Nat.le_of_ble_eq_true rfl) zzm194 (Nat.le_of_ble_eq_true rfl) rfl ?_
      refine z_xP zt194 0 2 [some (.ref 19)] [.ref 19, .ref 19] rfl rfl ?_
      refine z_xgv zt194 1 rfl zo194 zzf12_136 X458 f19 (by decide) h461 ?_
      refine z_xZ zt194 2 rfl rfl (fun (h522 : 0 ≤ x462.toInt) => absurd h522 (by omega)) (fun (h522 : x462.toInt < 0) => ?_)
      refine z_xP zt194 3 9 [some (.ref 19)] [.ref 19, .ref 19] rfl rfl ?_
      refine z_xgv zt194 4 rfl zo194 zzf12_123 X458 f19 (by decide) h460 ?_
      refine z_xP zt194 5 19 [some (.ref 19)] [.int x455, .ref 19] rfl rfl ?_
      refine z_xpf zt194 8 rfl zo194 zzf12_136 X458 f19 (by decide) (by decide) ⟨Int32.le_toInt _, Int32.toInt_le _⟩ rfl (by decide) zw12_26 (fun M523 X524 e525 h526 => ?_)
      refine z_xP zt194 9 23 [some (.ref 19)] [.int 0] rfl rfl ?_
      refine z_xrz zt194 10 rfl zzr194 (by decide) (by decide) ?_
      show z_ev (d + 972) 196 118 [some (.ref 19), some (.int x40), some (.int 0), none] [.int 0] M523 _
      refine z_xP zt196 51 119 [some (.ref 19), some (.int x40), some (.int 0), some (.int 0)] [] rfl rfl ?_
      have h527 := (e525.f f19 (by decide) h460)
      exact z_xrv zt196 52 rfl zzr196 (kk M523 X524 x455 h527 ⟨by omega, by omega⟩ (by omega))
    refine z_xP zt196 4 12 [some (.ref 19), some (.int x40), none, none] [.ref 19] rfl rfl ?_
    refine z_xgX (b := 27) zt196 5 rfl zo196 zzf12_31 X f19 (by decide) (by decide) rfl ?_
    refine z_xP zt196 6 16 [some (.ref 19), some (.int x40), none, none] [.ref 19, .ref 27] rfl rfl ?_
    refine z_xgv zt196 7 rfl zo196 zzf12_133 X f19 (by decide) h32 ?_
    have f27 : T[27]? = some (.inr (27, 0, 8, (-2147483648), 2147483647)) := X.1.k rfl (by decide)
    refine z_xil zt196 8 rfl X f27 (by decide) (by omega) (by omega) (fun (x528 : Int32) h529 (h530 : (-2147483648) ≤ x528.toInt) (h531 : x528.toInt ≤ 2147483647) => ?_)
    refine z_xZ zt196 9 rfl rfl (fun (h532 : 0 < x528.toInt) => ?_) (fun (h532 : x528.toInt ≤ 0) => ?_)
    · skip
      refine z_xP zt196 27 66 [some (.ref 19), some (.int x40), none, none] [.int 1] rfl rfl ?_
      refine z_xP zt196 29 70 [some (.ref 19), some (.int x40), some (.int 1), none] [.int 112, .int x40] rfl rfl ?_
      refine z_xJ zt196 30 rfl rfl (fun (h533 : x40.toInt = 112) => ?_) (fun (h533 : x40.toInt ≠ 112) => absurd h533 (by omega))
      refine z_xP zt196 35 86 [some (.ref 19), some (.int x40), some (.int 1), none] [.int 1] rfl rfl ?_
      refine z_xZ zt196 36 rfl rfl (fun (h534 : (1 : Int) = 0) => absurd h534 (by omega)) (fun (h534 : (1 : Int) ≠ 0) => ?_)
      refine z_xP zt196 37 90 [some (.ref 19), some (.int x40), some (.int 1), none] [.ref 19] rfl rfl ?_
      refine z_xcV (vs := [.ref 19]) (r := []) (L2 := [some (.ref 19)]) zt196 38 rfl zo196 zzcV12_163 (Or.inl rfl) rfl X f19 rfl rfl rfl (Nat.le_of_ble_eq_true rfl) zzm194 (Nat.le_of_ble_eq_true rfl) rfl ?_
      refine z_xP zt194 0 2 [some (.ref 19)] [.ref 19, .ref 19] rfl rfl ?_
      refine z_xgI zt194 1 rfl zo194 zzf12_136 X f19 (by decide) (by decide) rfl (fun (x536 : Int32) h535 (h537 : (-2147483648) ≤ x536.toInt) (h538 : x536.toInt ≤ 2147483647) => ?_)
      refine z_xZ zt194 2 rfl rfl (fun (h539 : 0 ≤ x536.toInt) => ?_) (fun (h539 : x536.toInt < 0) => ?_)
      · skip
        refine z_xP zt194 6 16 [some (.ref 19)] [.ref 19, .ref 19] rfl rfl ?_
        refine z_xgv zt194 7 rfl zo194 zzf12_136 X f19 (by decide) h535 ?_
        refine z_xpf zt194 8 rfl zo194 zzf12_136 X f19 (by decide) (by decide) ⟨Int32.le_toInt _, Int32.toInt_le _⟩ rfl (by decide) zw12_26 (fun M540 X541 e542 h543 => ?_)
        refine z_xP zt194 9 23 [some (.ref 19)] [.int 0] rfl rfl ?_
        refine z_xrz zt194 10 rfl zzr194 (by decide) (by decide) ?_
        show z_ev (d + 972) 196 93 [some (.ref 19), some (.int x40), some (.int 1), none] [.int 0] M540 _
        refine z_xP zt196 39 94 [some (.ref 19), some (.int x40), some (.int 1), some (.int 0)] [] rfl rfl ?_
        have h544 := (e542.f f19 (by decide) hz0)
        exact z_xrv zt196 40 rfl zzr196 (kk M540 X541 zp0 h544 ⟨by omega, by omega⟩ (by omega))
      refine z_xP zt194 3 9 [some (.ref 19)] [.ref 19, .ref 19] rfl rfl ?_
      refine z_xgv zt194 4 rfl zo194 zzf12_123 X f19 (by decide) hz0 ?_
      refine z_xP zt194 5 19 [some (.ref 19)] [.int zp0, .ref 19] rfl rfl ?_
      refine z_xpf zt194 8 rfl zo194 zzf12_136 X f19 (by decide) (by decide) ⟨Int32.le_toInt _, Int32.toInt_le _⟩ rfl (by decide) zw12_26 (fun M545 X546 e547 h548 => ?_)
      refine z_xP zt194 9 23 [some (.ref 19)] [.int 0] rfl rfl ?_
      refine z_xrz zt194 10 rfl zzr194 (by decide) (by decide) ?_
      show z_ev (d + 972) 196 93 [some (.ref 19), some (.int x40), some (.int 1), none] [.int 0] M545 _
      refine z_xP zt196 39 94 [some (.ref 19), some (.int x40), some (.int 1), some (.int 0)] [] rfl rfl ?_
      have h549 := (e547.f f19 (by decide) hz0)
      exact z_xrv zt196 40 rfl zzr196 (kk M545 X546 zp0 h549 ⟨by omega, by omega⟩ (by omega))
    refine z_xP zt196 10 26 [some (.ref 19), some (.int x40), none, none] [.int 101, .int x40] rfl rfl ?_
    refine z_xJ zt196 11 rfl rfl (fun (h550 : x40.toInt ≠ 101) => ?_) (fun (h550 : x40.toInt = 101) => absurd h550 (by omega))
    refine z_xP zt196 18 44 [some (.ref 19), some (.int x40), none, none] [.int 116, .int x40] rfl rfl ?_
    refine z_xJ zt196 19 rfl rfl (fun (h551 : x40.toInt ≠ 116) => ?_) (fun (h551 : x40.toInt = 116) => absurd h551 (by omega))
    refine z_xP zt196 28 66 [some (.ref 19), some (.int x40), none, none] [.int 0] rfl rfl ?_
    refine z_xP zt196 29 70 [some (.ref 19), some (.int x40), some (.int 0), none] [.int 112, .int x40] rfl rfl ?_
    refine z_xJ zt196 30 rfl rfl (fun (h552 : x40.toInt = 112) => ?_) (fun (h552 : x40.toInt ≠ 112) => absurd h552 (by omega))
    refine z_xP zt196 35 86 [some (.ref 19), some (.int x40), some (.int 0), none] [.int 0] rfl rfl ?_
    refine z_xZ zt196 36 rfl rfl (fun (h553 : (0 : Int) = 0) => ?_) (fun (h553 : (0 : Int) ≠ 0) => absurd h553 (by omega))
    refine z_xP zt196 41 97 [some (.ref 19), some (.int x40), some (.int 0), none] [.ref 19, .ref 19] rfl rfl ?_
    refine z_xgv zt196 42 rfl zo196 zzf12_123 X f19 (by decide) hz0 ?_
    refine z_xP zt196 43 101 [some (.ref 19), some (.int x40), some (.int 0), none] [.int 1, .int zp0, .ref 19] rfl rfl ?_
    refine z_xI zt196 44 rfl rfl (fun (x554 : Int32) (h555 : x554.toInt = zp0.toInt + 1) => ?_) (z_pAdd rfl rfl (by omega) (by omega))
    refine z_xpf zt196 45 rfl zo196 zzf12_123 X f19 (by decide) (by decide) ⟨by omega, by omega⟩ rfl (by decide) zw12_24 (fun M556 X557 e558 h559 => ?_)
    refine z_xP zt196 46 108 [some (.ref 19), some (.int x40), some (.int 0), none] [.int 32, .ref 19] rfl rfl ?_
    refine z_xcV (vs := [.ref 19, .int 32]) (r := []) (L2 := [some (.ref 19), some (.int 32)]) zt196 47 rfl zo196 zzcV12_147 (Or.inl rfl) rfl X557 f19 rfl rfl rfl (Nat.le_of_ble_eq_true rfl) zzm192 (Nat.le_of_ble_eq_true rfl) rfl ?_
    refine z_xP zt192 0 1 [some (.ref 19), some (.int 32)] [.ref 19] rfl rfl ?_
    refine z_xgI zt192 1 rfl zo192 zzf12_136 X557 f19 (by decide) (by decide) rfl (fun (x561 : Int32) h560 (h562 : (-2147483648) ≤ x561.toInt) (h563 : x561.toInt ≤ 2147483647) => ?_)
    refine z_xZ zt192 2 rfl rfl (fun (h564 : 0 ≤ x561.toInt) => ?_) (fun (h564 : x561.toInt < 0) => ?_)
    · skip
      refine z_xP zt192 7 16 [some (.ref 19), some (.int 32)] [.int 0] rfl rfl ?_
      refine z_xrz zt192 8 rfl zzr192 (by decide) (by decide) ?_
      show z_ev (d + 972) 196 111 [some (.ref 19), some (.int x40), some (.int 0), none] [.int 0] M556 _
      refine z_xZ zt196 48 rfl rfl (fun (h565 : (0 : Int) ≠ 0) => absurd h565 (by omega)) (fun (h565 : (0 : Int) = 0) => ?_)
      refine z_xP zt196 49 115 [some (.ref 19), some (.int x40), some (.int 0), none] [.ref 19] rfl rfl ?_
      refine z_xcV (vs := [.ref 19]) (r := []) (L2 := [some (.ref 19)]) zt196 50 rfl zo196 zzcV12_163 (Or.inl rfl) rfl X557 f19 rfl rfl rfl (Nat.le_of_ble_eq_true rfl) zzm194 (Nat.le_of_ble_eq_true rfl) rfl ?_
      refine z_xP zt194 0 2 [some (.ref 19)] [.ref 19, .ref 19] rfl rfl ?_
      refine z_xgv zt194 1 rfl zo194 zzf12_136 X557 f19 (by decide) h560 ?_
      refine z_xZ zt194 2 rfl rfl (fun (h566 : 0 ≤ x561.toInt) => ?_) (fun (h566 : x561.toInt < 0) => absurd h566 (by omega))
      refine z_xP zt194 6 16 [some (.ref 19)] [.ref 19, .ref 19] rfl rfl ?_
      refine z_xgv zt194 7 rfl zo194 zzf12_136 X557 f19 (by decide) h560 ?_
      refine z_xpf zt194 8 rfl zo194 zzf12_136 X557 f19 (by decide) (by decide) ⟨Int32.le_toInt _, Int32.toInt_le _⟩ rfl (by decide) zw12_26 (fun M567 X568 e569 h570 => ?_)
      refine z_xP zt194 9 23 [some (.ref 19)] [.int 0] rfl rfl ?_
      refine z_xrz zt194 10 rfl zzr194 (by decide) (by decide) ?_
      show z_ev (d + 972) 196 118 [some (.ref 19), some (.int x40), some (.int 0), none] [.int 0] M567 _
      refine z_xP zt196 51 119 [some (.ref 19), some (.int x40), some (.int 0), some (.int 0)] [] rfl rfl ?_
      have h571 := (e569.f f19 (by decide) h559)
      exact z_xrv zt196 52 rfl zzr196 (kk M567 X568 x554 h571 ⟨by omega, by omega⟩ (by omega))
    refine z_xP zt192 3 8 [some (.ref 19), some (.int 32)] [.ref 19] rfl rfl ?_
    refine z_xcV (vs := [.ref 19]) (r := []) (L2 := [some (.ref 19)]) zt192 4 rfl zo192 zzcV12_139 (Or.inl rfl) rfl X557 f19 rfl rfl rfl (Nat.le_of_ble_eq_true rfl) zzm193 (Nat.le_of_ble_eq_true rfl) rfl ?_
    refine z_xP zt193 0 1 [some (.ref 19)] [.ref 19] rfl rfl ?_
    refine z_xgv zt193 1 rfl zo193 zzf12_123 X557 f19 (by decide) h559 ?_
    refine z_xP zt193 2 5 [some (.ref 19)] [.ref 19, .int x554] rfl rfl ?_
    have h572 := (e558.f f19 (by decide) h1)
    refine z_xgv zt193 3 rfl zo193 zzf12_126 X557 f19 (by decide) h572 ?_
    refine z_xJ zt193 4 rfl rfl (fun (h573 : x2.toInt ≤ x554.toInt) => ?_) (fun (h573 : x554.toInt < x2.toInt) => ?_)
    · skip
      refine z_xP zt193 24 52 [some (.ref 19)] [.int 0] rfl rfl ?_
      refine z_xri zt193 25 rfl zzr193 ?_
      show z_ev (d + 971) 192 11 [some (.ref 19), some (.int 32)] [.int 0] M556 _
      refine z_xP zt192 5 12 [some (.ref 19), some (.int 32)] [.int 32, .int 0] rfl rfl ?_
      refine z_xJ zt192 6 rfl rfl (fun (h574 : (0 : Int) = 32) => absurd h574 (by omega)) (fun (h574 : (0 : Int) ≠ 32) => ?_)
      refine z_xP zt192 7 16 [some (.ref 19), some (.int 32)] [.int 0] rfl rfl ?_
      refine z_xrz zt192 8 rfl zzr192 (by decide) (by decide) ?_
      show z_ev (d + 972) 196 111 [some (.ref 19), some (.int x40), some (.int 0), none] [.int 0] M556 _
      refine z_xZ zt196 48 rfl rfl (fun (h575 : (0 : Int) ≠ 0) => absurd h575 (by omega)) (fun (h575 : (0 : Int) = 0) => ?_)
      refine z_xP zt196 49 115 [some (.ref 19), some (.int x40), some (.int 0), none] [.ref 19] rfl rfl ?_
      refine z_xcV (vs := [.ref 19]) (r := []) (L2 := [some (.ref 19)]) zt196 50 rfl zo196 zzcV12_163 (Or.inl rfl) rfl X557 f19 rfl rfl rfl (Nat.le_of_ble_eq_true rfl) zzm194 (Nat.le_of_ble_eq_true rfl) rfl ?_
      refine z_xP zt194 0 2 [some (.ref 19)] [.ref 19, .ref 19] rfl rfl ?_
      refine z_xgv zt194 1 rfl zo194 zzf12_136 X557 f19 (by decide) h560 ?_
      refine z_xZ zt194 2 rfl rfl (fun (h576 : 0 ≤ x561.toInt) => absurd h576 (by omega)) (fun (h576 : x561.toInt < 0) => ?_)
      refine z_xP zt194 3 9 [some (.ref 19)] [.ref 19, .ref 19] rfl rfl ?_
      refine z_xgv zt194 4 rfl zo194 zzf12_123 X557 f19 (by decide) h559 ?_
      refine z_xP zt194 5 19 [some (.ref 19)] [.int x554, .ref 19] rfl rfl ?_
      refine z_xpf zt194 8 rfl zo194 zzf12_136 X557 f19 (by decide) (by decide) ⟨Int32.le_toInt _, Int32.toInt_le _⟩ rfl (by decide) zw12_26 (fun M577 X578 e579 h580 => ?_)
      refine z_xP zt194 9 23 [some (.ref 19)] [.int 0] rfl rfl ?_
      refine z_xrz zt194 10 rfl zzr194 (by decide) (by decide) ?_
      show z_ev (d + 972) 196 118 [some (.ref 19), some (.int x40), some (.int 0), none] [.int 0] M577 _
      refine z_xP zt196 51 119 [some (.ref 19), some (.int x40), some (.int 0), some (.int 0)] [] rfl rfl ?_
      have h581 := (e579.f f19 (by decide) h559)
      exact z_xrv zt196 52 rfl zzr196 (kk M577 X578 x554 h581 ⟨by omega, by omega⟩ (by omega))
    refine z_xP zt193 5 12 [some (.ref 19)] [.ref 19] rfl rfl ?_
    have h582 := (e558.f f19 (by decide) h27)
    refine z_xgv zt193 6 rfl zo193 zzf12_129 X557 f19 (by decide) h582 ?_
    refine z_xZ zt193 7 rfl rfl (fun (h583 : x28.toInt = 0) => ?_) (fun (h583 : x28.toInt ≠ 0) => absurd h583 (by omega))
    refine z_xP zt193 14 31 [some (.ref 19)] [.ref 19] rfl rfl ?_
    refine z_xgX (b := 21) zt193 15 rfl zo193 zzf12_13 X557 f19 (by decide) (by decide) rfl ?_
    refine z_xP zt193 16 38 [some (.ref 19)] [.ref 19, .int 160, .ref 21] rfl rfl ?_
    have h584 := (e558.f f19 (by decide) h32)
    refine z_xgv zt193 17 rfl zo193 zzf12_133 X557 f19 (by decide) h584 ?_
    refine z_xI zt193 18 rfl rfl (fun (x585 : Int32) (h586 : x585.toInt = 160 * x33.toInt) => ?_) (z_pMul rfl rfl (by omega) (by omega))
    refine z_xP zt193 19 43 [some (.ref 19)] [.ref 19, .int x585, .ref 21] rfl rfl ?_
    refine z_xgv zt193 20 rfl zo193 zzf12_123 X557 f19 (by decide) h559 ?_
    refine z_xI zt193 21 rfl rfl (fun (x587 : Int32) (h588 : x587.toInt = x585.toInt + x554.toInt) => ?_) (z_pAdd rfl rfl (by omega) (by omega))
    refine z_xil zt193 22 rfl X557 f21 (by decide) (by omega) (by omega) (fun (x589 : Int32) h590 (h591 : (-2147483648) ≤ x589.toInt) (h592 : x589.toInt ≤ 2147483647) => ?_)
    refine z_xP zt193 23 52 [some (.ref 19)] [.int x589] rfl rfl ?_
    refine z_xri zt193 25 rfl zzr193 ?_
    show z_ev (d + 971) 192 11 [some (.ref 19), some (.int 32)] [.int x589] M556 _
    refine z_xP zt192 5 12 [some (.ref 19), some (.int 32)] [.int 32, .int x589] rfl rfl ?_
    refine z_xJ zt192 6 rfl rfl (fun (h593 : x589.toInt = 32) => ?_) (fun (h593 : x589.toInt ≠ 32) => ?_)
    · skip
      refine z_xP zt192 9 19 [some (.ref 19), some (.int 32)] [.ref 19, .ref 19] rfl rfl ?_
      refine z_xgv zt192 10 rfl zo192 zzf12_123 X557 f19 (by decide) h559 ?_
      refine z_xP zt192 11 23 [some (.ref 19), some (.int 32)] [.int 1, .int x554, .ref 19] rfl rfl ?_
      refine z_xI zt192 12 rfl rfl (fun (x594 : Int32) (h595 : x594.toInt = x554.toInt + 1) => ?_) (z_pAdd rfl rfl (by omega) (by omega))
      refine z_xpf zt192 13 rfl zo192 zzf12_123 X557 f19 (by decide) (by decide) ⟨by omega, by omega⟩ rfl (by decide) zw12_24 (fun M596 X597 e598 h599 => ?_)
      refine z_xP zt192 14 28 [some (.ref 19), some (.int 32)] [.int 1] rfl rfl ?_
      refine z_xrz zt192 15 rfl zzr192 (by decide) (by decide) ?_
      show z_ev (d + 972) 196 111 [some (.ref 19), some (.int x40), some (.int 0), none] [.int 1] M596 _
      refine z_xZ zt196 48 rfl rfl (fun (h600 : (1 : Int) ≠ 0) => ?_) (fun (h600 : (1 : Int) = 0) => absurd h600 (by omega))
      refine z_xP zt196 53 123 [some (.ref 19), some (.int x40), some (.int 0), none] [.int 112, .int x40] rfl rfl ?_
      refine z_xJ zt196 54 rfl rfl (fun (h601 : x40.toInt ≠ 112) => absurd h601 (by omega)) (fun (h601 : x40.toInt = 112) => ?_)
      refine z_xP zt196 55 127 [some (.ref 19), some (.int x40), some (.int 0), none] [.ref 19] rfl rfl ?_
      refine z_xgX (b := 27) zt196 56 rfl zo196 zzf12_31 X597 f19 (by decide) (by decide) rfl ?_
      refine z_xP zt196 57 131 [some (.ref 19), some (.int x40), some (.int 0), none] [.ref 19, .ref 27] rfl rfl ?_
      have h602 := (e598.f f19 (by decide) h584)
      refine z_xgv zt196 58 rfl zo196 zzf12_133 X597 f19 (by decide) h602 ?_
      refine z_xP zt196 59 135 [some (.ref 19), some (.int x40), some (.int 0), none] [.ref 19, .int x33, .ref 27] rfl rfl ?_
      refine z_xcV (vs := [.ref 19]) (r := [.int x33, .ref 27]) (L2 := [some (.ref 19), none, none, none, none]) zt196 60 rfl zo196 zzcV12_190 (Or.inl rfl) rfl X597 f19 rfl rfl rfl (Nat.le_of_ble_eq_true rfl) zzm197 (Nat.le_of_ble_eq_true rfl) rfl ?_
      refine zC197 X597.1 h599 ⟨by omega, by omega⟩ (z_GL.go hL X597 (by decide)) (fun x609 M603 X604 h610 h611 z605 h606 h607 h608 => ?_)
      have X612 := X597.go X604 (z_sb (by decide))
      show z_ev (d + 972) 196 138 [some (.ref 19), some (.int x40), some (.int 0), none] [.int x609, .int x33, .ref 27] M603 _
      refine z_xis zt196 61 rfl X612 f27 (by decide) (by decide) (by omega) (by omega) (Int32.le_toInt _) (Int32.toInt_le _) (by decide) (fun M614 X615 e616 h617 => ?_)
      refine z_xP zt196 62 208 [some (.ref 19), some (.int x40), some (.int 0), none] [] rfl rfl ?_
      have h618 := (e616.f f19 (by decide) h606)
      exact z_xrv zt196 99 rfl zzr196 (kk M614 X615 z605 h618 ⟨by omega, by omega⟩ (by omega))
    refine z_xP zt192 7 16 [some (.ref 19), some (.int 32)] [.int 0] rfl rfl ?_
    refine z_xrz zt192 8 rfl zzr192 (by decide) (by decide) ?_
    show z_ev (d + 972) 196 111 [some (.ref 19), some (.int x40), some (.int 0), none] [.int 0] M556 _
    refine z_xZ zt196 48 rfl rfl (fun (h619 : (0 : Int) ≠ 0) => absurd h619 (by omega)) (fun (h619 : (0 : Int) = 0) => ?_)
    refine z_xP zt196 49 115 [some (.ref 19), some (.int x40), some (.int 0), none] [.ref 19] rfl rfl ?_
    refine z_xcV (vs := [.ref 19]) (r := []) (L2 := [some (.ref 19)]) zt196 50 rfl zo196 zzcV12_163 (Or.inl rfl) rfl X557 f19 rfl rfl rfl (Nat.le_of_ble_eq_true rfl) zzm194 (Nat.le_of_ble_eq_true rfl) rfl ?_
    refine z_xP zt194 0 2 [some (.ref 19)] [.ref 19, .ref 19] rfl rfl ?_
    refine z_xgv zt194 1 rfl zo194 zzf12_136 X557 f19 (by decide) h560 ?_
    refine z_xZ zt194 2 rfl rfl (fun (h620 : 0 ≤ x561.toInt) => absurd h620 (by omega)) (fun (h620 : x561.toInt < 0) => ?_)
    refine z_xP zt194 3 9 [some (.ref 19)] [.ref 19, .ref 19] rfl rfl ?_
    refine z_xgv zt194 4 rfl zo194 zzf12_123 X557 f19 (by decide) h559 ?_
    refine z_xP zt194 5 19 [some (.ref 19)] [.int x554, .ref 19] rfl rfl ?_
    refine z_xpf zt194 8 rfl zo194 zzf12_136 X557 f19 (by decide) (by decide) ⟨Int32.le_toInt _, Int32.toInt_le _⟩ rfl (by decide) zw12_26 (fun M621 X622 e623 h624 => ?_)
    refine z_xP zt194 9 23 [some (.ref 19)] [.int 0] rfl rfl ?_
    refine z_xrz zt194 10 rfl zzr194 (by decide) (by decide) ?_
    show z_ev (d + 972) 196 118 [some (.ref 19), some (.int x40), some (.int 0), none] [.int 0] M621 _
    refine z_xP zt196 51 119 [some (.ref 19), some (.int x40), some (.int 0), some (.int 0)] [] rfl rfl ?_
    have h625 := (e623.f f19 (by decide) h559)
    exact z_xrv zt196 52 rfl zzr196 (kk M621 X622 x554 h625 ⟨by omega, by omega⟩ (by omega))
  refine z_xP zt193 8 19 [some (.ref 19)] [.ref 19] rfl rfl ?_
  refine z_xgX (b := 20) zt193 9 rfl zo193 zzf12_9 X f19 (by decide) (by decide) rfl ?_
  refine z_xP zt193 10 23 [some (.ref 19)] [.ref 19, .ref 20] rfl rfl ?_
  refine z_xgv zt193 11 rfl zo193 zzf12_123 X f19 (by decide) hz0 ?_
  have f20 : T[20]? = some (.inr (20, 0, 160, (-2147483648), 2147483647)) := X.1.k rfl (by decide)
  refine z_xil zt193 12 rfl X f20 (by decide) (by omega) (by omega) (fun (x626 : Int32) h627 (h628 : (-2147483648) ≤ x626.toInt) (h629 : x626.toInt ≤ 2147483647) => ?_)
  refine z_xP zt193 13 52 [some (.ref 19)] [.int x626] rfl rfl ?_
  refine z_xri zt193 25 rfl zzr193 ?_
  show z_ev (d + 972) 196 4 [some (.ref 19), none, none, none] [.int x626] M0 _
  refine z_xP zt196 2 8 [some (.ref 19), some (.int x626), none, none] [.int 112, .int x626] rfl rfl ?_
  refine z_xJ zt196 3 rfl rfl (fun (h630 : x626.toInt ≠ 112) => ?_) (fun (h630 : x626.toInt = 112) => ?_)
  · skip
    refine z_xP zt196 10 26 [some (.ref 19), some (.int x626), none, none] [.int 101, .int x626] rfl rfl ?_
    refine z_xJ zt196 11 rfl rfl (fun (h631 : x626.toInt ≠ 101) => ?_) (fun (h631 : x626.toInt = 101) => ?_)
    · skip
      refine z_xP zt196 18 44 [some (.ref 19), some (.int x626), none, none] [.int 116, .int x626] rfl rfl ?_
      refine z_xJ zt196 19 rfl rfl (fun (h632 : x626.toInt ≠ 116) => ?_) (fun (h632 : x626.toInt = 116) => ?_)
      · skip
        refine z_xP zt196 28 66 [some (.ref 19), some (.int x626), none, none] [.int 0] rfl rfl ?_
        refine z_xP zt196 29 70 [some (.ref 19), some (.int x626), some (.int 0), none] [.int 112, .int x626] rfl rfl ?_
        refine z_xJ zt196 30 rfl rfl (fun (h633 : x626.toInt = 112) => ?_) (fun (h633 : x626.toInt ≠ 112) => ?_)
        · skip
          refine z_xP zt196 35 86 [some (.ref 19), some (.int x626), some (.int 0), none] [.int 0] rfl rfl ?_
          refine z_xZ zt196 36 rfl rfl (fun (h634 : (0 : Int) = 0) => ?_) (fun (h634 : (0 : Int) ≠ 0) => absurd h634 (by omega))
          refine z_xP zt196 41 97 [some (.ref 19), some (.int x626), some (.int 0), none] [.ref 19, .ref 19] rfl rfl ?_
          refine z_xgv zt196 42 rfl zo196 zzf12_123 X f19 (by decide) hz0 ?_
          refine z_xP zt196 43 101 [some (.ref 19), some (.int x626), some (.int 0), none] [.int 1, .int zp0, .ref 19] rfl rfl ?_
          refine z_xI zt196 44 rfl rfl (fun (x635 : Int32) (h636 : x635.toInt = zp0.toInt + 1) => ?_) (z_pAdd rfl rfl (by omega) (by omega))
          refine z_xpf zt196 45 rfl zo196 zzf12_123 X f19 (by decide) (by decide) ⟨by omega, by omega⟩ rfl (by decide) zw12_24 (fun M637 X638 e639 h640 => ?_)
          refine z_xP zt196 46 108 [some (.ref 19), some (.int x626), some (.int 0), none] [.int 32, .ref 19] rfl rfl ?_
          refine z_xcV (vs := [.ref 19, .int 32]) (r := []) (L2 := [some (.ref 19), some (.int 32)]) zt196 47 rfl zo196 zzcV12_147 (Or.inl rfl) rfl X638 f19 rfl rfl rfl (Nat.le_of_ble_eq_true rfl) zzm192 (Nat.le_of_ble_eq_true rfl) rfl ?_
          refine z_xP zt192 0 1 [some (.ref 19), some (.int 32)] [.ref 19] rfl rfl ?_
          refine z_xgI zt192 1 rfl zo192 zzf12_136 X638 f19 (by decide) (by decide) rfl (fun (x642 : Int32) h641 (h643 : (-2147483648) ≤ x642.toInt) (h644 : x642.toInt ≤ 2147483647) => ?_)
          refine z_xZ zt192 2 rfl rfl (fun (h645 : 0 ≤ x642.toInt) => ?_) (fun (h645 : x642.toInt < 0) => ?_)
          · skip
            refine z_xP zt192 7 16 [some (.ref 19), some (.int 32)] [.int 0] rfl rfl ?_
            refine z_xrz zt192 8 rfl zzr192 (by decide) (by decide) ?_
            show z_ev (d + 972) 196 111 [some (.ref 19), some (.int x626), some (.int 0), none] [.int 0] M637 _
            refine z_xZ zt196 48 rfl rfl (fun (h646 : (0 : Int) ≠ 0) => absurd h646 (by omega)) (fun (h646 : (0 : Int) = 0) => ?_)
            refine z_xP zt196 49 115 [some (.ref 19), some (.int x626), some (.int 0), none] [.ref 19] rfl rfl ?_
            refine z_xcV (vs := [.ref 19]) (r := []) (L2 := [some (.ref 19)]) zt196 50 rfl zo196 zzcV12_163 (Or.inl rfl) rfl X638 f19 rfl rfl rfl (Nat.le_of_ble_eq_true rfl) zzm194 (Nat.le_of_ble_eq_true rfl) rfl ?_
            refine z_xP zt194 0 2 [some (.ref 19)] [.ref 19, .ref 19] rfl rfl ?_
            refine z_xgv zt194 1 rfl zo194 zzf12_136 X638 f19 (by decide) h641 ?_
            refine z_xZ zt194 2 rfl rfl (fun (h647 : 0 ≤ x642.toInt) => ?_) (fun (h647 : x642.toInt < 0) => absurd h647 (by omega))
            refine z_xP zt194 6 16 [some (.ref 19)] [.ref 19, .ref 19] rfl rfl ?_
            refine z_xgv zt194 7 rfl zo194 zzf12_136 X638 f19 (by decide) h641 ?_
            refine z_xpf zt194 8 rfl zo194 zzf12_136 X638 f19 (by decide) (by decide) ⟨Int32.le_toInt _, Int32.toInt_le _⟩ rfl (by decide) zw12_26 (fun M648 X649 e650 h651 => ?_)
            refine z_xP zt194 9 23 [some (.ref 19)] [.int 0] rfl rfl ?_
            refine z_xrz zt194 10 rfl zzr194 (by decide) (by decide) ?_
            show z_ev (d + 972) 196 118 [some (.ref 19), some (.int x626), some (.int 0), none] [.int 0] M648 _
            refine z_xP zt196 51 119 [some (.ref 19), some (.int x626), some (.int 0), some (.int 0)] [] rfl rfl ?_
            have h652 := (e650.f f19 (by decide) h640)
            exact z_xrv zt196 52 rfl zzr196 (kk M648 X649 x635 h652 ⟨by omega, by omega⟩ (by omega))
          refine z_xP zt192 3 8 [some (.ref 19), some (.int 32)] [.ref 19] rfl rfl ?_
          refine z_xcV (vs := [.ref 19]) (r := []) (L2 := [some (.ref 19)]) zt192 4 rfl zo192 zzcV12_139 (Or.inl rfl) rfl X638 f19 rfl rfl rfl (Nat.le_of_ble_eq_true rfl) zzm193 (Nat.le_of_ble_eq_true rfl) rfl ?_
          refine z_xP zt193 0 1 [some (.ref 19)] [.ref 19] rfl rfl ?_
          refine z_xgv zt193 1 rfl zo193 zzf12_123 X638 f19 (by decide) h640 ?_
          refine z_xP zt193 2 5 [some (.ref 19)] [.ref 19, .int x635] rfl rfl ?_
          have h653 := (e639.f f19 (by decide) h1)
          refine z_xgv zt193 3 rfl zo193 zzf12_126 X638 f19 (by decide) h653 ?_
          refine z_xJ zt193 4 rfl rfl (fun (h654 : x2.toInt ≤ x635.toInt) => ?_) (fun (h654 : x635.toInt < x2.toInt) => ?_)
          · skip
            refine z_xP zt193 24 52 [some (.ref 19)] [.int 0] rfl rfl ?_
            refine z_xri zt193 25 rfl zzr193 ?_
            show z_ev (d + 971) 192 11 [some (.ref 19), some (.int 32)] [.int 0] M637 _
            refine z_xP zt192 5 12 [some (.ref 19), some (.int 32)] [.int 32, .int 0] rfl rfl ?_
            refine z_xJ zt192 6 rfl rfl (fun (h655 : (0 : Int) = 32) => absurd h655 (by omega)) (fun (h655 : (0 : Int) ≠ 32) => ?_)
            refine z_xP zt192 7 16 [some (.ref 19), some (.int 32)] [.int 0] rfl rfl ?_
            refine z_xrz zt192 8 rfl zzr192 (by decide) (by decide) ?_
            show z_ev (d + 972) 196 111 [some (.ref 19), some (.int x626), some (.int 0), none] [.int 0] M637 _
            refine z_xZ zt196 48 rfl rfl (fun (h656 : (0 : Int) ≠ 0) => absurd h656 (by omega)) (fun (h656 : (0 : Int) = 0) => ?_)
            refine z_xP zt196 49 115 [some (.ref 19), some (.int x626), some (.int 0), none] [.ref 19] rfl rfl ?_
            refine z_xcV (vs := [.ref 19]) (r := []) (L2 := [some (.ref 19)]) zt196 50 rfl zo196 zzcV12_163 (Or.inl rfl) rfl X638 f19 rfl rfl rfl (Nat.le_of_ble_eq_true rfl) zzm194 (Nat.le_of_ble_eq_true rfl) rfl ?_
            refine z_xP zt194 0 2 [some (.ref 19)] [.ref 19, .ref 19] rfl rfl ?_
            refine z_xgv zt194 1 rfl zo194 zzf12_136 X638 f19 (by decide) h641 ?_
            refine z_xZ zt194 2 rfl rfl (fun (h657 : 0 ≤ x642.toInt) => absurd h657 (by omega)) (fun (h657 : x642.toInt < 0) => ?_)
            refine z_xP zt194 3 9 [some (.ref 19)] [.ref 19, .ref 19] rfl rfl ?_
            refine z_xgv zt194 4 rfl zo194 zzf12_123 X638 f19 (by decide) h640 ?_
            refine z_xP zt194 5 19 [some (.ref 19)] [.int x635, .ref 19] rfl rfl ?_
            refine z_xpf zt194 8 rfl zo194 zzf12_136 X638 f19 (by decide) (by decide) ⟨Int32.le_toInt _, Int32.toInt_le _⟩ rfl (by decide) zw12_26 (fun M658 X659 e660 h661 => ?_)
            refine z_xP zt194 9 23 [some (.ref 19)] [.int 0] rfl rfl ?_
            refine z_xrz zt194 10 rfl zzr194 (by decide) (by decide) ?_
            show z_ev (d + 972) 196 118 [some (.ref 19), some (.int x626), some (.int 0), none] [.int 0] M658 _
            refine z_xP zt196 51 119 [some (.ref 19), some (.int x626), some (.int 0), some (.int 0)] [] rfl rfl ?_
            have h662 := (e660.f f19 (by decide) h640)
            exact z_xrv zt196 52 rfl zzr196 (kk M658 X659 x635 h662 ⟨by omega, by omega⟩ (by omega))
          refine z_xP zt193 5 12 [some (.ref 19)] [.ref 19] rfl rfl ?_
          have h663 := (e639.f f19 (by decide) h27)
          refine z_xgv zt193 6 rfl zo193 zzf12_129 X638 f19 (by decide) h663 ?_
          refine z_xZ zt193 7 rfl rfl (fun (h664 : x28.toInt = 0) => absurd h664 (by omega)) (fun (h664 : x28.toInt ≠ 0) => ?_)
          refine z_xP zt193 8 19 [some (.ref 19)] [.ref 19] rfl rfl ?_
          refine z_xgX (b := 20) zt193 9 rfl zo193 zzf12_9 X638 f19 (by decide) (by decide) rfl ?_
          refine z_xP zt193 10 23 [some (.ref 19)] [.ref 19, .ref 20] rfl rfl ?_
          refine z_xgv zt193 11 rfl zo193 zzf12_123 X638 f19 (by decide) h640 ?_
          refine z_xil zt193 12 rfl X638 f20 (by decide) (by omega) (by omega) (fun (x665 : Int32) h666 (h667 : (-2147483648) ≤ x665.toInt) (h668 : x665.toInt ≤ 2147483647) => ?_)
          refine z_xP zt193 13 52 [some (.ref 19)] [.int x665] rfl rfl ?_
          refine z_xri zt193 25 rfl zzr193 ?_
          show z_ev (d + 971) 192 11 [some (.ref 19), some (.int 32)] [.int x665] M637 _
          refine z_xP zt192 5 12 [some (.ref 19), some (.int 32)] [.int 32, .int x665] rfl rfl ?_
          refine z_xJ zt192 6 rfl rfl (fun (h669 : x665.toInt = 32) => ?_) (fun (h669 : x665.toInt ≠ 32) => ?_)
          · skip
            refine z_xP zt192 9 19 [some (.ref 19), some (.int 32)] [.ref 19, .ref 19] rfl rfl ?_
            refine z_xgv zt192 10 rfl zo192 zzf12_123 X638 f19 (by decide) h640 ?_
            refine z_xP zt192 11 23 [some (.ref 19), some (.int 32)] [.int 1, .int x635, .ref 19] rfl rfl ?_
            refine z_xI zt192 12 rfl rfl (fun (x670 : Int32) (h671 : x670.toInt = x635.toInt + 1) => ?_) (z_pAdd rfl rfl (by omega) (by omega))
            refine z_xpf zt192 13 rfl zo192 zzf12_123 X638 f19 (by decide) (by decide) ⟨by omega, by omega⟩ rfl (by decide) zw12_24 (fun M672 X673 e674 h675 => ?_)
            refine z_xP zt192 14 28 [some (.ref 19), some (.int 32)] [.int 1] rfl rfl ?_
            refine z_xrz zt192 15 rfl zzr192 (by decide) (by decide) ?_
            show z_ev (d + 972) 196 111 [some (.ref 19), some (.int x626), some (.int 0), none] [.int 1] M672 _
            refine z_xZ zt196 48 rfl rfl (fun (h676 : (1 : Int) ≠ 0) => ?_) (fun (h676 : (1 : Int) = 0) => absurd h676 (by omega))
            refine z_xP zt196 53 123 [some (.ref 19), some (.int x626), some (.int 0), none] [.int 112, .int x626] rfl rfl ?_
            refine z_xJ zt196 54 rfl rfl (fun (h677 : x626.toInt ≠ 112) => absurd h677 (by omega)) (fun (h677 : x626.toInt = 112) => ?_)
            refine z_xP zt196 55 127 [some (.ref 19), some (.int x626), some (.int 0), none] [.ref 19] rfl rfl ?_
            refine z_xgX (b := 27) zt196 56 rfl zo196 zzf12_31 X673 f19 (by decide) (by decide) rfl ?_
            refine z_xP zt196 57 131 [some (.ref 19), some (.int x626), some (.int 0), none] [.ref 19, .ref 27] rfl rfl ?_
            refine z_xgI zt196 58 rfl zo196 zzf12_133 X673 f19 (by decide) (by decide) rfl (fun (x679 : Int32) h678 (h680 : 0 ≤ x679.toInt) (h681 : x679.toInt ≤ 7) => ?_)
            refine z_xP zt196 59 135 [some (.ref 19), some (.int x626), some (.int 0), none] [.ref 19, .int x679, .ref 27] rfl rfl ?_
            refine z_xcV (vs := [.ref 19]) (r := [.int x679, .ref 27]) (L2 := [some (.ref 19), none, none, none, none]) zt196 60 rfl zo196 zzcV12_190 (Or.inl rfl) rfl X673 f19 rfl rfl rfl (Nat.le_of_ble_eq_true rfl) zzm197 (Nat.le_of_ble_eq_true rfl) rfl ?_
            refine zC197 X673.1 h675 ⟨by omega, by omega⟩ (z_GL.go hL X673 (by decide)) (fun x688 M682 X683 h689 h690 z684 h685 h686 h687 => ?_)
            have X691 := X673.go X683 (z_sb (by decide))
            show z_ev (d + 972) 196 138 [some (.ref 19), some (.int x626), some (.int 0), none] [.int x688, .int x679, .ref 27] M682 _
            have f27 : T[27]? = some (.inr (27, 0, 8, (-2147483648), 2147483647)) := X691.1.k rfl (by decide)
            refine z_xis zt196 61 rfl X691 f27 (by decide) (by decide) (by omega) (by omega) (Int32.le_toInt _) (Int32.toInt_le _) (by decide) (fun M693 X694 e695 h696 => ?_)
            refine z_xP zt196 62 208 [some (.ref 19), some (.int x626), some (.int 0), none] [] rfl rfl ?_
            have h697 := (e695.f f19 (by decide) h685)
            exact z_xrv zt196 99 rfl zzr196 (kk M693 X694 z684 h697 ⟨by omega, by omega⟩ (by omega))
          refine z_xP zt192 7 16 [some (.ref 19), some (.int 32)] [.int 0] rfl rfl ?_
          refine z_xrz zt192 8 rfl zzr192 (by decide) (by decide) ?_
          show z_ev (d + 972) 196 111 [some (.ref 19), some (.int x626), some (.int 0), none] [.int 0] M637 _
          refine z_xZ zt196 48 rfl rfl (fun (h698 : (0 : Int) ≠ 0) => absurd h698 (by omega)) (fun (h698 : (0 : Int) = 0) => ?_)
          refine z_xP zt196 49 115 [some (.ref 19), some (.int x626), some (.int 0), none] [.ref 19] rfl rfl ?_
          refine z_xcV (vs := [.ref 19]) (r := []) (L2 := [some (.ref 19)]) zt196 50 rfl zo196 zzcV12_163 (Or.inl rfl) rfl X638 f19 rfl rfl rfl (Nat.le_of_ble_eq_true rfl) zzm194 (Nat.le_of_ble_eq_true rfl) rfl ?_
          refine z_xP zt194 0 2 [some (.ref 19)] [.ref 19, .ref 19] rfl rfl ?_
          refine z_xgv zt194 1 rfl zo194 zzf12_136 X638 f19 (by decide) h641 ?_
          refine z_xZ zt194 2 rfl rfl (fun (h699 : 0 ≤ x642.toInt) => absurd h699 (by omega)) (fun (h699 : x642.toInt < 0) => ?_)
          refine z_xP zt194 3 9 [some (.ref 19)] [.ref 19, .ref 19] rfl rfl ?_
          refine z_xgv zt194 4 rfl zo194 zzf12_123 X638 f19 (by decide) h640 ?_
          refine z_xP zt194 5 19 [some (.ref 19)] [.int x635, .ref 19] rfl rfl ?_
          refine z_xpf zt194 8 rfl zo194 zzf12_136 X638 f19 (by decide) (by decide) ⟨Int32.le_toInt _, Int32.toInt_le _⟩ rfl (by decide) zw12_26 (fun M700 X701 e702 h703 => ?_)
          refine z_xP zt194 9 23 [some (.ref 19)] [.int 0] rfl rfl ?_
          refine z_xrz zt194 10 rfl zzr194 (by decide) (by decide) ?_
          show z_ev (d + 972) 196 118 [some (.ref 19), some (.int x626), some (.int 0), none] [.int 0] M700 _
          refine z_xP zt196 51 119 [some (.ref 19), some (.int x626), some (.int 0), some (.int 0)] [] rfl rfl ?_
          have h704 := (e702.f f19 (by decide) h640)
          exact z_xrv zt196 52 rfl zzr196 (kk M700 X701 x635 h704 ⟨by omega, by omega⟩ (by omega))
        refine z_xP zt196 31 76 [some (.ref 19), some (.int x626), some (.int 0), none] [.int 101, .int x626] rfl rfl ?_
        refine z_xJ zt196 32 rfl rfl (fun (h705 : x626.toInt = 101) => ?_) (fun (h705 : x626.toInt ≠ 101) => ?_)
        · skip
          refine z_xP zt196 35 86 [some (.ref 19), some (.int x626), some (.int 0), none] [.int 0] rfl rfl ?_
          refine z_xZ zt196 36 rfl rfl (fun (h706 : (0 : Int) = 0) => ?_) (fun (h706 : (0 : Int) ≠ 0) => absurd h706 (by omega))
          refine z_xP zt196 41 97 [some (.ref 19), some (.int x626), some (.int 0), none] [.ref 19, .ref 19] rfl rfl ?_
          refine z_xgv zt196 42 rfl zo196 zzf12_123 X f19 (by decide) hz0 ?_
          refine z_xP zt196 43 101 [some (.ref 19), some (.int x626), some (.int 0), none] [.int 1, .int zp0, .ref 19] rfl rfl ?_
          refine z_xI zt196 44 rfl rfl (fun (x707 : Int32) (h708 : x707.toInt = zp0.toInt + 1) => ?_) (z_pAdd rfl rfl (by omega) (by omega))
          refine z_xpf zt196 45 rfl zo196 zzf12_123 X f19 (by decide) (by decide) ⟨by omega, by omega⟩ rfl (by decide) zw12_24 (fun M709 X710 e711 h712 => ?_)
          refine z_xP zt196 46 108 [some (.ref 19), some (.int x626), some (.int 0), none] [.int 32, .ref 19] rfl rfl ?_
          refine z_xcV (vs := [.ref 19, .int 32]) (r := []) (L2 := [some (.ref 19), some (.int 32)]) zt196 47 rfl zo196 zzcV12_147 (Or.inl rfl) rfl X710 f19 rfl rfl rfl (Nat.le_of_ble_eq_true rfl) zzm192 (Nat.le_of_ble_eq_true rfl) rfl ?_
          refine z_xP zt192 0 1 [some (.ref 19), some (.int 32)] [.ref 19] rfl rfl ?_
          refine z_xgI zt192 1 rfl zo192 zzf12_136 X710 f19 (by decide) (by decide) rfl (fun (x714 : Int32) h713 (h715 : (-2147483648) ≤ x714.toInt) (h716 : x714.toInt ≤ 2147483647) => ?_)
          refine z_xZ zt192 2 rfl rfl (fun (h717 : 0 ≤ x714.toInt) => ?_) (fun (h717 : x714.toInt < 0) => ?_)
          · skip
            refine z_xP zt192 7 16 [some (.ref 19), some (.int 32)] [.int 0] rfl rfl ?_
            refine z_xrz zt192 8 rfl zzr192 (by decide) (by decide) ?_
            show z_ev (d + 972) 196 111 [some (.ref 19), some (.int x626), some (.int 0), none] [.int 0] M709 _
            refine z_xZ zt196 48 rfl rfl (fun (h718 : (0 : Int) ≠ 0) => absurd h718 (by omega)) (fun (h718 : (0 : Int) = 0) => ?_)
            refine z_xP zt196 49 115 [some (.ref 19), some (.int x626), some (.int 0), none] [.ref 19] rfl rfl ?_
            refine z_xcV (vs := [.ref 19]) (r := []) (L2 := [some (.ref 19)]) zt196 50 rfl zo196 zzcV12_163 (Or.inl rfl) rfl X710 f19 rfl rfl rfl (Nat.le_of_ble_eq_true rfl) zzm194 (Nat.le_of_ble_eq_true rfl) rfl ?_
            refine z_xP zt194 0 2 [some (.ref 19)] [.ref 19, .ref 19] rfl rfl ?_
            refine z_xgv zt194 1 rfl zo194 zzf12_136 X710 f19 (by decide) h713 ?_
            refine z_xZ zt194 2 rfl rfl (fun (h719 : 0 ≤ x714.toInt) => ?_) (fun (h719 : x714.toInt < 0) => absurd h719 (by omega))
            refine z_xP zt194 6 16 [some (.ref 19)] [.ref 19, .ref 19] rfl rfl ?_
            refine z_xgv zt194 7 rfl zo194 zzf12_136 X710 f19 (by decide) h713 ?_
            refine z_xpf zt194 8 rfl zo194 zzf12_136 X710 f19 (by decide) (by decide) ⟨Int32.le_toInt _, Int32.toInt_le _⟩ rfl (by decide) zw12_26 (fun M720 X721 e722 h723 => ?_)
            refine z_xP zt194 9 23 [some (.ref 19)] [.int 0] rfl rfl ?_
            refine z_xrz zt194 10 rfl zzr194 (by decide) (by decide) ?_
            show z_ev (d + 972) 196 118 [some (.ref 19), some (.int x626), some (.int 0), none] [.int 0] M720 _
            refine z_xP zt196 51 119 [some (.ref 19), some (.int x626), some (.int 0), some (.int 0)] [] rfl rfl ?_
            have h724 := (e722.f f19 (by decide) h712)
            exact z_xrv zt196 52 rfl zzr196 (kk M720 X721 x707 h724 ⟨by omega, by omega⟩ (by omega))
          refine z_xP zt192 3 8 [some (.ref 19), some (.int 32)] [.ref 19] rfl rfl ?_
          refine z_xcV (vs := [.ref 19]) (r := []) (L2 := [some (.ref 19)]) zt192 4 rfl zo192 zzcV12_139 (Or.inl rfl) rfl X710 f19 rfl rfl rfl (Nat.le_of_ble_eq_true rfl) zzm193 (Nat.le_of_ble_eq_true rfl) rfl ?_
          refine z_xP zt193 0 1 [some (.ref 19)] [.ref 19] rfl rfl ?_
          refine z_xgv zt193 1 rfl zo193 zzf12_123 X710 f19 (by decide) h712 ?_
          refine z_xP zt193 2 5 [some (.ref 19)] [.ref 19, .int x707] rfl rfl ?_
          have h725 := (e711.f f19 (by decide) h1)
          refine z_xgv zt193 3 rfl zo193 zzf12_126 X710 f19 (by decide) h725 ?_
          refine z_xJ zt193 4 rfl rfl (fun (h726 : x2.toInt ≤ x707.toInt) => ?_) (fun (h726 : x707.toInt < x2.toInt) => ?_)
          · skip
            refine z_xP zt193 24 52 [some (.ref 19)] [.int 0] rfl rfl ?_
            refine z_xri zt193 25 rfl zzr193 ?_
            show z_ev (d + 971) 192 11 [some (.ref 19), some (.int 32)] [.int 0] M709 _
            refine z_xP zt192 5 12 [some (.ref 19), some (.int 32)] [.int 32, .int 0] rfl rfl ?_
            refine z_xJ zt192 6 rfl rfl (fun (h727 : (0 : Int) = 32) => absurd h727 (by omega)) (fun (h727 : (0 : Int) ≠ 32) => ?_)
            refine z_xP zt192 7 16 [some (.ref 19), some (.int 32)] [.int 0] rfl rfl ?_
            refine z_xrz zt192 8 rfl zzr192 (by decide) (by decide) ?_
            show z_ev (d + 972) 196 111 [some (.ref 19), some (.int x626), some (.int 0), none] [.int 0] M709 _
            refine z_xZ zt196 48 rfl rfl (fun (h728 : (0 : Int) ≠ 0) => absurd h728 (by omega)) (fun (h728 : (0 : Int) = 0) => ?_)
            refine z_xP zt196 49 115 [some (.ref 19), some (.int x626), some (.int 0), none] [.ref 19] rfl rfl ?_
            refine z_xcV (vs := [.ref 19]) (r := []) (L2 := [some (.ref 19)]) zt196 50 rfl zo196 zzcV12_163 (Or.inl rfl) rfl X710 f19 rfl rfl rfl (Nat.le_of_ble_eq_true rfl) zzm194 (Nat.le_of_ble_eq_true rfl) rfl ?_
            refine z_xP zt194 0 2 [some (.ref 19)] [.ref 19, .ref 19] rfl rfl ?_
            refine z_xgv zt194 1 rfl zo194 zzf12_136 X710 f19 (by decide) h713 ?_
            refine z_xZ zt194 2 rfl rfl (fun (h729 : 0 ≤ x714.toInt) => absurd h729 (by omega)) (fun (h729 : x714.toInt < 0) => ?_)
            refine z_xP zt194 3 9 [some (.ref 19)] [.ref 19, .ref 19] rfl rfl ?_
            refine z_xgv zt194 4 rfl zo194 zzf12_123 X710 f19 (by decide) h712 ?_
            refine z_xP zt194 5 19 [some (.ref 19)] [.int x707, .ref 19] rfl rfl ?_
            refine z_xpf zt194 8 rfl zo194 zzf12_136 X710 f19 (by decide) (by decide) ⟨Int32.le_toInt _, Int32.toInt_le _⟩ rfl (by decide) zw12_26 (fun M730 X731 e732 h733 => ?_)
            refine z_xP zt194 9 23 [some (.ref 19)] [.int 0] rfl rfl ?_
            refine z_xrz zt194 10 rfl zzr194 (by decide) (by decide) ?_
            show z_ev (d + 972) 196 118 [some (.ref 19), some (.int x626), some (.int 0), none] [.int 0] M730 _
            refine z_xP zt196 51 119 [some (.ref 19), some (.int x626), some (.int 0), some (.int 0)] [] rfl rfl ?_
            have h734 := (e732.f f19 (by decide) h712)
            exact z_xrv zt196 52 rfl zzr196 (kk M730 X731 x707 h734 ⟨by omega, by omega⟩ (by omega))
          refine z_xP zt193 5 12 [some (.ref 19)] [.ref 19] rfl rfl ?_
          have h735 := (e711.f f19 (by decide) h27)
          refine z_xgv zt193 6 rfl zo193 zzf12_129 X710 f19 (by decide) h735 ?_
          refine z_xZ zt193 7 rfl rfl (fun (h736 : x28.toInt = 0) => absurd h736 (by omega)) (fun (h736 : x28.toInt ≠ 0) => ?_)
          refine z_xP zt193 8 19 [some (.ref 19)] [.ref 19] rfl rfl ?_
          refine z_xgX (b := 20) zt193 9 rfl zo193 zzf12_9 X710 f19 (by decide) (by decide) rfl ?_
          refine z_xP zt193 10 23 [some (.ref 19)] [.ref 19, .ref 20] rfl rfl ?_
          refine z_xgv zt193 11 rfl zo193 zzf12_123 X710 f19 (by decide) h712 ?_
          refine z_xil zt193 12 rfl X710 f20 (by decide) (by omega) (by omega) (fun (x737 : Int32) h738 (h739 : (-2147483648) ≤ x737.toInt) (h740 : x737.toInt ≤ 2147483647) => ?_)
          refine z_xP zt193 13 52 [some (.ref 19)] [.int x737] rfl rfl ?_
          refine z_xri zt193 25 rfl zzr193 ?_
          show z_ev (d + 971) 192 11 [some (.ref 19), some (.int 32)] [.int x737] M709 _
          refine z_xP zt192 5 12 [some (.ref 19), some (.int 32)] [.int 32, .int x737] rfl rfl ?_
          refine z_xJ zt192 6 rfl rfl (fun (h741 : x737.toInt = 32) => ?_) (fun (h741 : x737.toInt ≠ 32) => ?_)
          · skip
            refine z_xP zt192 9 19 [some (.ref 19), some (.int 32)] [.ref 19, .ref 19] rfl rfl ?_
            refine z_xgv zt192 10 rfl zo192 zzf12_123 X710 f19 (by decide) h712 ?_
            refine z_xP zt192 11 23 [some (.ref 19), some (.int 32)] [.int 1, .int x707, .ref 19] rfl rfl ?_
            refine z_xI zt192 12 rfl rfl (fun (x742 : Int32) (h743 : x742.toInt = x707.toInt + 1) => ?_) (z_pAdd rfl rfl (by omega) (by omega))
            refine z_xpf zt192 13 rfl zo192 zzf12_123 X710 f19 (by decide) (by decide) ⟨by omega, by omega⟩ rfl (by decide) zw12_24 (fun M744 X745 e746 h747 => ?_)
            refine z_xP zt192 14 28 [some (.ref 19), some (.int 32)] [.int 1] rfl rfl ?_
            refine z_xrz zt192 15 rfl zzr192 (by decide) (by decide) ?_
            show z_ev (d + 972) 196 111 [some (.ref 19), some (.int x626), some (.int 0), none] [.int 1] M744 _
            refine z_xZ zt196 48 rfl rfl (fun (h748 : (1 : Int) ≠ 0) => ?_) (fun (h748 : (1 : Int) = 0) => absurd h748 (by omega))
            refine z_xP zt196 53 123 [some (.ref 19), some (.int x626), some (.int 0), none] [.int 112, .int x626] rfl rfl ?_
            refine z_xJ zt196 54 rfl rfl (fun (h749 : x626.toInt ≠ 112) => ?_) (fun (h749 : x626.toInt = 112) => absurd h749 (by omega))
            refine z_xP zt196 63 145 [some (.ref 19), some (.int x626), some (.int 0), none] [.int 101, .int x626] rfl rfl ?_
            refine z_xJ zt196 64 rfl rfl (fun (h750 : x626.toInt ≠ 101) => absurd h750 (by omega)) (fun (h750 : x626.toInt = 101) => ?_)
            refine z_xP zt196 65 149 [some (.ref 19), some (.int x626), some (.int 0), none] [.ref 19] rfl rfl ?_
            refine z_xgX (b := 28) zt196 66 rfl zo196 zzf12_34 X745 f19 (by decide) (by decide) rfl ?_
            refine z_xP zt196 67 153 [some (.ref 19), some (.int x626), some (.int 0), none] [.ref 19, .ref 28] rfl rfl ?_
            refine z_xgI zt196 68 rfl zo196 zzf12_133 X745 f19 (by decide) (by decide) rfl (fun (x752 : Int32) h751 (h753 : 0 ≤ x752.toInt) (h754 : x752.toInt ≤ 7) => ?_)
            refine z_xP zt196 69 157 [some (.ref 19), some (.int x626), some (.int 0), none] [.ref 19, .int x752, .ref 28] rfl rfl ?_
            refine z_xcV (vs := [.ref 19]) (r := [.int x752, .ref 28]) (L2 := [some (.ref 19), none, none, none, none]) zt196 70 rfl zo196 zzcV12_190 (Or.inl rfl) rfl X745 f19 rfl rfl rfl (Nat.le_of_ble_eq_true rfl) zzm197 (Nat.le_of_ble_eq_true rfl) rfl ?_
            refine zC197 X745.1 h747 ⟨by omega, by omega⟩ (z_GL.go hL X745 (by decide)) (fun x761 M755 X756 h762 h763 z757 h758 h759 h760 => ?_)
            have X764 := X745.go X756 (z_sb (by decide))
            show z_ev (d + 972) 196 160 [some (.ref 19), some (.int x626), some (.int 0), none] [.int x761, .int x752, .ref 28] M755 _
            have f28 : T[28]? = some (.inr (28, 0, 8, (-2147483648), 2147483647)) := X764.1.k rfl (by decide)
            refine z_xis zt196 71 rfl X764 f28 (by decide) (by decide) (by omega) (by omega) (Int32.le_toInt _) (Int32.toInt_le _) (by decide) (fun M766 X767 e768 h769 => ?_)
            refine z_xP zt196 72 208 [some (.ref 19), some (.int x626), some (.int 0), none] [] rfl rfl ?_
            have h770 := (e768.f f19 (by decide) h758)
            exact z_xrv zt196 99 rfl zzr196 (kk M766 X767 z757 h770 ⟨by omega, by omega⟩ (by omega))
          refine z_xP zt192 7 16 [some (.ref 19), some (.int 32)] [.int 0] rfl rfl ?_
          refine z_xrz zt192 8 rfl zzr192 (by decide) (by decide) ?_
          show z_ev (d + 972) 196 111 [some (.ref 19), some (.int x626), some (.int 0), none] [.int 0] M709 _
          refine z_xZ zt196 48 rfl rfl (fun (h771 : (0 : Int) ≠ 0) => absurd h771 (by omega)) (fun (h771 : (0 : Int) = 0) => ?_)
          refine z_xP zt196 49 115 [some (.ref 19), some (.int x626), some (.int 0), none] [.ref 19] rfl rfl ?_
          refine z_xcV (vs := [.ref 19]) (r := []) (L2 := [some (.ref 19)]) zt196 50 rfl zo196 zzcV12_163 (Or.inl rfl) rfl X710 f19 rfl rfl rfl (Nat.le_of_ble_eq_true rfl) zzm194 (Nat.le_of_ble_eq_true rfl) rfl ?_
          refine z_xP zt194 0 2 [some (.ref 19)] [.ref 19, .ref 19] rfl rfl ?_
          refine z_xgv zt194 1 rfl zo194 zzf12_136 X710 f19 (by decide) h713 ?_
          refine z_xZ zt194 2 rfl rfl (fun (h772 : 0 ≤ x714.toInt) => absurd h772 (by omega)) (fun (h772 : x714.toInt < 0) => ?_)
          refine z_xP zt194 3 9 [some (.ref 19)] [.ref 19, .ref 19] rfl rfl ?_
          refine z_xgv zt194 4 rfl zo194 zzf12_123 X710 f19 (by decide) h712 ?_
          refine z_xP zt194 5 19 [some (.ref 19)] [.int x707, .ref 19] rfl rfl ?_
          refine z_xpf zt194 8 rfl zo194 zzf12_136 X710 f19 (by decide) (by decide) ⟨Int32.le_toInt _, Int32.toInt_le _⟩ rfl (by decide) zw12_26 (fun M773 X774 e775 h776 => ?_)
          refine z_xP zt194 9 23 [some (.ref 19)] [.int 0] rfl rfl ?_
          refine z_xrz zt194 10 rfl zzr194 (by decide) (by decide) ?_
          show z_ev (d + 972) 196 118 [some (.ref 19), some (.int x626), some (.int 0), none] [.int 0] M773 _
          refine z_xP zt196 51 119 [some (.ref 19), some (.int x626), some (.int 0), some (.int 0)] [] rfl rfl ?_
          have h777 := (e775.f f19 (by decide) h712)
          exact z_xrv zt196 52 rfl zzr196 (kk M773 X774 x707 h777 ⟨by omega, by omega⟩ (by omega))
        refine z_xP zt196 33 82 [some (.ref 19), some (.int x626), some (.int 0), none] [.int 116, .int x626] rfl rfl ?_
        refine z_xJ zt196 34 rfl rfl (fun (h778 : x626.toInt ≠ 116) => ?_) (fun (h778 : x626.toInt = 116) => ?_)
        · skip
          refine z_xP zt196 37 90 [some (.ref 19), some (.int x626), some (.int 0), none] [.ref 19] rfl rfl ?_
          refine z_xcV (vs := [.ref 19]) (r := []) (L2 := [some (.ref 19)]) zt196 38 rfl zo196 zzcV12_163 (Or.inl rfl) rfl X f19 rfl rfl rfl (Nat.le_of_ble_eq_true rfl) zzm194 (Nat.le_of_ble_eq_true rfl) rfl ?_
          refine z_xP zt194 0 2 [some (.ref 19)] [.ref 19, .ref 19] rfl rfl ?_
          refine z_xgI zt194 1 rfl zo194 zzf12_136 X f19 (by decide) (by decide) rfl (fun (x780 : Int32) h779 (h781 : (-2147483648) ≤ x780.toInt) (h782 : x780.toInt ≤ 2147483647) => ?_)
          refine z_xZ zt194 2 rfl rfl (fun (h783 : 0 ≤ x780.toInt) => ?_) (fun (h783 : x780.toInt < 0) => ?_)
          · skip
            refine z_xP zt194 6 16 [some (.ref 19)] [.ref 19, .ref 19] rfl rfl ?_
            refine z_xgv zt194 7 rfl zo194 zzf12_136 X f19 (by decide) h779 ?_
            refine z_xpf zt194 8 rfl zo194 zzf12_136 X f19 (by decide) (by decide) ⟨Int32.le_toInt _, Int32.toInt_le _⟩ rfl (by decide) zw12_26 (fun M784 X785 e786 h787 => ?_)
            refine z_xP zt194 9 23 [some (.ref 19)] [.int 0] rfl rfl ?_
            refine z_xrz zt194 10 rfl zzr194 (by decide) (by decide) ?_
            show z_ev (d + 972) 196 93 [some (.ref 19), some (.int x626), some (.int 0), none] [.int 0] M784 _
            refine z_xP zt196 39 94 [some (.ref 19), some (.int x626), some (.int 0), some (.int 0)] [] rfl rfl ?_
            have h788 := (e786.f f19 (by decide) hz0)
            exact z_xrv zt196 40 rfl zzr196 (kk M784 X785 zp0 h788 ⟨by omega, by omega⟩ (by omega))
          refine z_xP zt194 3 9 [some (.ref 19)] [.ref 19, .ref 19] rfl rfl ?_
          refine z_xgv zt194 4 rfl zo194 zzf12_123 X f19 (by decide) hz0 ?_
          refine z_xP zt194 5 19 [some (.ref 19)] [.int zp0, .ref 19] rfl rfl ?_
          refine z_xpf zt194 8 rfl zo194 zzf12_136 X f19 (by decide) (by decide) ⟨Int32.le_toInt _, Int32.toInt_le _⟩ rfl (by decide) zw12_26 (fun M789 X790 e791 h792 => ?_)
          refine z_xP zt194 9 23 [some (.ref 19)] [.int 0] rfl rfl ?_
          refine z_xrz zt194 10 rfl zzr194 (by decide) (by decide) ?_
          show z_ev (d + 972) 196 93 [some (.ref 19), some (.int x626), some (.int 0), none] [.int 0] M789 _
          refine z_xP zt196 39 94 [some (.ref 19), some (.int x626), some (.int 0), some (.int 0)] [] rfl rfl ?_
          have h793 := (e791.f f19 (by decide) hz0)
          exact z_xrv zt196 40 rfl zzr196 (kk M789 X790 zp0 h793 ⟨by omega, by omega⟩ (by omega))
        refine z_xP zt196 35 86 [some (.ref 19), some (.int x626), some (.int 0), none] [.int 0] rfl rfl ?_
        refine z_xZ zt196 36 rfl rfl (fun (h794 : (0 : Int) = 0) => ?_) (fun (h794 : (0 : Int) ≠ 0) => absurd h794 (by omega))
        refine z_xP zt196 41 97 [some (.ref 19), some (.int x626), some (.int 0), none] [.ref 19, .ref 19] rfl rfl ?_
        refine z_xgv zt196 42 rfl zo196 zzf12_123 X f19 (by decide) hz0 ?_
        refine z_xP zt196 43 101 [some (.ref 19), some (.int x626), some (.int 0), none] [.int 1, .int zp0, .ref 19] rfl rfl ?_
        refine z_xI zt196 44 rfl rfl (fun (x795 : Int32) (h796 : x795.toInt = zp0.toInt + 1) => ?_) (z_pAdd rfl rfl (by omega) (by omega))
        refine z_xpf zt196 45 rfl zo196 zzf12_123 X f19 (by decide) (by decide) ⟨by omega, by omega⟩ rfl (by decide) zw12_24 (fun M797 X798 e799 h800 => ?_)
        refine z_xP zt196 46 108 [some (.ref 19), some (.int x626), some (.int 0), none] [.int 32, .ref 19] rfl rfl ?_
        refine z_xcV (vs := [.ref 19, .int 32]) (r := []) (L2 := [some (.ref 19), some (.int 32)]) zt196 47 rfl zo196 zzcV12_147 (Or.inl rfl) rfl X798 f19 rfl rfl rfl (Nat.le_of_ble_eq_true rfl) zzm192 (Nat.le_of_ble_eq_true rfl) rfl ?_
        refine z_xP zt192 0 1 [some (.ref 19), some (.int 32)] [.ref 19] rfl rfl ?_
        refine z_xgI zt192 1 rfl zo192 zzf12_136 X798 f19 (by decide) (by decide) rfl (fun (x802 : Int32) h801 (h803 : (-2147483648) ≤ x802.toInt) (h804 : x802.toInt ≤ 2147483647) => ?_)
        refine z_xZ zt192 2 rfl rfl (fun (h805 : 0 ≤ x802.toInt) => ?_) (fun (h805 : x802.toInt < 0) => ?_)
        · skip
          refine z_xP zt192 7 16 [some (.ref 19), some (.int 32)] [.int 0] rfl rfl ?_
          refine z_xrz zt192 8 rfl zzr192 (by decide) (by decide) ?_
          show z_ev (d + 972) 196 111 [some (.ref 19), some (.int x626), some (.int 0), none] [.int 0] M797 _
          refine z_xZ zt196 48 rfl rfl (fun (h806 : (0 : Int) ≠ 0) => absurd h806 (by omega)) (fun (h806 : (0 : Int) = 0) => ?_)
          refine z_xP zt196 49 115 [some (.ref 19), some (.int x626), some (.int 0), none] [.ref 19] rfl rfl ?_
          refine z_xcV (vs := [.ref 19]) (r := []) (L2 := [some (.ref 19)]) zt196 50 rfl zo196 zzcV12_163 (Or.inl rfl) rfl X798 f19 rfl rfl rfl (Nat.le_of_ble_eq_true rfl) zzm194 (Nat.le_of_ble_eq_true rfl) rfl ?_
          refine z_xP zt194 0 2 [some (.ref 19)] [.ref 19, .ref 19] rfl rfl ?_
          refine z_xgv zt194 1 rfl zo194 zzf12_136 X798 f19 (by decide) h801 ?_
          refine z_xZ zt194 2 rfl rfl (fun (h807 : 0 ≤ x802.toInt) => ?_) (fun (h807 : x802.toInt < 0) => absurd h807 (by omega))
          refine z_xP zt194 6 16 [some (.ref 19)] [.ref 19, .ref 19] rfl rfl ?_
          refine z_xgv zt194 7 rfl zo194 zzf12_136 X798 f19 (by decide) h801 ?_
          refine z_xpf zt194 8 rfl zo194 zzf12_136 X798 f19 (by decide) (by decide) ⟨Int32.le_toInt _, Int32.toInt_le _⟩ rfl (by decide) zw12_26 (fun M808 X809 e810 h811 => ?_)
          refine z_xP zt194 9 23 [some (.ref 19)] [.int 0] rfl rfl ?_
          refine z_xrz zt194 10 rfl zzr194 (by decide) (by decide) ?_
          show z_ev (d + 972) 196 118 [some (.ref 19), some (.int x626), some (.int 0), none] [.int 0] M808 _
          refine z_xP zt196 51 119 [some (.ref 19), some (.int x626), some (.int 0), some (.int 0)] [] rfl rfl ?_
          have h812 := (e810.f f19 (by decide) h800)
          exact z_xrv zt196 52 rfl zzr196 (kk M808 X809 x795 h812 ⟨by omega, by omega⟩ (by omega))
        refine z_xP zt192 3 8 [some (.ref 19), some (.int 32)] [.ref 19] rfl rfl ?_
        refine z_xcV (vs := [.ref 19]) (r := []) (L2 := [some (.ref 19)]) zt192 4 rfl zo192 zzcV12_139 (Or.inl rfl) rfl X798 f19 rfl rfl rfl (Nat.le_of_ble_eq_true rfl) zzm193 (Nat.le_of_ble_eq_true rfl) rfl ?_
        refine z_xP zt193 0 1 [some (.ref 19)] [.ref 19] rfl rfl ?_
        refine z_xgv zt193 1 rfl zo193 zzf12_123 X798 f19 (by decide) h800 ?_
        refine z_xP zt193 2 5 [some (.ref 19)] [.ref 19, .int x795] rfl rfl ?_
        have h813 := (e799.f f19 (by decide) h1)
        refine z_xgv zt193 3 rfl zo193 zzf12_126 X798 f19 (by decide) h813 ?_
        refine z_xJ zt193 4 rfl rfl (fun (h814 : x2.toInt ≤ x795.toInt) => ?_) (fun (h814 : x795.toInt < x2.toInt) => ?_)
        · skip
          refine z_xP zt193 24 52 [some (.ref 19)] [.int 0] rfl rfl ?_
          refine z_xri zt193 25 rfl zzr193 ?_
          show z_ev (d + 971) 192 11 [some (.ref 19), some (.int 32)] [.int 0] M797 _
          refine z_xP zt192 5 12 [some (.ref 19), some (.int 32)] [.int 32, .int 0] rfl rfl ?_
          refine z_xJ zt192 6 rfl rfl (fun (h815 : (0 : Int) = 32) => absurd h815 (by omega)) (fun (h815 : (0 : Int) ≠ 32) => ?_)
          refine z_xP zt192 7 16 [some (.ref 19), some (.int 32)] [.int 0] rfl rfl ?_
          refine z_xrz zt192 8 rfl zzr192 (by decide) (by decide) ?_
          show z_ev (d + 972) 196 111 [some (.ref 19), some (.int x626), some (.int 0), none] [.int 0] M797 _
          refine z_xZ zt196 48 rfl rfl (fun (h816 : (0 : Int) ≠ 0) => absurd h816 (by omega)) (fun (h816 : (0 : Int) = 0) => ?_)
          refine z_xP zt196 49 115 [some (.ref 19), some (.int x626), some (.int 0), none] [.ref 19] rfl rfl ?_
          refine z_xcV (vs := [.ref 19]) (r := []) (L2 := [some (.ref 19)]) zt196 50 rfl zo196 zzcV12_163 (Or.inl rfl) rfl X798 f19 rfl rfl rfl (Nat.le_of_ble_eq_true rfl) zzm194 (Nat.le_of_ble_eq_true rfl) rfl ?_
          refine z_xP zt194 0 2 [some (.ref 19)] [.ref 19, .ref 19] rfl rfl ?_
          refine z_xgv zt194 1 rfl zo194 zzf12_136 X798 f19 (by decide) h801 ?_
          refine z_xZ zt194 2 rfl rfl (fun (h817 : 0 ≤ x802.toInt) => absurd h817 (by omega)) (fun (h817 : x802.toInt < 0) => ?_)
          refine z_xP zt194 3 9 [some (.ref 19)] [.ref 19, .ref 19] rfl rfl ?_
          refine z_xgv zt194 4 rfl zo194 zzf12_123 X798 f19 (by decide) h800 ?_
          refine z_xP zt194 5 19 [some (.ref 19)] [.int x795, .ref 19] rfl rfl ?_
          refine z_xpf zt194 8 rfl zo194 zzf12_136 X798 f19 (by decide) (by decide) ⟨Int32.le_toInt _, Int32.toInt_le _⟩ rfl (by decide) zw12_26 (fun M818 X819 e820 h821 => ?_)
          refine z_xP zt194 9 23 [some (.ref 19)] [.int 0] rfl rfl ?_
          refine z_xrz zt194 10 rfl zzr194 (by decide) (by decide) ?_
          show z_ev (d + 972) 196 118 [some (.ref 19), some (.int x626), some (.int 0), none] [.int 0] M818 _
          refine z_xP zt196 51 119 [some (.ref 19), some (.int x626), some (.int 0), some (.int 0)] [] rfl rfl ?_
          have h822 := (e820.f f19 (by decide) h800)
          exact z_xrv zt196 52 rfl zzr196 (kk M818 X819 x795 h822 ⟨by omega, by omega⟩ (by omega))
        refine z_xP zt193 5 12 [some (.ref 19)] [.ref 19] rfl rfl ?_
        have h823 := (e799.f f19 (by decide) h27)
        refine z_xgv zt193 6 rfl zo193 zzf12_129 X798 f19 (by decide) h823 ?_
        refine z_xZ zt193 7 rfl rfl (fun (h824 : x28.toInt = 0) => absurd h824 (by omega)) (fun (h824 : x28.toInt ≠ 0) => ?_)
        refine z_xP zt193 8 19 [some (.ref 19)] [.ref 19] rfl rfl ?_
        refine z_xgX (b := 20) zt193 9 rfl zo193 zzf12_9 X798 f19 (by decide) (by decide) rfl ?_
        refine z_xP zt193 10 23 [some (.ref 19)] [.ref 19, .ref 20] rfl rfl ?_
        refine z_xgv zt193 11 rfl zo193 zzf12_123 X798 f19 (by decide) h800 ?_
        refine z_xil zt193 12 rfl X798 f20 (by decide) (by omega) (by omega) (fun (x825 : Int32) h826 (h827 : (-2147483648) ≤ x825.toInt) (h828 : x825.toInt ≤ 2147483647) => ?_)
        refine z_xP zt193 13 52 [some (.ref 19)] [.int x825] rfl rfl ?_
        refine z_xri zt193 25 rfl zzr193 ?_
        show z_ev (d + 971) 192 11 [some (.ref 19), some (.int 32)] [.int x825] M797 _
        refine z_xP zt192 5 12 [some (.ref 19), some (.int 32)] [.int 32, .int x825] rfl rfl ?_
        refine z_xJ zt192 6 rfl rfl (fun (h829 : x825.toInt = 32) => ?_) (fun (h829 : x825.toInt ≠ 32) => ?_)
        · skip
          refine z_xP zt192 9 19 [some (.ref 19), some (.int 32)] [.ref 19, .ref 19] rfl rfl ?_
          refine z_xgv zt192 10 rfl zo192 zzf12_123 X798 f19 (by decide) h800 ?_
          refine z_xP zt192 11 23 [some (.ref 19), some (.int 32)] [.int 1, .int x795, .ref 19] rfl rfl ?_
          refine z_xI zt192 12 rfl rfl (fun (x830 : Int32) (h831 : x830.toInt = x795.toInt + 1) => ?_) (z_pAdd rfl rfl (by omega) (by omega))
          refine z_xpf zt192 13 rfl zo192 zzf12_123 X798 f19 (by decide) (by decide) ⟨by omega, by omega⟩ rfl (by decide) zw12_24 (fun M832 X833 e834 h835 => ?_)
          refine z_xP zt192 14 28 [some (.ref 19), some (.int 32)] [.int 1] rfl rfl ?_
          refine z_xrz zt192 15 rfl zzr192 (by decide) (by decide) ?_
          show z_ev (d + 972) 196 111 [some (.ref 19), some (.int x626), some (.int 0), none] [.int 1] M832 _
          refine z_xZ zt196 48 rfl rfl (fun (h836 : (1 : Int) ≠ 0) => ?_) (fun (h836 : (1 : Int) = 0) => absurd h836 (by omega))
          refine z_xP zt196 53 123 [some (.ref 19), some (.int x626), some (.int 0), none] [.int 112, .int x626] rfl rfl ?_
          refine z_xJ zt196 54 rfl rfl (fun (h837 : x626.toInt ≠ 112) => ?_) (fun (h837 : x626.toInt = 112) => absurd h837 (by omega))
          refine z_xP zt196 63 145 [some (.ref 19), some (.int x626), some (.int 0), none] [.int 101, .int x626] rfl rfl ?_
          refine z_xJ zt196 64 rfl rfl (fun (h838 : x626.toInt ≠ 101) => ?_) (fun (h838 : x626.toInt = 101) => absurd h838 (by omega))
          refine z_xP zt196 73 165 [some (.ref 19), some (.int x626), some (.int 0), none] [.ref 19] rfl rfl ?_
          refine z_xgX (b := 26) zt196 74 rfl zo196 zzf12_28 X833 f19 (by decide) (by decide) rfl ?_
          refine z_xP zt196 75 171 [some (.ref 19), some (.int x626), some (.int 0), none] [.ref 19, .int 8, .ref 26] rfl rfl ?_
          refine z_xgI zt196 76 rfl zo196 zzf12_133 X833 f19 (by decide) (by decide) rfl (fun (x840 : Int32) h839 (h841 : 0 ≤ x840.toInt) (h842 : x840.toInt ≤ 7) => ?_)
          refine z_xI zt196 77 rfl rfl (fun (x843 : Int32) (h844 : x843.toInt = 8 * x840.toInt) => ?_) (z_pMul rfl rfl (by omega) (by omega))
          refine z_xP zt196 78 176 [some (.ref 19), some (.int x626), some (.int 0), none] [.ref 19, .int x843, .ref 26] rfl rfl ?_
          refine z_xgX (b := 25) zt196 79 rfl zo196 zzf12_25 X833 f19 (by decide) (by decide) rfl ?_
          refine z_xP zt196 80 180 [some (.ref 19), some (.int x626), some (.int 0), none] [.ref 19, .ref 25, .int x843, .ref 26] rfl rfl ?_
          refine z_xgv zt196 81 rfl zo196 zzf12_133 X833 f19 (by decide) h839 ?_
          have f25 : T[25]? = some (.inr (25, 0, 8, 0, 8)) := X833.1.k rfl (by decide)
          refine z_xil zt196 82 rfl X833 f25 (by decide) (by omega) (by omega) (fun (x845 : Int32) h846 (h847 : 0 ≤ x845.toInt) (h848 : x845.toInt ≤ 8) => ?_)
          refine z_xI zt196 83 rfl rfl (fun (x849 : Int32) (h850 : x849.toInt = x843.toInt + x845.toInt) => ?_) (z_pAdd rfl rfl (by omega) (by omega))
          refine z_xP zt196 84 186 [some (.ref 19), some (.int x626), some (.int 0), none] [.ref 19, .int x849, .ref 26] rfl rfl ?_
          refine z_xgv zt196 85 rfl zo196 zzf12_123 X833 f19 (by decide) h835 ?_
          have f26 : T[26]? = some (.inr (26, 0, 64, 0, 160)) := X833.1.k rfl (by decide)
          refine z_xis zt196 86 rfl X833 f26 (by decide) (by decide) (by omega) (by omega) (by omega) (by omega) (by decide) (fun M851 X852 e853 h854 => ?_)
          refine z_xP zt196 87 191 [some (.ref 19), some (.int x626), some (.int 0), none] [.ref 19] rfl rfl ?_
          refine z_xgX (b := 25) zt196 88 rfl zo196 zzf12_25 X852 f19 (by decide) (by decide) rfl ?_
          refine z_xP zt196 89 195 [some (.ref 19), some (.int x626), some (.int 0), none] [.ref 19, .ref 25] rfl rfl ?_
          have h855 := (e853.f f19 (by decide) h839)
          refine z_xgv zt196 90 rfl zo196 zzf12_133 X852 f19 (by decide) h855 ?_
          refine z_xP zt196 91 199 [some (.ref 19), some (.int x626), some (.int 0), none] [.int x840, .ref 25, .int x840, .ref 25] rfl rfl ?_
          refine z_xil zt196 92 rfl X852 f25 (by decide) (by omega) (by omega) (fun (x856 : Int32) h857 (h858 : 0 ≤ x856.toInt) (h859 : x856.toInt ≤ 8) => ?_)
          have h860 := congrArg Int32.toInt (h857.symm.trans ((congrFun (e853.a f25 (by decide)) _).trans h846))
          refine z_xP zt196 93 201 [some (.ref 19), some (.int x626), some (.int 0), none] [.int 1, .int x856, .int x840, .ref 25] rfl rfl ?_
          refine z_xI zt196 94 rfl rfl (fun (x861 : Int32) (h862 : x861.toInt = x856.toInt + 1) => ?_) (z_pAdd rfl rfl (by omega) (by omega))
          refine z_xis zt196 95 rfl X852 f25 (by decide) (by decide) (by omega) (by omega) (by omega) (by omega) (by decide) (fun M863 X864 e865 h866 => ?_)
          refine z_xP zt196 96 204 [some (.ref 19), some (.int x626), some (.int 0), none] [.ref 19] rfl rfl ?_
          refine z_xcV (vs := [.ref 19]) (r := []) (L2 := [some (.ref 19), none, none]) zt196 97 rfl zo196 zzcV12_169 (Or.inl rfl) rfl X864 f19 rfl rfl rfl (Nat.le_of_ble_eq_true rfl) zzm198 (Nat.le_of_ble_eq_true rfl) rfl ?_
          have h867 := (e865.f f19 (by decide) (e853.f f19 (by decide) h835))
          refine zC198 X864.1 h867 ⟨by omega, by omega⟩ (z_GL.go hL X864 (by decide)) (fun x874 M868 X869 h875 h876 z870 h871 h872 h873 => ?_)
          have X877 := X864.go X869 (z_sb (by decide))
          show z_ev (d + 972) 196 207 [some (.ref 19), some (.int x626), some (.int 0), none] [.int x874] M868 _
          refine z_xP zt196 98 208 [some (.ref 19), some (.int x626), some (.int 0), some (.int x874)] [] rfl rfl ?_
          exact z_xrv zt196 99 rfl zzr196 (kk M868 X877 z870 h871 ⟨by omega, by omega⟩ (by omega))
        refine z_xP zt192 7 16 [some (.ref 19), some (.int 32)] [.int 0] rfl rfl ?_
        refine z_xrz zt192 8 rfl zzr192 (by decide) (by decide) ?_
        show z_ev (d + 972) 196 111 [some (.ref 19), some (.int x626), some (.int 0), none] [.int 0] M797 _
        refine z_xZ zt196 48 rfl rfl (fun (h879 : (0 : Int) ≠ 0) => absurd h879 (by omega)) (fun (h879 : (0 : Int) = 0) => ?_)
        refine z_xP zt196 49 115 [some (.ref 19), some (.int x626), some (.int 0), none] [.ref 19] rfl rfl ?_
        refine z_xcV (vs := [.ref 19]) (r := []) (L2 := [some (.ref 19)]) zt196 50 rfl zo196 zzcV12_163 (Or.inl rfl) rfl X798 f19 rfl rfl rfl (Nat.le_of_ble_eq_true rfl) zzm194 (Nat.le_of_ble_eq_true rfl) rfl ?_
        refine z_xP zt194 0 2 [some (.ref 19)] [.ref 19, .ref 19] rfl rfl ?_
        refine z_xgv zt194 1 rfl zo194 zzf12_136 X798 f19 (by decide) h801 ?_
        refine z_xZ zt194 2 rfl rfl (fun (h880 : 0 ≤ x802.toInt) => absurd h880 (by omega)) (fun (h880 : x802.toInt < 0) => ?_)
        refine z_xP zt194 3 9 [some (.ref 19)] [.ref 19, .ref 19] rfl rfl ?_
        refine z_xgv zt194 4 rfl zo194 zzf12_123 X798 f19 (by decide) h800 ?_
        refine z_xP zt194 5 19 [some (.ref 19)] [.int x795, .ref 19] rfl rfl ?_
        refine z_xpf zt194 8 rfl zo194 zzf12_136 X798 f19 (by decide) (by decide) ⟨Int32.le_toInt _, Int32.toInt_le _⟩ rfl (by decide) zw12_26 (fun M881 X882 e883 h884 => ?_)
        refine z_xP zt194 9 23 [some (.ref 19)] [.int 0] rfl rfl ?_
        refine z_xrz zt194 10 rfl zzr194 (by decide) (by decide) ?_
        show z_ev (d + 972) 196 118 [some (.ref 19), some (.int x626), some (.int 0), none] [.int 0] M881 _
        refine z_xP zt196 51 119 [some (.ref 19), some (.int x626), some (.int 0), some (.int 0)] [] rfl rfl ?_
        have h885 := (e883.f f19 (by decide) h800)
        exact z_xrv zt196 52 rfl zzr196 (kk M881 X882 x795 h885 ⟨by omega, by omega⟩ (by omega))
      refine z_xP zt196 20 48 [some (.ref 19), some (.int x626), none, none] [.ref 19] rfl rfl ?_
      refine z_xgX (b := 25) zt196 21 rfl zo196 zzf12_25 X f19 (by decide) (by decide) rfl ?_
      refine z_xP zt196 22 52 [some (.ref 19), some (.int x626), none, none] [.ref 19, .ref 25] rfl rfl ?_
      refine z_xgI zt196 23 rfl zo196 zzf12_133 X f19 (by decide) (by decide) rfl (fun (x887 : Int32) h886 (h888 : 0 ≤ x887.toInt) (h889 : x887.toInt ≤ 7) => ?_)
      have f25 : T[25]? = some (.inr (25, 0, 8, 0, 8)) := X.1.k rfl (by decide)
      refine z_xil zt196 24 rfl X f25 (by decide) (by omega) (by omega) (fun (x890 : Int32) h891 (h892 : 0 ≤ x890.toInt) (h893 : x890.toInt ≤ 8) => ?_)
      refine z_xP zt196 25 58 [some (.ref 19), some (.int x626), none, none] [.int 8, .int x890] rfl rfl ?_
      refine z_xJ zt196 26 rfl rfl (fun (h894 : x890.toInt ≠ 8) => ?_) (fun (h894 : x890.toInt = 8) => ?_)
      · skip
        refine z_xP zt196 28 66 [some (.ref 19), some (.int x626), none, none] [.int 0] rfl rfl ?_
        refine z_xP zt196 29 70 [some (.ref 19), some (.int x626), some (.int 0), none] [.int 112, .int x626] rfl rfl ?_
        refine z_xJ zt196 30 rfl rfl (fun (h895 : x626.toInt = 112) => absurd h895 (by omega)) (fun (h895 : x626.toInt ≠ 112) => ?_)
        refine z_xP zt196 31 76 [some (.ref 19), some (.int x626), some (.int 0), none] [.int 101, .int x626] rfl rfl ?_
        refine z_xJ zt196 32 rfl rfl (fun (h896 : x626.toInt = 101) => absurd h896 (by omega)) (fun (h896 : x626.toInt ≠ 101) => ?_)
        refine z_xP zt196 33 82 [some (.ref 19), some (.int x626), some (.int 0), none] [.int 116, .int x626] rfl rfl ?_
        refine z_xJ zt196 34 rfl rfl (fun (h897 : x626.toInt ≠ 116) => absurd h897 (by omega)) (fun (h897 : x626.toInt = 116) => ?_)
        refine z_xP zt196 35 86 [some (.ref 19), some (.int x626), some (.int 0), none] [.int 0] rfl rfl ?_
        refine z_xZ zt196 36 rfl rfl (fun (h898 : (0 : Int) = 0) => ?_) (fun (h898 : (0 : Int) ≠ 0) => absurd h898 (by omega))
        refine z_xP zt196 41 97 [some (.ref 19), some (.int x626), some (.int 0), none] [.ref 19, .ref 19] rfl rfl ?_
        refine z_xgv zt196 42 rfl zo196 zzf12_123 X f19 (by decide) hz0 ?_
        refine z_xP zt196 43 101 [some (.ref 19), some (.int x626), some (.int 0), none] [.int 1, .int zp0, .ref 19] rfl rfl ?_
        refine z_xI zt196 44 rfl rfl (fun (x899 : Int32) (h900 : x899.toInt = zp0.toInt + 1) => ?_) (z_pAdd rfl rfl (by omega) (by omega))
        refine z_xpf zt196 45 rfl zo196 zzf12_123 X f19 (by decide) (by decide) ⟨by omega, by omega⟩ rfl (by decide) zw12_24 (fun M901 X902 e903 h904 => ?_)
        refine z_xP zt196 46 108 [some (.ref 19), some (.int x626), some (.int 0), none] [.int 32, .ref 19] rfl rfl ?_
        refine z_xcV (vs := [.ref 19, .int 32]) (r := []) (L2 := [some (.ref 19), some (.int 32)]) zt196 47 rfl zo196 zzcV12_147 (Or.inl rfl) rfl X902 f19 rfl rfl rfl (Nat.le_of_ble_eq_true rfl) zzm192 (Nat.le_of_ble_eq_true rfl) rfl ?_
        refine z_xP zt192 0 1 [some (.ref 19), some (.int 32)] [.ref 19] rfl rfl ?_
        refine z_xgI zt192 1 rfl zo192 zzf12_136 X902 f19 (by decide) (by decide) rfl (fun (x906 : Int32) h905 (h907 : (-2147483648) ≤ x906.toInt) (h908 : x906.toInt ≤ 2147483647) => ?_)
        refine z_xZ zt192 2 rfl rfl (fun (h909 : 0 ≤ x906.toInt) => ?_) (fun (h909 : x906.toInt < 0) => ?_)
        · skip
          refine z_xP zt192 7 16 [some (.ref 19), some (.int 32)] [.int 0] rfl rfl ?_
          refine z_xrz zt192 8 rfl zzr192 (by decide) (by decide) ?_
          show z_ev (d + 972) 196 111 [some (.ref 19), some (.int x626), some (.int 0), none] [.int 0] M901 _
          refine z_xZ zt196 48 rfl rfl (fun (h910 : (0 : Int) ≠ 0) => absurd h910 (by omega)) (fun (h910 : (0 : Int) = 0) => ?_)
          refine z_xP zt196 49 115 [some (.ref 19), some (.int x626), some (.int 0), none] [.ref 19] rfl rfl ?_
          refine z_xcV (vs := [.ref 19]) (r := []) (L2 := [some (.ref 19)]) zt196 50 rfl zo196 zzcV12_163 (Or.inl rfl) rfl X902 f19 rfl rfl rfl (Nat.le_of_ble_eq_true rfl) zzm194 (Nat.le_of_ble_eq_true rfl) rfl ?_
          refine z_xP zt194 0 2 [some (.ref 19)] [.ref 19, .ref 19] rfl rfl ?_
          refine z_xgv zt194 1 rfl zo194 zzf12_136 X902 f19 (by decide) h905 ?_
          refine z_xZ zt194 2 rfl rfl (fun (h911 : 0 ≤ x906.toInt) => ?_) (fun (h911 : x906.toInt < 0) => absurd h911 (by omega))
          refine z_xP zt194 6 16 [some (.ref 19)] [.ref 19, .ref 19] rfl rfl ?_
          refine z_xgv zt194 7 rfl zo194 zzf12_136 X902 f19 (by decide) h905 ?_
          refine z_xpf zt194 8 rfl zo194 zzf12_136 X902 f19 (by decide) (by decide) ⟨Int32.le_toInt _, Int32.toInt_le _⟩ rfl (by decide) zw12_26 (fun M912 X913 e914 h915 => ?_)
          refine z_xP zt194 9 23 [some (.ref 19)] [.int 0] rfl rfl ?_
          refine z_xrz zt194 10 rfl zzr194 (by decide) (by decide) ?_
          show z_ev (d + 972) 196 118 [some (.ref 19), some (.int x626), some (.int 0), none] [.int 0] M912 _
          refine z_xP zt196 51 119 [some (.ref 19), some (.int x626), some (.int 0), some (.int 0)] [] rfl rfl ?_
          have h916 := (e914.f f19 (by decide) h904)
          exact z_xrv zt196 52 rfl zzr196 (kk M912 X913 x899 h916 ⟨by omega, by omega⟩ (by omega))
        refine z_xP zt192 3 8 [some (.ref 19), some (.int 32)] [.ref 19] rfl rfl ?_
        refine z_xcV (vs := [.ref 19]) (r := []) (L2 := [some (.ref 19)]) zt192 4 rfl zo192 zzcV12_139 (Or.inl rfl) rfl X902 f19 rfl rfl rfl (Nat.le_of_ble_eq_true rfl) zzm193 (Nat.le_of_ble_eq_true rfl) rfl ?_
        refine z_xP zt193 0 1 [some (.ref 19)] [.ref 19] rfl rfl ?_
        refine z_xgv zt193 1 rfl zo193 zzf12_123 X902 f19 (by decide) h904 ?_
        refine z_xP zt193 2 5 [some (.ref 19)] [.ref 19, .int x899] rfl rfl ?_
        have h917 := (e903.f f19 (by decide) h1)
        refine z_xgv zt193 3 rfl zo193 zzf12_126 X902 f19 (by decide) h917 ?_
        refine z_xJ zt193 4 rfl rfl (fun (h918 : x2.toInt ≤ x899.toInt) => ?_) (fun (h918 : x899.toInt < x2.toInt) => ?_)
        · skip
          refine z_xP zt193 24 52 [some (.ref 19)] [.int 0] rfl rfl ?_
          refine z_xri zt193 25 rfl zzr193 ?_
          show z_ev (d + 971) 192 11 [some (.ref 19), some (.int 32)] [.int 0] M901 _
          refine z_xP zt192 5 12 [some (.ref 19), some (.int 32)] [.int 32, .int 0] rfl rfl ?_
          refine z_xJ zt192 6 rfl rfl (fun (h919 : (0 : Int) = 32) => absurd h919 (by omega)) (fun (h919 : (0 : Int) ≠ 32) => ?_)
          refine z_xP zt192 7 16 [some (.ref 19), some (.int 32)] [.int 0] rfl rfl ?_
          refine z_xrz zt192 8 rfl zzr192 (by decide) (by decide) ?_
          show z_ev (d + 972) 196 111 [some (.ref 19), some (.int x626), some (.int 0), none] [.int 0] M901 _
          refine z_xZ zt196 48 rfl rfl (fun (h920 : (0 : Int) ≠ 0) => absurd h920 (by omega)) (fun (h920 : (0 : Int) = 0) => ?_)
          refine z_xP zt196 49 115 [some (.ref 19), some (.int x626), some (.int 0), none] [.ref 19] rfl rfl ?_
          refine z_xcV (vs := [.ref 19]) (r := []) (L2 := [some (.ref 19)]) zt196 50 rfl zo196 zzcV12_163 (Or.inl rfl) rfl X902 f19 rfl rfl rfl (Nat.le_of_ble_eq_true rfl) zzm194 (Nat.le_of_ble_eq_true rfl) rfl ?_
          refine z_xP zt194 0 2 [some (.ref 19)] [.ref 19, .ref 19] rfl rfl ?_
          refine z_xgv zt194 1 rfl zo194 zzf12_136 X902 f19 (by decide) h905 ?_
          refine z_xZ zt194 2 rfl rfl (fun (h921 : 0 ≤ x906.toInt) => absurd h921 (by omega)) (fun (h921 : x906.toInt < 0) => ?_)
          refine z_xP zt194 3 9 [some (.ref 19)] [.ref 19, .ref 19] rfl rfl ?_
          refine z_xgv zt194 4 rfl zo194 zzf12_123 X902 f19 (by decide) h904 ?_
          refine z_xP zt194 5 19 [some (.ref 19)] [.int x899, .ref 19] rfl rfl ?_
          refine z_xpf zt194 8 rfl zo194 zzf12_136 X902 f19 (by decide) (by decide) ⟨Int32.le_toInt _, Int32.toInt_le _⟩ rfl (by decide) zw12_26 (fun M922 X923 e924 h925 => ?_)
          refine z_xP zt194 9 23 [some (.ref 19)] [.int 0] rfl rfl ?_
          refine z_xrz zt194 10 rfl zzr194 (by decide) (by decide) ?_
          show z_ev (d + 972) 196 118 [some (.ref 19), some (.int x626), some (.int 0), none] [.int 0] M922 _
          refine z_xP zt196 51 119 [some (.ref 19), some (.int x626), some (.int 0), some (.int 0)] [] rfl rfl ?_
          have h926 := (e924.f f19 (by decide) h904)
          exact z_xrv zt196 52 rfl zzr196 (kk M922 X923 x899 h926 ⟨by omega, by omega⟩ (by omega))
        refine z_xP zt193 5 12 [some (.ref 19)] [.ref 19] rfl rfl ?_
        have h927 := (e903.f f19 (by decide) h27)
        refine z_xgv zt193 6 rfl zo193 zzf12_129 X902 f19 (by decide) h927 ?_
        refine z_xZ zt193 7 rfl rfl (fun (h928 : x28.toInt = 0) => absurd h928 (by omega)) (fun (h928 : x28.toInt ≠ 0) => ?_)
        refine z_xP zt193 8 19 [some (.ref 19)] [.ref 19] rfl rfl ?_
        refine z_xgX (b := 20) zt193 9 rfl zo193 zzf12_9 X902 f19 (by decide) (by decide) rfl ?_
        refine z_xP zt193 10 23 [some (.ref 19)] [.ref 19, .ref 20] rfl rfl ?_
        refine z_xgv zt193 11 rfl zo193 zzf12_123 X902 f19 (by decide) h904 ?_
        refine z_xil zt193 12 rfl X902 f20 (by decide) (by omega) (by omega) (fun (x929 : Int32) h930 (h931 : (-2147483648) ≤ x929.toInt) (h932 : x929.toInt ≤ 2147483647) => ?_)
        refine z_xP zt193 13 52 [some (.ref 19)] [.int x929] rfl rfl ?_
        refine z_xri zt193 25 rfl zzr193 ?_
        show z_ev (d + 971) 192 11 [some (.ref 19), some (.int 32)] [.int x929] M901 _
        refine z_xP zt192 5 12 [some (.ref 19), some (.int 32)] [.int 32, .int x929] rfl rfl ?_
        refine z_xJ zt192 6 rfl rfl (fun (h933 : x929.toInt = 32) => ?_) (fun (h933 : x929.toInt ≠ 32) => ?_)
        · skip
          refine z_xP zt192 9 19 [some (.ref 19), some (.int 32)] [.ref 19, .ref 19] rfl rfl ?_
          refine z_xgv zt192 10 rfl zo192 zzf12_123 X902 f19 (by decide) h904 ?_
          refine z_xP zt192 11 23 [some (.ref 19), some (.int 32)] [.int 1, .int x899, .ref 19] rfl rfl ?_
          refine z_xI zt192 12 rfl rfl (fun (x934 : Int32) (h935 : x934.toInt = x899.toInt + 1) => ?_) (z_pAdd rfl rfl (by omega) (by omega))
          refine z_xpf zt192 13 rfl zo192 zzf12_123 X902 f19 (by decide) (by decide) ⟨by omega, by omega⟩ rfl (by decide) zw12_24 (fun M936 X937 e938 h939 => ?_)
          refine z_xP zt192 14 28 [some (.ref 19), some (.int 32)] [.int 1] rfl rfl ?_
          refine z_xrz zt192 15 rfl zzr192 (by decide) (by decide) ?_
          show z_ev (d + 972) 196 111 [some (.ref 19), some (.int x626), some (.int 0), none] [.int 1] M936 _
          refine z_xZ zt196 48 rfl rfl (fun (h940 : (1 : Int) ≠ 0) => ?_) (fun (h940 : (1 : Int) = 0) => absurd h940 (by omega))
          refine z_xP zt196 53 123 [some (.ref 19), some (.int x626), some (.int 0), none] [.int 112, .int x626] rfl rfl ?_
          refine z_xJ zt196 54 rfl rfl (fun (h941 : x626.toInt ≠ 112) => ?_) (fun (h941 : x626.toInt = 112) => absurd h941 (by omega))
          refine z_xP zt196 63 145 [some (.ref 19), some (.int x626), some (.int 0), none] [.int 101, .int x626] rfl rfl ?_
          refine z_xJ zt196 64 rfl rfl (fun (h942 : x626.toInt ≠ 101) => ?_) (fun (h942 : x626.toInt = 101) => absurd h942 (by omega))
          refine z_xP zt196 73 165 [some (.ref 19), some (.int x626), some (.int 0), none] [.ref 19] rfl rfl ?_
          refine z_xgX (b := 26) zt196 74 rfl zo196 zzf12_28 X937 f19 (by decide) (by decide) rfl ?_
          refine z_xP zt196 75 171 [some (.ref 19), some (.int x626), some (.int 0), none] [.ref 19, .int 8, .ref 26] rfl rfl ?_
          have h943 := (e938.f f19 (by decide) (e903.f f19 (by decide) h886))
          refine z_xgv zt196 76 rfl zo196 zzf12_133 X937 f19 (by decide) h943 ?_
          refine z_xI zt196 77 rfl rfl (fun (x944 : Int32) (h945 : x944.toInt = 8 * x887.toInt) => ?_) (z_pMul rfl rfl (by omega) (by omega))
          refine z_xP zt196 78 176 [some (.ref 19), some (.int x626), some (.int 0), none] [.ref 19, .int x944, .ref 26] rfl rfl ?_
          refine z_xgX (b := 25) zt196 79 rfl zo196 zzf12_25 X937 f19 (by decide) (by decide) rfl ?_
          refine z_xP zt196 80 180 [some (.ref 19), some (.int x626), some (.int 0), none] [.ref 19, .ref 25, .int x944, .ref 26] rfl rfl ?_
          refine z_xgv zt196 81 rfl zo196 zzf12_133 X937 f19 (by decide) h943 ?_
          refine z_xil zt196 82 rfl X937 f25 (by decide) (by omega) (by omega) (fun (x946 : Int32) h947 (h948 : 0 ≤ x946.toInt) (h949 : x946.toInt ≤ 8) => ?_)
          have h950 := congrArg Int32.toInt (h947.symm.trans ((congrFun (e938.a f25 (by decide)) _).trans ((congrFun (e903.a f25 (by decide)) _).trans h891)))
          refine z_xI zt196 83 rfl rfl (fun (x951 : Int32) (h952 : x951.toInt = x944.toInt + x946.toInt) => ?_) (z_pAdd rfl rfl (by omega) (by omega))
          refine z_xP zt196 84 186 [some (.ref 19), some (.int x626), some (.int 0), none] [.ref 19, .int x951, .ref 26] rfl rfl ?_
          refine z_xgv zt196 85 rfl zo196 zzf12_123 X937 f19 (by decide) h939 ?_
          have f26 : T[26]? = some (.inr (26, 0, 64, 0, 160)) := X937.1.k rfl (by decide)
          refine z_xis zt196 86 rfl X937 f26 (by decide) (by decide) (by omega) (by omega) (by omega) (by omega) (by decide) (fun M953 X954 e955 h956 => ?_)
          refine z_xP zt196 87 191 [some (.ref 19), some (.int x626), some (.int 0), none] [.ref 19] rfl rfl ?_
          refine z_xgX (b := 25) zt196 88 rfl zo196 zzf12_25 X954 f19 (by decide) (by decide) rfl ?_
          refine z_xP zt196 89 195 [some (.ref 19), some (.int x626), some (.int 0), none] [.ref 19, .ref 25] rfl rfl ?_
          have h957 := (e955.f f19 (by decide) h943)
          refine z_xgv zt196 90 rfl zo196 zzf12_133 X954 f19 (by decide) h957 ?_
          refine z_xP zt196 91 199 [some (.ref 19), some (.int x626), some (.int 0), none] [.int x887, .ref 25, .int x887, .ref 25] rfl rfl ?_
          refine z_xil zt196 92 rfl X954 f25 (by decide) (by omega) (by omega) (fun (x958 : Int32) h959 (h960 : 0 ≤ x958.toInt) (h961 : x958.toInt ≤ 8) => ?_)
          have h962 := congrArg Int32.toInt (h959.symm.trans ((congrFun (e955.a f25 (by decide)) _).trans ((congrFun (e938.a f25 (by decide)) _).trans ((congrFun (e903.a f25 (by decide)) _).trans h891))))
          refine z_xP zt196 93 201 [some (.ref 19), some (.int x626), some (.int 0), none] [.int 1, .int x958, .int x887, .ref 25] rfl rfl ?_
          refine z_xI zt196 94 rfl rfl (fun (x963 : Int32) (h964 : x963.toInt = x958.toInt + 1) => ?_) (z_pAdd rfl rfl (by omega) (by omega))
          refine z_xis zt196 95 rfl X954 f25 (by decide) (by decide) (by omega) (by omega) (by omega) (by omega) (by decide) (fun M965 X966 e967 h968 => ?_)
          refine z_xP zt196 96 204 [some (.ref 19), some (.int x626), some (.int 0), none] [.ref 19] rfl rfl ?_
          refine z_xcV (vs := [.ref 19]) (r := []) (L2 := [some (.ref 19), none, none]) zt196 97 rfl zo196 zzcV12_169 (Or.inl rfl) rfl X966 f19 rfl rfl rfl (Nat.le_of_ble_eq_true rfl) zzm198 (Nat.le_of_ble_eq_true rfl) rfl ?_
          have h969 := (e967.f f19 (by decide) (e955.f f19 (by decide) h939))
          refine zC198 X966.1 h969 ⟨by omega, by omega⟩ (z_GL.go hL X966 (by decide)) (fun x976 M970 X971 h977 h978 z972 h973 h974 h975 => ?_)
          have X979 := X966.go X971 (z_sb (by decide))
          show z_ev (d + 972) 196 207 [some (.ref 19), some (.int x626), some (.int 0), none] [.int x976] M970 _
          refine z_xP zt196 98 208 [some (.ref 19), some (.int x626), some (.int 0), some (.int x976)] [] rfl rfl ?_
          exact z_xrv zt196 99 rfl zzr196 (kk M970 X979 z972 h973 ⟨by omega, by omega⟩ (by omega))
        refine z_xP zt192 7 16 [some (.ref 19), some (.int 32)] [.int 0] rfl rfl ?_
        refine z_xrz zt192 8 rfl zzr192 (by decide) (by decide) ?_
        show z_ev (d + 972) 196 111 [some (.ref 19), some (.int x626), some (.int 0), none] [.int 0] M901 _
        refine z_xZ zt196 48 rfl rfl (fun (h981 : (0 : Int) ≠ 0) => absurd h981 (by omega)) (fun (h981 : (0 : Int) = 0) => ?_)
        refine z_xP zt196 49 115 [some (.ref 19), some (.int x626), some (.int 0), none] [.ref 19] rfl rfl ?_
        refine z_xcV (vs := [.ref 19]) (r := []) (L2 := [some (.ref 19)]) zt196 50 rfl zo196 zzcV12_163 (Or.inl rfl) rfl X902 f19 rfl rfl rfl (Nat.le_of_ble_eq_true rfl) zzm194 (Nat.le_of_ble_eq_true rfl) rfl ?_
        refine z_xP zt194 0 2 [some (.ref 19)] [.ref 19, .ref 19] rfl rfl ?_
        refine z_xgv zt194 1 rfl zo194 zzf12_136 X902 f19 (by decide) h905 ?_
        refine z_xZ zt194 2 rfl rfl (fun (h982 : 0 ≤ x906.toInt) => absurd h982 (by omega)) (fun (h982 : x906.toInt < 0) => ?_)
        refine z_xP zt194 3 9 [some (.ref 19)] [.ref 19, .ref 19] rfl rfl ?_
        refine z_xgv zt194 4 rfl zo194 zzf12_123 X902 f19 (by decide) h904 ?_
        refine z_xP zt194 5 19 [some (.ref 19)] [.int x899, .ref 19] rfl rfl ?_
        refine z_xpf zt194 8 rfl zo194 zzf12_136 X902 f19 (by decide) (by decide) ⟨Int32.le_toInt _, Int32.toInt_le _⟩ rfl (by decide) zw12_26 (fun M983 X984 e985 h986 => ?_)
        refine z_xP zt194 9 23 [some (.ref 19)] [.int 0] rfl rfl ?_
        refine z_xrz zt194 10 rfl zzr194 (by decide) (by decide) ?_
        show z_ev (d + 972) 196 118 [some (.ref 19), some (.int x626), some (.int 0), none] [.int 0] M983 _
        refine z_xP zt196 51 119 [some (.ref 19), some (.int x626), some (.int 0), some (.int 0)] [] rfl rfl ?_
        have h987 := (e985.f f19 (by decide) h904)
        exact z_xrv zt196 52 rfl zzr196 (kk M983 X984 x899 h987 ⟨by omega, by omega⟩ (by omega))
      refine z_xP zt196 27 66 [some (.ref 19), some (.int x626), none, none] [.int 1] rfl rfl ?_
      refine z_xP zt196 29 70 [some (.ref 19), some (.int x626), some (.int 1), none] [.int 112, .int x626] rfl rfl ?_
      refine z_xJ zt196 30 rfl rfl (fun (h988 : x626.toInt = 112) => absurd h988 (by omega)) (fun (h988 : x626.toInt ≠ 112) => ?_)
      refine z_xP zt196 31 76 [some (.ref 19), some (.int x626), some (.int 1), none] [.int 101, .int x626] rfl rfl ?_
      refine z_xJ zt196 32 rfl rfl (fun (h989 : x626.toInt = 101) => absurd h989 (by omega)) (fun (h989 : x626.toInt ≠ 101) => ?_)
      refine z_xP zt196 33 82 [some (.ref 19), some (.int x626), some (.int 1), none] [.int 116, .int x626] rfl rfl ?_
      refine z_xJ zt196 34 rfl rfl (fun (h990 : x626.toInt ≠ 116) => absurd h990 (by omega)) (fun (h990 : x626.toInt = 116) => ?_)
      refine z_xP zt196 35 86 [some (.ref 19), some (.int x626), some (.int 1), none] [.int 1] rfl rfl ?_
      refine z_xZ zt196 36 rfl rfl (fun (h991 : (1 : Int) = 0) => absurd h991 (by omega)) (fun (h991 : (1 : Int) ≠ 0) => ?_)
      refine z_xP zt196 37 90 [some (.ref 19), some (.int x626), some (.int 1), none] [.ref 19] rfl rfl ?_
      refine z_xcV (vs := [.ref 19]) (r := []) (L2 := [some (.ref 19)]) zt196 38 rfl zo196 zzcV12_163 (Or.inl rfl) rfl X f19 rfl rfl rfl (Nat.le_of_ble_eq_true rfl) zzm194 (Nat.le_of_ble_eq_true rfl) rfl ?_
      refine z_xP zt194 0 2 [some (.ref 19)] [.ref 19, .ref 19] rfl rfl ?_
      refine z_xgI zt194 1 rfl zo194 zzf12_136 X f19 (by decide) (by decide) rfl (fun (x993 : Int32) h992 (h994 : (-2147483648) ≤ x993.toInt) (h995 : x993.toInt ≤ 2147483647) => ?_)
      refine z_xZ zt194 2 rfl rfl (fun (h996 : 0 ≤ x993.toInt) => ?_) (fun (h996 : x993.toInt < 0) => ?_)
      · skip
        refine z_xP zt194 6 16 [some (.ref 19)] [.ref 19, .ref 19] rfl rfl ?_
        refine z_xgv zt194 7 rfl zo194 zzf12_136 X f19 (by decide) h992 ?_
        refine z_xpf zt194 8 rfl zo194 zzf12_136 X f19 (by decide) (by decide) ⟨Int32.le_toInt _, Int32.toInt_le _⟩ rfl (by decide) zw12_26 (fun M997 X998 e999 h1000 => ?_)
        refine z_xP zt194 9 23 [some (.ref 19)] [.int 0] rfl rfl ?_
        refine z_xrz zt194 10 rfl zzr194 (by decide) (by decide) ?_
        show z_ev (d + 972) 196 93 [some (.ref 19), some (.int x626), some (.int 1), none] [.int 0] M997 _
        refine z_xP zt196 39 94 [some (.ref 19), some (.int x626), some (.int 1), some (.int 0)] [] rfl rfl ?_
        have h1001 := (e999.f f19 (by decide) hz0)
        exact z_xrv zt196 40 rfl zzr196 (kk M997 X998 zp0 h1001 ⟨by omega, by omega⟩ (by omega))
      refine z_xP zt194 3 9 [some (.ref 19)] [.ref 19, .ref 19] rfl rfl ?_
      refine z_xgv zt194 4 rfl zo194 zzf12_123 X f19 (by decide) hz0 ?_
      refine z_xP zt194 5 19 [some (.ref 19)] [.int zp0, .ref 19] rfl rfl ?_
      refine z_xpf zt194 8 rfl zo194 zzf12_136 X f19 (by decide) (by decide) ⟨Int32.le_toInt _, Int32.toInt_le _⟩ rfl (by decide) zw12_26 (fun M1002 X1003 e1004 h1005 => ?_)
      refine z_xP zt194 9 23 [some (.ref 19)] [.int 0] rfl rfl ?_
      refine z_xrz zt194 10 rfl zzr194 (by decide) (by decide) ?_
      show z_ev (d + 972) 196 93 [some (.ref 19), some (.int x626), some (.int 1), none] [.int 0] M1002 _
      refine z_xP zt196 39 94 [some (.ref 19), some (.int x626), some (.int 1), some (.int 0)] [] rfl rfl ?_
      have h1006 := (e1004.f f19 (by decide) hz0)
      exact z_xrv zt196 40 rfl zzr196 (kk M1002 X1003 zp0 h1006 ⟨by omega, by omega⟩ (by omega))
    refine z_xP zt196 12 30 [some (.ref 19), some (.int x626), none, none] [.ref 19] rfl rfl ?_
    refine z_xgX (b := 28) zt196 13 rfl zo196 zzf12_34 X f19 (by decide) (by decide) rfl ?_
    refine z_xP zt196 14 34 [some (.ref 19), some (.int x626), none, none] [.ref 19, .ref 28] rfl rfl ?_
    refine z_xgI zt196 15 rfl zo196 zzf12_133 X f19 (by decide) (by decide) rfl (fun (x1008 : Int32) h1007 (h1009 : 0 ≤ x1008.toInt) (h1010 : x1008.toInt ≤ 7) => ?_)
    have f28 : T[28]? = some (.inr (28, 0, 8, (-2147483648), 2147483647)) := X.1.k rfl (by decide)
    refine z_xil zt196 16 rfl X f28 (by decide) (by omega) (by omega) (fun (x1011 : Int32) h1012 (h1013 : (-2147483648) ≤ x1011.toInt) (h1014 : x1011.toInt ≤ 2147483647) => ?_)
    refine z_xZ zt196 17 rfl rfl (fun (h1015 : 0 < x1011.toInt) => ?_) (fun (h1015 : x1011.toInt ≤ 0) => ?_)
    · skip
      refine z_xP zt196 27 66 [some (.ref 19), some (.int x626), none, none] [.int 1] rfl rfl ?_
      refine z_xP zt196 29 70 [some (.ref 19), some (.int x626), some (.int 1), none] [.int 112, .int x626] rfl rfl ?_
      refine z_xJ zt196 30 rfl rfl (fun (h1016 : x626.toInt = 112) => absurd h1016 (by omega)) (fun (h1016 : x626.toInt ≠ 112) => ?_)
      refine z_xP zt196 31 76 [some (.ref 19), some (.int x626), some (.int 1), none] [.int 101, .int x626] rfl rfl ?_
      refine z_xJ zt196 32 rfl rfl (fun (h1017 : x626.toInt = 101) => ?_) (fun (h1017 : x626.toInt ≠ 101) => absurd h1017 (by omega))
      refine z_xP zt196 35 86 [some (.ref 19), some (.int x626), some (.int 1), none] [.int 1] rfl rfl ?_
      refine z_xZ zt196 36 rfl rfl (fun (h1018 : (1 : Int) = 0) => absurd h1018 (by omega)) (fun (h1018 : (1 : Int) ≠ 0) => ?_)
      refine z_xP zt196 37 90 [some (.ref 19), some (.int x626), some (.int 1), none] [.ref 19] rfl rfl ?_
      refine z_xcV (vs := [.ref 19]) (r := []) (L2 := [some (.ref 19)]) zt196 38 rfl zo196 zzcV12_163 (Or.inl rfl) rfl X f19 rfl rfl rfl (Nat.le_of_ble_eq_true rfl) zzm194 (Nat.le_of_ble_eq_true rfl) rfl ?_
      refine z_xP zt194 0 2 [some (.ref 19)] [.ref 19, .ref 19] rfl rfl ?_
      refine z_xgI zt194 1 rfl zo194 zzf12_136 X f19 (by decide) (by decide) rfl (fun (x1020 : Int32) h1019 (h1021 : (-2147483648) ≤ x1020.toInt) (h1022 : x1020.toInt ≤ 2147483647) => ?_)
      refine z_xZ zt194 2 rfl rfl (fun (h1023 : 0 ≤ x1020.toInt) => ?_) (fun (h1023 : x1020.toInt < 0) => ?_)
      · skip
        refine z_xP zt194 6 16 [some (.ref 19)] [.ref 19, .ref 19] rfl rfl ?_
        refine z_xgv zt194 7 rfl zo194 zzf12_136 X f19 (by decide) h1019 ?_
        refine z_xpf zt194 8 rfl zo194 zzf12_136 X f19 (by decide) (by decide) ⟨Int32.le_toInt _, Int32.toInt_le _⟩ rfl (by decide) zw12_26 (fun M1024 X1025 e1026 h1027 => ?_)
        refine z_xP zt194 9 23 [some (.ref 19)] [.int 0] rfl rfl ?_
        refine z_xrz zt194 10 rfl zzr194 (by decide) (by decide) ?_
        show z_ev (d + 972) 196 93 [some (.ref 19), some (.int x626), some (.int 1), none] [.int 0] M1024 _
        refine z_xP zt196 39 94 [some (.ref 19), some (.int x626), some (.int 1), some (.int 0)] [] rfl rfl ?_
        have h1028 := (e1026.f f19 (by decide) hz0)
        exact z_xrv zt196 40 rfl zzr196 (kk M1024 X1025 zp0 h1028 ⟨by omega, by omega⟩ (by omega))
      refine z_xP zt194 3 9 [some (.ref 19)] [.ref 19, .ref 19] rfl rfl ?_
      refine z_xgv zt194 4 rfl zo194 zzf12_123 X f19 (by decide) hz0 ?_
      refine z_xP zt194 5 19 [some (.ref 19)] [.int zp0, .ref 19] rfl rfl ?_
      refine z_xpf zt194 8 rfl zo194 zzf12_136 X f19 (by decide) (by decide) ⟨Int32.le_toInt _, Int32.toInt_le _⟩ rfl (by decide) zw12_26 (fun M1029 X1030 e1031 h1032 => ?_)
      refine z_xP zt194 9 23 [some (.ref 19)] [.int 0] rfl rfl ?_
      refine z_xrz zt194 10 rfl zzr194 (by decide) (by decide) ?_
      show z_ev (d + 972) 196 93 [some (.ref 19), some (.int x626), some (.int 1), none] [.int 0] M1029 _
      refine z_xP zt196 39 94 [some (.ref 19), some (.int x626), some (.int 1), some (.int 0)] [] rfl rfl ?_
      have h1033 := (e1031.f f19 (by decide) hz0)
      exact z_xrv zt196 40 rfl zzr196 (kk M1029 X1030 zp0 h1033 ⟨by omega, by omega⟩ (by omega))
    refine z_xP zt196 18 44 [some (.ref 19), some (.int x626), none, none] [.int 116, .int x626] rfl rfl ?_
    refine z_xJ zt196 19 rfl rfl (fun (h1034 : x626.toInt ≠ 116) => ?_) (fun (h1034 : x626.toInt = 116) => absurd h1034 (by omega))
    refine z_xP zt196 28 66 [some (.ref 19), some (.int x626), none, none] [.int 0] rfl rfl ?_
    refine z_xP zt196 29 70 [some (.ref 19), some (.int x626), some (.int 0), none] [.int 112, .int x626] rfl rfl ?_
    refine z_xJ zt196 30 rfl rfl (fun (h1035 : x626.toInt = 112) => absurd h1035 (by omega)) (fun (h1035 : x626.toInt ≠ 112) => ?_)
    refine z_xP zt196 31 76 [some (.ref 19), some (.int x626), some (.int 0), none] [.int 101, .int x626] rfl rfl ?_
    refine z_xJ zt196 32 rfl rfl (fun (h1036 : x626.toInt = 101) => ?_) (fun (h1036 : x626.toInt ≠ 101) => absurd h1036 (by omega))
    refine z_xP zt196 35 86 [some (.ref 19), some (.int x626), some (.int 0), none] [.int 0] rfl rfl ?_
    refine z_xZ zt196 36 rfl rfl (fun (h1037 : (0 : Int) = 0) => ?_) (fun (h1037 : (0 : Int) ≠ 0) => absurd h1037 (by omega))
    refine z_xP zt196 41 97 [some (.ref 19), some (.int x626), some (.int 0), none] [.ref 19, .ref 19] rfl rfl ?_
    refine z_xgv zt196 42 rfl zo196 zzf12_123 X f19 (by decide) hz0 ?_
    refine z_xP zt196 43 101 [some (.ref 19), some (.int x626), some (.int 0), none] [.int 1, .int zp0, .ref 19] rfl rfl ?_
    refine z_xI zt196 44 rfl rfl (fun (x1038 : Int32) (h1039 : x1038.toInt = zp0.toInt + 1) => ?_) (z_pAdd rfl rfl (by omega) (by omega))
    refine z_xpf zt196 45 rfl zo196 zzf12_123 X f19 (by decide) (by decide) ⟨by omega, by omega⟩ rfl (by decide) zw12_24 (fun M1040 X1041 e1042 h1043 => ?_)
    refine z_xP zt196 46 108 [some (.ref 19), some (.int x626), some (.int 0), none] [.int 32, .ref 19] rfl rfl ?_
    refine z_xcV (vs := [.ref 19, .int 32]) (r := []) (L2 := [some (.ref 19), some (.int 32)]) zt196 47 rfl zo196 zzcV12_147 (Or.inl rfl) rfl X1041 f19 rfl rfl rfl (Nat.le_of_ble_eq_true rfl) zzm192 (Nat.le_of_ble_eq_true rfl) rfl ?_
    refine z_xP zt192 0 1 [some (.ref 19), some (.int 32)] [.ref 19] rfl rfl ?_
    refine z_xgI zt192 1 rfl zo192 zzf12_136 X1041 f19 (by decide) (by decide) rfl (fun (x1045 : Int32) h1044 (h1046 : (-2147483648) ≤ x1045.toInt) (h1047 : x1045.toInt ≤ 2147483647) => ?_)
    refine z_xZ zt192 2 rfl rfl (fun (h1048 : 0 ≤ x1045.toInt) => ?_) (fun (h1048 : x1045.toInt < 0) => ?_)
    · skip
      refine z_xP zt192 7 16 [some (.ref 19), some (.int 32)] [.int 0] rfl rfl ?_
      refine z_xrz zt192 8 rfl zzr192 (by decide) (by decide) ?_
      show z_ev (d + 972) 196 111 [some (.ref 19), some (.int x626), some (.int 0), none] [.int 0] M1040 _
      refine z_xZ zt196 48 rfl rfl (fun (h1049 : (0 : Int) ≠ 0) => absurd h1049 (by omega)) (fun (h1049 : (0 : Int) = 0) => ?_)
      refine z_xP zt196 49 115 [some (.ref 19), some (.int x626), some (.int 0), none] [.ref 19] rfl rfl ?_
      refine z_xcV (vs := [.ref 19]) (r := []) (L2 := [some (.ref 19)]) zt196 50 rfl zo196 zzcV12_163 (Or.inl rfl) rfl X1041 f19 rfl rfl rfl (Nat.le_of_ble_eq_true rfl) zzm194 (Nat.le_of_ble_eq_true rfl) rfl ?_
      refine z_xP zt194 0 2 [some (.ref 19)] [.ref 19, .ref 19] rfl rfl ?_
      refine z_xgv zt194 1 rfl zo194 zzf12_136 X1041 f19 (by decide) h1044 ?_
      refine z_xZ zt194 2 rfl rfl (fun (h1050 : 0 ≤ x1045.toInt) => ?_) (fun (h1050 : x1045.toInt < 0) => absurd h1050 (by omega))
      refine z_xP zt194 6 16 [some (.ref 19)] [.ref 19, .ref 19] rfl rfl ?_
      refine z_xgv zt194 7 rfl zo194 zzf12_136 X1041 f19 (by decide) h1044 ?_
      refine z_xpf zt194 8 rfl zo194 zzf12_136 X1041 f19 (by decide) (by decide) ⟨Int32.le_toInt _, Int32.toInt_le _⟩ rfl (by decide) zw12_26 (fun M1051 X1052 e1053 h1054 => ?_)
      refine z_xP zt194 9 23 [some (.ref 19)] [.int 0] rfl rfl ?_
      refine z_xrz zt194 10 rfl zzr194 (by decide) (by decide) ?_
      show z_ev (d + 972) 196 118 [some (.ref 19), some (.int x626), some (.int 0), none] [.int 0] M1051 _
      refine z_xP zt196 51 119 [some (.ref 19), some (.int x626), some (.int 0), some (.int 0)] [] rfl rfl ?_
      have h1055 := (e1053.f f19 (by decide) h1043)
      exact z_xrv zt196 52 rfl zzr196 (kk M1051 X1052 x1038 h1055 ⟨by omega, by omega⟩ (by omega))
    refine z_xP zt192 3 8 [some (.ref 19), some (.int 32)] [.ref 19] rfl rfl ?_
    refine z_xcV (vs := [.ref 19]) (r := []) (L2 := [some (.ref 19)]) zt192 4 rfl zo192 zzcV12_139 (Or.inl rfl) rfl X1041 f19 rfl rfl rfl (Nat.le_of_ble_eq_true rfl) zzm193 (Nat.le_of_ble_eq_true rfl) rfl ?_
    refine z_xP zt193 0 1 [some (.ref 19)] [.ref 19] rfl rfl ?_
    refine z_xgv zt193 1 rfl zo193 zzf12_123 X1041 f19 (by decide) h1043 ?_
    refine z_xP zt193 2 5 [some (.ref 19)] [.ref 19, .int x1038] rfl rfl ?_
    have h1056 := (e1042.f f19 (by decide) h1)
    refine z_xgv zt193 3 rfl zo193 zzf12_126 X1041 f19 (by decide) h1056 ?_
    refine z_xJ zt193 4 rfl rfl (fun (h1057 : x2.toInt ≤ x1038.toInt) => ?_) (fun (h1057 : x1038.toInt < x2.toInt) => ?_)
    · skip
      refine z_xP zt193 24 52 [some (.ref 19)] [.int 0] rfl rfl ?_
      refine z_xri zt193 25 rfl zzr193 ?_
      show z_ev (d + 971) 192 11 [some (.ref 19), some (.int 32)] [.int 0] M1040 _
      refine z_xP zt192 5 12 [some (.ref 19), some (.int 32)] [.int 32, .int 0] rfl rfl ?_
      refine z_xJ zt192 6 rfl rfl (fun (h1058 : (0 : Int) = 32) => absurd h1058 (by omega)) (fun (h1058 : (0 : Int) ≠ 32) => ?_)
      refine z_xP zt192 7 16 [some (.ref 19), some (.int 32)] [.int 0] rfl rfl ?_
      refine z_xrz zt192 8 rfl zzr192 (by decide) (by decide) ?_
      show z_ev (d + 972) 196 111 [some (.ref 19), some (.int x626), some (.int 0), none] [.int 0] M1040 _
      refine z_xZ zt196 48 rfl rfl (fun (h1059 : (0 : Int) ≠ 0) => absurd h1059 (by omega)) (fun (h1059 : (0 : Int) = 0) => ?_)
      refine z_xP zt196 49 115 [some (.ref 19), some (.int x626), some (.int 0), none] [.ref 19] rfl rfl ?_
      refine z_xcV (vs := [.ref 19]) (r := []) (L2 := [some (.ref 19)]) zt196 50 rfl zo196 zzcV12_163 (Or.inl rfl) rfl X1041 f19 rfl rfl rfl (Nat.le_of_ble_eq_true rfl) zzm194 (Nat.le_of_ble_eq_true rfl) rfl ?_
      refine z_xP zt194 0 2 [some (.ref 19)] [.ref 19, .ref 19] rfl rfl ?_
      refine z_xgv zt194 1 rfl zo194 zzf12_136 X1041 f19 (by decide) h1044 ?_
      refine z_xZ zt194 2 rfl rfl (fun (h1060 : 0 ≤ x1045.toInt) => absurd h1060 (by omega)) (fun (h1060 : x1045.toInt < 0) => ?_)
      refine z_xP zt194 3 9 [some (.ref 19)] [.ref 19, .ref 19] rfl rfl ?_
      refine z_xgv zt194 4 rfl zo194 zzf12_123 X1041 f19 (by decide) h1043 ?_
      refine z_xP zt194 5 19 [some (.ref 19)] [.int x1038, .ref 19] rfl rfl ?_
      refine z_xpf zt194 8 rfl zo194 zzf12_136 X1041 f19 (by decide) (by decide) ⟨Int32.le_toInt _, Int32.toInt_le _⟩ rfl (by decide) zw12_26 (fun M1061 X1062 e1063 h1064 => ?_)
      refine z_xP zt194 9 23 [some (.ref 19)] [.int 0] rfl rfl ?_
      refine z_xrz zt194 10 rfl zzr194 (by decide) (by decide) ?_
      show z_ev (d + 972) 196 118 [some (.ref 19), some (.int x626), some (.int 0), none] [.int 0] M1061 _
      refine z_xP zt196 51 119 [some (.ref 19), some (.int x626), some (.int 0), some (.int 0)] [] rfl rfl ?_
      have h1065 := (e1063.f f19 (by decide) h1043)
      exact z_xrv zt196 52 rfl zzr196 (kk M1061 X1062 x1038 h1065 ⟨by omega, by omega⟩ (by omega))
    refine z_xP zt193 5 12 [some (.ref 19)] [.ref 19] rfl rfl ?_
    have h1066 := (e1042.f f19 (by decide) h27)
    refine z_xgv zt193 6 rfl zo193 zzf12_129 X1041 f19 (by decide) h1066 ?_
    refine z_xZ zt193 7 rfl rfl (fun (h1067 : x28.toInt = 0) => absurd h1067 (by omega)) (fun (h1067 : x28.toInt ≠ 0) => ?_)
    refine z_xP zt193 8 19 [some (.ref 19)] [.ref 19] rfl rfl ?_
    refine z_xgX (b := 20) zt193 9 rfl zo193 zzf12_9 X1041 f19 (by decide) (by decide) rfl ?_
    refine z_xP zt193 10 23 [some (.ref 19)] [.ref 19, .ref 20] rfl rfl ?_
    refine z_xgv zt193 11 rfl zo193 zzf12_123 X1041 f19 (by decide) h1043 ?_
    refine z_xil zt193 12 rfl X1041 f20 (by decide) (by omega) (by omega) (fun (x1068 : Int32) h1069 (h1070 : (-2147483648) ≤ x1068.toInt) (h1071 : x1068.toInt ≤ 2147483647) => ?_)
    refine z_xP zt193 13 52 [some (.ref 19)] [.int x1068] rfl rfl ?_
    refine z_xri zt193 25 rfl zzr193 ?_
    show z_ev (d + 971) 192 11 [some (.ref 19), some (.int 32)] [.int x1068] M1040 _
    refine z_xP zt192 5 12 [some (.ref 19), some (.int 32)] [.int 32, .int x1068] rfl rfl ?_
    refine z_xJ zt192 6 rfl rfl (fun (h1072 : x1068.toInt = 32) => ?_) (fun (h1072 : x1068.toInt ≠ 32) => ?_)
    · skip
      refine z_xP zt192 9 19 [some (.ref 19), some (.int 32)] [.ref 19, .ref 19] rfl rfl ?_
      refine z_xgv zt192 10 rfl zo192 zzf12_123 X1041 f19 (by decide) h1043 ?_
      refine z_xP zt192 11 23 [some (.ref 19), some (.int 32)] [.int 1, .int x1038, .ref 19] rfl rfl ?_
      refine z_xI zt192 12 rfl rfl (fun (x1073 : Int32) (h1074 : x1073.toInt = x1038.toInt + 1) => ?_) (z_pAdd rfl rfl (by omega) (by omega))
      refine z_xpf zt192 13 rfl zo192 zzf12_123 X1041 f19 (by decide) (by decide) ⟨by omega, by omega⟩ rfl (by decide) zw12_24 (fun M1075 X1076 e1077 h1078 => ?_)
      refine z_xP zt192 14 28 [some (.ref 19), some (.int 32)] [.int 1] rfl rfl ?_
      refine z_xrz zt192 15 rfl zzr192 (by decide) (by decide) ?_
      show z_ev (d + 972) 196 111 [some (.ref 19), some (.int x626), some (.int 0), none] [.int 1] M1075 _
      refine z_xZ zt196 48 rfl rfl (fun (h1079 : (1 : Int) ≠ 0) => ?_) (fun (h1079 : (1 : Int) = 0) => absurd h1079 (by omega))
      refine z_xP zt196 53 123 [some (.ref 19), some (.int x626), some (.int 0), none] [.int 112, .int x626] rfl rfl ?_
      refine z_xJ zt196 54 rfl rfl (fun (h1080 : x626.toInt ≠ 112) => ?_) (fun (h1080 : x626.toInt = 112) => absurd h1080 (by omega))
      refine z_xP zt196 63 145 [some (.ref 19), some (.int x626), some (.int 0), none] [.int 101, .int x626] rfl rfl ?_
      refine z_xJ zt196 64 rfl rfl (fun (h1081 : x626.toInt ≠ 101) => absurd h1081 (by omega)) (fun (h1081 : x626.toInt = 101) => ?_)
      refine z_xP zt196 65 149 [some (.ref 19), some (.int x626), some (.int 0), none] [.ref 19] rfl rfl ?_
      refine z_xgX (b := 28) zt196 66 rfl zo196 zzf12_34 X1076 f19 (by decide) (by decide) rfl ?_
      refine z_xP zt196 67 153 [some (.ref 19), some (.int x626), some (.int 0), none] [.ref 19, .ref 28] rfl rfl ?_
      have h1082 := (e1077.f f19 (by decide) (e1042.f f19 (by decide) h1007))
      refine z_xgv zt196 68 rfl zo196 zzf12_133 X1076 f19 (by decide) h1082 ?_
      refine z_xP zt196 69 157 [some (.ref 19), some (.int x626), some (.int 0), none] [.ref 19, .int x1008, .ref 28] rfl rfl ?_
      refine z_xcV (vs := [.ref 19]) (r := [.int x1008, .ref 28]) (L2 := [some (.ref 19), none, none, none, none]) zt196 70 rfl zo196 zzcV12_190 (Or.inl rfl) rfl X1076 f19 rfl rfl rfl (Nat.le_of_ble_eq_true rfl) zzm197 (Nat.le_of_ble_eq_true rfl) rfl ?_
      refine zC197 X1076.1 h1078 ⟨by omega, by omega⟩ (z_GL.go hL X1076 (by decide)) (fun x1089 M1083 X1084 h1090 h1091 z1085 h1086 h1087 h1088 => ?_)
      have X1092 := X1076.go X1084 (z_sb (by decide))
      show z_ev (d + 972) 196 160 [some (.ref 19), some (.int x626), some (.int 0), none] [.int x1089, .int x1008, .ref 28] M1083 _
      refine z_xis zt196 71 rfl X1092 f28 (by decide) (by decide) (by omega) (by omega) (Int32.le_toInt _) (Int32.toInt_le _) (by decide) (fun M1094 X1095 e1096 h1097 => ?_)
      refine z_xP zt196 72 208 [some (.ref 19), some (.int x626), some (.int 0), none] [] rfl rfl ?_
      have h1098 := (e1096.f f19 (by decide) h1086)
      exact z_xrv zt196 99 rfl zzr196 (kk M1094 X1095 z1085 h1098 ⟨by omega, by omega⟩ (by omega))
    refine z_xP zt192 7 16 [some (.ref 19), some (.int 32)] [.int 0] rfl rfl ?_
    refine z_xrz zt192 8 rfl zzr192 (by decide) (by decide) ?_
    show z_ev (d + 972) 196 111 [some (.ref 19), some (.int x626), some (.int 0), none] [.int 0] M1040 _
    refine z_xZ zt196 48 rfl rfl (fun (h1099 : (0 : Int) ≠ 0) => absurd h1099 (by omega)) (fun (h1099 : (0 : Int) = 0) => ?_)
    refine z_xP zt196 49 115 [some (.ref 19), some (.int x626), some (.int 0), none] [.ref 19] rfl rfl ?_
    refine z_xcV (vs := [.ref 19]) (r := []) (L2 := [some (.ref 19)]) zt196 50 rfl zo196 zzcV12_163 (Or.inl rfl) rfl X1041 f19 rfl rfl rfl (Nat.le_of_ble_eq_true rfl) zzm194 (Nat.le_of_ble_eq_true rfl) rfl ?_
    refine z_xP zt194 0 2 [some (.ref 19)] [.ref 19, .ref 19] rfl rfl ?_
    refine z_xgv zt194 1 rfl zo194 zzf12_136 X1041 f19 (by decide) h1044 ?_
    refine z_xZ zt194 2 rfl rfl (fun (h1100 : 0 ≤ x1045.toInt) => absurd h1100 (by omega)) (fun (h1100 : x1045.toInt < 0) => ?_)
    refine z_xP zt194 3 9 [some (.ref 19)] [.ref 19, .ref 19] rfl rfl ?_
    refine z_xgv zt194 4 rfl zo194 zzf12_123 X1041 f19 (by decide) h1043 ?_
    refine z_xP zt194 5 19 [some (.ref 19)] [.int x1038, .ref 19] rfl rfl ?_
    refine z_xpf zt194 8 rfl zo194 zzf12_136 X1041 f19 (by decide) (by decide) ⟨Int32.le_toInt _, Int32.toInt_le _⟩ rfl (by decide) zw12_26 (fun M1101 X1102 e1103 h1104 => ?_)
    refine z_xP zt194 9 23 [some (.ref 19)] [.int 0] rfl rfl ?_
    refine z_xrz zt194 10 rfl zzr194 (by decide) (by decide) ?_
    show z_ev (d + 972) 196 118 [some (.ref 19), some (.int x626), some (.int 0), none] [.int 0] M1101 _
    refine z_xP zt196 51 119 [some (.ref 19), some (.int x626), some (.int 0), some (.int 0)] [] rfl rfl ?_
    have h1105 := (e1103.f f19 (by decide) h1043)
    exact z_xrv zt196 52 rfl zzr196 (kk M1101 X1102 x1038 h1105 ⟨by omega, by omega⟩ (by omega))
  refine z_xP zt196 4 12 [some (.ref 19), some (.int x626), none, none] [.ref 19] rfl rfl ?_
  refine z_xgX (b := 27) zt196 5 rfl zo196 zzf12_31 X f19 (by decide) (by decide) rfl ?_
  refine z_xP zt196 6 16 [some (.ref 19), some (.int x626), none, none] [.ref 19, .ref 27] rfl rfl ?_
  refine z_xgI zt196 7 rfl zo196 zzf12_133 X f19 (by decide) (by decide) rfl (fun (x1107 : Int32) h1106 (h1108 : 0 ≤ x1107.toInt) (h1109 : x1107.toInt ≤ 7) => ?_)
  have f27 : T[27]? = some (.inr (27, 0, 8, (-2147483648), 2147483647)) := X.1.k rfl (by decide)
  refine z_xil zt196 8 rfl X f27 (by decide) (by omega) (by omega) (fun (x1110 : Int32) h1111 (h1112 : (-2147483648) ≤ x1110.toInt) (h1113 : x1110.toInt ≤ 2147483647) => ?_)
  refine z_xZ zt196 9 rfl rfl (fun (h1114 : 0 < x1110.toInt) => ?_) (fun (h1114 : x1110.toInt ≤ 0) => ?_)
  · skip
    refine z_xP zt196 27 66 [some (.ref 19), some (.int x626), none, none] [.int 1] rfl rfl ?_
    refine z_xP zt196 29 70 [some (.ref 19), some (.int x626), some (.int 1), none] [.int 112, .int x626] rfl rfl ?_
    refine z_xJ zt196 30 rfl rfl (fun (h1115 : x626.toInt = 112) => ?_) (fun (h1115 : x626.toInt ≠ 112) => absurd h1115 (by omega))
    refine z_xP zt196 35 86 [some (.ref 19), some (.int x626), some (.int 1), none] [.int 1] rfl rfl ?_
    refine z_xZ zt196 36 rfl rfl (fun (h1116 : (1 : Int) = 0) => absurd h1116 (by omega)) (fun (h1116 : (1 : Int) ≠ 0) => ?_)
    refine z_xP zt196 37 90 [some (.ref 19), some (.int x626), some (.int 1), none] [.ref 19] rfl rfl ?_
    refine z_xcV (vs := [.ref 19]) (r := []) (L2 := [some (.ref 19)]) zt196 38 rfl zo196 zzcV12_163 (Or.inl rfl) rfl X f19 rfl rfl rfl (Nat.le_of_ble_eq_true rfl) zzm194 (Nat.le_of_ble_eq_true rfl) rfl ?_
    refine z_xP zt194 0 2 [some (.ref 19)] [.ref 19, .ref 19] rfl rfl ?_
    refine z_xgI zt194 1 rfl zo194 zzf12_136 X f19 (by decide) (by decide) rfl (fun (x1118 : Int32) h1117 (h1119 : (-2147483648) ≤ x1118.toInt) (h1120 : x1118.toInt ≤ 2147483647) => ?_)
    refine z_xZ zt194 2 rfl rfl (fun (h1121 : 0 ≤ x1118.toInt) => ?_) (fun (h1121 : x1118.toInt < 0) => ?_)
    · skip
      refine z_xP zt194 6 16 [some (.ref 19)] [.ref 19, .ref 19] rfl rfl ?_
      refine z_xgv zt194 7 rfl zo194 zzf12_136 X f19 (by decide) h1117 ?_
      refine z_xpf zt194 8 rfl zo194 zzf12_136 X f19 (by decide) (by decide) ⟨Int32.le_toInt _, Int32.toInt_le _⟩ rfl (by decide) zw12_26 (fun M1122 X1123 e1124 h1125 => ?_)
      refine z_xP zt194 9 23 [some (.ref 19)] [.int 0] rfl rfl ?_
      refine z_xrz zt194 10 rfl zzr194 (by decide) (by decide) ?_
      show z_ev (d + 972) 196 93 [some (.ref 19), some (.int x626), some (.int 1), none] [.int 0] M1122 _
      refine z_xP zt196 39 94 [some (.ref 19), some (.int x626), some (.int 1), some (.int 0)] [] rfl rfl ?_
      have h1126 := (e1124.f f19 (by decide) hz0)
      exact z_xrv zt196 40 rfl zzr196 (kk M1122 X1123 zp0 h1126 ⟨by omega, by omega⟩ (by omega))
    refine z_xP zt194 3 9 [some (.ref 19)] [.ref 19, .ref 19] rfl rfl ?_
    refine z_xgv zt194 4 rfl zo194 zzf12_123 X f19 (by decide) hz0 ?_
    refine z_xP zt194 5 19 [some (.ref 19)] [.int zp0, .ref 19] rfl rfl ?_
    refine z_xpf zt194 8 rfl zo194 zzf12_136 X f19 (by decide) (by decide) ⟨Int32.le_toInt _, Int32.toInt_le _⟩ rfl (by decide) zw12_26 (fun M1127 X1128 e1129 h1130 => ?_)
    refine z_xP zt194 9 23 [some (.ref 19)] [.int 0] rfl rfl ?_
    refine z_xrz zt194 10 rfl zzr194 (by decide) (by decide) ?_
    show z_ev (d + 972) 196 93 [some (.ref 19), some (.int x626), some (.int 1), none] [.int 0] M1127 _
    refine z_xP zt196 39 94 [some (.ref 19), some (.int x626), some (.int 1), some (.int 0)] [] rfl rfl ?_
    have h1131 := (e1129.f f19 (by decide) hz0)
    exact z_xrv zt196 40 rfl zzr196 (kk M1127 X1128 zp0 h1131 ⟨by omega, by omega⟩ (by omega))
  refine z_xP zt196 10 26 [some (.ref 19), some (.int x626), none, none] [.int 101, .int x626] rfl rfl ?_
  refine z_xJ zt196 11 rfl rfl (fun (h1132 : x626.toInt ≠ 101) => ?_) (fun (h1132 : x626.toInt = 101) => absurd h1132 (by omega))
  refine z_xP zt196 18 44 [some (.ref 19), some (.int x626), none, none] [.int 116, .int x626] rfl rfl ?_
  refine z_xJ zt196 19 rfl rfl (fun (h1133 : x626.toInt ≠ 116) => ?_) (fun (h1133 : x626.toInt = 116) => absurd h1133 (by omega))
  refine z_xP zt196 28 66 [some (.ref 19), some (.int x626), none, none] [.int 0] rfl rfl ?_
  refine z_xP zt196 29 70 [some (.ref 19), some (.int x626), some (.int 0), none] [.int 112, .int x626] rfl rfl ?_
  refine z_xJ zt196 30 rfl rfl (fun (h1134 : x626.toInt = 112) => ?_) (fun (h1134 : x626.toInt ≠ 112) => absurd h1134 (by omega))
  refine z_xP zt196 35 86 [some (.ref 19), some (.int x626), some (.int 0), none] [.int 0] rfl rfl ?_
  refine z_xZ zt196 36 rfl rfl (fun (h1135 : (0 : Int) = 0) => ?_) (fun (h1135 : (0 : Int) ≠ 0) => absurd h1135 (by omega))
  refine z_xP zt196 41 97 [some (.ref 19), some (.int x626), some (.int 0), none] [.ref 19, .ref 19] rfl rfl ?_
  refine z_xgv zt196 42 rfl zo196 zzf12_123 X f19 (by decide) hz0 ?_
  refine z_xP zt196 43 101 [some (.ref 19), some (.int x626), some (.int 0), none] [.int 1, .int zp0, .ref 19] rfl rfl ?_
  refine z_xI zt196 44 rfl rfl (fun (x1136 : Int32) (h1137 : x1136.toInt = zp0.toInt + 1) => ?_) (z_pAdd rfl rfl (by omega) (by omega))
  refine z_xpf zt196 45 rfl zo196 zzf12_123 X f19 (by decide) (by decide) ⟨by omega, by omega⟩ rfl (by decide) zw12_24 (fun M1138 X1139 e1140 h1141 => ?_)
  refine z_xP zt196 46 108 [some (.ref 19), some (.int x626), some (.int 0), none] [.int 32, .ref 19] rfl rfl ?_
  refine z_xcV (vs := [.ref 19, .int 32]) (r := []) (L2 := [some (.ref 19), some (.int 32)]) zt196 47 rfl zo196 zzcV12_147 (Or.inl rfl) rfl X1139 f19 rfl rfl rfl (Nat.le_of_ble_eq_true rfl) zzm192 (Nat.le_of_ble_eq_true rfl) rfl ?_
  refine z_xP zt192 0 1 [some (.ref 19), some (.int 32)] [.ref 19] rfl rfl ?_
  refine z_xgI zt192 1 rfl zo192 zzf12_136 X1139 f19 (by decide) (by decide) rfl (fun (x1143 : Int32) h1142 (h1144 : (-2147483648) ≤ x1143.toInt) (h1145 : x1143.toInt ≤ 2147483647) => ?_)
  refine z_xZ zt192 2 rfl rfl (fun (h1146 : 0 ≤ x1143.toInt) => ?_) (fun (h1146 : x1143.toInt < 0) => ?_)
  · skip
    refine z_xP zt192 7 16 [some (.ref 19), some (.int 32)] [.int 0] rfl rfl ?_
    refine z_xrz zt192 8 rfl zzr192 (by decide) (by decide) ?_
    show z_ev (d + 972) 196 111 [some (.ref 19), some (.int x626), some (.int 0), none] [.int 0] M1138 _
    refine z_xZ zt196 48 rfl rfl (fun (h1147 : (0 : Int) ≠ 0) => absurd h1147 (by omega)) (fun (h1147 : (0 : Int) = 0) => ?_)
    refine z_xP zt196 49 115 [some (.ref 19), some (.int x626), some (.int 0), none] [.ref 19] rfl rfl ?_
    refine z_xcV (vs := [.ref 19]) (r := []) (L2 := [some (.ref 19)]) zt196 50 rfl zo196 zzcV12_163 (Or.inl rfl) rfl X1139 f19 rfl rfl rfl (Nat.le_of_ble_eq_true rfl) zzm194 (Nat.le_of_ble_eq_true rfl) rfl ?_
    refine z_xP zt194 0 2 [some (.ref 19)] [.ref 19, .ref 19] rfl rfl ?_
    refine z_xgv zt194 1 rfl zo194 zzf12_136 X1139 f19 (by decide) h1142 ?_
    refine z_xZ zt194 2 rfl rfl (fun (h1148 : 0 ≤ x1143.toInt) => ?_) (fun (h1148 : x1143.toInt < 0) => absurd h1148 (by omega))
    refine z_xP zt194 6 16 [some (.ref 19)] [.ref 19, .ref 19] rfl rfl ?_
    refine z_xgv zt194 7 rfl zo194 zzf12_136 X1139 f19 (by decide) h1142 ?_
    refine z_xpf zt194 8 rfl zo194 zzf12_136 X1139 f19 (by decide) (by decide) ⟨Int32.le_toInt _, Int32.toInt_le _⟩ rfl (by decide) zw12_26 (fun M1149 X1150 e1151 h1152 => ?_)
    refine z_xP zt194 9 23 [some (.ref 19)] [.int 0] rfl rfl ?_
    refine z_xrz zt194 10 rfl zzr194 (by decide) (by decide) ?_
    show z_ev (d + 972) 196 118 [some (.ref 19), some (.int x626), some (.int 0), none] [.int 0] M1149 _
    refine z_xP zt196 51 119 [some (.ref 19), some (.int x626), some (.int 0), some (.int 0)] [] rfl rfl ?_
    have h1153 := (e1151.f f19 (by decide) h1141)
    exact z_xrv zt196 52 rfl zzr196 (kk M1149 X1150 x1136 h1153 ⟨by omega, by omega⟩ (by omega))
  refine z_xP zt192 3 8 [some (.ref 19), some (.int 32)] [.ref 19] rfl rfl ?_
  refine z_xcV (vs := [.ref 19]) (r := []) (L2 := [some (.ref 19)]) zt192 4 rfl zo192 zzcV12_139 (Or.inl rfl) rfl X1139 f19 rfl rfl rfl (Nat.le_of_ble_eq_true rfl) zzm193 (Nat.le_of_ble_eq_true rfl) rfl ?_
  refine z_xP zt193 0 1 [some (.ref 19)] [.ref 19] rfl rfl ?_
  refine z_xgv zt193 1 rfl zo193 zzf12_123 X1139 f19 (by decide) h1141 ?_
  refine z_xP zt193 2 5 [some (.ref 19)] [.ref 19, .int x1136] rfl rfl ?_
  have h1154 := (e1140.f f19 (by decide) h1)
  refine z_xgv zt193 3 rfl zo193 zzf12_126 X1139 f19 (by decide) h1154 ?_
  refine z_xJ zt193 4 rfl rfl (fun (h1155 : x2.toInt ≤ x1136.toInt) => ?_) (fun (h1155 : x1136.toInt < x2.toInt) => ?_)
  · skip
    refine z_xP zt193 24 52 [some (.ref 19)] [.int 0] rfl rfl ?_
    refine z_xri zt193 25 rfl zzr193 ?_
    show z_ev (d + 971) 192 11 [some (.ref 19), some (.int 32)] [.int 0] M1138 _
    refine z_xP zt192 5 12 [some (.ref 19), some (.int 32)] [.int 32, .int 0] rfl rfl ?_
    refine z_xJ zt192 6 rfl rfl (fun (h1156 : (0 : Int) = 32) => absurd h1156 (by omega)) (fun (h1156 : (0 : Int) ≠ 32) => ?_)
    refine z_xP zt192 7 16 [some (.ref 19), some (.int 32)] [.int 0] rfl rfl ?_
    refine z_xrz zt192 8 rfl zzr192 (by decide) (by decide) ?_
    show z_ev (d + 972) 196 111 [some (.ref 19), some (.int x626), some (.int 0), none] [.int 0] M1138 _
    refine z_xZ zt196 48 rfl rfl (fun (h1157 : (0 : Int) ≠ 0) => absurd h1157 (by omega)) (fun (h1157 : (0 : Int) = 0) => ?_)
    refine z_xP zt196 49 115 [some (.ref 19), some (.int x626), some (.int 0), none] [.ref 19] rfl rfl ?_
    refine z_xcV (vs := [.ref 19]) (r := []) (L2 := [some (.ref 19)]) zt196 50 rfl zo196 zzcV12_163 (Or.inl rfl) rfl X1139 f19 rfl rfl rfl (Nat.le_of_ble_eq_true rfl) zzm194 (Nat.le_of_ble_eq_true rfl) rfl ?_
    refine z_xP zt194 0 2 [some (.ref 19)] [.ref 19, .ref 19] rfl rfl ?_
    refine z_xgv zt194 1 rfl zo194 zzf12_136 X1139 f19 (by decide) h1142 ?_
    refine z_xZ zt194 2 rfl rfl (fun (h1158 : 0 ≤ x1143.toInt) => absurd h1158 (by omega)) (fun (h1158 : x1143.toInt < 0) => ?_)
    refine z_xP zt194 3 9 [some (.ref 19)] [.ref 19, .ref 19] rfl rfl ?_
    refine z_xgv zt194 4 rfl zo194 zzf12_123 X1139 f19 (by decide) h1141 ?_
    refine z_xP zt194 5 19 [some (.ref 19)] [.int x1136, .ref 19] rfl rfl ?_
    refine z_xpf zt194 8 rfl zo194 zzf12_136 X1139 f19 (by decide) (by decide) ⟨Int32.le_toInt _, Int32.toInt_le _⟩ rfl (by decide) zw12_26 (fun M1159 X1160 e1161 h1162 => ?_)
    refine z_xP zt194 9 23 [some (.ref 19)] [.int 0] rfl rfl ?_
    refine z_xrz zt194 10 rfl zzr194 (by decide) (by decide) ?_
    show z_ev (d + 972) 196 118 [some (.ref 19), some (.int x626), some (.int 0), none] [.int 0] M1159 _
    refine z_xP zt196 51 119 [some (.ref 19), some (.int x626), some (.int 0), some (.int 0)] [] rfl rfl ?_
    have h1163 := (e1161.f f19 (by decide) h1141)
    exact z_xrv zt196 52 rfl zzr196 (kk M1159 X1160 x1136 h1163 ⟨by omega, by omega⟩ (by omega))
  refine z_xP zt193 5 12 [some (.ref 19)] [.ref 19] rfl rfl ?_
  have h1164 := (e1140.f f19 (by decide) h27)
  refine z_xgv zt193 6 rfl zo193 zzf12_129 X1139 f19 (by decide) h1164 ?_
  refine z_xZ zt193 7 rfl rfl (fun (h1165 : x28.toInt = 0) => absurd h1165 (by omega)) (fun (h1165 : x28.toInt ≠ 0) => ?_)
  refine z_xP zt193 8 19 [some (.ref 19)] [.ref 19] rfl rfl ?_
  refine z_xgX (b := 20) zt193 9 rfl zo193 zzf12_9 X1139 f19 (by decide) (by decide) rfl ?_
  refine z_xP zt193 10 23 [some (.ref 19)] [.ref 19, .ref 20] rfl rfl ?_
  refine z_xgv zt193 11 rfl zo193 zzf12_123 X1139 f19 (by decide) h1141 ?_
  refine z_xil zt193 12 rfl X1139 f20 (by decide) (by omega) (by omega) (fun (x1166 : Int32) h1167 (h1168 : (-2147483648) ≤ x1166.toInt) (h1169 : x1166.toInt ≤ 2147483647) => ?_)
  refine z_xP zt193 13 52 [some (.ref 19)] [.int x1166] rfl rfl ?_
  refine z_xri zt193 25 rfl zzr193 ?_
  show z_ev (d + 971) 192 11 [some (.ref 19), some (.int 32)] [.int x1166] M1138 _
  refine z_xP zt192 5 12 [some (.ref 19), some (.int 32)] [.int 32, .int x1166] rfl rfl ?_
  refine z_xJ zt192 6 rfl rfl (fun (h1170 : x1166.toInt = 32) => ?_) (fun (h1170 : x1166.toInt ≠ 32) => ?_)
  · skip
    refine z_xP zt192 9 19 [some (.ref 19), some (.int 32)] [.ref 19, .ref 19] rfl rfl ?_
    refine z_xgv zt192 10 rfl zo192 zzf12_123 X1139 f19 (by decide) h1141 ?_
    refine z_xP zt192 11 23 [some (.ref 19), some (.int 32)] [.int 1, .int x1136, .ref 19] rfl rfl ?_
    refine z_xI zt192 12 rfl rfl (fun (x1171 : Int32) (h1172 : x1171.toInt = x1136.toInt + 1) => ?_) (z_pAdd rfl rfl (by omega) (by omega))
    refine z_xpf zt192 13 rfl zo192 zzf12_123 X1139 f19 (by decide) (by decide) ⟨by omega, by omega⟩ rfl (by decide) zw12_24 (fun M1173 X1174 e1175 h1176 => ?_)
    refine z_xP zt192 14 28 [some (.ref 19), some (.int 32)] [.int 1] rfl rfl ?_
    refine z_xrz zt192 15 rfl zzr192 (by decide) (by decide) ?_
    show z_ev (d + 972) 196 111 [some (.ref 19), some (.int x626), some (.int 0), none] [.int 1] M1173 _
    refine z_xZ zt196 48 rfl rfl (fun (h1177 : (1 : Int) ≠ 0) => ?_) (fun (h1177 : (1 : Int) = 0) => absurd h1177 (by omega))
    refine z_xP zt196 53 123 [some (.ref 19), some (.int x626), some (.int 0), none] [.int 112, .int x626] rfl rfl ?_
    refine z_xJ zt196 54 rfl rfl (fun (h1178 : x626.toInt ≠ 112) => absurd h1178 (by omega)) (fun (h1178 : x626.toInt = 112) => ?_)
    refine z_xP zt196 55 127 [some (.ref 19), some (.int x626), some (.int 0), none] [.ref 19] rfl rfl ?_
    refine z_xgX (b := 27) zt196 56 rfl zo196 zzf12_31 X1174 f19 (by decide) (by decide) rfl ?_
    refine z_xP zt196 57 131 [some (.ref 19), some (.int x626), some (.int 0), none] [.ref 19, .ref 27] rfl rfl ?_
    have h1179 := (e1175.f f19 (by decide) (e1140.f f19 (by decide) h1106))
    refine z_xgv zt196 58 rfl zo196 zzf12_133 X1174 f19 (by decide) h1179 ?_
    refine z_xP zt196 59 135 [some (.ref 19), some (.int x626), some (.int 0), none] [.ref 19, .int x1107, .ref 27] rfl rfl ?_
    refine z_xcV (vs := [.ref 19]) (r := [.int x1107, .ref 27]) (L2 := [some (.ref 19), none, none, none, none]) zt196 60 rfl zo196 zzcV12_190 (Or.inl rfl) rfl X1174 f19 rfl rfl rfl (Nat.le_of_ble_eq_true rfl) zzm197 (Nat.le_of_ble_eq_true rfl) rfl ?_
    refine zC197 X1174.1 h1176 ⟨by omega, by omega⟩ (z_GL.go hL X1174 (by decide)) (fun x1186 M1180 X1181 h1187 h1188 z1182 h1183 h1184 h1185 => ?_)
    have X1189 := X1174.go X1181 (z_sb (by decide))
    show z_ev (d + 972) 196 138 [some (.ref 19), some (.int x626), some (.int 0), none] [.int x1186, .int x1107, .ref 27] M1180 _
    refine z_xis zt196 61 rfl X1189 f27 (by decide) (by decide) (by omega) (by omega) (Int32.le_toInt _) (Int32.toInt_le _) (by decide) (fun M1191 X1192 e1193 h1194 => ?_)
    refine z_xP zt196 62 208 [some (.ref 19), some (.int x626), some (.int 0), none] [] rfl rfl ?_
    have h1195 := (e1193.f f19 (by decide) h1183)
    exact z_xrv zt196 99 rfl zzr196 (kk M1191 X1192 z1182 h1195 ⟨by omega, by omega⟩ (by omega))
  refine z_xP zt192 7 16 [some (.ref 19), some (.int 32)] [.int 0] rfl rfl ?_
  refine z_xrz zt192 8 rfl zzr192 (by decide) (by decide) ?_
  show z_ev (d + 972) 196 111 [some (.ref 19), some (.int x626), some (.int 0), none] [.int 0] M1138 _
  refine z_xZ zt196 48 rfl rfl (fun (h1196 : (0 : Int) ≠ 0) => absurd h1196 (by omega)) (fun (h1196 : (0 : Int) = 0) => ?_)
  refine z_xP zt196 49 115 [some (.ref 19), some (.int x626), some (.int 0), none] [.ref 19] rfl rfl ?_
  refine z_xcV (vs := [.ref 19]) (r := []) (L2 := [some (.ref 19)]) zt196 50 rfl zo196 zzcV12_163 (Or.inl rfl) rfl X1139 f19 rfl rfl rfl (Nat.le_of_ble_eq_true rfl) zzm194 (Nat.le_of_ble_eq_true rfl) rfl ?_
  refine z_xP zt194 0 2 [some (.ref 19)] [.ref 19, .ref 19] rfl rfl ?_
  refine z_xgv zt194 1 rfl zo194 zzf12_136 X1139 f19 (by decide) h1142 ?_
  refine z_xZ zt194 2 rfl rfl (fun (h1197 : 0 ≤ x1143.toInt) => absurd h1197 (by omega)) (fun (h1197 : x1143.toInt < 0) => ?_)
  refine z_xP zt194 3 9 [some (.ref 19)] [.ref 19, .ref 19] rfl rfl ?_
  refine z_xgv zt194 4 rfl zo194 zzf12_123 X1139 f19 (by decide) h1141 ?_
  refine z_xP zt194 5 19 [some (.ref 19)] [.int x1136, .ref 19] rfl rfl ?_
  refine z_xpf zt194 8 rfl zo194 zzf12_136 X1139 f19 (by decide) (by decide) ⟨Int32.le_toInt _, Int32.toInt_le _⟩ rfl (by decide) zw12_26 (fun M1198 X1199 e1200 h1201 => ?_)
  refine z_xP zt194 9 23 [some (.ref 19)] [.int 0] rfl rfl ?_
  refine z_xrz zt194 10 rfl zzr194 (by decide) (by decide) ?_
  show z_ev (d + 972) 196 118 [some (.ref 19), some (.int x626), some (.int 0), none] [.int 0] M1198 _
  refine z_xP zt196 51 119 [some (.ref 19), some (.int x626), some (.int 0), some (.int 0)] [] rfl rfl ?_
  have h1202 := (e1200.f f19 (by decide) h1141)
  exact z_xrv zt196 52 rfl zzr196 (kk M1198 X1199 x1136 h1202 ⟨by omega, by omega⟩ (by omega))
def zw205 : List Nat := [2222, 2223, 2224, 2225, 2226, 2227, 2228]
theorem zC205 {T : List zK} {d : Nat} {K : Option Value → zH → Prop} {p1 : Int32} {p2 : Int32} {p3 : Int32} {M0 : zH} (hW : z_W M0 T) (u1 : 0 ≤ p1.toInt ∧ p1.toInt ≤ 7) (u2 : 0 ≤ p2.toInt ∧ p2.toInt ≤ 7) (hL : z_GL M0) (kk : ∀ (x : Int32) (M1 : zH), z_X T zw205 M0 M1 → 0 ≤ x.toInt → x.toInt ≤ 1 → K (some (.int x)) M1) : z_ev (d + 972) 205 0 [some (.ref 19), some (.int p1), some (.int p2), some (.int p3)] [] M0 K := by
  have X : z_X T zw205 M0 M0 := .refl hW
  refine z_xP zt205 0 2 [some (.ref 19), some (.int p1), some (.int p2), some (.int p3)] [.int p1, .ref 19] rfl rfl ?_
  have f19 : T[19]? = some (.inl (12, 0, 0, 0, 0)) := X.1.k rfl (by decide)
  refine z_xpf zt205 1 rfl zo205 zzf12_133 X f19 (by decide) (by decide) ⟨by omega, by omega⟩ rfl (by decide) zw12_22 (fun M1 X2 e3 h4 => ?_)
  refine z_xP zt205 2 7 [some (.ref 19), some (.int p1), some (.int p2), some (.int p3)] [.int 0, .ref 19] rfl rfl ?_
  have q0 : ((0 : Int32)).toInt = 0 := rfl
  refine z_xpf zt205 3 rfl zo205 zzf12_129 X2 f19 (by decide) (by decide) ⟨by omega, by omega⟩ rfl (by decide) zw12_23 (fun M5 X6 e7 h8 => ?_)
  refine z_xP zt205 4 12 [some (.ref 19), some (.int p1), some (.int p2), some (.int p3)] [.ref 19, .ref 19] rfl rfl ?_
  refine z_xgX (b := 22) zt205 5 rfl zo205 zzf12_16 X6 f19 (by decide) (by decide) rfl ?_
  refine z_xP zt205 6 16 [some (.ref 19), some (.int p1), some (.int p2), some (.int p3)] [.int p1, .ref 22, .ref 19] rfl rfl ?_
  have f22 : T[22]? = some (.inr (22, 0, 8, 0, 160)) := X6.1.k rfl (by decide)
  refine z_xil zt205 7 rfl X6 f22 (by decide) (by omega) (by omega) (fun (x9 : Int32) h10 (h11 : 0 ≤ x9.toInt) (h12 : x9.toInt ≤ 160) => ?_)
  refine z_xpf zt205 8 rfl zo205 zzf12_126 X6 f19 (by decide) (by decide) ⟨by omega, by omega⟩ rfl (by decide) zw12_25 (fun M13 X14 e15 h16 => ?_)
  refine z_xP zt205 9 22 [some (.ref 19), some (.int p1), some (.int p2), some (.int p3)] [.ref 19, .ref 19] rfl rfl ?_
  refine z_xgX (b := 26) zt205 10 rfl zo205 zzf12_28 X14 f19 (by decide) (by decide) rfl ?_
  refine z_xP zt205 11 28 [some (.ref 19), some (.int p1), some (.int p2), some (.int p3)] [.int p1, .int 8, .ref 26, .ref 19] rfl rfl ?_
  refine z_xI zt205 12 rfl rfl (fun (x17 : Int32) (h18 : x17.toInt = 8 * p1.toInt) => ?_) (z_pMul rfl rfl (by omega) (by omega))
  refine z_xP zt205 13 30 [some (.ref 19), some (.int p1), some (.int p2), some (.int p3)] [.int p2, .int x17, .ref 26, .ref 19] rfl rfl ?_
  refine z_xI zt205 14 rfl rfl (fun (x19 : Int32) (h20 : x19.toInt = x17.toInt + p2.toInt) => ?_) (z_pAdd rfl rfl (by omega) (by omega))
  have f26 : T[26]? = some (.inr (26, 0, 64, 0, 160)) := X14.1.k rfl (by decide)
  refine z_xil zt205 15 rfl X14 f26 (by decide) (by omega) (by omega) (fun (x21 : Int32) h22 (h23 : 0 ≤ x21.toInt) (h24 : x21.toInt ≤ 160) => ?_)
  refine z_xpf zt205 16 rfl zo205 zzf12_123 X14 f19 (by decide) (by decide) ⟨by omega, by omega⟩ rfl (by decide) zw12_24 (fun M25 X26 e27 h28 => ?_)
  refine z_xP zt205 17 37 [some (.ref 19), some (.int p1), some (.int p2), some (.int p3)] [.int (-1), .ref 19] rfl rfl ?_
  have qm1 : (((-1) : Int32)).toInt = (-1) := rfl
  refine z_xpf zt205 18 rfl zo205 zzf12_136 X26 f19 (by decide) (by decide) ⟨by omega, by omega⟩ rfl (by decide) zw12_26 (fun M29 X30 e31 h32 => ?_)
  refine z_xP zt205 19 42 [some (.ref 19), some (.int p1), some (.int p2), some (.int p3)] [.int 0, .ref 19] rfl rfl ?_
  have q0 : ((0 : Int32)).toInt = 0 := rfl
  refine z_xpf zt205 20 rfl zo205 zzf12_160 X30 f19 (by decide) (by decide) ⟨by omega, by omega⟩ rfl (by decide) zw12_27 (fun M33 X34 e35 h36 => ?_)
  refine z_xP zt205 21 47 [some (.ref 19), some (.int p1), some (.int p2), some (.int p3)] [.int p3, .ref 19] rfl rfl ?_
  refine z_xpf zt205 22 rfl zo205 zzf12_183 X34 f19 (by decide) (by decide) ⟨Int32.le_toInt _, Int32.toInt_le _⟩ rfl (by decide) zw12_28 (fun M37 X38 e39 h40 => ?_)
  refine z_xP zt205 23 51 [some (.ref 19), some (.int p1), some (.int p2), some (.int p3)] [.ref 19] rfl rfl ?_
  refine z_xcV (vs := [.ref 19]) (r := []) (L2 := [some (.ref 19), none, none]) zt205 24 rfl zo205 zzcV12_169 (Or.inl rfl) rfl X38 f19 rfl rfl rfl (Nat.le_of_ble_eq_true rfl) zzm198 (Nat.le_of_ble_eq_true rfl) rfl ?_
  have h41 := (e39.f f19 (by decide) (e35.f f19 (by decide) (e31.f f19 (by decide) h28)))
  refine zC198 X38.1 h41 ⟨by omega, by omega⟩ (z_GL.go hL X38 (by decide)) (fun x48 M42 X43 h49 h50 z44 h45 h46 h47 => ?_)
  have X51 := X38.go X43 (z_sb (by decide))
  show z_ev (d + 972) 205 54 [some (.ref 19), some (.int p1), some (.int p2), some (.int p3)] [.int x48] M42 _
  exact z_xrz zt205 25 rfl zzr205 (by omega) (by omega) (kk x48 M42 X51 (by omega) (by omega))
def zw207 : List Nat := []
theorem zB207 {T : List zK} {d : Nat} {K : Option Value → zH → Prop} {p0 : Int32} {M0 : zH}  (kk : ∀ (x : Int32) (M1 : zH), z_X T zw207 M0 M1 → K (some (.int x)) M1) : ∀ n : Nat, (∀ (M : zH) (b1 : Int32) (b2 : Int32), z_X T zw207 M0 M → 0 ≤ b2.toInt ∧ b2.toInt ≤ 31 → ((0) * 2 + 0) * 32 + (31 - b2.toInt) < (n : Int) → z_ev d 207 4 [some (.int p0), some (.int b1), some (.int b2)] [] M K) := by
  intro n
  induction n with
  | zero => exact by intros; exfalso; omega
  | succ n ih =>
    intro M b1 b2 X hh0 hE
    refine z_xP zt207 1 7 [some (.int p0), some (.int b1), some (.int b2)] [.int 31, .int b2] rfl rfl ?_
    refine z_xJ zt207 2 rfl rfl (fun (h1 : 31 ≤ b2.toInt) => ?_) (fun (h1 : b2.toInt < 31) => ?_)
    · skip
      refine z_xP zt207 11 25 [some (.int p0), some (.int b1), some (.int b2)] [.int b1] rfl rfl ?_
      exact z_xri zt207 12 rfl zzr207 (kk b1 M X)
    refine z_xP zt207 3 13 [some (.int p0), some (.int b1), some (.int b2)] [.int b2, .int p0, .int b1] rfl rfl ?_
    have h2 := z_b32 p0
    refine z_xI zt207 4 rfl rfl (P := fun _ => True) (fun (x3 : Int32) _ => ?_) trivial
    refine z_xP zt207 5 15 [some (.int p0), some (.int b1), some (.int b2)] [.int 1, .int x3, .int b1] rfl rfl ?_
    refine z_xI zt207 6 rfl rfl (fun (x5 : Int32) (h6 : 0 ≤ x5.toInt ∧ x5.toInt ≤ 1) => ?_) (z_pAnd rfl (by omega))
    have h7 := z_b32 b1
    refine z_xI zt207 7 rfl rfl (P := fun _ => True) (fun (x8 : Int32) _ => ?_) trivial
    refine z_xP zt207 8 18 [some (.int p0), some (.int x8), some (.int b2)] [] rfl rfl ?_
    refine z_xN zt207 9 rfl rfl (fun (x10 : Int32) (h11 : x10.toInt = b2.toInt + 1) => ?_) (z_pAdd rfl rfl (by omega) (by omega))
    show z_ev d 207 21 [some (.int p0), some (.int x8), some (.int x10)] [] M _
    refine z_xP zt207 10 4 [some (.int p0), some (.int x8), some (.int x10)] [] rfl rfl ?_
    exact ih M x8 x10 X ⟨by omega, by omega⟩ (by omega)
theorem zC207 {T : List zK} {d : Nat} {K : Option Value → zH → Prop} {p0 : Int32} {M0 : zH} (hW : z_W M0 T)  (kk : ∀ (x : Int32) (M1 : zH), z_X T zw207 M0 M1 → K (some (.int x)) M1) : z_ev d 207 0 [some (.int p0), none, none] [] M0 K := by
  have X : z_X T zw207 M0 M0 := .refl hW
  refine z_xP zt207 0 4 [some (.int p0), some (.int 0), some (.int 0)] [] rfl rfl ?_
  have q0 : ((0 : Int32)).toInt = 0 := rfl
  exact (zB207 kk 64) M0 (0) (0) X (by decide) (by omega)
def zw206 : List Nat := []
theorem zB206 {T : List zK} {d : Nat} {K : Option Value → zH → Prop} {p1 : Int32} {M0 : zH} (u1 : 0 ≤ p1.toInt ∧ p1.toInt ≤ 7) (kk : ∀ (x : Int32) (M1 : zH), z_X T zw206 M0 M1 → 0 ≤ x.toInt → x.toInt ≤ 255 → K (some (.int x)) M1) : ∀ n : Nat, (∀ (M : zH) (b2 : Int32) (b3 : Int32) (o4 : Option Value) (o5 : Option Value), z_X T zw206 M0 M → 0 ≤ b2.toInt ∧ b2.toInt ≤ 255 → (-1) ≤ b3.toInt ∧ b3.toInt ≤ 255 → ((((0) * 3 + 1) * 257 + (b3.toInt - (-1))) * 3 + 2) * 1025 + (0) < (n : Int) → z_ev (d + 1) 206 22 [some (.ref 19), some (.int p1), some (.int b2), some (.int b3), o4, o5] [] M K) ∧ (∀ (M : zH) (b2 : Int32) (b3 : Int32) (b4 : Int32) (b5 : Int32), z_X T zw206 M0 M → 0 ≤ b2.toInt ∧ b2.toInt ≤ 255 → 0 ≤ b3.toInt ∧ b3.toInt ≤ 255 → 0 ≤ b4.toInt ∧ b4.toInt ≤ 1 → 0 ≤ b5.toInt ∧ b5.toInt ≤ 1024 → ((((0) * 3 + 1) * 257 + (b3.toInt - (-1))) * 3 + 0) * 1025 + (1024 - b5.toInt) < (n : Int) → z_ev (d + 1) 206 32 [some (.ref 19), some (.int p1), some (.int b2), some (.int b3), some (.int b4), some (.int b5)] [] M K) := by
  intro n
  induction n with
  | zero => exact ⟨(by intros; exfalso; omega), (by intros; exfalso; omega)⟩
  | succ n ih =>
    refine ⟨?_, ?_⟩
    · skip
      intro M b2 b3 o4 o5 X hh0 hh1 hE
      refine z_xP zt206 15 23 [some (.ref 19), some (.int p1), some (.int b2), some (.int b3), o4, o5] [.int b3] rfl rfl ?_
      refine z_xZ zt206 16 rfl rfl (fun (h1 : b3.toInt < 0) => ?_) (fun (h1 : 0 ≤ b3.toInt) => ?_)
      · skip
        refine z_xP zt206 51 106 [some (.ref 19), some (.int p1), some (.int b2), some (.int b3), o4, o5] [.int b2] rfl rfl ?_
        exact z_xri zt206 52 rfl zzr206 (kk b2 M X (by omega) (by omega))
      refine z_xP zt206 17 32 [some (.ref 19), some (.int p1), some (.int b2), some (.int b3), some (.int 0), some (.int 0)] [] rfl rfl ?_
      have q0 : ((0 : Int32)).toInt = 0 := rfl
      exact ih.2 M b2 b3 (0) (0) X ⟨by omega, by omega⟩ ⟨by omega, by omega⟩ (by decide) (by decide) (by omega)
    · skip
      intro M b2 b3 b4 b5 X hh0 hh1 hh2 hh3 hE
      refine z_xP zt206 18 36 [some (.ref 19), some (.int p1), some (.int b2), some (.int b3), some (.int b4), some (.int b5)] [.ref 19, .int 1, .int b5] rfl rfl ?_
      have f19 : T[19]? = some (.inl (12, 0, 0, 0, 0)) := X.1.k rfl (by decide)
      refine z_xgX (b := 24) zt206 19 rfl zo206 zzf12_22 X f19 (by decide) (by decide) rfl ?_
      refine z_xP zt206 20 40 [some (.ref 19), some (.int p1), some (.int b2), some (.int b3), some (.int b4), some (.int b5)] [.int p1, .ref 24, .int 1, .int b5] rfl rfl ?_
      have f24 : T[24]? = some (.inr (24, 0, 8, 0, 10)) := X.1.k rfl (by decide)
      refine z_xil zt206 21 rfl X f24 (by decide) (by omega) (by omega) (fun (x1 : Int32) h2 (h3 : 0 ≤ x1.toInt) (h4 : x1.toInt ≤ 10) => ?_)
      refine z_xI zt206 22 rfl rfl (fun (x5 : Int32) (h6 : 1 ≤ x5.toInt ∧ x5.toInt ≤ 1024) => ?_) (z_pShlB (a := 1) (b := 10) (c := 1024) (r := 1024) rfl rfl (by omega) (by omega) (by omega) (by omega) (by decide) (by decide) (by decide) (by decide))
      refine z_xJ zt206 23 rfl rfl (fun (h7 : x5.toInt ≤ b5.toInt) => ?_) (fun (h7 : b5.toInt < x5.toInt) => ?_)
      · skip
        refine z_xP zt206 41 83 [some (.ref 19), some (.int p1), some (.int b2), some (.int b3), some (.int b4), some (.int b5)] [.int b4] rfl rfl ?_
        refine z_xZ zt206 42 rfl rfl (fun (h8 : b4.toInt ≠ 0) => ?_) (fun (h8 : b4.toInt = 0) => ?_)
        · skip
          refine z_xN zt206 49 rfl rfl (fun (x9 : Int32) (h10 : x9.toInt = b3.toInt + (-1)) => ?_) (z_pAdd rfl rfl (by omega) (by omega))
          show z_ev (d + 1) 206 102 [some (.ref 19), some (.int p1), some (.int b2), some (.int x9), some (.int b4), some (.int b5)] [] M _
          refine z_xP zt206 50 22 [some (.ref 19), some (.int p1), some (.int b2), some (.int x9), some (.int b4), some (.int b5)] [] rfl rfl ?_
          exact ih.1 M b2 x9 (some (.int b4)) (some (.int b5)) X ⟨by omega, by omega⟩ ⟨by omega, by omega⟩ (by omega)
        refine z_xP zt206 43 87 [some (.ref 19), some (.int p1), some (.int b2), some (.int b3), some (.int b4), some (.int b5)] [.int b3] rfl rfl ?_
        refine z_xcS (vs := [.int b3]) (r := []) (L2 := [some (.int b3), none, none]) zt206 44 rfl zo206 zzcS12_193 (Or.inl rfl) (Nat.le_of_ble_eq_true rfl) rfl rfl (Nat.le_of_ble_eq_true rfl) zzm207 (Nat.le_of_ble_eq_true rfl) rfl ?_
        refine zC207 X.1 (fun x13 M11 X12  => ?_)
        have X14 := X.go X12 (z_sb (by decide))
        show z_ev (d + 1) 206 90 [some (.ref 19), some (.int p1), some (.int b2), some (.int b3), some (.int b4), some (.int b5)] [.int x13] M11 _
        refine z_xP zt206 45 91 [some (.ref 19), some (.int p1), some (.int b2), some (.int b3), some (.int b4), some (.int b5)] [.int b2, .int x13] rfl rfl ?_
        refine z_xcS (vs := [.int b2]) (r := [.int x13]) (L2 := [some (.int b2), none, none]) zt206 46 rfl zo206 zzcS12_193 (Or.inl rfl) (Nat.le_of_ble_eq_true rfl) rfl rfl (Nat.le_of_ble_eq_true rfl) zzm207 (Nat.le_of_ble_eq_true rfl) rfl ?_
        refine zC207 X14.1 (fun x18 M16 X17  => ?_)
        have X19 := X14.go X17 (z_sb (by decide))
        show z_ev (d + 1) 206 94 [some (.ref 19), some (.int p1), some (.int b2), some (.int b3), some (.int b4), some (.int b5)] [.int x18, .int x13] M16 _
        have h21 := z_b32 x13
        have h22 := z_b32 x18
        refine z_xJ zt206 47 rfl rfl (fun (h23 : x18.toInt < x13.toInt) => ?_) (fun (h23 : x13.toInt ≤ x18.toInt) => ?_)
        · skip
          refine z_xN zt206 49 rfl rfl (fun (x24 : Int32) (h25 : x24.toInt = b3.toInt + (-1)) => ?_) (z_pAdd rfl rfl (by omega) (by omega))
          show z_ev (d + 1) 206 102 [some (.ref 19), some (.int p1), some (.int b2), some (.int x24), some (.int b4), some (.int b5)] [] M16 _
          refine z_xP zt206 50 22 [some (.ref 19), some (.int p1), some (.int b2), some (.int x24), some (.int b4), some (.int b5)] [] rfl rfl ?_
          exact ih.1 M16 b2 x24 (some (.int b4)) (some (.int b5)) X19 ⟨by omega, by omega⟩ ⟨by omega, by omega⟩ (by omega)
        refine z_xP zt206 48 99 [some (.ref 19), some (.int p1), some (.int b3), some (.int b3), some (.int b4), some (.int b5)] [] rfl rfl ?_
        refine z_xN zt206 49 rfl rfl (fun (x26 : Int32) (h27 : x26.toInt = b3.toInt + (-1)) => ?_) (z_pAdd rfl rfl (by omega) (by omega))
        show z_ev (d + 1) 206 102 [some (.ref 19), some (.int p1), some (.int b3), some (.int x26), some (.int b4), some (.int b5)] [] M16 _
        refine z_xP zt206 50 22 [some (.ref 19), some (.int p1), some (.int b3), some (.int x26), some (.int b4), some (.int b5)] [] rfl rfl ?_
        exact ih.1 M16 b3 x26 (some (.int b4)) (some (.int b5)) X19 ⟨by omega, by omega⟩ ⟨by omega, by omega⟩ (by omega)
      refine z_xP zt206 24 47 [some (.ref 19), some (.int p1), some (.int b2), some (.int b3), some (.int b4), some (.int b5)] [.int b4] rfl rfl ?_
      refine z_xZ zt206 25 rfl rfl (fun (h28 : b4.toInt ≠ 0) => ?_) (fun (h28 : b4.toInt = 0) => ?_)
      · skip
        refine z_xP zt206 36 73 [some (.ref 19), some (.int p1), some (.int b2), some (.int b3), some (.int b4), some (.int b5)] [.int 1] rfl rfl ?_
        refine z_xP zt206 38 75 [some (.ref 19), some (.int p1), some (.int b2), some (.int b3), some (.int 1), some (.int b5)] [] rfl rfl ?_
        refine z_xN zt206 39 rfl rfl (fun (x29 : Int32) (h30 : x29.toInt = b5.toInt + 1) => ?_) (z_pAdd rfl rfl (by omega) (by omega))
        show z_ev (d + 1) 206 78 [some (.ref 19), some (.int p1), some (.int b2), some (.int b3), some (.int 1), some (.int x29)] [] M _
        refine z_xP zt206 40 32 [some (.ref 19), some (.int p1), some (.int b2), some (.int b3), some (.int 1), some (.int x29)] [] rfl rfl ?_
        have q1 : ((1 : Int32)).toInt = 1 := rfl
        exact ih.2 M b2 b3 (1) x29 X ⟨by omega, by omega⟩ ⟨by omega, by omega⟩ (by decide) ⟨by omega, by omega⟩ (by omega)
      refine z_xP zt206 26 51 [some (.ref 19), some (.int p1), some (.int b2), some (.int b3), some (.int b4), some (.int b5)] [.ref 19] rfl rfl ?_
      refine z_xgX (b := 29) zt206 27 rfl zo206 zzf12_37 X f19 (by decide) (by decide) rfl ?_
      refine z_xP zt206 28 58 [some (.ref 19), some (.int p1), some (.int b2), some (.int b3), some (.int b4), some (.int b5)] [.int p1, .int 1024, .ref 29] rfl rfl ?_
      refine z_xI zt206 29 rfl rfl (fun (x31 : Int32) (h32 : x31.toInt = 1024 * p1.toInt) => ?_) (z_pMul rfl rfl (by omega) (by omega))
      refine z_xP zt206 30 61 [some (.ref 19), some (.int p1), some (.int b2), some (.int b3), some (.int b4), some (.int b5)] [.int b5, .int x31, .ref 29] rfl rfl ?_
      refine z_xI zt206 31 rfl rfl (fun (x33 : Int32) (h34 : x33.toInt = x31.toInt + b5.toInt) => ?_) (z_pAdd rfl rfl (by omega) (by omega))
      have f29 : T[29]? = some (.inr (29, 0, 8192, (-2147483648), 2147483647)) := X.1.k rfl (by decide)
      refine z_xil zt206 32 rfl X f29 (by decide) (by omega) (by omega) (fun (x35 : Int32) h36 (h37 : (-2147483648) ≤ x35.toInt) (h38 : x35.toInt ≤ 2147483647) => ?_)
      refine z_xP zt206 33 64 [some (.ref 19), some (.int p1), some (.int b2), some (.int b3), some (.int b4), some (.int b5)] [.int b3, .int x35] rfl rfl ?_
      refine z_xI zt206 34 rfl rfl (fun (x39 : Int32) (h40 : 0 ≤ x39.toInt ∧ x39.toInt ≤ b3.toInt) => ?_) (z_pAnd rfl (by omega))
      refine z_xZ zt206 35 rfl rfl (fun (h41 : x39.toInt ≠ 0) => ?_) (fun (h41 : x39.toInt = 0) => ?_)
      · skip
        refine z_xP zt206 37 73 [some (.ref 19), some (.int p1), some (.int b2), some (.int b3), some (.int b4), some (.int b5)] [.int 0] rfl rfl ?_
        refine z_xP zt206 38 75 [some (.ref 19), some (.int p1), some (.int b2), some (.int b3), some (.int 0), some (.int b5)] [] rfl rfl ?_
        refine z_xN zt206 39 rfl rfl (fun (x42 : Int32) (h43 : x42.toInt = b5.toInt + 1) => ?_) (z_pAdd rfl rfl (by omega) (by omega))
        show z_ev (d + 1) 206 78 [some (.ref 19), some (.int p1), some (.int b2), some (.int b3), some (.int 0), some (.int x42)] [] M _
        refine z_xP zt206 40 32 [some (.ref 19), some (.int p1), some (.int b2), some (.int b3), some (.int 0), some (.int x42)] [] rfl rfl ?_
        have q0 : ((0 : Int32)).toInt = 0 := rfl
        exact ih.2 M b2 b3 (0) x42 X ⟨by omega, by omega⟩ ⟨by omega, by omega⟩ (by decide) ⟨by omega, by omega⟩ (by omega)
      refine z_xP zt206 36 73 [some (.ref 19), some (.int p1), some (.int b2), some (.int b3), some (.int b4), some (.int b5)] [.int 1] rfl rfl ?_
      refine z_xP zt206 38 75 [some (.ref 19), some (.int p1), some (.int b2), some (.int b3), some (.int 1), some (.int b5)] [] rfl rfl ?_
      refine z_xN zt206 39 rfl rfl (fun (x44 : Int32) (h45 : x44.toInt = b5.toInt + 1) => ?_) (z_pAdd rfl rfl (by omega) (by omega))
      show z_ev (d + 1) 206 78 [some (.ref 19), some (.int p1), some (.int b2), some (.int b3), some (.int 1), some (.int x44)] [] M _
      refine z_xP zt206 40 32 [some (.ref 19), some (.int p1), some (.int b2), some (.int b3), some (.int 1), some (.int x44)] [] rfl rfl ?_
      have q1 : ((1 : Int32)).toInt = 1 := rfl
      exact ih.2 M b2 b3 (1) x44 X ⟨by omega, by omega⟩ ⟨by omega, by omega⟩ (by decide) ⟨by omega, by omega⟩ (by omega)
theorem zC206 {T : List zK} {d : Nat} {K : Option Value → zH → Prop} {p1 : Int32} {M0 : zH} (hW : z_W M0 T) (u1 : 0 ≤ p1.toInt ∧ p1.toInt ≤ 7) (kk : ∀ (x : Int32) (M1 : zH), z_X T zw206 M0 M1 → 0 ≤ x.toInt → x.toInt ≤ 255 → K (some (.int x)) M1) : z_ev (d + 1) 206 0 [some (.ref 19), some (.int p1), none, none, none, none] [] M0 K := by
  have X : z_X T zw206 M0 M0 := .refl hW
  refine z_xP zt206 0 2 [some (.ref 19), some (.int p1), none, none, none, none] [.ref 19, .int 1] rfl rfl ?_
  have f19 : T[19]? = some (.inl (12, 0, 0, 0, 0)) := X.1.k rfl (by decide)
  refine z_xgX (b := 25) zt206 1 rfl zo206 zzf12_25 X f19 (by decide) (by decide) rfl ?_
  refine z_xP zt206 2 6 [some (.ref 19), some (.int p1), none, none, none, none] [.int p1, .ref 25, .int 1] rfl rfl ?_
  have f25 : T[25]? = some (.inr (25, 0, 8, 0, 8)) := X.1.k rfl (by decide)
  refine z_xil zt206 3 rfl X f25 (by decide) (by omega) (by omega) (fun (x1 : Int32) h2 (h3 : 0 ≤ x1.toInt) (h4 : x1.toInt ≤ 8) => ?_)
  refine z_xI zt206 4 rfl rfl (fun (x5 : Int32) (h6 : 1 ≤ x5.toInt ∧ x5.toInt ≤ 256) => ?_) (z_pShlB (a := 1) (b := 8) (c := 256) (r := 256) rfl rfl (by omega) (by omega) (by omega) (by omega) (by decide) (by decide) (by decide) (by decide))
  refine z_xP zt206 5 9 [some (.ref 19), some (.int p1), none, none, none, none] [.int 1, .int x5] rfl rfl ?_
  refine z_xI zt206 6 rfl rfl (fun (x7 : Int32) (h8 : x7.toInt = x5.toInt - 1) => ?_) (z_pSub rfl rfl (by omega) (by omega))
  refine z_xP zt206 7 13 [some (.ref 19), some (.int p1), some (.int x7), none, none, none] [.ref 19, .int 1] rfl rfl ?_
  refine z_xgX (b := 25) zt206 8 rfl zo206 zzf12_25 X f19 (by decide) (by decide) rfl ?_
  refine z_xP zt206 9 17 [some (.ref 19), some (.int p1), some (.int x7), none, none, none] [.int p1, .ref 25, .int 1] rfl rfl ?_
  refine z_xil zt206 10 rfl X f25 (by decide) (by omega) (by omega) (fun (x9 : Int32) h10 (h11 : 0 ≤ x9.toInt) (h12 : x9.toInt ≤ 8) => ?_)
  have h13 := congrArg Int32.toInt (h10.symm.trans h2)
  refine z_xI zt206 11 rfl rfl (fun (x14 : Int32) (h15 : 1 ≤ x14.toInt ∧ x14.toInt ≤ 256) => ?_) (z_pShlB (a := 1) (b := 8) (c := 256) (r := 256) rfl rfl (by omega) (by omega) (by omega) (by omega) (by decide) (by decide) (by decide) (by decide))
  refine z_xP zt206 12 20 [some (.ref 19), some (.int p1), some (.int x7), none, none, none] [.int 1, .int x14] rfl rfl ?_
  refine z_xI zt206 13 rfl rfl (fun (x16 : Int32) (h17 : x16.toInt = x14.toInt - 1) => ?_) (z_pSub rfl rfl (by omega) (by omega))
  refine z_xP zt206 14 22 [some (.ref 19), some (.int p1), some (.int x7), some (.int x16), none, none] [] rfl rfl ?_
  exact (zB206 u1 kk 2370825).1 M0 x7 x16 none none X ⟨by omega, by omega⟩ ⟨by omega, by omega⟩ (by omega)
def zw190 : List Nat := [21, 22, 23, 24, 25, 26, 27, 28, 29, 30, 31, 35, 2201, 2213, 2222, 2223, 2224, 2225, 2226, 2227, 2228]
