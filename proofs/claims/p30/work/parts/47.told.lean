/-! the tape's agenda is made; call 1 -/
theorem zzw1_105 : (z_find z_nw 1 105).map (·.1) = some 2 := by decide +kernel
theorem zzcI1_107 : (z_find z_cI 1 107).map (·.1) = some (3, 5, [(0, 23)]) := by decide +kernel
theorem zzm23 : z_ml 23 = 8 := by decide +kernel
theorem zzr22 : z_rt 22 = some (.object "DoorBench$Agenda") := by decide +kernel
theorem zkl2_1_84 : (z_find z_l2 1 84).map (·.1) = some (-1) := by decide +kernel
theorem zzr5 : z_rt 5 = some (.int) := by decide +kernel
theorem zzcV0_70 : (z_find z_cV 0 70).map (·.1) = some (1, 1, [(0, 29)]) := by decide +kernel
theorem zzm29 : z_ml 29 = 2 := by decide +kernel
theorem zzm5 : z_ml 5 = 3 := by decide +kernel
theorem zzm190 : z_ml 190 = 6 := by decide +kernel
/-- sizes: told by the kinds -/
def z_ck (κ : zK) : Nat := match κ with
  | .inl (ci, _, _, _, _) => z_nf ci
  | .inr (_, _, n, _, _) => n
theorem z_wtc {T : List zK} : ∀ {κ : zK} {e : zE}, z_wt T κ e → (∀ x, κ ≠ .inr (99, x)) → z_cz e = z_ck κ
  | .inl (ci, q, t, m, J), .inr (c1, fs), ⟨h1, _, _, _⟩, _ => by subst h1; rfl
  | .inr (r, tg, n, lo, hi), .inl (t1, n1, .inl f), hw, hn => by
    rcases hw with hw | ⟨_, _, hw, _⟩
    · subst hw; exact absurd rfl (hn _)
    · exact hw
  | .inr (r, tg, n, lo, hi), .inl (t1, n1, .inr (.inl f)), hw, hn => by
    rcases hw with hw | ⟨_, _, hw⟩
    · subst hw; exact absurd rfl (hn _)
    · exact hw
  | .inr (r, tg, n, lo, hi), .inl (t1, n1, .inr (.inr f)), hw, hn => by
    rcases hw with hw | ⟨_, _, hw, _⟩
    · subst hw; exact absurd rfl (hn _)
    · exact hw
  | .inr (r, x), .inr _, hw, hn => absurd (congrArg (fun r => (.inr (r, x) : zK)) (show r = 99 from hw)) (hn x)
theorem z_szX {T : List zK} {rs : List Nat} {M0 M : zH} (h0 : z_W M0 T) (hX : z_X T rs M0 M) (hr : ¬ 99 ∈ rs) : z_sz M = z_sz M0 := by
  unfold z_sz
  congr 1
  apply List.ext_getElem?
  intro i
  rw [List.getElem?_map, List.getElem?_map]
  by_cases hi : i < M0.length
  · have hT : i < T.length := by rw [← h0.1]; exact hi
    have hk := List.getElem?_eq_getElem hT
    generalize T[i] = κ at hk
    by_cases h99 : ∃ x, κ = .inr (99, x)
    · obtain ⟨x, rfl⟩ := h99
      rw [hX.2.2 i 99 x hk hr]
    · have hn : ∀ x, κ ≠ .inr (99, x) := fun x hx => h99 ⟨x, hx⟩
      obtain ⟨e0, a0, w0⟩ := h0.at hk
      obtain ⟨e1, a1, w1⟩ := hX.1.at hk
      rw [a0, a1]
      show some (z_cz e1) = some (z_cz e0)
      rw [z_wtc w0 hn, z_wtc w1 hn]
  · rw [List.getElem?_eq_none (by have := h0.1; have := hX.1.1; omega), List.getElem?_eq_none (by omega)]
/-- a heap that grew by two cells -/
theorem z_sz2 {M M3 : zH} {e1 e2 : zE} (hg : z_grow M M3) (hl : M3.length = M.length + 2) (h1 : M3[M.length]? = some e1) (h2 : M3[M.length + 1]? = some e2) : z_sz M3 = z_sz M + z_cz e1 + z_cz e2 := by
  have hd : M3.drop M.length = [e1, e2] := by
    apply List.ext_getElem?
    intro i
    rw [List.getElem?_drop]
    match i with
    | 0 => exact h1
    | 1 => exact h2
    | i + 2 =>
      rw [List.getElem?_eq_none (by omega)]
      rfl
  have ht : z_sz (M3.take M.length) = z_sz M := by
    refine z_szg (fun k e hk => ?_) (by rw [List.length_take]; omega)
    obtain ⟨e3, g1, g2, g3⟩ := hg k e hk
    refine ⟨e3, ?_, g2, g3⟩
    rw [List.getElem?_take_of_lt (List.getElem?_eq_some_iff.mp hk).1]
    exact g1
  have hs : z_sz M3 = z_sz (M3.take M.length) + z_sz (M3.drop M.length) := by
    have h := congrArg z_sz (List.take_append_drop M.length M3).symm
    rw [h]
    unfold z_sz
    rw [List.map_append, List.sum_append]
  rw [hs, ht, hd]
  show z_sz M + (z_cz e1 + (z_cz e2 + 0)) = _
  omega
def zw22 : List Nat := [9, 108, 1102, 1103, 1110]
/-- told: the inner loop -/
theorem zT22i {T : List zK} {d q t kp : Nat} {bl tv : Int32} {w : Int64} {M0 : zH} {K : Option Value → zH → Prop} (k5 : T[5]? = some (.inl (1, 0, 0, 0, 0))) (k8 : T[8]? = some (.inr (8, 0, 8, 0, 160))) (kp8 : T[kp]? = some (.inr (108, 1, t * z_bl q, 0, 0))) (hkp : 4 ≤ kp) (hbl : bl.toInt = ((z_bl q : Nat) : Int)) (hb1 : z_bl q ≤ 16) (htv : tv.toInt = (t : Int)) (ht8 : t ≤ 8) {b : Int32} (b0 : 0 ≤ b.toInt) (b1 : b.toInt < bl.toInt) (hT : ∀ (x : Int32) (M : zH), z_X T zw22 M0 M → z_F M 5 7 = some (.int tv) → z_ev (d + 32) 22 120 [some (.ref 5), some (.int bl), some (.long w), none, some (.ref kp), some (.int b), some (.int x)] [] M K) : ∀ (n : Nat) (x : Int32) (M : zH), z_X T zw22 M0 M → z_F M 5 7 = some (.int tv) → 0 ≤ x.toInt → tv.toInt - x.toInt < (n : Int) → x.toInt ≤ tv.toInt → z_ev (d + 32) 22 77 [some (.ref 5), some (.int bl), some (.long w), none, some (.ref kp), some (.int b), some (.int x)] [] M K := by
  intro n
  induction n with
  | zero => intros; exfalso; omega
  | succ n ih =>
    intro x M X hF x0 hn xt
    refine z_xP zt22 34 80 [some (.ref 5), some (.int bl), some (.long w), none, some (.ref kp), some (.int b), some (.int x)] [.ref 5, .int x] rfl rfl ?_
    refine z_xgv zt22 35 rfl zo22 zzf1_38 X k5 (by decide) hF ?_
    refine z_xJ zt22 36 rfl rfl (fun (h1 : tv.toInt ≤ x.toInt) => ?_) (fun (h1 : x.toInt < tv.toInt) => ?_)
    · exact hT x M X hF
    refine z_xP zt22 37 88 [some (.ref 5), some (.int bl), some (.long w), none, some (.ref kp), some (.int b), some (.int x)] [.ref 5, .ref 5] rfl rfl ?_
    refine z_xgX (b := 8) zt22 38 rfl zo22 zzf1_18 X k5 (by decide) (by decide) rfl ?_
    refine z_xP zt22 39 93 [some (.ref 5), some (.int bl), some (.long w), none, some (.ref kp), some (.int b), some (.int x)] [.int x, .ref 8, .ref 5] rfl rfl ?_
    refine z_xil zt22 40 rfl X k8 (by decide) (by omega) (by omega) (fun (y : Int32) hy (y0 : 0 ≤ y.toInt) (y1 : y.toInt ≤ 160) => ?_)
    refine z_xpf zt22 41 rfl zo22 zzf1_29 X k5 (by decide) (by decide) ⟨by omega, by omega⟩ rfl (by decide) zw1_2 (fun M1 X1 e1 h1b => ?_)
    have hF1 := e1.f k5 (by decide) hF
    refine z_xP zt22 42 102 [some (.ref 5), some (.int bl), some (.long w), none, some (.ref kp), some (.int b), some (.int x)] [.int bl, .int x, .ref kp] rfl rfl ?_
    refine z_xI zt22 43 rfl rfl (fun (z : Int32) (hz : z.toInt = x.toInt * bl.toInt ∧ 0 ≤ z.toInt ∧ z.toInt ≤ 128) => ?_) (z_pMulB (a := 8) (b := 16) rfl rfl (by omega) (by omega) (by omega) (by omega) (by decide) (by decide))
    refine z_xP zt22 44 105 [some (.ref 5), some (.int bl), some (.long w), none, some (.ref kp), some (.int b), some (.int x)] [.int b, .int z, .ref kp] rfl rfl ?_
    refine z_xI zt22 45 rfl rfl (fun (s : Int32) (hs : s.toInt = z.toInt + b.toInt) => ?_) (z_pAdd rfl rfl (by omega) (by omega))
    have hs2 := z_nlx (A := t) (B := z_bl q) hz.1 hbl hs (by omega) (by omega) (by omega) (by omega)
    refine z_xP zt22 46 108 [some (.ref 5), some (.int bl), some (.long w), none, some (.ref kp), some (.int b), some (.int x)] [.int 0, .ref 5, .int s, .ref kp] rfl rfl ?_
    refine z_xcV (vs := [.ref 5, .int 0]) (r := [.int s, .ref kp]) (L2 := [some (.ref 5), some (.int 0), none, none, none, none, none]) zt22 47 rfl zo22 zzcV1_77 (Or.inl rfl) rfl X1 k5 rfl rfl rfl (Nat.le_of_ble_eq_true rfl) zzm15 (Nat.le_of_ble_eq_true rfl) rfl ?_
    have q0 : ((0 : Int32)).toInt = 0 := rfl
    refine zC15 (d := d) X1.1 ⟨by omega, by omega⟩ (fun y2 M2 X2 => ?_)
    show z_ev (d + 32) 22 111 [some (.ref 5), some (.int bl), some (.long w), none, some (.ref kp), some (.int b), some (.int x)] [.long y2, .int s, .ref kp] M2 _
    have X3 := X1.go X2 (z_sb (by decide))
    have hF2 := X2.2.f k5 (by decide) hF1
    refine z_xP zt22 48 112 [some (.ref 5), some (.int bl), some (.long w), none, some (.ref kp), some (.int b), some (.int x)] [.long w, .long y2, .int s, .ref kp] rfl rfl ?_
    refine z_xL zt22 49 rfl rfl (P := fun _ => True) (fun v _ => ?_) trivial
    refine z_xls zt22 50 rfl X3 kp8 (by decide) hkp hs2.1 hs2.2 (by decide) (fun M4 X4 e4 => ?_)
    have hF4 := e4.f k5 (by decide) hF2
    have q1 : (1 : Int32).toInt = 1 := rfl
    refine z_xN (x := x) (P := fun x2 => x2.toInt = x.toInt + 1) zt22 51 rfl rfl (fun x2 hx2 => ?_) (z_pAdd rfl rfl (by omega) (by omega))
    show z_ev (d + 32) 22 117 [some (.ref 5), some (.int bl), some (.long w), none, some (.ref kp), some (.int b), some (.int x2)] [] M4 K
    refine z_xP zt22 52 77 [some (.ref 5), some (.int bl), some (.long w), none, some (.ref kp), some (.int b), some (.int x2)] [] rfl rfl ?_
    exact ih x2 M4 X4 hF4 (by omega) (by omega) (by omega)
/-- told: the outer loop -/
theorem zT22o {T : List zK} {d q t kp : Nat} {bl tv : Int32} {w : Int64} {M0 : zH} {K : Option Value → zH → Prop} (k5 : T[5]? = some (.inl (1, 0, 0, 0, 0))) (k8 : T[8]? = some (.inr (8, 0, 8, 0, 160))) (kp8 : T[kp]? = some (.inr (108, 1, t * z_bl q, 0, 0))) (hkp : 4 ≤ kp) (hbl : bl.toInt = ((z_bl q : Nat) : Int)) (hb1 : z_bl q ≤ 16) (htv : tv.toInt = (t : Int)) (ht8 : t ≤ 8) (hT : ∀ (b : Int32) (o6 : Option Value) (M : zH), z_X T zw22 M0 M → z_F M 5 7 = some (.int tv) → z_ev (d + 32) 22 126 [some (.ref 5), some (.int bl), some (.long w), none, some (.ref kp), some (.int b), o6] [] M K) : ∀ (n : Nat) (b : Int32) (o6 : Option Value) (M : zH), z_X T zw22 M0 M → z_F M 5 7 = some (.int tv) → 0 ≤ b.toInt → bl.toInt - b.toInt < (n : Int) → b.toInt ≤ bl.toInt → z_ev (d + 32) 22 62 [some (.ref 5), some (.int bl), some (.long w), none, some (.ref kp), some (.int b), o6] [] M K := by
  intro n
  induction n with
  | zero => intros; exfalso; omega
  | succ n ih =>
    intro b o6 M X hF b0 hn bb
    refine z_xP zt22 29 65 [some (.ref 5), some (.int bl), some (.long w), none, some (.ref kp), some (.int b), o6] [.int bl, .int b] rfl rfl ?_
    refine z_xJ zt22 30 rfl rfl (fun (h1 : bl.toInt ≤ b.toInt) => ?_) (fun (h1 : b.toInt < bl.toInt) => ?_)
    · exact hT b o6 M X hF
    refine z_xP zt22 31 71 [some (.ref 5), some (.int bl), some (.long w), none, some (.ref kp), some (.int b), o6] [.int b, .ref 5] rfl rfl ?_
    refine z_xpf zt22 32 rfl zo22 zzf1_35 X k5 (by decide) (by decide) (z_full b) rfl (by decide) zw1_10 (fun M1 X1 e1 h1b => ?_)
    have hF1 := e1.f k5 (by decide) hF
    refine z_xP zt22 33 77 [some (.ref 5), some (.int bl), some (.long w), none, some (.ref kp), some (.int b), some (.int 0)] [] rfl rfl ?_
    have q0 : ((0 : Int32)).toInt = 0 := rfl
    have q1 : (1 : Int32).toInt = 1 := rfl
    refine zT22i k5 k8 kp8 hkp hbl hb1 htv ht8 b0 h1 (fun x M2 X2 hF2 => ?_) 9 0 M1 X1 hF1 (by omega) (by omega) (by omega)
    refine z_xN (x := b) (P := fun b2 => b2.toInt = b.toInt + 1) zt22 53 rfl rfl (fun b2 hb2 => ?_) (z_pAdd rfl rfl (by omega) (by omega))
    show z_ev (d + 32) 22 123 [some (.ref 5), some (.int bl), some (.long w), none, some (.ref kp), some (.int b2), some (.int x)] [] M2 K
    refine z_xP zt22 54 62 [some (.ref 5), some (.int bl), some (.long w), none, some (.ref kp), some (.int b2), some (.int x)] [] rfl rfl ?_
    exact ih b2 (some (.int x)) M2 X2 hF2 (by omega) (by omega) (by omega)
/-- told: the agenda is made -/
theorem zT22n {T : List zK} {d q t kp : Nat} {qv tv pv ev bl : Int32} {w : Int64} {o5 o6 : Option Value} {M : zH} {K : Option Value → zH → Prop} (hW : z_W M T) (kp8 : T[kp]? = some (.inr (108, 1, t * z_bl q, 0, 0))) (h4 : z_F M 5 4 = some (.int qv)) (h5 : z_F M 5 5 = some (.int pv)) (h6 : z_F M 5 6 = some (.int ev)) (h7 : z_F M 5 7 = some (.int tv)) (hq : qv.toInt = (q : Int)) (q0 : 1 ≤ q) (q1 : q ≤ 10) (ht : tv.toInt = (t : Int)) (t8 : t ≤ 8) (k : ∀ (N m : Nat) (T3 : List zK) (M3 : zH), z_W M3 T3 → T3[N]? = some (.inl (2, q, t, m, 0)) → (∀ (a : Nat) (κ : zK), T[a]? = some κ → T3[a]? = some κ) → z_ke T [102, 109, 111, 1205, 1210, 1211] M M3 → M3.length = M.length + 6 → z_sz M3 ≤ z_sz M + 1242 → K (some (.ref N)) M3) : z_ev (d + 32) 22 126 [some (.ref 5), some (.int bl), some (.long w), none, some (.ref kp), o5, o6] [] M K := by
  have k5 : T[5]? = some (.inl (1, 0, 0, 0, 0)) := hW.k rfl (by decide)
  obtain ⟨fs5, g1, g2, g3, g4, g5⟩ := hW.ob k5
  unfold z_F at h4 h5 h6 h7
  rw [g1] at h4 h5 h6 h7
  have hN : 4 ≤ M.length := by have := hW.ge; have := hW.1; omega
  refine z_enew (N := M.length) (fs := [.int 0, .int 0, .int 0, .int 0, .int 0, .null, .int 0, .long 0, .null, .null, .int 0, .null, .null, .null]) (z_dc1 zt22 (n := 55) rfl) (by rw [zo22]; exact zzw1_105) rfl rfl ?_
  refine z_xP zt22 56 131 [some (.ref 5), some (.int bl), some (.long w), none, some (.ref kp), o5, o6] [.ref 5, .ref M.length, .ref M.length] rfl rfl ?_
  refine z_egf (fs := fs5) (z_dc1 zt22 (n := 57) rfl) (by rw [zo22]; exact zzf1_47) (z_loo g1) (by decide) (by decide) h4 ?_
  refine z_xP zt22 58 135 [some (.ref 5), some (.int bl), some (.long w), none, some (.ref kp), o5, o6] [.ref 5, .int qv, .ref M.length, .ref M.length] rfl rfl ?_
  refine z_egf (fs := fs5) (z_dc1 zt22 (n := 59) rfl) (by rw [zo22]; exact zzf1_44) (z_loo g1) (by decide) (by decide) h5 ?_
  refine z_xP zt22 60 139 [some (.ref 5), some (.int bl), some (.long w), none, some (.ref kp), o5, o6] [.ref 5, .int pv, .int qv, .ref M.length, .ref M.length] rfl rfl ?_
  refine z_egf (fs := fs5) (z_dc1 zt22 (n := 61) rfl) (by rw [zo22]; exact zzf1_41) (z_loo g1) (by decide) (by decide) h6 ?_
  refine z_xP zt22 62 143 [some (.ref 5), some (.int bl), some (.long w), none, some (.ref kp), o5, o6] [.ref 5, .int ev, .int pv, .int qv, .ref M.length, .ref M.length] rfl rfl ?_
  refine z_egf (fs := fs5) (z_dc1 zt22 (n := 63) rfl) (by rw [zo22]; exact zzf1_38) (z_loo g1) (by decide) (by decide) h7 ?_
  refine z_xP zt22 64 148 [some (.ref 5), some (.int bl), some (.long w), none, some (.ref kp), o5, o6] [.ref kp, .int tv, .int ev, .int pv, .int qv, .ref M.length, .ref M.length] rfl rfl ?_
  refine z_ecI (vs := [.ref M.length, .int qv, .int pv, .int ev, .int tv, .ref kp]) (r := [.ref M.length]) (L2 := [some (.ref M.length), some (.int qv), some (.int pv), some (.int ev), some (.int tv), some (.ref kp), none, none]) (z_dc1 zt22 (n := 65) rfl) (by rw [zo22]; exact zzcI1_107) (by decide) rfl z_geto hN rfl rfl (Nat.le_of_ble_eq_true rfl) zzm23 (Nat.le_of_ble_eq_true rfl) rfl ?_
  refine zA23 hN hq q0 q1 (fun av bv wv ha hb => ?_)
  have hW1 : z_W (M ++ ([.inr (2, [.int qv, .int av, .int pv, .int ev, .int tv, .null, .int bv, .long wv, .ref kp, .ref (M.length + 2), .int 0, .null, .ref (M.length + 3), .ref (M.length + 1)]), .inl (0, 12, .inl fun _ => 0), .inl (1, z_bl q, .inr (.inl fun _ => 0)), .inl (1, z_bl q, .inr (.inl fun _ => 0))] : zH)) (T ++ [(.inl (2, q, t, 0, 1) : zK), z_ai 113 12 0 (64 * z_bl q - 1), z_al 109 (z_bl q), z_al 112 (z_bl q)]) := z_agd hW q0 q1 t8 kp8 hq ht ha hb
  have hbl := z_blb q0 q1
  have kb1 : z_ke T [102, 109, 111, 1205, 1210, 1211] M (M ++ ([.inr (2, [.int qv, .int av, .int pv, .int ev, .int tv, .null, .int bv, .long wv, .ref kp, .ref (M.length + 2), .int 0, .null, .ref (M.length + 3), .ref (M.length + 1)]), .inl (0, 12, .inl fun _ => 0), .inl (1, z_bl q, .inr (.inl fun _ => 0)), .inl (1, z_bl q, .inr (.inl fun _ => 0))] : zH)) := z_ke.block hW
  have n5 : z_F (M ++ ([.inr (2, [.int qv, .int av, .int pv, .int ev, .int tv, .null, .int bv, .long wv, .ref kp, .ref (M.length + 2), .int 0, .null, .ref (M.length + 3), .ref (M.length + 1)]), .inl (0, 12, .inl fun _ => 0), .inl (1, z_bl q, .inr (.inl fun _ => 0)), .inl (1, z_bl q, .inr (.inl fun _ => 0))] : zH)) M.length 5 = some .null := by unfold z_F; rw [z_geto]; rfl
  have n11 : z_F (M ++ ([.inr (2, [.int qv, .int av, .int pv, .int ev, .int tv, .null, .int bv, .long wv, .ref kp, .ref (M.length + 2), .int 0, .null, .ref (M.length + 3), .ref (M.length + 1)]), .inl (0, 12, .inl fun _ => 0), .inl (1, z_bl q, .inr (.inl fun _ => 0)), .inl (1, z_bl q, .inr (.inl fun _ => 0))] : zH)) M.length 11 = some .null := by unfold z_F; rw [z_geto]; rfl
  have kN1 : (T ++ [(.inl (2, q, t, 0, 1) : zK), z_ai 113 12 0 (64 * z_bl q - 1), z_al 109 (z_bl q), z_al 112 (z_bl q)])[M.length]? = some (.inl (2, q, t, 0, 1)) := by rw [hW.1, List.getElem?_append_right (Nat.le_refl _), Nat.sub_self]; rfl
  have l1 : (M ++ ([.inr (2, [.int qv, .int av, .int pv, .int ev, .int tv, .null, .int bv, .long wv, .ref kp, .ref (M.length + 2), .int 0, .null, .ref (M.length + 3), .ref (M.length + 1)]), .inl (0, 12, .inl fun _ => 0), .inl (1, z_bl q, .inr (.inl fun _ => 0)), .inl (1, z_bl q, .inr (.inl fun _ => 0))] : zH)).length = M.length + 4 := List.length_append ..
  have s1 : z_sz (M ++ ([.inr (2, [.int qv, .int av, .int pv, .int ev, .int tv, .null, .int bv, .long wv, .ref kp, .ref (M.length + 2), .int 0, .null, .ref (M.length + 3), .ref (M.length + 1)]), .inl (0, 12, .inl fun _ => 0), .inl (1, z_bl q, .inr (.inl fun _ => 0)), .inl (1, z_bl q, .inr (.inl fun _ => 0))] : zH)) = z_sz M + (26 + 2 * z_bl q) := by
    have h2 : z_nf 2 = 14 := by decide
    simp [z_sz, z_cz, h2]
    omega
  have p1 : ∀ (a : Nat) (κ : zK), T[a]? = some κ → (T ++ [(.inl (2, q, t, 0, 1) : zK), z_ai 113 12 0 (64 * z_bl q - 1), z_al 109 (z_bl q), z_al 112 (z_bl q)])[a]? = some κ := z_pfx
  generalize M ++ ([.inr (2, [.int qv, .int av, .int pv, .int ev, .int tv, .null, .int bv, .long wv, .ref kp, .ref (M.length + 2), .int 0, .null, .ref (M.length + 3), .ref (M.length + 1)]), .inl (0, 12, .inl fun _ => 0), .inl (1, z_bl q, .inr (.inl fun _ => 0)), .inl (1, z_bl q, .inr (.inl fun _ => 0))] : zH) = M1 at *
  generalize T ++ [(.inl (2, q, t, 0, 1) : zK), z_ai 113 12 0 (64 * z_bl q - 1), z_al 109 (z_bl q), z_al 112 (z_bl q)] = T1 at *
  refine z_ev.mono (z_ev.grow (K := fun v M3 => v = none ∧ ∃ (m : Nat) (T3 : List zK), m ≤ 1024 ∧ z_W M3 T3 ∧ T3[M.length]? = some (.inl (2, q, t, m, 0)) ∧ (∀ (a : Nat) (κ : zK), T[a]? = some κ → T3[a]? = some κ) ∧ z_ke T [102, 109, 111, 1205, 1210, 1211] M M3 ∧ M3.length = M1.length + 2 ∧ T3[M1.length]? = some (z_ai 102 m 0 1023) ∧ T3[M1.length + 1]? = some (z_al 111 (q * z_sp m))) ?_) (fun v M3 ⟨⟨hv, m, T3, hm, hW3, kN3, p3, ke3, l3, kA, kB⟩, hg, _⟩ => ?_)
  · have z0 : (0 : Int32).toInt = 0 := rfl
    have h53 : 53 ≤ M.length := by have := hW.ge; have := hW.1; omega
    refine z_xP zt23 46 117 [some (.ref M.length), some (.int qv), some (.int pv), some (.int ev), some (.int tv), some (.ref kp), some (.int 0), some (.int 0)] [] rfl rfl ?_
    refine zL23 (d := d + 30) kN1 hbl (fun many b M2 X2 m0 m1 => ?_) (z_bl q + 1) 0 0 M1 (.refl hW1) (by omega) (by omega) (by omega) (by omega) (by omega)
    have hm2 : many.toInt ≤ 1024 := by omega
    have l2 : M2.length = M1.length := X2.1.1.trans hW1.1.symm
    refine zE23 (d := d + 28) (T0 := T) X2.1 h53 kN1 (X2.2.f kN1 (by decide) n5) (X2.2.f kN1 (by decide) n11) hq q1 m0 hm2 (fun a κ hk => ⟨p1 a κ hk, by have h9 := (List.getElem?_eq_some_iff.mp hk).1; have := hW.1; omega⟩) (fun T3 M3 hW3 kN3 p3 ke3 l3 kA kB => ?_)
    rw [l2] at l3 kA kB
    exact ⟨rfl, many.toInt.toNat, T3, by omega, hW3, kN3, p3, ((kb1.trans (X2.2.sub p1) (z_sb (by decide))).trans ke3 (z_sb (by decide))), l3, kA, kB⟩
  · subst hv
    obtain ⟨f1, a1, _⟩ := hW3.ai kA (by decide)
    obtain ⟨f2, a2⟩ := hW3.al kB (by decide)
    have s3 := z_sz2 hg l3 a1 a2
    have s4 : z_sz M3 = z_sz M1 + m + q * z_sp m := s3
    have s5 : q * z_sp m ≤ 10 * 16 := Nat.mul_le_mul q1 (z_spf hm).1
    show z_ev (d + 32) 22 151 [some (.ref 5), some (.int bl), some (.long w), none, some (.ref kp), o5, o6] [.ref M.length] M3 _
    exact z_xra zt22 66 rfl zzr22 (k M.length m T3 M3 hW3 kN3 p3 ke3 (by omega) (by omega))
/-- told: from the word on -/
theorem zT22c {T : List zK} {d : Nat} {qv : Int32} {M : zH} {K : Option Value → zH → Prop} (hW : z_W M T) (h4 : z_F M 5 4 = some (.int qv)) {q : Nat} (hq : qv.toInt = (q : Int)) (q0 : 1 ≤ q) (q1 : q ≤ 10) {bl : Int32} (hbl : bl.toInt = ((z_bl q : Nat) : Int)) {w : Int64} (k : ∀ (N q t m : Nat) (T3 : List zK) (M3 : zH), z_W M3 T3 → T3[N]? = some (.inl (2, q, t, m, 0)) → (∀ (a : Nat) (κ : zK), T[a]? = some κ → T3[a]? = some κ) → z_ke T [9, 102, 108, 109, 111, 1102, 1103, 1110, 1205, 1210, 1211] M M3 → M3.length = M.length + 7 → z_sz M3 ≤ z_sz M + 1370 → K (some (.ref N)) M3) : z_ev (d + 32) 22 48 [some (.ref 5), some (.int bl), none, none, none, none, none] [.long w] M K := by
  have k5 : T[5]? = some (.inl (1, 0, 0, 0, 0)) := hW.k rfl (by decide)
  have k8 : T[8]? = some (.inr (8, 0, 8, 0, 160)) := hW.k rfl (by decide)
  have hb := z_blb q0 q1
  obtain ⟨tv, h7, t0, t1⟩ := hW.fi k5 (k := 7) (lo := 0) (hi := 8) (by decide) rfl
  obtain ⟨pv, h5, _, _⟩ := hW.fi k5 (k := 5) (lo := -2147483648) (hi := 2147483647) (by decide) rfl
  obtain ⟨ev, h6, _, _⟩ := hW.fi k5 (k := 6) (lo := -2147483648) (hi := 2147483647) (by decide) rfl
  obtain ⟨t, ht⟩ : ∃ t : Nat, tv.toInt = (t : Int) := ⟨tv.toInt.toNat, by omega⟩
  have X : z_X T zw22 M M := .refl hW
  refine z_xP zt22 23 50 [some (.ref 5), some (.int bl), some (.long w), none, none, none, none] [.ref 5] rfl rfl ?_
  refine z_xgv zt22 24 rfl zo22 zzf1_38 X k5 (by decide) h7 ?_
  refine z_xP zt22 25 54 [some (.ref 5), some (.int bl), some (.long w), none, none, none, none] [.int bl, .int tv] rfl rfl ?_
  refine z_xI zt22 26 rfl rfl (fun (z : Int32) (hz : z.toInt = tv.toInt * bl.toInt ∧ 0 ≤ z.toInt ∧ z.toInt ≤ 128) => ?_) (z_pMulB (a := 8) (b := 16) rfl rfl (by omega) (by omega) (by omega) (by omega) (by decide) (by decide))
  have hzk : z.toNatClampNeg = t * z_bl q := by
    have h1 : z.toInt = ((t * z_bl q : Nat) : Int) := by rw [hz.1, ht, hbl]; exact (Int.natCast_mul _ _).symm
    unfold Int32.toNatClampNeg; omega
  have hz2 : t * z_bl q ≤ 128 := by rw [← hzk]; unfold Int32.toNatClampNeg; omega
  refine z_enal (N := M.length) (k := t * z_bl q) (z_dc1 zt22 (n := 27) rfl) (z_nlo (by omega) (by omega)) hzk rfl ?_
  have hW1 : z_W (M ++ [(.inl (1, t * z_bl q, .inr (.inl fun _ => 0)) : zE)]) (T ++ [z_al 108 (t * z_bl q)]) := hW.push (Or.inr ⟨rfl, rfl, rfl⟩)
  have kp1 : (T ++ [z_al 108 (t * z_bl q)])[M.length]? = some (.inr (108, 1, t * z_bl q, 0, 0)) := by rw [hW.1, List.getElem?_append_right (Nat.le_refl _), Nat.sub_self]; rfl
  have kb1 : z_ke T [9, 102, 108, 109, 111, 1102, 1103, 1110, 1205, 1210, 1211] M (M ++ [(.inl (1, t * z_bl q, .inr (.inl fun _ => 0)) : zE)]) := z_ke.block hW
  have p1 : ∀ (a : Nat) (κ : zK), T[a]? = some κ → (T ++ [z_al 108 (t * z_bl q)])[a]? = some κ := z_pfx
  have l1 : (M ++ [(.inl (1, t * z_bl q, .inr (.inl fun _ => 0)) : zE)]).length = M.length + 1 := List.length_append ..
  have s1 : z_sz (M ++ [(.inl (1, t * z_bl q, .inr (.inl fun _ => 0)) : zE)]) = z_sz M + t * z_bl q := by simp [z_sz, z_cz]
  have hN : 4 ≤ M.length := by have := hW.ge; have := hW.1; omega
  refine z_xP zt22 28 62 [some (.ref 5), some (.int bl), some (.long w), none, some (.ref M.length), some (.int 0), none] [] rfl rfl ?_
  generalize M ++ [(.inl (1, t * z_bl q, .inr (.inl fun _ => 0)) : zE)] = M1 at *
  generalize T ++ [z_al 108 (t * z_bl q)] = T1 at *
  have z0 : (0 : Int32).toInt = 0 := rfl
  refine zT22o (d := d) (M0 := M1) (p1 _ _ k5) (p1 _ _ k8) kp1 hN hbl hb.2 ht (by omega) (fun b o6 M2 X2 h72 => ?_) 17 0 none M1 (.refl hW1) (kb1.f k5 (by decide) h7) (by omega) (by omega) (by omega)
  have f := fun (k : Nat) (v : Option Value) (hr : ¬ (1000 + 100 * 1 + k) ∈ [9, 102, 108, 109, 111, 1102, 1103, 1110, 1205, 1210, 1211]) (hr2 : ¬ (1000 + 100 * 1 + k) ∈ zw22) (h : z_F M 5 k = v) => X2.2.f (p1 _ _ k5) hr2 (kb1.f k5 hr h)
  have s2 : z_sz M2 = z_sz M1 := z_szX hW1 X2 (by decide)
  have l2 : M2.length = M1.length := X2.1.1.trans hW1.1.symm
  refine zT22n X2.1 kp1 (f 4 _ (by decide) (by decide) h4) (f 5 _ (by decide) (by decide) h5) (f 6 _ (by decide) (by decide) h6) h72 hq q0 q1 ht (by omega) (fun N m T3 M3 hW3 kN p3 ke l3 s3 => ?_)
  exact k N q t m T3 M3 hW3 kN (fun a κ h => p3 a κ (p1 a κ h)) (kb1.trans (((z_ke.refl (rs := [9, 102, 108, 109, 111, 1102, 1103, 1110, 1205, 1210, 1211])).trans X2.2 (z_sb (by decide))).trans ke (z_sb (by decide)) |>.sub p1) (z_sb (by decide))) (by omega) (by omega)
/-- told: from the number of blocks on -/
theorem zT22b {T : List zK} {d : Nat} {qv : Int32} {M : zH} {K : Option Value → zH → Prop} (hW : z_W M T) (h4 : z_F M 5 4 = some (.int qv)) {q : Nat} (hq : qv.toInt = (q : Int)) (q0 : 1 ≤ q) (q1 : q ≤ 10) {bl : Int32} (hbl : bl.toInt = ((z_bl q : Nat) : Int)) (k : ∀ (N q t m : Nat) (T3 : List zK) (M3 : zH), z_W M3 T3 → T3[N]? = some (.inl (2, q, t, m, 0)) → (∀ (a : Nat) (κ : zK), T[a]? = some κ → T3[a]? = some κ) → z_ke T [9, 102, 108, 109, 111, 1102, 1103, 1110, 1205, 1210, 1211] M M3 → M3.length = M.length + 7 → z_sz M3 ≤ z_sz M + 1370 → K (some (.ref N)) M3) : z_ev (d + 32) 22 22 [some (.ref 5), none, none, none, none, none, none] [.int bl] M K := by
  have k5 : T[5]? = some (.inl (1, 0, 0, 0, 0)) := hW.k rfl (by decide)
  have X : z_X T zw22 M M := .refl hW
  refine z_xP zt22 11 24 [some (.ref 5), some (.int bl), none, none, none, none, none] [.ref 5] rfl rfl ?_
  refine z_xgv zt22 12 rfl zo22 zzf1_47 X k5 (by decide) h4 ?_
  refine z_xP zt22 13 29 [some (.ref 5), some (.int bl), none, none, none, none, none] [.int 6, .int qv] rfl rfl ?_
  refine z_xJ zt22 14 rfl rfl (fun _ => ?_) (fun _ => ?_)
  · refine z_xl2 zt22 22 rfl zo22 zkl2_1_84 ?_
    exact zT22c hW h4 hq q0 q1 hbl k
  · refine z_xP zt22 15 35 [some (.ref 5), some (.int bl), none, none, none, none, none] [.ref 5, .int 1, .long 1] rfl rfl ?_
    refine z_xgv zt22 16 rfl zo22 zzf1_47 X k5 (by decide) h4 ?_
    refine z_xI zt22 17 rfl rfl (P := fun _ => True) (fun x _ => ?_) trivial
    refine z_xL zt22 18 rfl rfl (P := fun _ => True) (fun y _ => ?_) trivial
    refine z_xP zt22 19 41 [some (.ref 5), some (.int bl), none, none, none, none, none] [.long 1, .long y] rfl rfl ?_
    refine z_xL zt22 20 rfl rfl (P := fun _ => True) (fun w _ => ?_) trivial
    refine z_xP zt22 21 48 [some (.ref 5), some (.int bl), none, none, none, none, none] [.long w] rfl rfl ?_
    exact zT22c hW h4 hq q0 q1 hbl k
/-- told -/
theorem zT22a {T : List zK} {d : Nat} {qv : Int32} {M : zH} {K : Option Value → zH → Prop} (hW : z_W M T) (h4 : z_F M 5 4 = some (.int qv)) (q0 : 1 ≤ qv.toInt) (q1 : qv.toInt ≤ 10) (k : ∀ (N q t m : Nat) (T3 : List zK) (M3 : zH), z_W M3 T3 → T3[N]? = some (.inl (2, q, t, m, 0)) → (∀ (a : Nat) (κ : zK), T[a]? = some κ → T3[a]? = some κ) → z_ke T [9, 102, 108, 109, 111, 1102, 1103, 1110, 1205, 1210, 1211] M M3 → M3.length = M.length + 7 → z_sz M3 ≤ z_sz M + 1370 → K (some (.ref N)) M3) : z_ev (d + 32) 22 0 [some (.ref 5), none, none, none, none, none, none] [] M K := by
  have k5 : T[5]? = some (.inl (1, 0, 0, 0, 0)) := hW.k rfl (by decide)
  obtain ⟨q, hq⟩ : ∃ q : Nat, qv.toInt = (q : Int) := ⟨qv.toInt.toNat, by omega⟩
  have X : z_X T zw22 M M := .refl hW
  refine z_xP zt22 0 1 [some (.ref 5), none, none, none, none, none, none] [.ref 5] rfl rfl ?_
  refine z_xgv zt22 1 rfl zo22 zzf1_47 X k5 (by decide) h4 ?_
  refine z_xP zt22 2 6 [some (.ref 5), none, none, none, none, none, none] [.int 6, .int qv] rfl rfl ?_
  have q6 : (6 : Int32).toInt = 6 := rfl
  have q1i : (1 : Int32).toInt = 1 := rfl
  refine z_xJ zt22 3 rfl rfl (fun (h1 : qv.toInt ≤ (6 : Int32).toInt) => ?_) (fun (h1 : (6 : Int32).toInt < qv.toInt) => ?_)
  · refine z_xP zt22 10 22 [some (.ref 5), none, none, none, none, none, none] [.int 1] rfl rfl ?_
    exact zT22b hW h4 hq (by omega) (by omega) (by rw [q1i, z_blle (by omega)]; rfl) k
  · refine z_xP zt22 4 11 [some (.ref 5), none, none, none, none, none, none] [.ref 5, .int 1] rfl rfl ?_
    refine z_xgv zt22 5 rfl zo22 zzf1_47 X k5 (by decide) h4 ?_
    refine z_xP zt22 6 16 [some (.ref 5), none, none, none, none, none, none] [.int 6, .int qv, .int 1] rfl rfl ?_
    refine z_xI zt22 7 rfl rfl (fun (y : Int32) (hy : y.toInt = ((q - 6 : Nat) : Int)) => ?_) (by rw [z_pSub (x := qv) (y := 6) rfl rfl (by omega) (by omega)]; omega)
    refine z_xI zt22 8 rfl rfl (fun (b : Int32) (hb : b.toInt = 1 * ((2 ^ (q - 6) : Nat) : Int)) => ?_) (z_pShl (q - 6) rfl hy (by omega) rfl (by decide) rfl (by have := z_pob2 (q := q) (by omega); omega))
    refine z_xP zt22 9 22 [some (.ref 5), none, none, none, none, none, none] [.int b] rfl rfl ?_
    exact zT22b hW h4 hq (by omega) (by omega) (by rw [hb, z_blgt (by omega)]; omega) k
def zwA : List Nat := zw6 ++ [9, 102, 108, 109, 111, 1102, 1103, 1110, 1205, 1210, 1211] ++ ([10, 11, 1003] ++ zw30) ++ [1101]
/-- agenda: its end -/
theorem zT5t {T : List zK} {d : Nat} {K : Option Value → zH → Prop} {x y : Int32} {M : zH} (hA : z_GG T M ∧ z_GL M ∧ z_G4 M ∧ z_F M 4 5 = z_F M 19 21) (kk : ∀ M1 : zH, z_GG T M1 ∧ z_GL M1 ∧ z_G4 M1 ∧ z_F M1 4 5 = z_F M1 19 21 → z_ke T [1101] M M1 → z_pot M1 = z_pot M → M1.length = M.length → z_sz M1 = z_sz M → K (some (.int y)) M1) : z_ev d 5 42 [some (.ref 4), some (.int x), none] [.int y] M K := by
  have hW := hA.1.1
  have k4 : T[4]? = some (.inl (0, 0, 0, 0, 0)) := hW.k rfl (by decide)
  have k5 : T[5]? = some (.inl (1, 0, 0, 0, 0)) := hW.k rfl (by decide)
  have X : z_X T [1101] M M := .refl hW
  refine z_xP zt5 18 44 [some (.ref 4), some (.int x), some (.int y)] [.ref 4] rfl rfl ?_
  refine z_xgX (b := 5) zt5 19 rfl zo5 zzf0_10 X k4 (by decide) (by decide) rfl ?_
  refine z_xP zt5 20 48 [some (.ref 4), some (.int x), some (.int y)] [.int 0, .ref 5] rfl rfl ?_
  have q0 : ((0 : Int32)).toInt = 0 := rfl
  refine z_xpf zt5 21 rfl zo5 zzf0_55 X k5 (by decide) (by decide) ⟨by omega, by omega⟩ rfl (by decide) zw1_1 (fun M1 X1 e1 h1 => ?_)
  refine z_xP zt5 22 52 [some (.ref 4), some (.int x), some (.int y)] [.int y] rfl rfl ?_
  exact z_xri zt5 23 rfl zzr5 (kk M1 (z_kee hA X1 (by decide)) X1.2 (z_kep X1 (by decide)) (X1.1.1.trans hW.1.symm) (z_szX hW X1 (by decide)))
/-- agenda -/
theorem zT5 {T : List zK} {K : Option Value → zH → Prop} {M : zH} (hA : z_GG T M ∧ z_GL M ∧ z_G4 M ∧ z_F M 4 5 = z_F M 19 21) (kk : ∀ (y : Int32) (T1 : List zK) (M1 : zH), z_GG T1 M1 ∧ z_GL M1 ∧ z_G4 M1 ∧ z_F M1 4 5 = z_F M1 19 21 → (∀ (a : Nat) (κ : zK), T[a]? = some κ → T1[a]? = some κ) → z_ke T zwA M M1 → z_pot M1 = z_pot M → (M1.length = M.length ∨ (M1.length ≤ M.length + 29 ∧ z_sz M1 ≤ z_sz M + 1818)) → K (some (.int y)) M1) : z_ev 2046 5 0 [some (.ref 4), none, none] [] M K := by
  have hW := hA.1.1
  have k4 : T[4]? = some (.inl (0, 0, 0, 0, 0)) := hW.k rfl (by decide)
  have k5 : T[5]? = some (.inl (1, 0, 0, 0, 0)) := hW.k rfl (by decide)
  have X : z_X T [] M M := .refl hW
  refine z_xP zt5 0 1 [some (.ref 4), none, none] [.ref 4] rfl rfl ?_
  refine z_xgI zt5 1 rfl zo5 zzf0_59 X k4 (by decide) (by decide) rfl (fun (A : Int32) hA0 (a0 : 0 ≤ A.toInt) (a8 : A.toInt ≤ 8) => ?_)
  refine z_xP zt5 2 6 [some (.ref 4), none, none] [.int 8, .int A] rfl rfl ?_
  have q8 : (8 : Int32).toInt = 8 := rfl
  refine z_xJ zt5 3 rfl rfl (fun (h1 : A.toInt < (8 : Int32).toInt) => ?_) (fun (h1 : (8 : Int32).toInt ≤ A.toInt) => ?_)
  rotate_left
  · refine z_xP zt5 4 11 [some (.ref 4), none, none] [.int (-3)] rfl rfl ?_
    exact z_xri zt5 5 rfl zzr5 (kk (-3) T M hA (fun _ _ h => h) .refl rfl (Or.inl rfl))
  refine z_xP zt5 6 13 [some (.ref 4), none, none] [.ref 4] rfl rfl ?_
  refine z_xgX (b := 5) zt5 7 rfl zo5 zzf0_10 X k4 (by decide) (by decide) rfl ?_
  refine z_xcV (vs := [.ref 5]) (r := []) (L2 := [some (.ref 5), none]) zt5 8 rfl zo5 zzcV0_62 (Or.inl rfl) rfl X k5 rfl rfl rfl (Nat.le_of_ble_eq_true rfl) zzm6 (Nat.le_of_ble_eq_true rfl) rfl ?_
  obtain ⟨zq, hz, _, _⟩ := hW.fi k5 (k := 4) (lo := 0) (hi := 10) (by decide) rfl
  refine zQC6 (d := 2012) hW hz (fun x M1 X1 w0 hw0 w01 hor => ?_)
  show z_ev 2046 5 19 [some (.ref 4), none, none] [.int x] M1 _
  have s1 : z_sz M1 = z_sz M := z_szX hW X1 (by decide)
  have l1 : M1.length = M.length := X1.1.1.trans hW.1.symm
  have hB := z_kee hA X1 (by decide)
  have hp1 := z_kep X1 (by decide)
  refine z_xP zt5 9 21 [some (.ref 4), some (.int x), none] [.int x] rfl rfl ?_
  refine z_xZ zt5 10 rfl rfl (fun (h2 : x.toInt < 0) => ?_) (fun (h2 : 0 ≤ x.toInt) => ?_)
  rotate_left
  · refine z_xP zt5 11 27 [some (.ref 4), some (.int x), none] [.int x, .int (-100)] rfl rfl ?_
    refine z_xI zt5 12 rfl rfl (P := fun _ => True) (fun y _ => ?_) trivial
    refine z_xP zt5 13 42 [some (.ref 4), some (.int x), none] [.int y] rfl rfl ?_
    exact zT5t hB (fun M2 hC u2 hp2 l2 s2 => kk y T M2 hC (fun _ _ h => h) (((z_ke.refl (rs := zwA)).trans X1.2 (z_sb (by decide))).trans u2 (z_sb (by decide))) (hp2.trans hp1) (Or.inl (l2.trans l1)))
  refine z_xP zt5 14 33 [some (.ref 4), some (.int x), none] [.ref 4, .ref 4] rfl rfl ?_
  have XB : z_X T [] M1 M1 := .refl X1.1
  refine z_xgX (b := 5) zt5 15 rfl zo5 zzf0_10 XB k4 (by decide) (by decide) rfl ?_
  refine z_xcV (vs := [.ref 5]) (r := [.ref 4]) (L2 := [some (.ref 5), none, none, none, none, none, none]) zt5 16 rfl zo5 zzcV0_66 (Or.inl rfl) rfl XB k5 rfl rfl rfl (Nat.le_of_ble_eq_true rfl) zzm22 (Nat.le_of_ble_eq_true rfl) rfl ?_
  refine zT22a (d := 2013) X1.1 hw0 (by omega) (by omega) (fun N q t m T3 M3 hW3 kN p3 ke l3 s3 => ?_)
  show z_ev 2046 5 39 [some (.ref 4), some (.int x), none] [.ref N, .ref 4] M3 _
  have hC := z_kew hB hW3 ke (by decide)
  have hA3 : z_F M3 4 3 = some (.int A) := ke.f k4 (by decide) (X1.2.f k4 (by decide) hA0)
  have hp3 : z_pot M3 = z_pot M1 := z_potF (ke.1 4 0 0 0 0 0 12 k4 (by decide))
  have X3 : z_X T3 [] M3 M3 := .refl hW3
  refine z_xcV (vs := [.ref 4, .ref N]) (r := []) (L2 := [some (.ref 4), some (.ref N)]) zt5 17 rfl zo5 zzcV0_70 (Or.inl rfl) rfl X3 (p3 _ _ k4) rfl rfl rfl (Nat.le_of_ble_eq_true rfl) zzm29 (Nat.le_of_ble_eq_true rfl) rfl ?_
  refine z_ev.mono (z_ev.grow (K := fun v M4 => ∃ (y : Int32) (T4 : List zK), v = some (.int y) ∧ (z_GG T4 M4 ∧ z_GL M4 ∧ z_G4 M4 ∧ z_F M4 4 5 = z_F M4 19 21) ∧ (∀ (a : Nat) (κ : zK), T3[a]? = some κ → T4[a]? = some κ) ∧ z_ke T3 ([10, 11, 1003] ++ zw30) M3 M4 ∧ z_pot M4 = z_pot M3 ∧ (M4.length = M3.length ∨ (M4.length ≤ M3.length + 22 ∧ z_sz M4 ≤ z_sz M3 + 448))) (zA29 (d := 2042) hC kN hA3 a0 (by omega) (fun y T4 M4 a p k b c => ⟨y, T4, rfl, a, p, k, b, c⟩))) (fun v M4 ⟨⟨y, T4, hv, hD, p4, ke4, hp4, hs4⟩, hg, _⟩ => ?_)
  subst hv
  show z_ev 2046 5 42 [some (.ref 4), some (.int x), none] [.int y] M4 _
  refine zT5t hD (fun M5 hE u5 hp5 l5 s5 => kk y T4 M5 hE (fun a κ h => p4 a κ (p3 a κ h)) (((((z_ke.refl (rs := zwA)).trans X1.2 (z_sb (by decide))).trans ke (z_sb (by decide))).trans (ke4.sub p3) (z_sb (by decide))).trans ((u5.sub p4).sub p3) (z_sb (by decide))) (by rw [hp5, hp4, hp3, hp1]) (Or.inr ?_))
  rcases hs4 with h | ⟨h, h2⟩
  · have s4 : z_sz M4 = z_sz M3 := z_szg hg h
    exact ⟨by omega, by omega⟩
  · exact ⟨by omega, by omega⟩
